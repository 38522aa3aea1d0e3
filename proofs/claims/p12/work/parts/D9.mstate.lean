/-! the reference between two calls -/
def mE (o : Nat) (r : Nat → Nat) (z : Nat) : Prop := z = o ∨ ∃ q ∈ mo_arr, z = r q.1
def mW : List Nat := [9, 18, 19, 20, 21, 22, 23, 24, 25, 26, 27, 28, 29, 31, 32, 33, 34, 35, 36, 37, 38, 39, 40, 41, 42, 43, 44, 45, 48, 49, 50, 51, 52]
def MS (D : va_G) (g : ClassId → FieldType → Prop) (o : Nat) (r : Nat → Nat) (th : Int32) (tl ml rl kc : Nat) (tp ms rs : Nat → Int32) (ks : Nat → Nat → Int32) (H : Heap) : Prop := va_P D classes [(o, .inr (0, mo_fs r (mi th (nI tl) (nI ml) (nI rl) (nI kc))))] H ∧ (∀ q ∈ mo_arr, sx_A g q.2.1 H (r q.1) q.2.2) ∧ Mx (mm g H) r ∧ (∀ j, j < tl → (mm g H).2 (r 1) j = tp j) ∧ (∀ j, j < ml → (mm g H).2 (r 2) j = ms j) ∧ (∀ k, k < kc → ∀ j, j < 32 → (mm g H).2 (r 4) (32 * k + j) = ks k j) ∧ ∀ j, j < rl → (mm g H).2 (r 3) j = rs j
section MST
variable {l : Launch} {D : va_G} {g : ClassId → FieldType → Prop} {o : Nat} {r : Nat → Nat} {th : Int32} {tl ml rl kc : Nat} {tp ms rs : Nat → Int32} {ks : Nat → Nat → Int32} {H H1 : Heap}

theorem mo_ix : ∀ q ∈ mo_arr, q.1 ∈ mIx := by decide +kernel
theorem mi_ix : ∀ k ∈ mIx, ∃ q ∈ mo_arr, q.1 = k := by decide +kernel
theorem mv_W : ∀ k, k < 53 → mvar k = true → k ∈ mW := by decide +kernel
theorem mv_53 {k : Nat} (h : mvar k = true) : k < 53 := by
  unfold mvar at h
  simp only [Bool.or_eq_true, Bool.and_eq_true, Nat.ble_eq, beq_iff_eq] at h
  omega
theorem hK_W (r : Nat → Nat) : ∀ k, mvar k = true → r k ∈ mW.map r := fun k hk => List.mem_map.mpr ⟨k, mv_W k (mv_53 hk) hk, rfl⟩
theorem Mx.mv {X Y : vM} (h : Mx X r) (c : ∀ k ∈ mxL, Y.1 (r k) = X.1 (r k)) : Mx Y r := by
  obtain ⟨h1, h2, h3, h4, h5, h6, h7, h8, h9⟩ := h
  exact ⟨⟨h1.1.mv (c 10 (by decide)), h1.2.mv (c 11 (by decide))⟩, ⟨h2.1.mv (c 12 (by decide)), h2.2.mv (c 13 (by decide))⟩, M16.mv h3 (c 14 (by decide)), M16.mv h4 (c 30 (by decide)), M16.mv h5 (c 15 (by decide)), M16.mv h6 (c 16 (by decide)), M16.mv h7 (c 17 (by decide)), fun i hi => by rw [c 46 (by decide)]; exact h8 i hi, fun i hi => by rw [c 47 (by decide)]; exact h9 i hi⟩
/-- as it was, but what it has thrown -/
theorem MS.thr {t : Int32} (h : MS D g o r th tl ml rl kc tp ms rs ks H) (hJ : sx_J g (mE o r) H H1) (hV : mm g H1 = mm g H) (hP : va_P D classes [(o, .inr (0, mo_fs r (mi t (nI tl) (nI ml) (nI rl) (nI kc))))] H1) : MS D g o r t tl ml rl kc tp ms rs ks H1 := ⟨hP, fun q hq => hJ.2.2.1 _ _ _ (h.2.1 q hq), by rw [hV]; exact h.2.2⟩
/-- what others write leaves it as it is -/
theorem MS.kept {E : Nat → Prop} (h : MS D g o r th tl ml rl kc tp ms rs ks H) (hJ : sx_J g E H H1) (hE : ∀ z, E z → z < H.size → ¬ mE o r z) : MS D g o r th tl ml rl kc tp ms rs ks H1 := by
  obtain ⟨hP, hA, hM, v1, v2, v3, v4⟩ := h
  have ho : ¬ E o := fun z => hE o z (hP 0 _ rfl).lt (Or.inl rfl)
  have e : ∀ k ∈ mIx, (mm g H1).1 (r k) = (mm g H).1 (r k) ∧ (mm g H1).2 (r k) = (mm g H).2 (r k) := fun k hk => by
    obtain ⟨q, hq, rfl⟩ := mi_ix k hk
    have lt : r q.1 < H.size := (hA q hq).lt
    exact hJ.on (r q.1) (fun z => z.elim (fun z => hE _ z lt (Or.inr ⟨q, hq, rfl⟩)) (fun z => by omega))
  refine ⟨hJ.ob ho hP, fun q hq => hJ.2.2.1 _ _ _ (hA q hq), ?_, fun j hj => by rw [(e 1 (by decide)).2]; exact v1 j hj, fun j hj => by rw [(e 2 (by decide)).2]; exact v2 j hj, fun k hk j hj => by rw [(e 4 (by decide)).2]; exact v3 k hk j hj, fun j hj => by rw [(e 3 (by decide)).2]; exact v4 j hj⟩
  have e1 : ∀ k ∈ mIx, (mm g H1).1 (r k) = (mm g H).1 (r k) := fun k hk => (e k hk).1
  exact hM.mv (fun k hk => e1 k ((by decide +kernel : ∀ k ∈ mxL, k ∈ mIx) k hk))
theorem MS.upd {t : Int32} {tl' ml' rl' kc' : Nat} {tp' ms' rs' : Nat → Int32} {ks' : Nat → Nat → Int32} (h : MS D g o r th tl ml rl kc tp ms rs ks H) (hI : MInj r) (hJ : sx_J g (mE o r) H H1) {L : List Nat} (hN : onN r L (mm g H) (mm g H1)) (hx : mxok L = true) (hP : va_P D classes [(o, .inr (0, mo_fs r (mi t (nI tl') (nI ml') (nI rl') (nI kc'))))] H1) (w1 : ∀ j, j < tl' → (mm g H1).2 (r 1) j = tp' j) (w2 : ∀ j, j < ml' → (mm g H1).2 (r 2) j = ms' j) (w3 : ∀ k, k < kc' → ∀ j, j < 32 → (mm g H1).2 (r 4) (32 * k + j) = ks' k j) (w4 : ∀ j, j < rl' → (mm g H1).2 (r 3) j = rs' j) : MS D g o r t tl' ml' rl' kc' tp' ms' rs' ks' H1 := ⟨hP, fun q hq => hJ.2.2.1 _ _ _ (h.2.1 q hq), h.2.2.1.kp hI hN hx, w1, w2, w3, w4⟩
theorem mm_W : ∀ q ∈ mo_arr, mE o r (r q.1) := fun q hq => Or.inr ⟨q, hq, rfl⟩
theorem none_t {X : vM} {v : Int32} {a b c d : Nat} (hw : ¬ v < 0 → ¬ v < nI d) : (LF_M_none X r v a b c d).2 = true := by
  unfold LF_M_none
  by_cases h : v < 0
  · simp [h]
  · simp [h, hw h]
theorem n_feed_b (h : MS D g o r th tl ml rl kc tp ms rs ks H) (ok : Aok tl ml rl kc tp ms rs ks) (hI : MInj r) {u0 u1 u2 u3 u4 : Int32} (hw : 65536 < tl + 20) : DStep l D g y_M_feed b_M_feed 8 (some .int) [.ref o, .int u0, .int u1, .int u2, .int u3, .int u4] H (nI 0) (mE o r) (fun H1 => MS D g o r (nI 1) tl ml rl kc tp ms rs ks H1) := by
  have hm := v_M_feed_b (l := l) (E := mE o r) (X := mm g H) (v0 := u0) (v1 := u1) (v2 := u2) (v3 := u3) (v4 := u4) h.1 (Or.inl rfl) h.2.1 mm_W ok.1 ok.2.1 ok.2.2.1 ok.2.2.2.1 (by omega) rfl
  refine ⟨mE o r, fun H1 => mm g H1 = mm g H ∧ va_P D classes [(o, .inr (0, mo_fs r (mi (nI 1) (nI tl) (nI ml) (nI rl) (nI kc))))] H1, _, _, ?_, ?_, hm, fun z h => h, fun H1 hP hJ => ?_⟩
  · exact Nat.le_of_ble_eq_true rfl
  · exact Nat.le_of_ble_eq_true rfl
  obtain ⟨hV, hP⟩ := hP
  exact h.thr hJ hV hP
theorem lp_g {a b o : Nat} (hab : b ≠ a) (G : Nat → (Nat → Int32) → Int32) (body : Nat → vM → vM) (hb : ∀ i Y, body i Y = stI Y a (o + i) (G i (Y.2 b))) : ∀ n i (X : vM), lpU 1 body n i X = flI X a (o + i) n (fun k => G (k - o) (X.2 b))
  | 0, i, X => Prod.ext rfl (funext fun c => funext fun k => (if_neg (by omega)).symm)
  | n + 1, i, X => by
    have e : (body i X).2 b = X.2 b := by
      rw [hb]
      exact funext fun k => if_neg (fun z => hab z.1)
    show lpU 1 body n (i + 1) (body i X) = _
    rw [lp_g hab G body hb n (i + 1) (body i X), e, hb]
    refine Prod.ext rfl (funext fun c => funext fun k => ?_)
    show (if c = a ∧ o + (i + 1) ≤ k ∧ k < o + (i + 1) + n then G (k - o) (X.2 b) else (if c = a ∧ k = o + i then G i (X.2 b) else X.2 c k)) = (if c = a ∧ o + i ≤ k ∧ k < o + i + (n + 1) then G (k - o) (X.2 b) else X.2 c k)
    by_cases h1 : c = a ∧ o + (i + 1) ≤ k ∧ k < o + (i + 1) + n
    · rw [if_pos h1, if_pos ⟨h1.1, by omega, by omega⟩]
    · rw [if_neg h1]
      by_cases h2 : c = a ∧ k = o + i
      · rw [if_pos h2, if_pos ⟨h2.1, by omega, by omega⟩, show k - o = i by omega]
      · rw [if_neg h2, if_neg (fun z => by
          rcases Nat.eq_or_lt_of_le z.2.1 with q | q
          · exact h2 ⟨z.1, q.symm⟩
          · exact h1 ⟨z.1, by omega, by omega⟩)]
theorem fl_lo {X : vM} {a i n k : Nat} {f : Nat → Int32} (h : k < i) : (flI X a i n f).2 a k = X.2 a k := if_neg (by omega)
theorem fl_ne {X : vM} {a b i n : Nat} {f : Nat → Int32} (h : b ≠ a) : (flI X a i n f).2 b = X.2 b := funext fun k => if_neg (fun z => h z.1)
theorem n_end_b (h : MS D g o r th tl ml rl kc tp ms rs ks H) (ok : Aok tl ml rl kc tp ms rs ks) (hI : MInj r) {u0 : Int32} (hw : u0 < 0) : DStep l D g y_M_end b_M_end 2 (some .int) [.ref o, .int u0] H (nI 0) (mE o r) (fun H1 => MS D g o r (nI 1) tl ml rl kc tp ms rs ks H1) := by
  have hm := v_M_end_b (l := l) (E := mE o r) (X := mm g H) (v0 := u0) h.1 (Or.inl rfl) h.2.1 mm_W ok.1 ok.2.1 ok.2.2.1 ok.2.2.2.1 hw rfl
  refine ⟨mE o r, fun H1 => mm g H1 = mm g H ∧ va_P D classes [(o, .inr (0, mo_fs r (mi (nI 1) (nI tl) (nI ml) (nI rl) (nI kc))))] H1, _, _, ?_, ?_, hm, fun z h => h, fun H1 hP hJ => ?_⟩
  · exact Nat.le_of_ble_eq_true rfl
  · exact Nat.le_of_ble_eq_true rfl
  obtain ⟨hV, hP⟩ := hP
  exact h.thr hJ hV hP
theorem n_end_c (h : MS D g o r th tl ml rl kc tp ms rs ks H) (ok : Aok tl ml rl kc tp ms rs ks) (hI : MInj r) {u0 : Int32} (hw : ¬ u0 < 0) (hw2 : ¬ u0 ≤ nI tl) : DStep l D g y_M_end b_M_end 2 (some .int) [.ref o, .int u0] H (nI 0) (mE o r) (fun H1 => MS D g o r (nI 1) tl ml rl kc tp ms rs ks H1) := by
  have hm := v_M_end_c (l := l) (E := mE o r) (X := mm g H) (v0 := u0) h.1 (Or.inl rfl) h.2.1 mm_W ok.1 ok.2.1 ok.2.2.1 ok.2.2.2.1 hw hw2 rfl
  refine ⟨mE o r, fun H1 => mm g H1 = mm g H ∧ va_P D classes [(o, .inr (0, mo_fs r (mi (nI 1) (nI tl) (nI ml) (nI rl) (nI kc))))] H1, _, _, ?_, ?_, hm, fun z h => h, fun H1 hP hJ => ?_⟩
  · exact Nat.le_of_ble_eq_true rfl
  · exact Nat.le_of_ble_eq_true rfl
  obtain ⟨hV, hP⟩ := hP
  exact h.thr hJ hV hP
theorem n_key_b (h : MS D g o r th tl ml rl kc tp ms rs ks H) (ok : Aok tl ml rl kc tp ms rs ks) (hI : MInj r) (hw : tl ≠ 32) : DStep l D g y_M_key b_M_key 2 (some .int) [.ref o] H (nI 0) (mE o r) (fun H1 => MS D g o r (nI 1) tl ml rl kc tp ms rs ks H1) := by
  have hm := v_M_key_b (l := l) (E := mE o r) (X := mm g H) h.1 (Or.inl rfl) h.2.1 mm_W ok.1 ok.2.1 ok.2.2.1 ok.2.2.2.1 hw rfl
  refine ⟨mE o r, fun H1 => mm g H1 = mm g H ∧ va_P D classes [(o, .inr (0, mo_fs r (mi (nI 1) (nI tl) (nI ml) (nI rl) (nI kc))))] H1, _, _, ?_, ?_, hm, fun z h => h, fun H1 hP hJ => ?_⟩
  · exact Nat.le_of_ble_eq_true rfl
  · exact Nat.le_of_ble_eq_true rfl
  obtain ⟨hV, hP⟩ := hP
  exact h.thr hJ hV hP
theorem n_key_c (h : MS D g o r th tl ml rl kc tp ms rs ks H) (ok : Aok tl ml rl kc tp ms rs ks) (hI : MInj r) (ht : tl = 32) (hc : kc = 100) : DStep l D g y_M_key b_M_key 2 (some .int) [.ref o] H (nI 0) (mE o r) (fun H1 => MS D g o r (nI 2) tl ml rl kc tp ms rs ks H1) := by
  subst ht
  subst hc
  have hm := v_M_key_c (l := l) (E := mE o r) (X := mm g H) h.1 (Or.inl rfl) h.2.1 mm_W ok.2.1 ok.2.2.1 rfl
  refine ⟨mE o r, fun H1 => mm g H1 = mm g H ∧ va_P D classes [(o, .inr (0, mo_fs r (mi (nI 2) (nI 32) (nI ml) (nI rl) (nI 100))))] H1, _, _, ?_, ?_, hm, fun z h => h, fun H1 hP hJ => ?_⟩
  · exact Nat.le_of_ble_eq_true rfl
  · exact Nat.le_of_ble_eq_true rfl
  obtain ⟨hV, hP⟩ := hP
  exact h.thr hJ hV hP
theorem n_open_c (h : MS D g o r th tl ml rl kc tp ms rs ks H) (ok : Aok tl ml rl kc tp ms rs ks) (hI : MInj r) {u0 u1 : Int32} (hw : ¬ u0 < 0 → ¬ u0 < nI kc) : DStepV l D g y_M_open b_M_open 4 [.ref o, .int u0, .int u1] H (mE o r) (fun H1 => MS D g o r (nI 1) tl ml rl kc tp ms rs ks H1) := by
  have hm := v_M_open_c (l := l) (E := mE o r) (X := mm g H) (v0 := u0) (v1 := u1) h.1 (Or.inl rfl) h.2.1 mm_W ok.1 ok.2.1 ok.2.2.1 ok.2.2.2.1 (none_t hw) rfl
  refine ⟨mE o r, fun H1 => mm g H1 = mm g H ∧ va_P D classes [(o, .inr (0, mo_fs r (mi (nI 1) (nI tl) (nI ml) (nI rl) (nI kc))))] H1, _, _, ?_, ?_, hm, fun z h => h, fun H1 hP hJ => ?_⟩
  · exact Nat.le_of_ble_eq_true rfl
  · exact Nat.le_of_ble_eq_true rfl
  obtain ⟨hV, hP⟩ := hP
  exact h.thr hJ hV hP
theorem n_open_d (h : MS D g o r th tl ml rl kc tp ms rs ks H) (ok : Aok tl ml rl kc tp ms rs ks) (hI : MInj r) {k : Nat} {u1 : Int32} (hk : k < kc) (hw : u1 < 0) : DStepV l D g y_M_open b_M_open 4 [.ref o, .int (nI k), .int u1] H (mE o r) (fun H1 => MS D g o r (nI 2) tl ml rl kc tp ms rs ks H1) := by
  have hm := v_M_open_d (l := l) (E := mE o r) (X := mm g H) (v0 := k) (v1 := u1) h.1 (Or.inl rfl) h.2.1 mm_W ok.1 ok.2.1 ok.2.2.1 ok.2.2.2.1 hk hw rfl
  refine ⟨mE o r, fun H1 => mm g H1 = mm g H ∧ va_P D classes [(o, .inr (0, mo_fs r (mi (nI 2) (nI tl) (nI ml) (nI rl) (nI kc))))] H1, _, _, ?_, ?_, hm, fun z h => h, fun H1 hP hJ => ?_⟩
  · exact Nat.le_of_ble_eq_true rfl
  · exact Nat.le_of_ble_eq_true rfl
  obtain ⟨hV, hP⟩ := hP
  exact h.thr hJ hV hP
theorem n_open_e (h : MS D g o r th tl ml rl kc tp ms rs ks H) (ok : Aok tl ml rl kc tp ms rs ks) (hI : MInj r) {k : Nat} {u1 : Int32} (hk : k < kc) (hw : ¬ u1 < 0) (hw2 : ¬ u1 ≤ nI 1) : DStepV l D g y_M_open b_M_open 4 [.ref o, .int (nI k), .int u1] H (mE o r) (fun H1 => MS D g o r (nI 2) tl ml rl kc tp ms rs ks H1) := by
  have hm := v_M_open_e (l := l) (E := mE o r) (X := mm g H) (v0 := k) (v1 := u1) h.1 (Or.inl rfl) h.2.1 mm_W ok.1 ok.2.1 ok.2.2.1 ok.2.2.2.1 hk hw hw2 rfl
  refine ⟨mE o r, fun H1 => mm g H1 = mm g H ∧ va_P D classes [(o, .inr (0, mo_fs r (mi (nI 2) (nI tl) (nI ml) (nI rl) (nI kc))))] H1, _, _, ?_, ?_, hm, fun z h => h, fun H1 hP hJ => ?_⟩
  · exact Nat.le_of_ble_eq_true rfl
  · exact Nat.le_of_ble_eq_true rfl
  obtain ⟨hV, hP⟩ := hP
  exact h.thr hJ hV hP
theorem n_agree_b (h : MS D g o r th tl ml rl kc tp ms rs ks H) (ok : Aok tl ml rl kc tp ms rs ks) (hI : MInj r) {u0 : Int32} (hw : ¬ u0 < 0 → ¬ u0 < nI kc) : DStep l D g y_M_agree b_M_agree 3 (some .boolean) [.ref o, .int u0] H (nI 0) (mE o r) (fun H1 => MS D g o r (nI 1) tl ml rl kc tp ms rs ks H1) := by
  have hm := v_M_agree_b (l := l) (E := mE o r) (X := mm g H) (v0 := u0) h.1 (Or.inl rfl) h.2.1 mm_W ok.1 ok.2.1 ok.2.2.1 ok.2.2.2.1 (none_t hw) rfl
  refine ⟨mE o r, fun H1 => mm g H1 = mm g H ∧ va_P D classes [(o, .inr (0, mo_fs r (mi (nI 1) (nI tl) (nI ml) (nI rl) (nI kc))))] H1, _, _, ?_, ?_, hm, fun z h => h, fun H1 hP hJ => ?_⟩
  · exact Nat.le_of_ble_eq_true rfl
  · exact Nat.le_of_ble_eq_true rfl
  obtain ⟨hV, hP⟩ := hP
  exact h.thr hJ hV hP
theorem n_agree_c (h : MS D g o r th tl ml rl kc tp ms rs ks H) (ok : Aok tl ml rl kc tp ms rs ks) (hI : MInj r) {k : Nat} (hk : k < kc) (hw : tl ≠ 32) : DStep l D g y_M_agree b_M_agree 3 (some .boolean) [.ref o, .int (nI k)] H (nI 0) (mE o r) (fun H1 => MS D g o r (nI 2) tl ml rl kc tp ms rs ks H1) := by
  have hm := v_M_agree_c (l := l) (E := mE o r) (X := mm g H) (v0 := k) h.1 (Or.inl rfl) h.2.1 mm_W ok.1 ok.2.1 ok.2.2.1 ok.2.2.2.1 hk hw rfl
  refine ⟨mE o r, fun H1 => mm g H1 = mm g H ∧ va_P D classes [(o, .inr (0, mo_fs r (mi (nI 2) (nI tl) (nI ml) (nI rl) (nI kc))))] H1, _, _, ?_, ?_, hm, fun z h => h, fun H1 hP hJ => ?_⟩
  · exact Nat.le_of_ble_eq_true rfl
  · exact Nat.le_of_ble_eq_true rfl
  obtain ⟨hV, hP⟩ := hP
  exact h.thr hJ hV hP
theorem n_sign_b (h : MS D g o r th tl ml rl kc tp ms rs ks H) (ok : Aok tl ml rl kc tp ms rs ks) (hI : MInj r) {u0 : Int32} (hw : ¬ u0 < 0 → ¬ u0 < nI kc) : DStepV l D g y_M_sign b_M_sign 3 [.ref o, .int u0] H (mE o r) (fun H1 => MS D g o r (nI 1) tl ml rl kc tp ms rs ks H1) := by
  have hm := v_M_sign_b (l := l) (E := mE o r) (X := mm g H) (v0 := u0) h.1 (Or.inl rfl) h.2.1 mm_W ok.1 ok.2.1 ok.2.2.1 ok.2.2.2.1 (none_t hw) rfl
  refine ⟨mE o r, fun H1 => mm g H1 = mm g H ∧ va_P D classes [(o, .inr (0, mo_fs r (mi (nI 1) (nI tl) (nI ml) (nI rl) (nI kc))))] H1, _, _, ?_, ?_, hm, fun z h => h, fun H1 hP hJ => ?_⟩
  · exact Nat.le_of_ble_eq_true rfl
  · exact Nat.le_of_ble_eq_true rfl
  obtain ⟨hV, hP⟩ := hP
  exact h.thr hJ hV hP
theorem n_verify_b (h : MS D g o r th tl ml rl kc tp ms rs ks H) (ok : Aok tl ml rl kc tp ms rs ks) (hI : MInj r) (hw : tl ≠ 96) : DStep l D g y_M_verify b_M_verify 2 (some .int) [.ref o] H (nI 0) (mE o r) (fun H1 => MS D g o r (nI 1) tl ml rl kc tp ms rs ks H1) := by
  have hm := v_M_verify_b (l := l) (E := mE o r) (X := mm g H) h.1 (Or.inl rfl) h.2.1 mm_W ok.1 ok.2.1 ok.2.2.1 ok.2.2.2.1 hw rfl
  refine ⟨mE o r, fun H1 => mm g H1 = mm g H ∧ va_P D classes [(o, .inr (0, mo_fs r (mi (nI 1) (nI tl) (nI ml) (nI rl) (nI kc))))] H1, _, _, ?_, ?_, hm, fun z h => h, fun H1 hP hJ => ?_⟩
  · exact Nat.le_of_ble_eq_true rfl
  · exact Nat.le_of_ble_eq_true rfl
  obtain ⟨hV, hP⟩ := hP
  exact h.thr hJ hV hP
theorem n_point_b (h : MS D g o r th tl ml rl kc tp ms rs ks H) (ok : Aok tl ml rl kc tp ms rs ks) (hI : MInj r) (hw : tl ≠ 32) : DStep l D g y_M_point b_M_point 2 (some .boolean) [.ref o] H (nI 0) (mE o r) (fun H1 => MS D g o r (nI 1) tl ml rl kc tp ms rs ks H1) := by
  have hm := v_M_point_b (l := l) (E := mE o r) (X := mm g H) h.1 (Or.inl rfl) h.2.1 mm_W ok.1 ok.2.1 ok.2.2.1 ok.2.2.2.1 hw rfl
  refine ⟨mE o r, fun H1 => mm g H1 = mm g H ∧ va_P D classes [(o, .inr (0, mo_fs r (mi (nI 1) (nI tl) (nI ml) (nI rl) (nI kc))))] H1, _, _, ?_, ?_, hm, fun z h => h, fun H1 hP hJ => ?_⟩
  · exact Nat.le_of_ble_eq_true rfl
  · exact Nat.le_of_ble_eq_true rfl
  obtain ⟨hV, hP⟩ := hP
  exact h.thr hJ hV hP
theorem n_back_b (h : MS D g o r th tl ml rl kc tp ms rs ks H) (ok : Aok tl ml rl kc tp ms rs ks) (hI : MInj r) {u0 u1 : Int32} (hw : u0 < (-1 : Int32)) : DStep l D g y_M_back b_M_back 4 (some .int) [.ref o, .int u0, .int u1] H (nI 0) (mE o r) (fun H1 => MS D g o r (nI 1) tl ml rl kc tp ms rs ks H1) := by
  have hm := v_M_back_b (l := l) (E := mE o r) (X := mm g H) (v0 := u0) (v1 := u1) h.1 (Or.inl rfl) h.2.1 mm_W ok.1 ok.2.1 ok.2.2.1 ok.2.2.2.1 hw rfl
  refine ⟨mE o r, fun H1 => mm g H1 = mm g H ∧ va_P D classes [(o, .inr (0, mo_fs r (mi (nI 1) (nI tl) (nI ml) (nI rl) (nI kc))))] H1, _, _, ?_, ?_, hm, fun z h => h, fun H1 hP hJ => ?_⟩
  · exact Nat.le_of_ble_eq_true rfl
  · exact Nat.le_of_ble_eq_true rfl
  obtain ⟨hV, hP⟩ := hP
  exact h.thr hJ hV hP
theorem n_back_c (h : MS D g o r th tl ml rl kc tp ms rs ks H) (ok : Aok tl ml rl kc tp ms rs ks) (hI : MInj r) {u0 u1 : Int32} (hw : ¬ u0 < (-1 : Int32)) (hw2 : ¬ u0 < nI rl) : DStep l D g y_M_back b_M_back 4 (some .int) [.ref o, .int u0, .int u1] H (nI 0) (mE o r) (fun H1 => MS D g o r (nI 1) tl ml rl kc tp ms rs ks H1) := by
  have hm := v_M_back_c (l := l) (E := mE o r) (X := mm g H) (v0 := u0) (v1 := u1) h.1 (Or.inl rfl) h.2.1 mm_W ok.1 ok.2.1 ok.2.2.1 ok.2.2.2.1 hw hw2 rfl
  refine ⟨mE o r, fun H1 => mm g H1 = mm g H ∧ va_P D classes [(o, .inr (0, mo_fs r (mi (nI 1) (nI tl) (nI ml) (nI rl) (nI kc))))] H1, _, _, ?_, ?_, hm, fun z h => h, fun H1 hP hJ => ?_⟩
  · exact Nat.le_of_ble_eq_true rfl
  · exact Nat.le_of_ble_eq_true rfl
  obtain ⟨hV, hP⟩ := hP
  exact h.thr hJ hV hP
theorem n_back_d (h : MS D g o r th tl ml rl kc tp ms rs ks H) (ok : Aok tl ml rl kc tp ms rs ks) (hI : MInj r) {u0 u1 : Int32} (hw : ¬ u0 < (-1 : Int32)) (hw2 : u0 < nI rl) (hw3 : 65536 < tl + rl) : DStep l D g y_M_back b_M_back 4 (some .int) [.ref o, .int u0, .int u1] H (nI 0) (mE o r) (fun H1 => MS D g o r (nI 2) tl ml rl kc tp ms rs ks H1) := by
  have hm := v_M_back_d (l := l) (E := mE o r) (X := mm g H) (v0 := u0) (v1 := u1) h.1 (Or.inl rfl) h.2.1 mm_W ok.1 ok.2.1 ok.2.2.1 ok.2.2.2.1 hw hw2 hw3 rfl
  refine ⟨mE o r, fun H1 => mm g H1 = mm g H ∧ va_P D classes [(o, .inr (0, mo_fs r (mi (nI 2) (nI tl) (nI ml) (nI rl) (nI kc))))] H1, _, _, ?_, ?_, hm, fun z h => h, fun H1 hP hJ => ?_⟩
  · exact Nat.le_of_ble_eq_true rfl
  · exact Nat.le_of_ble_eq_true rfl
  obtain ⟨hV, hP⟩ := hP
  exact h.thr hJ hV hP
theorem n_result_a (h : MS D g o r th tl ml rl kc tp ms rs ks H) (ok : Aok tl ml rl kc tp ms rs ks) (hI : MInj r) {n : Nat} (hw : n < rl) : DStep l D g y_M_result b_M_result 2 (some .int) [.ref o, .int (nI n)] H ((rs n) &&& (nI 255)) (mE o r) (fun H1 => MS D g o r (nI 0) tl ml rl kc tp ms rs ks H1) := by
  rw [← h.2.2.2.2.2.2 n hw]
  have hm := v_M_result_a (l := l) (E := mE o r) (X := mm g H) (v0 := n) h.1 (Or.inl rfl) h.2.1 mm_W ok.1 ok.2.1 ok.2.2.1 ok.2.2.2.1 hw rfl
  refine ⟨mE o r, fun H1 => mm g H1 = mm g H ∧ va_P D classes [(o, .inr (0, mo_fs r (mi (nI 0) (nI tl) (nI ml) (nI rl) (nI kc))))] H1, _, _, ?_, ?_, hm, fun z h => h, fun H1 hP hJ => ?_⟩
  · exact Nat.le_of_ble_eq_true rfl
  · exact Nat.le_of_ble_eq_true rfl
  obtain ⟨hV, hP⟩ := hP
  exact h.thr hJ hV hP
theorem n_result_b (h : MS D g o r th tl ml rl kc tp ms rs ks H) (ok : Aok tl ml rl kc tp ms rs ks) (hI : MInj r) {u0 : Int32} (hw : u0 < 0) : DStep l D g y_M_result b_M_result 2 (some .int) [.ref o, .int u0] H (nI 0) (mE o r) (fun H1 => MS D g o r (nI 1) tl ml rl kc tp ms rs ks H1) := by
  have hm := v_M_result_b (l := l) (E := mE o r) (X := mm g H) (v0 := u0) h.1 (Or.inl rfl) h.2.1 mm_W ok.1 ok.2.1 ok.2.2.1 ok.2.2.2.1 hw rfl
  refine ⟨mE o r, fun H1 => mm g H1 = mm g H ∧ va_P D classes [(o, .inr (0, mo_fs r (mi (nI 1) (nI tl) (nI ml) (nI rl) (nI kc))))] H1, _, _, ?_, ?_, hm, fun z h => h, fun H1 hP hJ => ?_⟩
  · exact Nat.le_of_ble_eq_true rfl
  · exact Nat.le_of_ble_eq_true rfl
  obtain ⟨hV, hP⟩ := hP
  exact h.thr hJ hV hP
theorem n_result_c (h : MS D g o r th tl ml rl kc tp ms rs ks H) (ok : Aok tl ml rl kc tp ms rs ks) (hI : MInj r) {u0 : Int32} (hw : ¬ u0 < 0) (hw2 : ¬ u0 < nI rl) : DStep l D g y_M_result b_M_result 2 (some .int) [.ref o, .int u0] H (nI 0) (mE o r) (fun H1 => MS D g o r (nI 1) tl ml rl kc tp ms rs ks H1) := by
  have hm := v_M_result_c (l := l) (E := mE o r) (X := mm g H) (v0 := u0) h.1 (Or.inl rfl) h.2.1 mm_W ok.1 ok.2.1 ok.2.2.1 ok.2.2.2.1 hw hw2 rfl
  refine ⟨mE o r, fun H1 => mm g H1 = mm g H ∧ va_P D classes [(o, .inr (0, mo_fs r (mi (nI 1) (nI tl) (nI ml) (nI rl) (nI kc))))] H1, _, _, ?_, ?_, hm, fun z h => h, fun H1 hP hJ => ?_⟩
  · exact Nat.le_of_ble_eq_true rfl
  · exact Nat.le_of_ble_eq_true rfl
  obtain ⟨hV, hP⟩ := hP
  exact h.thr hJ hV hP
theorem n_end_a (h : MS D g o r th tl ml rl kc tp ms rs ks H) (ok : Aok tl ml rl kc tp ms rs ks) (hI : MInj r) {n : Nat} (hw : n ≤ tl) : DStep l D g y_M_end b_M_end 2 (some .int) [.ref o, .int (nI n)] H (nI n) (mE o r) (fun H1 => MS D g o r (nI 0) n ml rl kc tp ms rs ks H1) := by
  have hm := v_M_end_a (l := l) (E := mE o r) (X := mm g H) (v0 := n) h.1 (Or.inl rfl) h.2.1 mm_W ok.1 ok.2.1 ok.2.2.1 ok.2.2.2.1 hw rfl
  refine ⟨mE o r, fun H1 => mm g H1 = mm g H ∧ va_P D classes [(o, .inr (0, mo_fs r (mi (nI 0) (nI n) (nI ml) (nI rl) (nI kc))))] H1, _, _, ?_, ?_, hm, fun z h => h, fun H1 hP hJ => ?_⟩
  · exact Nat.le_of_ble_eq_true rfl
  · exact Nat.le_of_ble_eq_true rfl
  obtain ⟨hV, hP⟩ := hP
  exact ⟨hP, fun q hq => hJ.2.2.1 _ _ _ (h.2.1 q hq), by rw [hV]; exact ⟨h.2.2.1, fun j hj => h.2.2.2.1 j (Nat.lt_of_lt_of_le hj hw), h.2.2.2.2⟩⟩
end MST
