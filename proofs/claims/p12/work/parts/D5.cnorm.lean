def iK (k : Nat) : List Nat := [0, 4, 5 * k + 8, 5 * k + 9, 5 * k + 10, 5 * k + 11, 5 * k + 12]
theorem iK_q (k j : Nat) (h : j < 4) : 5 * k + j + 1 + 8 ∈ iK k := by
  simp only [iK, List.mem_cons, List.not_mem_nil, or_false]
  omega
theorem iK_o (k : Nat) : 5 * k + 8 ∈ iK k := List.mem_cons_of_mem _ (List.mem_cons_of_mem _ List.mem_cons_self)
theorem iK_0 (k : Nat) : 0 ∈ iK k := List.mem_cons_self
theorem iK_4 (k : Nat) : 4 ∈ iK k := List.mem_cons_of_mem _ List.mem_cons_self
section KSR
variable {l : Launch} {D : va_G} {g : ClassId → FieldType → Prop} {kq : Nat → Nat → Nat} {ts : Nat → Nat} {x kA re ve ou a0 a1 a3 cap : Nat} {tl ml rl kc : Nat} {tp ms rs : Nat → Int32} {ks : Nat → Nat → Int32} {H H1 : Heap} {w0 : Int64}
theorem s_open_b (hS : KS D g kq ts x kA re ve a0 a1 a3 cap tl ml rl kc tp ms rs ks H) (hc : KC0 D kq ts a0 a1 a3) (ok : Aok tl ml rl kc tp ms rs ks) (hou : lo_ g H ou w0) (no : ¬ CZ a0 a1 a3 ou) (ao : a0 ≤ ou) {k : Nat} (hk : k < kc) : CStep l D g y_L_open b_L_open 4 hh_L_open [.ref x, .int (nI k), .int (nI 1)] H ou a0 a1 a3 0 cap (fun c H1 => KS D g kq ts x kA re ve a0 a1 a3 c tl ml 32 kc tp ms (byN (edP (ks k))) ks H1 ∧ ∃ w, lo_ g H1 ou w) := by
  obtain ⟨ta, ma, bt, nt, bm, nm, ko, q, rd, sg, za, hg⟩ := hS
  have hg0 := hg
  obtain ⟨hcap, hsz, hX, hT, hM, hK, hr, hv, hC, hO, hA, v⟩ := hg
  obtain ⟨v1, v2, v3, v4, v5, v6⟩ := id v
  obtain ⟨fk, hka, hkk⟩ := id hK
  have kb : ∀ j, j < 32 → isB ((mm g H).2 (q k 0) j) := fun j hj => by rw [v4 k hk j hj]; exact ok.2.2.2.2.2.2.2 k hk j hj
  have qx : ∀ j, j < 4 → OutX kq ts (q k j) := fun j hj => by
    have := hA.ox (i := 5 * k + j + 1 + 8) (by omega)
    rwa [kad_q k j hj] at this
  have qd : ∀ i j, i < 4 → j < 4 → i ≠ j → q k i ≠ q k j := fun i j hi hj e => by
    have := hA.ne (i := 5 * k + i + 1 + 8) (j := 5 * k + j + 1 + 8) (by omega) (by omega) (by omega)
    rwa [kad_q k i hi, kad_q k j hj] at this
  have qr : ∀ j, j < 4 → q k j ≠ re := fun j hj => by
    have := hA.ne (i := 5 * k + j + 1 + 8) (j := 4) (by omega) (by omega) (by omega)
    rwa [kad_q k j hj] at this
  have qO : ∀ j, j < 4 → fO (kad x kA re ve ta ma bt bm ko q) (iK k) (q k j) := fun j hj => ⟨5 * k + j + 1 + 8, iK_q k j hj, (kad_q k j hj).symm⟩
  have r1 := cv_ready (X := mm g H) (kq := kq) (ts := ts) (q := q k) (rd := rd k) (O := fO (kad x kA re ve ta ma bt bm ko q) (iK k)) hc.1 v1 qx qd kb (v6 k hk) (fun j _ hj => qO j hj)
  have hI : ∀ i ∈ ((iK k) : List Nat), i < 5 * kc + 8 := by
    intro i hi
    simp only [iK, List.mem_cons, List.not_mem_nil, or_false] at hi
    omega
  have hm := v_K_open_b (l := l) (E := hE True kq (kad x kA re ve ta ma bt bm ko q) (iK k)) (X := mm g H) hX hka (hA.ni (B := True) (I := iK k) hI (j := 3) (by omega) (by simp only [iK, List.mem_cons, List.not_mem_nil, or_false]; omega)) (hkk k hk).1 hk ok.2.2.2.1 (hkk k hk).2.1 (by have := hA.ne (i := 5 * k + 8) (j := 0) (by omega) (by omega) (by omega); rwa [kad_o] at this) (Or.inr (Or.inr ⟨0, iK_0 k, rfl⟩)) (Or.inr (Or.inr ⟨5 * k + 8, iK_o k, (kad_o k).symm⟩)) (Ne.symm (hA.2 0 (by omega)).1.2.2.1) (by have := (hA.2 (5 * k + 8) (by omega)).1.2.2.1; rwa [kad_o] at this) (fun j hj => Or.inr (Or.inr (qO j hj))) (hkk k hk).2.2 hr (Or.inr (Or.inr ⟨4, iK_4 k, rfl⟩)) hO (Or.inr (Or.inl ⟨trivial, rfl⟩)) (ks_ext hg0 hc hI) rfl
  refine ⟨_, _, _, _, 0, 0, cap, ?_, ?_, by omega, by omega, h_open hm hX, fun z h => Or.inl (ks_cz hg0 hc hI z h), fun H2 hP hJ2 => ?_⟩
  · exact Nat.le_of_ble_eq_true rfl
  · exact Nat.le_of_ble_eq_true rfl
  have hJ := hJ2
  obtain ⟨hV1, hX1, hO1, hQ1⟩ := hP
  have cv : onP (KV kq (fO (kad x kA re ve ta ma bt bm ko q) (iK k))) (mm g H) (mm g H2) := by
    rw [hV1]
    exact onP.ci (Or.inr ⟨4, iK_4 k, rfl⟩) r1.1
  have yq : ∀ j, j < 4 → (mm g H2).2 (q k j) = (LF_Si_makeReady (mm g H) kq ts (q k) (rd k)).2 (q k j) := fun j hj => by
    rw [hV1]
    exact funext fun i => if_neg (fun z => qr j hj z.1)
  have ky : KyR (mm g H2) (q k) := r1.2.1.mv yq
  have k0 : (mm g H2).2 (q k 0) = (mm g H).2 (q k 0) := (yq 0 (by decide)).trans r1.2.2
  have cr : ∀ j, j < 32 → (mm g H2).2 re j = byN (edP (ks k)) j := fun j hj => by
    rw [hV1, cp_at _ _ _ _ _ hj, Nat.zero_add, r1.2.1.2.2.2 j hj, r1.2.2, edP_ext (v4 k hk)]
  have c4o : ∀ n, n < kc → n ≠ k → ¬ hE True kq (kad x kA re ve ta ma bt bm ko q) (iK k) (ko n) := fun n hn e => by
    have := hA.ni (B := True) (I := iK k) hI (j := 5 * n + 8) (by omega) (by simp only [iK, List.mem_cons, List.not_mem_nil, or_false]; omega)
    rwa [kad_o] at this
  have cq : ∀ n, n < kc → n ≠ k → ∀ j, j < 4 → (mm g H2).2 (q n j) = (mm g H).2 (q n j) := fun n hn e j hj => by
    have := (cv ((kad x kA re ve ta ma bt bm ko q) (5 * n + j + 1 + 8)) (KV.o (hA.2 _ (by omega)).1.2.1 (hA.nf hI (by omega) (by simp only [iK, List.mem_cons, List.not_mem_nil, or_false]; omega)))).2
    rwa [kad_q n j hj] at this
  obtain ⟨c1, c2, c3, c4⟩ := ks_hv hg0 hc hI hJ cv
  exact ⟨⟨ta, ma, bt, nt, bm, nm, ko, q, (rdU rd k), sg, za, hcap, Nat.le_trans hsz hJ.1, hX1, hT.j hJ (c4 1 (by omega) (by simp only [iK, List.mem_cons, List.not_mem_nil, or_false]; omega)), hM.j hJ (c4 2 (by omega) (by simp only [iK, List.mem_cons, List.not_mem_nil, or_false]; omega)), hK.j1 hJ (c4 3 (by omega) (by simp only [iK, List.mem_cons, List.not_mem_nil, or_false]; omega)) c4o hQ1, hJ.2.2.1 _ _ _ hr, hJ.2.2.1 _ _ _ hv, c1, hO1, hA.mono hJ.1, c2, fun j hj => by rw [show (mm g H2).2 bt = (mm g H).2 bt from c3 6 (by omega) (by simp only [iK, List.mem_cons, List.not_mem_nil, or_false]; omega)]; exact v2 j hj, fun j hj => by rw [show (mm g H2).2 bm = (mm g H).2 bm from c3 7 (by omega) (by simp only [iK, List.mem_cons, List.not_mem_nil, or_false]; omega)]; exact v3 j hj, fun n hn j hj => by
      by_cases e : n = k
      · subst e
        rw [k0]
        exact v4 n hn j hj
      · rw [cq n hn e 0 (by decide)]
        exact v4 n hn j hj, cr, fun n hn hr1 => by
      by_cases e : n = k
      · subst e
        exact ky
      · rw [rdU_n rd e] at hr1
        exact (v6 n hn hr1).mv (cq n hn e)⟩, w0, hou.out hJ (ks_cz hg0 hc hI) no⟩
theorem s_sign_a (hS : KS D g kq ts x kA re ve a0 a1 a3 cap tl ml rl kc tp ms rs ks H) (hc : KC0 D kq ts a0 a1 a3) (ok : Aok tl ml rl kc tp ms rs ks) (hou : lo_ g H ou w0) (no : ¬ CZ a0 a1 a3 ou) (ao : a0 ≤ ou) {k : Nat} (hk : k < kc) : CStep l D g y_L_sign b_L_sign 3 hh_L_sign [.ref x, .int (nI k)] H ou a0 a1 a3 0 cap (fun c H1 => KS D g kq ts x kA re ve a0 a1 a3 c tl ml 64 kc tp ms (sgB (ks k) ms ml) ks H1 ∧ ∃ w, lo_ g H1 ou w) := by
  obtain ⟨ta, ma, bt, nt, bm, nm, ko, q, rd, sg, za, hg⟩ := hS
  have hg0 := hg
  obtain ⟨hcap, hsz, hX, hT, hM, hK, hr, hv, hC, hO, hA, v⟩ := hg
  obtain ⟨v1, v2, v3, v4, v5, v6⟩ := id v
  obtain ⟨fk, hka, hkk⟩ := id hK
  have kb : ∀ j, j < 32 → isB ((mm g H).2 (q k 0) j) := fun j hj => by rw [v4 k hk j hj]; exact ok.2.2.2.2.2.2.2 k hk j hj
  have qx : ∀ j, j < 4 → OutX kq ts (q k j) := fun j hj => by
    have := hA.ox (i := 5 * k + j + 1 + 8) (by omega)
    rwa [kad_q k j hj] at this
  have qd : ∀ i j, i < 4 → j < 4 → i ≠ j → q k i ≠ q k j := fun i j hi hj e => by
    have := hA.ne (i := 5 * k + i + 1 + 8) (j := 5 * k + j + 1 + 8) (by omega) (by omega) (by omega)
    rwa [kad_q k i hi, kad_q k j hj] at this
  have qr : ∀ j, j < 4 → q k j ≠ re := fun j hj => by
    have := hA.ne (i := 5 * k + j + 1 + 8) (j := 4) (by omega) (by omega) (by omega)
    rwa [kad_q k j hj] at this
  have qO : ∀ j, j < 4 → fO (kad x kA re ve ta ma bt bm ko q) (iK k) (q k j) := fun j hj => ⟨5 * k + j + 1 + 8, iK_q k j hj, (kad_q k j hj).symm⟩
  have r1 := cv_ready (X := mm g H) (kq := kq) (ts := ts) (q := q k) (rd := rd k) (O := fO (kad x kA re ve ta ma bt bm ko q) (iK k)) hc.1 v1 qx qd kb (v6 k hk) (fun j _ hj => qO j hj)
  have hI : ∀ i ∈ ((iK k) : List Nat), i < 5 * kc + 8 := by
    intro i hi
    simp only [iK, List.mem_cons, List.not_mem_nil, or_false] at hi
    omega
  have hm := v_K_sign (l := l) (E := hE True kq (kad x kA re ve ta ma bt bm ko q) (iK k)) (X := mm g H) hX hka (hA.ni (B := True) (I := iK k) hI (j := 3) (by omega) (by simp only [iK, List.mem_cons, List.not_mem_nil, or_false]; omega)) (hkk k hk).1 hk ok.2.2.2.1 (hkk k hk).2.1 (by have := hA.ne (i := 5 * k + 8) (j := 0) (by omega) (by omega) (by omega); rwa [kad_o] at this) (Or.inr (Or.inr ⟨0, iK_0 k, rfl⟩)) (Or.inr (Or.inr ⟨5 * k + 8, iK_o k, (kad_o k).symm⟩)) (Ne.symm (hA.2 0 (by omega)).1.2.2.1) (by have := (hA.2 (5 * k + 8) (by omega)).1.2.2.1; rwa [kad_o] at this) (fun j hj => Or.inr (Or.inr (qO j hj))) hM.1 (hA.ni (B := True) (I := iK k) hI (j := 2) (by omega) (by simp only [iK, List.mem_cons, List.not_mem_nil, or_false]; omega)) (hA.ne (i := 2) (j := 0) (by omega) (by omega) (by decide)) hM.2.1 hM.2.2.2.1 hM.n.2 (hkk k hk).2.2 hr (Or.inr (Or.inr ⟨4, iK_4 k, rfl⟩)) hO (Or.inr (Or.inl ⟨trivial, rfl⟩)) (ks_ext hg0 hc hI) rfl
  refine ⟨_, _, _, _, 0, 0, cap, ?_, ?_, by omega, by omega, h_sign hm hX, fun z h => Or.inl (ks_cz hg0 hc hI z h), fun H2 hP hJ2 => ?_⟩
  · exact Nat.le_of_ble_eq_true rfl
  · exact Nat.le_of_ble_eq_true rfl
  have hJ := hJ2
  obtain ⟨hV1, hX1, hO1, hQ1⟩ := hP
  have x1 := v1.kv hc.1 r1.1 (fun z h => by
    obtain ⟨i, hi, rfl⟩ := h
    exact hA.ox (hI i hi))
  have m1 : (LF_Si_makeReady (mm g H) kq ts (q k) (rd k)).2 bm = (mm g H).2 bm := (r1.1 bm (KV.o (hA.2 7 (by omega)).1.2.1 (hA.nf hI (j := 7) (by omega) (by simp only [iK, List.mem_cons, List.not_mem_nil, or_false]; omega)))).2
  have s1 := c_sig (X := LF_Si_makeReady (mm g H) kq ts (q k) (rd k)) (to := re) (b := bm) (m := ml) hc.1 x1 qx (hA.ox (i := 4) (by omega)) (hA.ox (i := 7) (by omega)) (fun j hj => by rw [m1, v3 j hj]; exact ok.2.2.2.2.2.1 j hj) r1.2.1
  rw [← hV1, r1.2.2, m1, siR_ext (v4 k hk) v3, siS_ext (v4 k hk) v3] at s1
  have cv : onP (KV kq (fO (kad x kA re ve ta ma bt bm ko q) (iK k))) (mm g H) (mm g H2) := r1.1.tr (onP.kc s1.1 (fun z hz => by rw [List.mem_singleton.mp hz]; exact ⟨4, iK_4 k, rfl⟩))
  have yq : ∀ j, j < 4 → (mm g H2).2 (q k j) = (LF_Si_makeReady (mm g H) kq ts (q k) (rd k)).2 (q k j) := fun j hj => (s1.1.o (qx j hj).1 (fun z => qr j hj (List.mem_singleton.mp z))).2
  have ky : KyR (mm g H2) (q k) := r1.2.1.mv yq
  have k0 : (mm g H2).2 (q k 0) = (mm g H).2 (q k 0) := (yq 0 (by decide)).trans r1.2.2
  have cr : ∀ j, j < 64 → (mm g H2).2 re j = sgB (ks k) ms ml j := fun j hj => by
    unfold sgB
    by_cases hc2 : j < 32
    · rw [cat_l hc2]
      exact s1.2.1 j hc2
    · rw [show j = 32 + (j - 32) by omega, cat_r]
      exact s1.2.2 (j - 32) (by omega)
  have c4o : ∀ n, n < kc → n ≠ k → ¬ hE True kq (kad x kA re ve ta ma bt bm ko q) (iK k) (ko n) := fun n hn e => by
    have := hA.ni (B := True) (I := iK k) hI (j := 5 * n + 8) (by omega) (by simp only [iK, List.mem_cons, List.not_mem_nil, or_false]; omega)
    rwa [kad_o] at this
  have cq : ∀ n, n < kc → n ≠ k → ∀ j, j < 4 → (mm g H2).2 (q n j) = (mm g H).2 (q n j) := fun n hn e j hj => by
    have := (cv ((kad x kA re ve ta ma bt bm ko q) (5 * n + j + 1 + 8)) (KV.o (hA.2 _ (by omega)).1.2.1 (hA.nf hI (by omega) (by simp only [iK, List.mem_cons, List.not_mem_nil, or_false]; omega)))).2
    rwa [kad_q n j hj] at this
  obtain ⟨c1, c2, c3, c4⟩ := ks_hv hg0 hc hI hJ cv
  exact ⟨⟨ta, ma, bt, nt, bm, nm, ko, q, (rdU rd k), (sg + (nI 1)), za, hcap, Nat.le_trans hsz hJ.1, hX1, hT.j hJ (c4 1 (by omega) (by simp only [iK, List.mem_cons, List.not_mem_nil, or_false]; omega)), hM.j hJ (c4 2 (by omega) (by simp only [iK, List.mem_cons, List.not_mem_nil, or_false]; omega)), hK.j1 hJ (c4 3 (by omega) (by simp only [iK, List.mem_cons, List.not_mem_nil, or_false]; omega)) c4o hQ1, hJ.2.2.1 _ _ _ hr, hJ.2.2.1 _ _ _ hv, c1, hO1, hA.mono hJ.1, c2, fun j hj => by rw [show (mm g H2).2 bt = (mm g H).2 bt from c3 6 (by omega) (by simp only [iK, List.mem_cons, List.not_mem_nil, or_false]; omega)]; exact v2 j hj, fun j hj => by rw [show (mm g H2).2 bm = (mm g H).2 bm from c3 7 (by omega) (by simp only [iK, List.mem_cons, List.not_mem_nil, or_false]; omega)]; exact v3 j hj, fun n hn j hj => by
      by_cases e : n = k
      · subst e
        rw [k0]
        exact v4 n hn j hj
      · rw [cq n hn e 0 (by decide)]
        exact v4 n hn j hj, cr, fun n hn hr1 => by
      by_cases e : n = k
      · subst e
        exact ky
      · rw [rdU_n rd e] at hr1
        exact (v6 n hn hr1).mv (cq n hn e)⟩, w0, hou.out hJ (ks_cz hg0 hc hI) no⟩
theorem s_verify_a (hS : KS D g kq ts x kA re ve a0 a1 a3 cap tl ml rl kc tp ms rs ks H) (hc : KC0 D kq ts a0 a1 a3) (ok : Aok tl ml rl kc tp ms rs ks) (hou : lo_ g H ou w0) (no : ¬ CZ a0 a1 a3 ou) (ao : a0 ≤ ou) (ht : tl = 96) : CStep l D g y_L_verify b_L_verify 3 hh_L_verify [.ref x, .ref ou] H ou a0 a1 a3 0 cap (fun c H1 => KS D g kq ts x kA re ve a0 a1 a3 c 0 ml rl kc tp ms rs ks H1 ∧ ∃ w, lo_ g H1 ou w) := by
  obtain ⟨ta, ma, bt, nt, bm, nm, ko, q, rd, sg, za, hg⟩ := hS
  have hg0 := hg
  obtain ⟨hcap, hsz, hX, hT, hM, hK, hr, hv, hC, hO, hA, v⟩ := hg
  obtain ⟨v1, v2, v3, v4, v5, v6⟩ := id v
  obtain ⟨fk, hka, hkk⟩ := id hK
  subst ht
  have jd := cv_judge (X := mm g H) (kq := kq) (ts := ts) (bt := bt) (bm := bm) (ml := ml) hc.1 v1 (hA.ox (i := 6) (by omega)) (hA.ox (i := 7) (by omega)) (fun j hj => by rw [v2 j hj]; exact ok.2.2.2.2.1 j hj) (fun j hj => by rw [v3 j hj]; exact ok.2.2.2.2.2.1 j hj)
  have hI : ∀ i ∈ ([1, 5] : List Nat), i < 5 * kc + 8 := by
    intro i hi
    simp only [iK, List.mem_cons, List.not_mem_nil, or_false] at hi
    omega
  have hm := v_K_verify (l := l) (E := hE True kq (kad x kA re ve ta ma bt bm ko q) [1, 5]) (X := mm g H) hX hT.1 (hA.ne (i := 0) (j := 1) (by omega) (by omega) (by decide)) (hA.ni (B := True) (I := [1, 5]) hI (j := 0) (by omega) (by decide)) (Or.inr (Or.inr ⟨1, by simp, rfl⟩)) hT.2.1 (by have := hT.n; omega) (Ne.symm (hA.2 1 (by omega)).1.2.2.1) (hA.ne (i := 2) (j := 1) (by omega) (by omega) (by decide)) hM.1 (hA.ni (B := True) (I := [1, 5]) hI (j := 2) (by omega) (by decide)) hM.2.1 hM.2.2.2.1 hM.n.2 hv (Or.inr (Or.inr ⟨5, by simp, rfl⟩)) hO (Or.inr (Or.inl ⟨trivial, rfl⟩)) (ks_ext hg0 hc hI) rfl
  refine ⟨_, _, _, _, 0, 0, cap, ?_, ?_, by omega, by omega, h_verify hm hX hou (fun z => no (ks_cz hg0 hc hI _ z)), fun z h => h.elim (fun h => Or.inl (ks_cz hg0 hc hI z h)) Or.inr, fun H2 hP hJ2 => ?_⟩
  · exact Nat.le_of_ble_eq_true rfl
  · exact Nat.le_of_ble_eq_true rfl
  obtain ⟨hlo, H1, hP, hJ, hJo⟩ := hP
  obtain ⟨⟨wv, hV1⟩, hT1, hO1⟩ := hP
  have cv : onP (KV kq (fO (kad x kA re ve ta ma bt bm ko q) [1, 5])) (mm g H) (mm g H1) := by
    rw [hV1]
    exact onP.si (Or.inr ⟨5, by simp, rfl⟩) (jd.mono (fun z h => h.imp id (fun h => h.elim)))
  obtain ⟨c1, c2, c3, c4⟩ := ks_hv hg0 hc hI hJ cv
  have c4o : ∀ n, n < kc → ¬ hE True kq (kad x kA re ve ta ma bt bm ko q) [1, 5] (ko n) := fun n hn => by
    have := c4 (5 * n + 8) (by omega) (by simp only [iK, List.mem_cons, List.not_mem_nil, or_false]; omega)
    rwa [kad_o] at this
  have cq : ∀ n, n < kc → ∀ j, j < 4 → (mm g H1).2 (q n j) = (mm g H).2 (q n j) := fun n hn j hj => by
    have := c3 (5 * n + j + 1 + 8) (by omega) (by simp only [iK, List.mem_cons, List.not_mem_nil, or_false]; omega)
    rwa [kad_q n j hj] at this
  have hS1 : KS D g kq ts x kA re ve a0 a1 a3 cap 0 ml rl kc tp ms rs ks H1 := ⟨ta, ma, bt, nt, bm, nm, ko, q, rd, sg, za, hcap, Nat.le_trans hsz hJ.1, hJ.ob (c4 0 (by omega) (by simp)) hX, ⟨hT1, hJ.2.2.1 _ _ _ hT.2.1, hJ.2.2.2 _ _ hT.2.2.1, Nat.zero_le _, hT.2.2.2.2⟩, hM.j hJ (c4 2 (by omega) (by simp only [iK, List.mem_cons, List.not_mem_nil, or_false]; omega)), hK.j hJ (c4 3 (by omega) (by simp only [iK, List.mem_cons, List.not_mem_nil, or_false]; omega)) c4o, hJ.2.2.1 _ _ _ hr, hJ.2.2.1 _ _ _ hv, c1, hO1, hA.mono hJ.1, c2, fun j hj => absurd hj (Nat.not_lt_zero j), fun j hj => by rw [show (mm g H1).2 bm = (mm g H).2 bm from c3 7 (by omega) (by simp only [iK, List.mem_cons, List.not_mem_nil, or_false]; omega)]; exact v3 j hj, fun n hn j hj => by rw [cq n hn 0 (by decide)]; exact v4 n hn j hj, fun j hj => by rw [show (mm g H1).2 re = (mm g H).2 re from c3 4 (by omega) (by simp only [iK, List.mem_cons, List.not_mem_nil, or_false]; omega)]; exact v5 j hj, fun n hn hr1 => (v6 n hn hr1).mv (cq n hn)⟩
  exact ⟨hS1.kept hc hJo (fun z h => by rw [h]; exact ⟨ao, fun _ => no⟩), _, hlo⟩
end KSR
