/-! rows that grow, keys that are made -/
def lE (f : Nat → Nat) (I : List Nat) (S z : Nat) : Prop := fO f I z ∨ S ≤ z
/-- a call of a method itself -/
def DStep (l : Launch) (D : va_G) (g : ClassId → FieldType → Prop) (y : MethodName) (b : ByteArray) (mL : Nat) (rt : Option FieldType) (vs : List Value) (H : Heap) (V : Int32) (Z : Nat → Prop) (R : Heap → Prop) : Prop := ∃ (E : Nat → Prop) (P : Heap → Prop) (fr lo : Nat), fr ≤ 100 ∧ lo ≤ 20000 ∧ Met l y (.code y b mL rt :: G_) { frames := fr, cells := 0, slots := 0, locals := lo } (sx_Pc vs H D g) (px_Q g E H V P) 0 0 E ∧ (∀ z, E z → Z z) ∧ ∀ H1, P H1 → sx_J g E H H1 → R H1
def DStepV (l : Launch) (D : va_G) (g : ClassId → FieldType → Prop) (y : MethodName) (b : ByteArray) (mL : Nat) (vs : List Value) (H : Heap) (Z : Nat → Prop) (R : Heap → Prop) : Prop := ∃ (E : Nat → Prop) (P : Heap → Prop) (fr lo : Nat), fr ≤ 100 ∧ lo ≤ 20000 ∧ Met l y (.code y b mL none :: G_) { frames := fr, cells := 0, slots := 0, locals := lo } (sx_Pc vs H D g) (px_Qv g E H P) 0 0 E ∧ (∀ z, E z → Z z) ∧ ∀ H1, P H1 → sx_J g E H H1 → R H1
section KSL
variable {l : Launch} {D : va_G} {g : ClassId → FieldType → Prop} {kq : Nat → Nat → Nat} {ts : Nat → Nat} {x kA re ve ou a0 a1 a3 cap : Nat} {tl ml rl kc : Nat} {tp ms rs : Nat → Int32} {ks : Nat → Nat → Int32} {H H1 : Heap} {w0 : Int64}

theorem ks_lz {ta ma bt nt bm nm : Nat} {ko : Nat → Nat} {q : Nat → Nat → Nat} {rd : Nat → Bool} {sg za : Int32} (hg : KSg D g kq ts x kA re ve a0 a1 a3 cap tl ml rl kc tp ms rs ks H ta ma bt nt bm nm ko q rd sg za) {I : List Nat} (hI : ∀ i ∈ I, i < 5 * kc + 8) : ∀ z, lE (kad x kA re ve ta ma bt bm ko q) I H.size z → CZ a0 a1 a3 z := fun z h => by
  obtain ⟨hcap, hsz, hX, hT, hM, hK, hr, hv, hC, hO, hA, v⟩ := hg
  rcases h with ⟨i, hi, rfl⟩ | h
  · exact (hA.2 i (hI i hi)).1.2.2.2
  · exact Or.inr (Nat.le_trans hsz h)
theorem ks_lt {ta ma bt nt bm nm : Nat} {ko : Nat → Nat} {q : Nat → Nat → Nat} {rd : Nat → Bool} {sg za : Int32} (hg : KSg D g kq ts x kA re ve a0 a1 a3 cap tl ml rl kc tp ms rs ks H ta ma bt nt bm nm ko q rd sg za) (hc : KC0 D kq ts a0 a1 a3) {I : List Nat} (hI : ∀ i ∈ I, i < 5 * kc + 8) (hJ : sx_J g (lE (kad x kA re ve ta ma bt bm ko q) I H.size) H H1) : kc_ D g (KE kq) H1 kq ts ∧ ho_ D kq H1 ∧ Cx (mm g H1) kq ts ∧ (∀ j, j < 5 * kc + 8 → j ∉ I → (mm g H1).2 ((kad x kA re ve ta ma bt bm ko q) j) = (mm g H).2 ((kad x kA re ve ta ma bt bm ko q) j)) ∧ ∀ j, j < 5 * kc + 8 → j ∉ I → ¬ lE (kad x kA re ve ta ma bt bm ko q) I H.size ((kad x kA re ve ta ma bt bm ko q) j) := by
  obtain ⟨hcap, hsz, hX, hT, hM, hK, hr, hv, hC, hO, hA, v⟩ := hg
  have h3 := hc.2.2.2.1
  have nl : ∀ j, j < 5 * kc + 8 → j ∉ I → ¬ lE (kad x kA re ve ta ma bt bm ko q) I H.size ((kad x kA re ve ta ma bt bm ko q) j) := fun j hj hn z => z.elim (hA.nf hI hj hn) (fun z => by have := (hA.2 j hj).2; omega)
  have inn : ∀ p ∈ kc_ix ++ ((5, 99) :: kobc), ¬ lE (kad x kA re ve ta ma bt bm ko q) I H.size (kq p.1 p.2) := fun p hp z => by
    rcases z with ⟨i, hi, e⟩ | z
    · have o := (hA.2 i (hI i hi)).1
      rcases List.mem_append.mp hp with hp | hp
      · exact o.2.1 p hp e.symm
      · rcases List.mem_cons.mp hp with rfl | hp
        · exact o.2.2.1 e.symm
        · exact o.1.1 p hp e.symm
    · have := hc.2.1 p hp
      omega
  have st : ∀ k, k < 9 → ¬ lE (kad x kA re ve ta ma bt bm ko q) I H.size (ts k) := fun k hk z => by
    rcases z with ⟨i, hi, e⟩ | z
    · exact ((hA.2 i (hI i hi)).1.1.2 k hk).2 e.symm
    · have := hc.2.2.1 k hk
      have : a0 ≤ kq 5 99 ∧ kq 5 99 < a1 := hc.2.1 (5, 99) (List.mem_append_right _ List.mem_cons_self)
      omega
  have on := hJ.on
  have lt : ∀ z, ¬ lE (kad x kA re ve ta ma bt bm ko q) I H.size z → ¬ (lE (kad x kA re ve ta ma bt bm ko q) I H.size z ∨ H.size ≤ z) := fun z h k => k.elim h (fun k => h (Or.inr k))
  refine ⟨hC.mv hJ (fun z hz => Or.inr ?_), ?_, v.1.mv (fun k hk => (on _ (lt _ (st k hk))).1) (fun p hp => on _ (lt _ (inn p (List.mem_append_left _ hp)))), fun j hj hn => (on _ (lt _ (nl j hj hn))).2, nl⟩
  · rcases hz with ⟨i, hi, rfl⟩ | h
    · exact (hA.2 i (hI i hi)).1.1
    · exact (hc.new (Nat.le_trans hsz h)).1
  · obtain ⟨z1, z2, z3⟩ := hO
    exact ⟨z1, z2, hJ.ob (inn (5, 99) (List.mem_append_right _ List.mem_cons_self)) z3⟩
theorem kad_bt {ta ma bt bm b' : Nat} {ko : Nat → Nat} {q : Nat → Nat → Nat} {S S' N : Nat} (hA : KAd D kq ts a0 a1 a3 S (kad x kA re ve ta ma bt bm ko q) N) (hs : S ≤ S') (hN : 8 ≤ N) (hb : b' = bt ∨ (S ≤ b' ∧ b' < S' ∧ AdO D kq ts a0 a1 a3 b')) : KAd D kq ts a0 a1 a3 S' (kad x kA re ve ta ma b' bm ko q) N := by
  rcases hb with rfl | ⟨b1, b2, b3⟩
  · exact hA.mono hs
  · have e6 : kad x kA re ve ta ma b' bm ko q 6 = b' := rfl
    have e : ∀ i, i ≠ 6 → kad x kA re ve ta ma b' bm ko q i = kad x kA re ve ta ma bt bm ko q i := fun i hi => by
      match i, hi with
      | 0, _ => rfl
      | 1, _ => rfl
      | 2, _ => rfl
      | 3, _ => rfl
      | 4, _ => rfl
      | 5, _ => rfl
      | 6, hi => exact absurd rfl hi
      | 7, _ => rfl
      | n + 8, _ => rfl
    refine ⟨fun i j hi hj h => ?_, fun i hi => ?_⟩
    · by_cases i6 : i = 6
      · by_cases j6 : j = 6
        · rw [i6, j6]
        · rw [i6, e6, e j j6] at h
          have := (hA.2 j hj).2
          omega
      · by_cases j6 : j = 6
        · rw [j6, e6, e i i6] at h
          have := (hA.2 i hi).2
          omega
        · rw [e i i6, e j j6] at h
          exact hA.1 i j hi hj h
    · by_cases i6 : i = 6
      · rw [i6, e6]
        exact ⟨b3, b2⟩
      · rw [e i i6]
        exact ⟨(hA.2 i hi).1, Nat.lt_of_lt_of_le (hA.2 i hi).2 hs⟩
theorem ks_row {ta ma bt nt bm nm : Nat} {ko : Nat → Nat} {q : Nat → Nat → Nat} {rd : Nat → Bool} {sg za : Int32} (hg : KSg D g kq ts x kA re ve a0 a1 a3 cap tl ml rl kc tp ms rs ks H ta ma bt nt bm nm ko q rd sg za) (hc : KC0 D kq ts a0 a1 a3) {n : Nat} {fb : Nat → Int32} (hn : n ≤ 64) (hw : tl + n ≤ 65536) (hJ : sx_J g (fun z => z = ta ∨ z = bt ∨ H.size ≤ z) H H1) (hP : RwP D g H (mm g H) ta bt nt tl n fb H1) : KS D g kq ts x kA re ve a0 a1 a3 (cap + (if nt < tl + n then nt else 0)) (tl + n) ml rl kc (cat tp tl fb) ms rs ks H1 := by
  have hg0 := hg
  obtain ⟨hcap, hsz, hX, hT, hM, hK, hr, hv, hC, hO, hA, v⟩ := hg
  obtain ⟨v1, v2, v3, v4, v5, v6⟩ := id v
  have hI : ∀ i ∈ ([1, 6] : List Nat), i < 5 * kc + 8 := by
    intro i hi
    simp only [List.mem_cons, List.not_mem_nil, or_false] at hi
    omega
  have hJ2 : sx_J g (lE (kad x kA re ve ta ma bt bm ko q) [1, 6] H.size) H H1 := hJ.mono (fun z h => by
    rcases h with h | h | h
    · exact Or.inl ⟨1, by simp, h⟩
    · exact Or.inl ⟨6, by simp, h⟩
    · exact Or.inr h)
  obtain ⟨c1, cO, c2, c3, c4⟩ := ks_lt hg0 hc hI hJ2
  obtain ⟨b', n', p1, p2, p3, p4, p5, p6, p7, p8⟩ := hP
  have c4o : ∀ n, n < kc → ¬ lE (kad x kA re ve ta ma bt bm ko q) [1, 6] H.size (ko n) := fun n hn => by
    have := c4 (5 * n + 8) (by omega) (by simp only [List.mem_cons, List.not_mem_nil, or_false]; omega)
    rwa [kad_o] at this
  have cq : ∀ n, n < kc → ∀ j, j < 4 → (mm g H1).2 (q n j) = (mm g H).2 (q n j) := fun n hn j hj => by
    have := c3 (5 * n + j + 1 + 8) (by omega) (by simp only [List.mem_cons, List.not_mem_nil, or_false]; omega)
    rwa [kad_q n j hj] at this
  have hn0 := hT.n
  obtain ⟨t1, t2, t3, t4, i0, i1, i2⟩ := id hT
  have nn : tl + n ≤ n' ∧ (∃ i, i ≤ 6 ∧ n' = 1024 * 2 ^ i) ∧ n' = nt + (if nt < tl + n then nt else 0) := by
    by_cases hcc : nt < tl + n
    · rw [if_pos hcc]
      have e := (p5 hcc).2
      refine ⟨by omega, ⟨i0 + 1, (p2_64 i0 i1).2.2 (by omega), ?_⟩, by omega⟩
      rw [e, i2, Nat.pow_succ]
      omega
    · rw [if_neg hcc]
      have e := (p4 (by omega)).2
      exact ⟨by omega, ⟨i0, i1, by rw [e, i2]⟩, by omega⟩
  have nb : b' = bt ∨ (H.size ≤ b' ∧ b' < H1.size ∧ AdO D kq ts a0 a1 a3 b') := by
    by_cases hcc : nt < tl + n
    · have e := (p5 hcc).1
      exact Or.inr ⟨e, p2.lt, hc.new (Nat.le_trans hsz e)⟩
    · exact Or.inl (p4 (by omega)).1
  refine ⟨ta, ma, b', n', bm, nm, ko, q, rd, sg, za, by omega, Nat.le_trans hsz hJ.1, hJ2.ob (c4 0 (by omega) (by decide)) hX, ⟨p1, p2, p3, nn.1, nn.2.1⟩, hM.j hJ2 (c4 2 (by omega) (by decide)), hK.j hJ2 (c4 3 (by omega) (by decide)) c4o, hJ.2.2.1 _ _ _ hr, hJ.2.2.1 _ _ _ hv, c1, cO, kad_bt hA hJ.1 (by omega) nb, c2, fun j hj => ?_, fun j hj => by rw [show (mm g H1).2 bm = (mm g H).2 bm from c3 7 (by omega) (by decide)]; exact v3 j hj, fun n hn j hj => by rw [cq n hn 0 (by decide)]; exact v4 n hn j hj, fun j hj => by rw [show (mm g H1).2 re = (mm g H).2 re from c3 4 (by omega) (by decide)]; exact v5 j hj, fun n hn hr1 => (v6 n hn hr1).mv (cq n hn)⟩
  by_cases hj2 : j < tl
  · rw [cat_l hj2, p6 j hj2]
    exact v2 j hj2
  · have e : j = tl + (j - tl) := by omega
    rw [e, cat_r]
    exact p7 (j - tl) (by omega)
theorem s_feed_a (hS : KS D g kq ts x kA re ve a0 a1 a3 cap tl ml rl kc tp ms rs ks H) (hc : KC0 D kq ts a0 a1 a3) (ok : Aok tl ml rl kc tp ms rs ks) (hou : lo_ g H ou w0) (no : ¬ CZ a0 a1 a3 ou) (ao : a0 ≤ ou) {u0 u1 u2 u3 u4 : Int32} (hw : tl + 20 ≤ 65536) : CStep l D g y_L_feed b_L_feed 8 hh_L_feed [.ref x, .int u0, .int u1, .int u2, .int u3, .int u4, .ref ou] H ou a0 a1 a3 0 cap (fun c H1 => KS D g kq ts x kA re ve a0 a1 a3 c (tl + 20) ml rl kc (cat tp tl (nb20 u0 u1 u2 u3 u4)) ms rs ks H1 ∧ lo_ g H1 ou (nI (tl + 20)).toInt64) := by
  obtain ⟨ta, ma, bt, nt, bm, nm, ko, q, rd, sg, za, hg⟩ := hS
  have hg0 := hg
  obtain ⟨hcap, hsz, hX, hT, hM, hK, hr, hv, hC, hO, hA, v⟩ := hg
  obtain ⟨v1, v2, v3, v4, v5, v6⟩ := id v
  obtain ⟨fk, hka, hkk⟩ := id hK
  have hI : ∀ i ∈ ([1, 6] : List Nat), i < 5 * kc + 8 := by
    intro i hi
    simp only [List.mem_cons, List.not_mem_nil, or_false] at hi
    omega
  have cz : ∀ z, (z = ta ∨ z = bt ∨ H.size ≤ z) → CZ a0 a1 a3 z := fun z h => ks_lz hg0 hI z (by
    rcases h with h | h | h
    · exact Or.inl ⟨1, by simp, h⟩
    · exact Or.inl ⟨6, by simp, h⟩
    · exact Or.inr h)
  have hm := v_K_feed (l := l) (X := mm g H) (v0 := u0) (v1 := u1) (v2 := u2) (v3 := u3) (v4 := u4) hX hT.1 (hA.ne (i := 0) (j := 1) (by omega) (by omega) (by decide)) hT.2.1 hT.2.2.1 hT.2.2.2.1 ⟨by have := hT.n; omega, hT.n.2⟩ hw (by by_cases h : tl + 20 ≤ nt; exact Or.inl h; obtain ⟨-, -, -, -, i0, i1, i2⟩ := hT; have := p2_64 i0 i1; exact Or.inr (by rw [i2] at h ⊢; have := this.2.2 (by omega); have h6 := p2_64 (i0 + 1) this; rw [Nat.pow_succ] at h6; omega)) rfl
  refine ⟨_, _, _, _, gC tl 20 nt, gS tl 20 nt, cap + (if nt < tl + 20 then nt else 0), ?_, ?_, ?_, ?_, h_feed hm hX hou (fun z => no (cz _ z)), fun z h => h.elim (fun h => Or.inl (cz z h)) Or.inr, fun H2 hP hJ2 => ?_⟩
  · exact Nat.le_of_ble_eq_true rfl
  · exact Nat.le_of_ble_eq_true rfl
  · unfold gC
    split <;> omega
  · have hn_ := hT.n
    unfold gS
    split <;> omega
  obtain ⟨hlo, H1, hP, hJ, hJo⟩ := hP
  have hS1 := ks_row hg0 hc (n := 20) (fb := nb20 u0 u1 u2 u3 u4) (by decide) hw hJ hP
  exact ⟨hS1.kept hc hJo (fun z h => by rw [h]; exact ⟨ao, fun _ => no⟩), hlo⟩
theorem s_back_0 (hS : KS D g kq ts x kA re ve a0 a1 a3 cap tl ml rl kc tp ms rs ks H) (hc : KC0 D kq ts a0 a1 a3) (ok : Aok tl ml rl kc tp ms rs ks) (hou : lo_ g H ou w0) (no : ¬ CZ a0 a1 a3 ou) (ao : a0 ≤ ou) {u1 : Int32} (hw : tl + rl ≤ 65536) : CStep l D g y_L_back b_L_back 5 hh_L_back [.ref x, .int (-1 : Int32), .int u1, .ref ou] H ou a0 a1 a3 0 cap (fun c H1 => KS D g kq ts x kA re ve a0 a1 a3 c (tl + rl) ml rl kc (cat tp tl rs) ms rs ks H1 ∧ lo_ g H1 ou (nI (tl + rl)).toInt64) := by
  obtain ⟨ta, ma, bt, nt, bm, nm, ko, q, rd, sg, za, hg⟩ := hS
  have hg0 := hg
  obtain ⟨hcap, hsz, hX, hT, hM, hK, hr, hv, hC, hO, hA, v⟩ := hg
  obtain ⟨v1, v2, v3, v4, v5, v6⟩ := id v
  obtain ⟨fk, hka, hkk⟩ := id hK
  have hI : ∀ i ∈ ([1, 6] : List Nat), i < 5 * kc + 8 := by
    intro i hi
    simp only [List.mem_cons, List.not_mem_nil, or_false] at hi
    omega
  have cz : ∀ z, (z = ta ∨ z = bt ∨ H.size ≤ z) → CZ a0 a1 a3 z := fun z h => ks_lz hg0 hI z (by
    rcases h with h | h | h
    · exact Or.inl ⟨1, by simp, h⟩
    · exact Or.inl ⟨6, by simp, h⟩
    · exact Or.inr h)
  have hm := v_K_back_0 (l := l) (X := mm g H) (v1 := u1) hX hT.1 (hA.ne (i := 0) (j := 1) (by omega) (by omega) (by decide)) hT.2.1 hT.2.2.1 hT.2.2.2.1 ⟨by have := hT.n; omega, hT.n.2⟩ hw ok.2.2.1 hr (hA.ne (i := 4) (j := 6) (by omega) (by omega) (by decide)) rfl
  refine ⟨_, _, _, _, gC tl rl nt, gS tl rl nt, cap + (if nt < tl + rl then nt else 0), ?_, ?_, ?_, ?_, h_back hm hX hou (fun z => no (cz _ z)), fun z h => h.elim (fun h => Or.inl (cz z h)) Or.inr, fun H2 hP hJ2 => ?_⟩
  · exact Nat.le_of_ble_eq_true rfl
  · exact Nat.le_of_ble_eq_true rfl
  · unfold gC
    split <;> omega
  · have hn_ := hT.n
    unfold gS
    split <;> omega
  obtain ⟨hlo, H1, hP, hJ, hJo⟩ := hP
  have hP : RwP D g H (mm g H) ta bt nt tl rl rs H1 := by
    obtain ⟨b1, n1, p1, p2, p3, p4, p5, p6, p7, p8⟩ := hP
    exact ⟨b1, n1, p1, p2, p3, p4, p5, p6, fun j hj => by rw [p7 j hj]; exact v5 j hj, p8⟩
  have hS1 := ks_row hg0 hc (n := rl) (fb := rs) ok.2.2.1 hw hJ hP
  exact ⟨hS1.kept hc hJo (fun z h => by rw [h]; exact ⟨ao, fun _ => no⟩), hlo⟩
theorem s_back_1 (hS : KS D g kq ts x kA re ve a0 a1 a3 cap tl ml rl kc tp ms rs ks H) (hc : KC0 D kq ts a0 a1 a3) (ok : Aok tl ml rl kc tp ms rs ks) (hou : lo_ g H ou w0) (no : ¬ CZ a0 a1 a3 ou) (ao : a0 ≤ ou) {m : Nat} {u1 : Int32} (hm : m < rl) (hw : tl + rl ≤ 65536) : CStep l D g y_L_back b_L_back 5 hh_L_back [.ref x, .int (nI m), .int u1, .ref ou] H ou a0 a1 a3 0 cap (fun c H1 => KS D g kq ts x kA re ve a0 a1 a3 c (tl + rl) ml rl kc (cat tp tl (fun j => if j = m then ((rs j) ^^^ (u1.toInt8.toInt32)).toInt8.toInt32 else rs j)) ms rs ks H1 ∧ lo_ g H1 ou (nI (tl + rl)).toInt64) := by
  obtain ⟨ta, ma, bt, nt, bm, nm, ko, q, rd, sg, za, hg⟩ := hS
  have hg0 := hg
  obtain ⟨hcap, hsz, hX, hT, hM, hK, hr, hv, hC, hO, hA, v⟩ := hg
  obtain ⟨v1, v2, v3, v4, v5, v6⟩ := id v
  obtain ⟨fk, hka, hkk⟩ := id hK
  have hI : ∀ i ∈ ([1, 6] : List Nat), i < 5 * kc + 8 := by
    intro i hi
    simp only [List.mem_cons, List.not_mem_nil, or_false] at hi
    omega
  have cz : ∀ z, (z = ta ∨ z = bt ∨ H.size ≤ z) → CZ a0 a1 a3 z := fun z h => ks_lz hg0 hI z (by
    rcases h with h | h | h
    · exact Or.inl ⟨1, by simp, h⟩
    · exact Or.inl ⟨6, by simp, h⟩
    · exact Or.inr h)
  have hm := v_K_back_1 (l := l) (X := mm g H) (v1 := u1) (at_ := m) hX hT.1 (hA.ne (i := 0) (j := 1) (by omega) (by omega) (by decide)) hT.2.1 hT.2.2.1 hT.2.2.2.1 ⟨by have := hT.n; omega, hT.n.2⟩ hw ok.2.2.1 hr (hA.ne (i := 4) (j := 6) (by omega) (by omega) (by decide)) hm rfl
  refine ⟨_, _, _, _, gC tl rl nt, gS tl rl nt, cap + (if nt < tl + rl then nt else 0), ?_, ?_, ?_, ?_, h_back hm hX hou (fun z => no (cz _ z)), fun z h => h.elim (fun h => Or.inl (cz z h)) Or.inr, fun H2 hP hJ2 => ?_⟩
  · exact Nat.le_of_ble_eq_true rfl
  · exact Nat.le_of_ble_eq_true rfl
  · unfold gC
    split <;> omega
  · have hn_ := hT.n
    unfold gS
    split <;> omega
  obtain ⟨hlo, H1, hP, hJ, hJo⟩ := hP
  have hP : RwP D g H (mm g H) ta bt nt tl rl (fun j => if j = m then ((rs j) ^^^ (u1.toInt8.toInt32)).toInt8.toInt32 else rs j) H1 := by
    obtain ⟨b1, n1, p1, p2, p3, p4, p5, p6, p7, p8⟩ := hP
    exact ⟨b1, n1, p1, p2, p3, p4, p5, p6, fun j hj => by rw [p7 j hj]; show (if j = m then (((mm g H).2 re j) ^^^ (u1.toInt8.toInt32)).toInt8.toInt32 else (mm g H).2 re j) = _; rw [v5 j hj], p8⟩
  have hS1 := ks_row hg0 hc (n := rl) (fb := fun j => if j = m then ((rs j) ^^^ (u1.toInt8.toInt32)).toInt8.toInt32 else rs j) ok.2.2.1 hw hJ hP
  exact ⟨hS1.kept hc hJo (fun z h => by rw [h]; exact ⟨ao, fun _ => no⟩), hlo⟩
end KSL
