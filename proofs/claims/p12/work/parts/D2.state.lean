/-! the class as it stands between two calls -/
def KE (kq : Nat → Nat → Nat) (z : Nat) : Prop := ∃ p ∈ kc_ix, z = kq p.1 p.2
def kobc : List (Nat × Nat) := [(0, 99), (1, 99), (2, 99), (3, 99), (4, 99), (6, 99), (7, 99), (2, 3), (2, 4), (16, 99), (17, 99), (18, 99), (19, 99), (20, 99), (21, 99), (22, 99), (23, 99), (24, 99), (25, 99), (26, 99), (27, 99), (28, 99), (29, 99), (30, 99), (31, 99), (32, 99), (33, 99), (34, 99), (35, 99), (36, 99), (37, 99), (38, 99), (39, 99), (40, 99), (41, 99), (42, 99), (43, 99), (44, 99), (45, 99), (46, 99), (47, 99)]
def CF (D : va_G) (kq : Nat → Nat → Nat) (ts : Nat → Nat) (z : Nat) : Prop := (∀ p ∈ kobc, z ≠ kq p.1 p.2) ∧ ∀ k, k < 9 → z ≠ D.2 (st_i k) 0 ∧ z ≠ ts k
theorem kc_ob_ix {kq : Nat → Nat → Nat} : ∀ x ∈ kc_ob kq, ∃ p ∈ kobc, x.1 = kq p.1 p.2 := fun x hx => by
  simp only [kc_ob, List.mem_cons, List.not_mem_nil, or_false] at hx
  rcases hx with rfl | rfl | rfl | rfl | rfl | rfl | rfl
  · exact ⟨(0, 99), by decide, rfl⟩
  · exact ⟨(1, 99), by decide, rfl⟩
  · exact ⟨(2, 99), by decide, rfl⟩
  · exact ⟨(3, 99), by decide, rfl⟩
  · exact ⟨(4, 99), by decide, rfl⟩
  · exact ⟨(6, 99), by decide, rfl⟩
  · exact ⟨(7, 99), by decide, rfl⟩
theorem kob_16 : ∀ j, j < 16 → (16 + j, 99) ∈ kobc ∧ (32 + j, 99) ∈ kobc := by decide +kernel
section KCM
variable {D : va_G} {g : ClassId → FieldType → Prop} {E E' : Nat → Prop} {H H1 : Heap} {kq : Nat → Nat → Nat} {ts : Nat → Nat}
theorem rb_.ext {a : Nat} {w : Nat → Nat → Nat} (h : rb_ D g E H a w) (hE : ∀ z, E z → E' z) (h1 : ¬ E' a) (h2 : ∀ j, j < 16 → ¬ E' (w j 99)) : rb_ D g E' H a w := by
  obtain ⟨-, cell, q1, q2, q3, q4, q5, q6⟩ := h
  exact ⟨h1, cell, q1, q2, q3, q4, q5, fun j hj => ⟨(q6 j hj).1, (q6 j hj).2.1, h2 j hj, fun k hk => hE _ ((q6 j hj).2.2.2 k hk)⟩⟩
theorem rb_.res {a : Nat} {w : Nat → Nat → Nat} (h : rb_ D g E H a w) (hE : ∀ z, E' z → E z) (h2 : ∀ j, j < 16 → ∀ k, k < 4 → E' (w j k)) : rb_ D g E' H a w := by
  obtain ⟨q0, cell, q1, q2, q3, q4, q5, q6⟩ := h
  exact ⟨fun z => q0 (hE _ z), cell, q1, q2, q3, q4, q5, fun j hj => ⟨(q6 j hj).1, (q6 j hj).2.1, fun z => (q6 j hj).2.2.1 (hE _ z), h2 j hj⟩⟩
/-- more may be written, as long as it is none of what stands fast -/
theorem kc_.ext (h : kc_ D g (KE kq) H kq ts) (h1 : ∀ z, KE kq z → E z) (h2 : ∀ z, E z → KE kq z ∨ CF D kq ts z) : kc_ D g E H kq ts := by
  have no : ∀ p ∈ kobc, ¬ KE kq (kq p.1 p.2) → ¬ E (kq p.1 p.2) := fun p hp hn z => (h2 _ z).elim hn (fun c => c.1 p hp rfl)
  refine ⟨fun x hx => ⟨(h.1 x hx).1, fun z => ?_⟩, fun y hy => ⟨(h.2.1 y hy).1, (h.2.1 y hy).2.1, h1 _ (h.2.1 y hy).2.2⟩, h.2.2.1.ext h1 (no (2, 3) (by decide) h.2.2.1.1) (fun j hj => ?_), h.2.2.2.1.ext h1 (no (2, 4) (by decide) h.2.2.2.1.1) (fun j hj => ?_), fun k hk => ?_⟩
  · obtain ⟨p, hp, e⟩ := kc_ob_ix x hx
    have hn := (h.1 x hx).2
    rw [e] at hn z
    exact no p hp hn z
  · obtain ⟨-, cell, q1, q2, q3, q4, q5, q6⟩ := h.2.2.1
    exact no (16 + j, 99) (kob_16 j hj).1 (q6 j hj).2.2.1
  · obtain ⟨-, cell, q1, q2, q3, q4, q5, q6⟩ := h.2.2.2.1
    exact no (32 + j, 99) (kob_16 j hj).2 (q6 j hj).2.2.1
  · obtain ⟨s1, s2, s3, s4, s5⟩ := h.2.2.2.2 k hk
    exact ⟨fun z => (h2 _ z).elim s1 (fun c => (c.2 k hk).1 rfl), s2, s3, fun z => (h2 _ z).elim s4 (fun c => (c.2 k hk).2 rfl), s5⟩
theorem ke_16 (c : Nat) (h : ∀ k, k < 4 → (c, k) ∈ kc_ix) : ∀ k, k < 4 → KE kq (kq c k) := fun k hk => ⟨(c, k), h k hk, rfl⟩
theorem ix_32 : ∀ j, j < 16 → ∀ k, k < 4 → (32 + j, k) ∈ kc_ix := by decide +kernel
theorem kc_.mv (h : kc_ D g (KE kq) H kq ts) (hJ : sx_J g E H H1) (hE : ∀ z, E z → KE kq z ∨ CF D kq ts z) : kc_ D g (KE kq) H1 kq ts := by
  have h2 := (h.ext (E := fun z => KE kq z ∨ CF D kq ts z) (fun z h => Or.inl h) (fun z h => h)).kept (hJ.mono hE)
  exact ⟨fun x hx => ⟨(h2.1 x hx).1, (h.1 x hx).2⟩, fun y hy => ⟨(h2.2.1 y hy).1, (h2.2.1 y hy).2.1, (h.2.1 y hy).2.2⟩, h2.2.2.1.res (fun z h => Or.inl h) (fun j hj => ke_16 (16 + j) (ix_b j hj)), h2.2.2.2.1.res (fun z h => Or.inl h) (fun j hj => ke_16 (32 + j) (ix_32 j hj)), h2.2.2.2.2.mono (fun z h => Or.inl h)⟩
end KCM
/-- a row, with its room -/
def KR (D : va_G) (g : ClassId → FieldType → Prop) (H : Heap) (ro b n t : Nat) : Prop := va_P D classes [(ro, .inr (9, [.ref b, .int (nI t)]))] H ∧ sx_A g .byte H b n ∧ sx_L H b n ∧ t ≤ n ∧ ∃ i, i ≤ 6 ∧ n = 1024 * 2 ^ i
theorem KR.j {D : va_G} {g : ClassId → FieldType → Prop} {E : Nat → Prop} {H H1 : Heap} {ro b n t : Nat} (h : KR D g H ro b n t) (hJ : sx_J g E H H1) (hE : ¬ E ro) : KR D g H1 ro b n t := ⟨hJ.ob hE h.1, hJ.2.2.1 _ _ _ h.2.1, hJ.2.2.2 _ _ h.2.2.1, h.2.2.2⟩
theorem p2_64 : ∀ i, i ≤ 6 → 1024 ≤ 1024 * 2 ^ i ∧ 1024 * 2 ^ i ≤ 65536 ∧ (1024 * 2 ^ i < 65536 → i + 1 ≤ 6) := by decide +kernel
theorem KR.n {D : va_G} {g : ClassId → FieldType → Prop} {H : Heap} {ro b n t : Nat} (h : KR D g H ro b n t) : 1024 ≤ n ∧ n ≤ 65536 := by
  obtain ⟨-, -, -, -, i, hi, rfl⟩ := h
  exact ⟨(p2_64 i hi).1, (p2_64 i hi).2.1⟩
/-- the keys -/
def KK (D : va_G) (g : ClassId → FieldType → Prop) (H : Heap) (kA : Nat) (ko : Nat → Nat) (q : Nat → Nat → Nat) (rd : Nat → Bool) (kc : Nat) : Prop := ∃ fk : Nat → Value, ka_ D H kA fk ∧ ∀ k, k < kc → fk k = .ref (ko k) ∧ va_P D classes [(ko k, .inr (10, [.ref (q k 0), .ref (q k 1), .ref (q k 2), .ref (q k 3), .int (nI ((rd k).toNat))]))] H ∧ ∀ j, j < 4 → sx_A g .byte H (q k j) 32
theorem KK.j {D : va_G} {g : ClassId → FieldType → Prop} {E : Nat → Prop} {H H1 : Heap} {kA kc : Nat} {ko : Nat → Nat} {q : Nat → Nat → Nat} {rd : Nat → Bool} (h : KK D g H kA ko q rd kc) (hJ : sx_J g E H H1) (h1 : ¬ E kA) (h2 : ∀ k, k < kc → ¬ E (ko k)) : KK D g H1 kA ko q rd kc := by
  obtain ⟨fk, a, b⟩ := h
  exact ⟨fk, a.j hJ h1, fun k hk => ⟨(b k hk).1, hJ.ob (h2 k hk) (b k hk).2.1, fun j hj => hJ.2.2.1 _ _ _ ((b k hk).2.2 j hj)⟩⟩
def rdU (rd : Nat → Bool) (n : Nat) : Nat → Bool := fun k => if k = n then true else rd k
theorem rdU_s (rd : Nat → Bool) (n : Nat) : rdU rd n n = true := if_pos rfl
theorem rdU_n (rd : Nat → Bool) {n k : Nat} (h : k ≠ n) : rdU rd n k = rd k := if_neg h
/-- one key was written, and is ready now -/
theorem KK.j1 {D : va_G} {g : ClassId → FieldType → Prop} {E : Nat → Prop} {H H1 : Heap} {kA kc n : Nat} {ko : Nat → Nat} {q : Nat → Nat → Nat} {rd : Nat → Bool} (h : KK D g H kA ko q rd kc) (hJ : sx_J g E H H1) (h1 : ¬ E kA) (h2 : ∀ k, k < kc → k ≠ n → ¬ E (ko k)) (hn : va_P D classes [(ko n, .inr (10, [.ref (q n 0), .ref (q n 1), .ref (q n 2), .ref (q n 3), .int (nI 1)]))] H1) : KK D g H1 kA ko q (rdU rd n) kc := by
  obtain ⟨fk, a, b⟩ := h
  refine ⟨fk, a.j hJ h1, fun k hk => ⟨(b k hk).1, ?_, fun j hj => hJ.2.2.1 _ _ _ ((b k hk).2.2 j hj)⟩⟩
  by_cases e : k = n
  · subst e
    rw [rdU_s]
    exact hn
  · rw [rdU_n rd e]
    exact hJ.ob (h2 k hk e) (b k hk).2.1
/-- the class's addresses, counted -/
def kad (x kA re ve ta ma bt bm : Nat) (ko : Nat → Nat) (q : Nat → Nat → Nat) : Nat → Nat
  | 0 => x
  | 1 => ta
  | 2 => ma
  | 3 => kA
  | 4 => re
  | 5 => ve
  | 6 => bt
  | 7 => bm
  | n + 8 => if n % 5 = 0 then ko (n / 5) else q (n / 5) (n % 5 - 1)
section KAD
variable {x kA re ve ta ma bt bm : Nat} {ko : Nat → Nat} {q : Nat → Nat → Nat}
theorem kad_o (k : Nat) : kad x kA re ve ta ma bt bm ko q (5 * k + 8) = ko k := by
  show (if 5 * k % 5 = 0 then ko (5 * k / 5) else _) = _
  rw [if_pos (by omega), show 5 * k / 5 = k by omega]
theorem kad_q (k j : Nat) (hj : j < 4) : kad x kA re ve ta ma bt bm ko q (5 * k + j + 1 + 8) = q k j := by
  show (if (5 * k + j + 1) % 5 = 0 then _ else q ((5 * k + j + 1) / 5) ((5 * k + j + 1) % 5 - 1)) = _
  rw [if_neg (by omega), show (5 * k + j + 1) / 5 = k by omega, show (5 * k + j + 1) % 5 - 1 = j by omega]
end KAD
def CZ (a0 a1 a3 z : Nat) : Prop := (a0 ≤ z ∧ z < a1) ∨ a3 ≤ z
def AdO (D : va_G) (kq : Nat → Nat → Nat) (ts : Nat → Nat) (a0 a1 a3 z : Nat) : Prop := CF D kq ts z ∧ Out kq z ∧ z ≠ kq 5 99 ∧ CZ a0 a1 a3 z
/-- all of the addresses are different, and none is an inner one -/
def KAd (D : va_G) (kq : Nat → Nat → Nat) (ts : Nat → Nat) (a0 a1 a3 S : Nat) (f : Nat → Nat) (N : Nat) : Prop := (∀ i j, i < N → j < N → f i = f j → i = j) ∧ ∀ i, i < N → AdO D kq ts a0 a1 a3 (f i) ∧ f i < S
section KAE
variable {D : va_G} {kq : Nat → Nat → Nat} {ts : Nat → Nat} {a0 a1 a3 S N : Nat} {f : Nat → Nat}
theorem KAd.ne (h : KAd D kq ts a0 a1 a3 S f N) {i j : Nat} (hi : i < N) (hj : j < N) (e : i ≠ j) : f i ≠ f j := fun z => e (h.1 i j hi hj z)
theorem KAd.ox (h : KAd D kq ts a0 a1 a3 S f N) {i : Nat} (hi : i < N) : OutX kq ts (f i) := ⟨(h.2 i hi).1.2.1, fun k hk => ((h.2 i hi).1.1.2 k hk).2⟩
theorem KAd.mono (h : KAd D kq ts a0 a1 a3 S f N) {S' : Nat} (hs : S ≤ S') : KAd D kq ts a0 a1 a3 S' f N := ⟨h.1, fun i hi => ⟨(h.2 i hi).1, Nat.lt_of_lt_of_le (h.2 i hi).2 hs⟩⟩
def fO (f : Nat → Nat) (I : List Nat) (z : Nat) : Prop := ∃ i ∈ I, z = f i
theorem KAd.nf (h : KAd D kq ts a0 a1 a3 S f N) {I : List Nat} (hI : ∀ i ∈ I, i < N) {j : Nat} (hj : j < N) (hn : j ∉ I) : ¬ fO f I (f j) := fun ⟨i, hi, e⟩ => hn (by rw [h.1 j i hj (hI i hi) e]; exact hi)
/-- what a method of the class writes: inner arrays, the hash, some of the counted -/
def hE (B : Prop) (kq : Nat → Nat → Nat) (f : Nat → Nat) (I : List Nat) (z : Nat) : Prop := KE kq z ∨ (B ∧ z = kq 5 99) ∨ fO f I z
theorem KAd.ni {B : Prop} (h : KAd D kq ts a0 a1 a3 S f N) {I : List Nat} (hI : ∀ i ∈ I, i < N) {j : Nat} (hj : j < N) (hn : j ∉ I) : ¬ hE B kq f I (f j) := by
  rintro (⟨p, hp, e⟩ | ⟨-, e⟩ | e)
  · exact (h.2 j hj).1.2.1 p hp e
  · exact (h.2 j hj).1.2.2.1 e
  · exact h.nf hI hj hn e
end KAE
/-- the values -/
def Kvl (X : vM) (kq : Nat → Nat → Nat) (ts : Nat → Nat) (re bt bm : Nat) (q : Nat → Nat → Nat) (rd : Nat → Bool) (tl ml rl kc : Nat) (tp ms rs : Nat → Int32) (ks : Nat → Nat → Int32) : Prop := Cx X kq ts ∧ (∀ j, j < tl → X.2 bt j = tp j) ∧ (∀ j, j < ml → X.2 bm j = ms j) ∧ (∀ k, k < kc → ∀ j, j < 32 → X.2 (q k 0) j = ks k j) ∧ (∀ j, j < rl → X.2 re j = rs j) ∧ ∀ k, k < kc → rd k = true → KyR X (q k)
theorem KyR.mv {X Y : vM} {q : Nat → Nat} (h : KyR X q) (e : ∀ j, j < 4 → Y.2 (q j) = X.2 (q j)) : KyR Y q := by
  unfold KyR at h ⊢
  rw [e 0 (by decide), e 1 (by decide), e 2 (by decide), e 3 (by decide)]
  exact h
/-- the class between two calls: what it holds is tl, tp (the tape), ml, ms (the message), rl, rs (the result), kc, ks (the keys' secrets) -/
def KSg (D : va_G) (g : ClassId → FieldType → Prop) (kq : Nat → Nat → Nat) (ts : Nat → Nat) (x kA re ve a0 a1 a3 cap : Nat) (tl ml rl kc : Nat) (tp ms rs : Nat → Int32) (ks : Nat → Nat → Int32) (H : Heap) (ta ma bt nt bm nm : Nat) (ko : Nat → Nat) (q : Nat → Nat → Nat) (rd : Nat → Bool) (sg za : Int32) : Prop :=
  nt + nm = cap ∧ a3 ≤ H.size ∧ va_P D classes [(x, .inr (1, [.ref kA, .ref re, .ref ve, .ref (kq 1 99), .ref (kq 2 99), .ref (kq 7 99), .ref ta, .ref ma, .int (nI kc), .int (nI rl), .int sg, .int za]))] H ∧ KR D g H ta bt nt tl ∧ KR D g H ma bm nm ml ∧ KK D g H kA ko q rd kc ∧ sx_A g .byte H re 64 ∧ sx_A g .int H ve 4 ∧ kc_ D g (KE kq) H kq ts ∧ ho_ D kq H ∧ KAd D kq ts a0 a1 a3 H.size (kad x kA re ve ta ma bt bm ko q) (5 * kc + 8) ∧ Kvl (mm g H) kq ts re bt bm q rd tl ml rl kc tp ms rs ks
def KS (D : va_G) (g : ClassId → FieldType → Prop) (kq : Nat → Nat → Nat) (ts : Nat → Nat) (x kA re ve a0 a1 a3 cap : Nat) (tl ml rl kc : Nat) (tp ms rs : Nat → Int32) (ks : Nat → Nat → Int32) (H : Heap) : Prop :=
  ∃ (ta ma bt nt bm nm : Nat) (ko : Nat → Nat) (q : Nat → Nat → Nat) (rd : Nat → Bool) (sg za : Int32), KSg D g kq ts x kA re ve a0 a1 a3 cap tl ml rl kc tp ms rs ks H ta ma bt nt bm nm ko q rd sg za
/-- what holds of the bytes and the lengths -/
def Aok (tl ml rl kc : Nat) (tp ms rs : Nat → Int32) (ks : Nat → Nat → Int32) : Prop := tl ≤ 65536 ∧ ml ≤ 65536 ∧ rl ≤ 64 ∧ kc ≤ 100 ∧ (∀ j, j < tl → isB (tp j)) ∧ (∀ j, j < ml → isB (ms j)) ∧ (∀ j, j < rl → isB (rs j)) ∧ ∀ k, k < kc → ∀ j, j < 32 → isB (ks k j)
/-- the inner addresses: where they lie -/
def KC0 (D : va_G) (kq : Nat → Nat → Nat) (ts : Nat → Nat) (a0 a1 a3 : Nat) : Prop := KInj kq ∧ (∀ p ∈ kc_ix ++ ((5, 99) :: kobc), a0 ≤ kq p.1 p.2 ∧ kq p.1 p.2 < a1) ∧ (∀ k, k < 9 → D.2 (st_i k) 0 < a0 ∧ ts k < a0) ∧ a1 ≤ a3 ∧ ∀ p ∈ kc_ix ++ kobc, kq 5 99 ≠ kq p.1 p.2
section KSM
variable {D : va_G} {g : ClassId → FieldType → Prop} {E : Nat → Prop} {kq : Nat → Nat → Nat} {ts : Nat → Nat} {x kA re ve a0 a1 a3 cap : Nat} {tl ml rl kc : Nat} {tp ms rs : Nat → Int32} {ks : Nat → Nat → Int32} {H H1 : Heap}
theorem KC0.ke (h : KC0 D kq ts a0 a1 a3) {z : Nat} (hz : KE kq z) : CZ a0 a1 a3 z := by
  obtain ⟨p, hp, rfl⟩ := hz
  exact Or.inl (h.2.1 p (List.mem_append_left _ hp))
theorem KC0.h5 (h : KC0 D kq ts a0 a1 a3) : CZ a0 a1 a3 (kq 5 99) := Or.inl (h.2.1 (5, 99) (List.mem_append_right _ List.mem_cons_self))
theorem KC0.c5 (h : KC0 D kq ts a0 a1 a3) : CF D kq ts (kq 5 99) := ⟨fun p hp => h.2.2.2.2 p (List.mem_append_right _ hp), fun k hk => by
  have h1 : a0 ≤ kq 5 99 := (h.2.1 (5, 99) (List.mem_append_right _ List.mem_cons_self)).1
  have h2 := h.2.2.1 k hk
  exact ⟨by omega, by omega⟩⟩
/-- a new address is none of the inner ones -/
theorem KC0.new (h : KC0 D kq ts a0 a1 a3) {z : Nat} (hz : a3 ≤ z) : AdO D kq ts a0 a1 a3 z := by
  have h3 := h.2.2.2.1
  have i : ∀ p ∈ kc_ix ++ ((5, 99) :: kobc), z ≠ kq p.1 p.2 := fun p hp e => by
    have := (h.2.1 p hp).2
    omega
  have s0 : a0 ≤ kq 5 99 ∧ kq 5 99 < a1 := h.2.1 (5, 99) (List.mem_append_right _ List.mem_cons_self)
  exact ⟨⟨fun p hp => i p (List.mem_append_right _ (List.mem_cons_of_mem _ hp)), fun k hk => by
    have h2 := h.2.2.1 k hk
    exact ⟨by omega, by omega⟩⟩, fun p hp => i p (List.mem_append_left _ hp), i (5, 99) (List.mem_append_right _ List.mem_cons_self), Or.inr hz⟩
theorem sx_J.on (hJ : sx_J g E H H1) : onP (fun z => E z ∨ H.size ≤ z) (mm g H) (mm g H1) := fun b hb => by
  have e := hJ.2.1 b (Nat.not_le.mp (fun z => hb (Or.inr z))) (fun z => hb (Or.inl z))
  exact ⟨funext fun k => mml_same e k, funext fun k => mmi_same e k⟩
theorem Cx.mv {X Y : vM} (h : Cx X kq ts) (e1 : ∀ k, k < 9 → Y.1 (ts k) = X.1 (ts k)) (e2 : ∀ p ∈ kc_ix, Y.1 (kq p.1 p.2) = X.1 (kq p.1 p.2) ∧ Y.2 (kq p.1 p.2) = X.2 (kq p.1 p.2)) : Cx Y kq ts := by
  obtain ⟨h1, h2, h3, h4, h5, h6, h7⟩ := h
  refine ⟨h1, h2.mv (e1 3 (by decide)), h3.mv (e1 4 (by decide)), fun j hj => by rw [e1 6 (by decide)]; exact h4 j hj, fun j hj => by rw [(e2 (2, 5) (by decide)).2]; exact h5 j hj, fun j j1 j2 => ?_, by rw [(e2 (1, 2) (by decide)).2]; exact h7⟩
  have ck : ∀ k, k < 4 → Y.1 (kq (16 + j) k) = X.1 (kq (16 + j) k) := fun k hk => (e2 (16 + j, k) (ix_b j j2 k hk)).1
  obtain ⟨l, m, k, dd, w, q0, q1, q2, q3, q4⟩ := h6 j j1 j2
  exact ⟨l, m, k, dd, w, q0.mv (ck 0 (by decide)), q1.mv (ck 1 (by decide)), q2.mv (ck 2 (by decide)), q3.mv (ck 3 (by decide)), q4⟩
theorem Kvl.mv {X Y : vM} {bt bm ta ma : Nat} {ko : Nat → Nat} {q : Nat → Nat → Nat} {rd : Nat → Bool} (h : Kvl X kq ts re bt bm q rd tl ml rl kc tp ms rs ks) (c : Cx Y kq ts) (e : ∀ i, i < 5 * kc + 8 → Y.2 (kad x kA re ve ta ma bt bm ko q i) = X.2 (kad x kA re ve ta ma bt bm ko q i)) : Kvl Y kq ts re bt bm q rd tl ml rl kc tp ms rs ks := by
  obtain ⟨-, v2, v3, v4, v5, v6⟩ := h
  have e4 : Y.2 re = X.2 re := e 4 (by omega)
  have e6 : Y.2 bt = X.2 bt := e 6 (by omega)
  have e7 : Y.2 bm = X.2 bm := e 7 (by omega)
  have eq : ∀ k, k < kc → ∀ j, j < 4 → Y.2 (q k j) = X.2 (q k j) := fun k hk j hj => by
    have := e (5 * k + j + 1 + 8) (by omega)
    rwa [kad_q k j hj] at this
  exact ⟨c, fun j hj => by rw [e6]; exact v2 j hj, fun j hj => by rw [e7]; exact v3 j hj, fun k hk j hj => by rw [eq k hk 0 (by decide)]; exact v4 k hk j hj, fun j hj => by rw [e4]; exact v5 j hj, fun k hk hr => (v6 k hk hr).mv (eq k hk)⟩
/-- what others write leaves it as it is -/
theorem KS.kept (h : KS D g kq ts x kA re ve a0 a1 a3 cap tl ml rl kc tp ms rs ks H) (hc : KC0 D kq ts a0 a1 a3) (hJ : sx_J g E H H1) (hE : ∀ z, E z → a0 ≤ z ∧ (z < H.size → ¬ CZ a0 a1 a3 z)) : KS D g kq ts x kA re ve a0 a1 a3 cap tl ml rl kc tp ms rs ks H1 := by
  obtain ⟨ta, ma, bt, nt, bm, nm, ko, q, rd, sg, za, hcap, hsz, hX, hT, hM, hK, hr, hv, hC, hO, hA, v⟩ := h
  have ad : ∀ i, i < 5 * kc + 8 → ¬ E (kad x kA re ve ta ma bt bm ko q i) := fun i hi z => (hE _ z).2 (hA.2 i hi).2 (hA.2 i hi).1.2.2.2
  have ado : ∀ k, k < kc → ¬ E (ko k) := fun k hk => by
    have := ad (5 * k + 8) (by omega)
    rwa [kad_o] at this
  have h3 := hc.2.2.2.1
  have inn : ∀ p ∈ kc_ix ++ ((5, 99) :: kobc), kq p.1 p.2 < H.size ∧ ¬ E (kq p.1 p.2) := fun p hp => by
    have := hc.2.1 p hp
    exact ⟨by omega, fun z => (hE _ z).2 (by omega) (Or.inl this)⟩
  have st : ∀ k, k < 9 → ¬ E (ts k) ∧ ¬ E (D.2 (st_i k) 0) := fun k hk => by
    have := hc.2.2.1 k hk
    exact ⟨fun z => by have := (hE _ z).1; omega, fun z => by have := (hE _ z).1; omega⟩
  have s0 : a0 ≤ kq 5 99 ∧ kq 5 99 < a1 := hc.2.1 (5, 99) (List.mem_append_right _ List.mem_cons_self)
  refine ⟨ta, ma, bt, nt, bm, nm, ko, q, rd, sg, za, hcap, Nat.le_trans hsz hJ.1, hJ.ob (ad 0 (by omega)) hX, hT.j hJ (ad 1 (by omega)), hM.j hJ (ad 2 (by omega)), hK.j hJ (ad 3 (by omega)) ado, hJ.2.2.1 _ _ _ hr, hJ.2.2.1 _ _ _ hv, hC.mv hJ (fun z hz => Or.inr ⟨fun p hp e => (inn p (List.mem_append_right _ (List.mem_cons_of_mem _ hp))).2 (e ▸ hz), fun k hk => ⟨fun e => (st k hk).2 (e ▸ hz), fun e => (st k hk).1 (e ▸ hz)⟩⟩), ?_, hA.mono hJ.1, v.mv (x := x) (kA := kA) (ve := ve) (ta := ta) (ma := ma) (ko := ko) (v.1.mv (fun k hk => ?_) (fun p hp => ?_)) (fun i hi => ?_)⟩
  · obtain ⟨z1_, z2_, z3_⟩ := hO
    exact ⟨z1_, z2_, hJ.ob (inn (5, 99) (List.mem_append_right _ List.mem_cons_self)).2 z3_⟩
  · exact (hJ.on (ts k) (fun z => z.elim (st k hk).1 (fun z => by have := hc.2.2.1 k hk; omega))).1
  · have := inn p (List.mem_append_left _ hp)
    exact hJ.on (kq p.1 p.2) (fun z => z.elim this.2 (fun z => by omega))
  · exact (hJ.on _ (fun z => z.elim (ad i hi) (fun z => by have := (hA.2 i hi).2; omega))).2
end KSM
