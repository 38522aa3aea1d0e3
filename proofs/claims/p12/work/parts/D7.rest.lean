section KSO
variable {l : Launch} {D : va_G} {g : ClassId → FieldType → Prop} {kq : Nat → Nat → Nat} {ts : Nat → Nat} {x kA re ve ou a0 a1 a3 cap : Nat} {tl ml rl kc : Nat} {tp ms rs : Nat → Int32} {ks : Nat → Nat → Int32} {H H1 : Heap} {w0 : Int64}

/-- five addresses more -/
theorem KAd.more {S S' N : Nat} {f f' : Nat → Nat} (hA : KAd D kq ts a0 a1 a3 S f N) (hs : S ≤ S') (e : ∀ i, i < N → f' i = f i) (h0 : S ≤ f' N) (h1 : ∀ t, t < 4 → f' (N + t) < f' (N + t + 1)) (h4 : f' (N + 4) < S') (hn : ∀ t, t < 5 → AdO D kq ts a0 a1 a3 (f' (N + t))) : KAd D kq ts a0 a1 a3 S' f' (N + 5) := by
  have m0 : f' N < f' (N + 1) := h1 0 (by decide)
  have m1 : f' (N + 1) < f' (N + 2) := h1 1 (by decide)
  have m2 : f' (N + 2) < f' (N + 3) := h1 2 (by decide)
  have m3 : f' (N + 3) < f' (N + 4) := h1 3 (by decide)
  have nw : ∀ t, t < 5 → S ≤ f' (N + t) ∧ f' (N + t) < S' := fun t ht => by
    rcases (show t = 0 ∨ t = 1 ∨ t = 2 ∨ t = 3 ∨ t = 4 by omega) with rfl | rfl | rfl | rfl | rfl
    · rw [Nat.add_zero]
      exact ⟨h0, by omega⟩
    · exact ⟨by omega, by omega⟩
    · exact ⟨by omega, by omega⟩
    · exact ⟨by omega, by omega⟩
    · exact ⟨by omega, by omega⟩
  have mono : ∀ t u, t < u → u < 5 → f' (N + t) < f' (N + u) := fun t u htu hu => by
    rcases (show t = 0 ∨ t = 1 ∨ t = 2 ∨ t = 3 by omega) with rfl | rfl | rfl | rfl <;> rcases (show u = 1 ∨ u = 2 ∨ u = 3 ∨ u = 4 by omega) with rfl | rfl | rfl | rfl <;> first | omega | (simp only [Nat.add_zero]; omega)
  refine ⟨fun i j hi hj h => ?_, fun i hi => ?_⟩
  · by_cases i1 : i < N
    · by_cases j1 : j < N
      · rw [e i i1, e j j1] at h
        exact hA.1 i j i1 j1 h
      · have a := (hA.2 i i1).2
        have b := (nw (j - N) (by omega)).1
        rw [e i i1, show j = N + (j - N) by omega] at h
        omega
    · by_cases j1 : j < N
      · have a := (hA.2 j j1).2
        have b := (nw (i - N) (by omega)).1
        rw [e j j1, show i = N + (i - N) by omega] at h
        omega
      · rcases Nat.lt_trichotomy i j with c | c | c
        · have b := mono (i - N) (j - N) (by omega) (by omega)
          rw [show N + (i - N) = i by omega, show N + (j - N) = j by omega] at b
          omega
        · exact c
        · have b := mono (j - N) (i - N) (by omega) (by omega)
          rw [show N + (i - N) = i by omega, show N + (j - N) = j by omega] at b
          omega
  · by_cases i1 : i < N
    · rw [e i i1]
      exact ⟨(hA.2 i i1).1, Nat.lt_of_lt_of_le (hA.2 i i1).2 hs⟩
    · have a := hn (i - N) (by omega)
      have b := (nw (i - N) (by omega)).2
      rw [show N + (i - N) = i by omega] at a b
      exact ⟨a, b⟩
def upN (f : Nat → Nat) (n v : Nat) : Nat → Nat := fun k => if k = n then v else f k
def upQ (f : Nat → Nat → Nat) (n : Nat) (v : Nat → Nat) : Nat → Nat → Nat := fun k => if k = n then v else f k
def upB (f : Nat → Bool) (n : Nat) : Nat → Bool := fun k => if k = n then false else f k
def upS (f : Nat → Nat → Int32) (n : Nat) (v : Nat → Int32) : Nat → Nat → Int32 := fun k => if k = n then v else f k
theorem kad_up {ta ma bt bm o0 : Nat} {ko q0 : Nat → Nat} {q : Nat → Nat → Nat} : (∀ i, i < 5 * kc + 8 → kad x kA re ve ta ma bt bm (upN ko kc o0) (upQ q kc q0) i = kad x kA re ve ta ma bt bm ko q i) ∧ kad x kA re ve ta ma bt bm (upN ko kc o0) (upQ q kc q0) (5 * kc + 8) = o0 ∧ ∀ j, j < 4 → kad x kA re ve ta ma bt bm (upN ko kc o0) (upQ q kc q0) (5 * kc + 8 + (j + 1)) = q0 j := by
  refine ⟨fun i hi => ?_, ?_, fun j hj => ?_⟩
  · match i, hi with
    | 0, _ => rfl
    | 1, _ => rfl
    | 2, _ => rfl
    | 3, _ => rfl
    | 4, _ => rfl
    | 5, _ => rfl
    | 6, _ => rfl
    | 7, _ => rfl
    | n + 8, hi =>
      have e : n / 5 ≠ kc := by omega
      show (if n % 5 = 0 then upN ko kc o0 (n / 5) else upQ q kc q0 (n / 5) (n % 5 - 1)) = (if n % 5 = 0 then ko (n / 5) else q (n / 5) (n % 5 - 1))
      unfold upN upQ
      rw [if_neg e, if_neg e]
  · rw [kad_o]
    exact if_pos rfl
  · rw [show 5 * kc + 8 + (j + 1) = 5 * kc + j + 1 + 8 by omega, kad_q kc j hj]
    unfold upQ
    rw [if_pos rfl]
theorem s_end_a (hS : KS D g kq ts x kA re ve a0 a1 a3 cap tl ml rl kc tp ms rs ks H) (hc : KC0 D kq ts a0 a1 a3) (ok : Aok tl ml rl kc tp ms rs ks) (hou : lo_ g H ou w0) (no : ¬ CZ a0 a1 a3 ou) (ao : a0 ≤ ou) {n : Nat} (hw : n ≤ tl) : CStep l D g y_L_end b_L_end 4 hh_L_end [.ref x, .int (nI n), .ref ou] H ou a0 a1 a3 0 cap (fun c H1 => KS D g kq ts x kA re ve a0 a1 a3 c n ml rl kc tp ms rs ks H1 ∧ lo_ g H1 ou (nI n).toInt64) := by
  obtain ⟨ta, ma, bt, nt, bm, nm, ko, q, rd, sg, za, hg⟩ := hS
  have hg0 := hg
  obtain ⟨hcap, hsz, hX, hT, hM, hK, hr, hv, hC, hO, hA, v⟩ := hg
  obtain ⟨v1, v2, v3, v4, v5, v6⟩ := id v
  obtain ⟨fk, hka, hkk⟩ := id hK
  have hI : ∀ i ∈ ([1] : List Nat), i < 5 * kc + 8 := by
    intro i hi
    simp only [List.mem_cons, List.not_mem_nil, or_false] at hi
    omega
  have cz : ∀ z, z = ta → CZ a0 a1 a3 z := fun z h => ks_lz hg0 hI z (Or.inl ⟨1, by simp, h⟩)
  have hm := v_K_end (l := l) (X := mm g H) (v0 := n) hX hT.1 hM.1 (hA.ne (i := 0) (j := 1) (by omega) (by omega) (by decide)) (hA.ne (i := 0) (j := 2) (by omega) (by omega) (by decide)) (hA.ne (i := 1) (j := 2) (by omega) (by omega) (by decide)) hw ok.1 rfl
  refine ⟨_, _, _, _, 0, 0, cap, ?_, ?_, by omega, by omega, h_end hm hX hou (fun z => no (cz _ z)), fun z h => h.elim (fun h => Or.inl (cz z h)) Or.inr, fun H2 hP hJ2 => ?_⟩
  · exact Nat.le_of_ble_eq_true rfl
  · exact Nat.le_of_ble_eq_true rfl
  obtain ⟨hlo, H1, ⟨hV1, hT1⟩, hJ0, hJo⟩ := hP
  have hJ : sx_J g (lE (kad x kA re ve ta ma bt bm ko q) [1] H.size) H H1 := hJ0.mono (fun z h => Or.inl ⟨1, by simp, h⟩)
  obtain ⟨c1, cO, c2, c3, c4⟩ := ks_lt hg0 hc hI hJ
  have c4o : ∀ n, n < kc → ¬ lE (kad x kA re ve ta ma bt bm ko q) [1] H.size (ko n) := fun n hn => by
    have := c4 (5 * n + 8) (by omega) (by simp only [List.mem_cons, List.not_mem_nil, or_false]; omega)
    rwa [kad_o] at this
  have hS1 : KS D g kq ts x kA re ve a0 a1 a3 cap n ml rl kc tp ms rs ks H1 := ⟨ta, ma, bt, nt, bm, nm, ko, q, rd, sg, za, hcap, Nat.le_trans hsz hJ.1, hJ.ob (c4 0 (by omega) (by simp)) hX, ⟨hT1, hJ.2.2.1 _ _ _ hT.2.1, hJ.2.2.2 _ _ hT.2.2.1, Nat.le_trans hw hT.2.2.2.1, hT.2.2.2.2⟩, hM.j hJ (c4 2 (by omega) (by simp)), hK.j hJ (c4 3 (by omega) (by simp)) c4o, hJ.2.2.1 _ _ _ hr, hJ.2.2.1 _ _ _ hv, c1, cO, hA.mono hJ.1, by rw [hV1]; exact ⟨v1, fun j hj => v2 j (Nat.lt_of_lt_of_le hj hw), v3, v4, v5, v6⟩⟩
  exact ⟨hS1.kept hc hJo (fun z h => by rw [h]; exact ⟨ao, fun _ => no⟩), hlo⟩
theorem s_result_a (hS : KS D g kq ts x kA re ve a0 a1 a3 cap tl ml rl kc tp ms rs ks H) (hc : KC0 D kq ts a0 a1 a3) (ok : Aok tl ml rl kc tp ms rs ks) (hou : lo_ g H ou w0) (no : ¬ CZ a0 a1 a3 ou) (ao : a0 ≤ ou) {n : Nat} (hw : n < rl) : CStep l D g y_L_result b_L_result 4 hh_L_result [.ref x, .int (nI n), .ref ou] H ou a0 a1 a3 0 cap (fun c H1 => KS D g kq ts x kA re ve a0 a1 a3 c tl ml rl kc tp ms rs ks H1 ∧ lo_ g H1 ou ((rs n) &&& (nI 255)).toInt64) := by
  have hS0 := hS
  obtain ⟨ta, ma, bt, nt, bm, nm, ko, q, rd, sg, za, hg⟩ := hS
  have hg0 := hg
  obtain ⟨hcap, hsz, hX, hT, hM, hK, hr, hv, hC, hO, hA, v⟩ := hg
  obtain ⟨v1, v2, v3, v4, v5, v6⟩ := id v
  obtain ⟨fk, hka, hkk⟩ := id hK
  have hm := v_K_result (l := l) (X := mm g H) (v0 := n) hX hT.1 hM.1 hr hw ok.2.2.1 rfl
  rw [v5 n hw] at hm
  refine ⟨_, _, _, _, 0, 0, cap, ?_, ?_, by omega, by omega, h_result hm hX hou id, fun z h => h.elim (fun h => h.elim) Or.inr, fun H2 hP hJ2 => ?_⟩
  · exact Nat.le_of_ble_eq_true rfl
  · exact Nat.le_of_ble_eq_true rfl
  obtain ⟨hlo, H1, hP, hJ, hJo⟩ := hP
  exact ⟨(hS0.kept hc hJ (fun z h => h.elim)).kept hc hJo (fun z h => by rw [h]; exact ⟨ao, fun _ => no⟩), hlo⟩
theorem s_message (hS : KS D g kq ts x kA re ve a0 a1 a3 cap tl ml rl kc tp ms rs ks H) (hc : KC0 D kq ts a0 a1 a3)   : DStep l D g y_K_message b_K_message 2 (some .int) [.ref x] H (nI tl) (CZ a0 a1 a3) (fun H1 => KS D g kq ts x kA re ve a0 a1 a3 cap 0 tl rl kc tp tp rs ks H1) := by
  obtain ⟨ta, ma, bt, nt, bm, nm, ko, q, rd, sg, za, hg⟩ := hS
  have hg0 := hg
  obtain ⟨hcap, hsz, hX, hT, hM, hK, hr, hv, hC, hO, hA, v⟩ := hg
  obtain ⟨v1, v2, v3, v4, v5, v6⟩ := id v
  obtain ⟨fk, hka, hkk⟩ := id hK
  have hI : ∀ i ∈ ([0, 2] : List Nat), i < 5 * kc + 8 := by
    intro i hi
    simp only [List.mem_cons, List.not_mem_nil, or_false] at hi
    omega
  have l1 : ∀ z, (z = x ∨ z = ma) → lE (kad x kA re ve ta ma bt bm ko q) [0, 2] H.size z := fun z h => by
    rcases h with h | h
    · exact Or.inl ⟨0, by simp, h⟩
    · exact Or.inl ⟨2, by simp, h⟩
  have hm := v_K_message (l := l) (X := mm g H) hX hT.1 hM.1 (hA.ne (i := 0) (j := 1) (by omega) (by omega) (by decide)) (hA.ne (i := 0) (j := 2) (by omega) (by omega) (by decide)) (hA.ne (i := 1) (j := 2) (by omega) (by omega) (by decide)) rfl
  refine ⟨_, _, _, _, ?_, ?_, hm, fun z h => ks_lz hg0 hI z (l1 z h), fun H1 hP hJ0 => ?_⟩
  · exact Nat.le_of_ble_eq_true rfl
  · exact Nat.le_of_ble_eq_true rfl
  obtain ⟨hV1, hX1, hT1, hM1⟩ := hP
  have hJ : sx_J g (lE (kad x kA re ve ta ma bt bm ko q) [0, 2] H.size) H H1 := hJ0.mono l1
  obtain ⟨c1, cO, c2, c3, c4⟩ := ks_lt hg0 hc hI hJ
  have c4o : ∀ n, n < kc → ¬ lE (kad x kA re ve ta ma bt bm ko q) [0, 2] H.size (ko n) := fun n hn => by
    have := c4 (5 * n + 8) (by omega) (by simp only [List.mem_cons, List.not_mem_nil, or_false]; omega)
    rwa [kad_o] at this
  refine ⟨ma, ta, bm, nm, bt, nt, ko, q, rd, sg, za, by omega, Nat.le_trans hsz hJ.1, hX1, ⟨hM1, hJ.2.2.1 _ _ _ hM.2.1, hJ.2.2.2 _ _ hM.2.2.1, Nat.zero_le _, hM.2.2.2.2⟩, ⟨hT1, hJ.2.2.1 _ _ _ hT.2.1, hJ.2.2.2 _ _ hT.2.2.1, hT.2.2.2⟩, hK.j hJ (c4 3 (by omega) (by simp)) c4o, hJ.2.2.1 _ _ _ hr, hJ.2.2.1 _ _ _ hv, c1, cO, ?_, by rw [hV1]; exact ⟨v1, fun j hj => absurd hj (Nat.not_lt_zero j), v2, v4, v5, v6⟩⟩
  -- the addresses change places
  have s : ∃ σ : Nat → Nat, (∀ i, kad x kA re ve ma ta bm bt ko q i = kad x kA re ve ta ma bt bm ko q (σ i)) ∧ (∀ i, σ (σ i) = i) ∧ ∀ i, i < 5 * kc + 8 → σ i < 5 * kc + 8 := by
    refine ⟨fun i => if i = 1 then 2 else if i = 2 then 1 else if i = 6 then 7 else if i = 7 then 6 else i, fun i => ?_, fun i => ?_, fun i hi => ?_⟩
    · match i with
      | 0 => rfl
      | 1 => rfl
      | 2 => rfl
      | 3 => rfl
      | 4 => rfl
      | 5 => rfl
      | 6 => rfl
      | 7 => rfl
      | n + 8 =>
        simp only []
        rw [if_neg (by omega), if_neg (by omega), if_neg (by omega), if_neg (by omega)]
        rfl
    · simp only []
      repeat' split
      all_goals omega
    · simp only []
      repeat' split
      all_goals omega
  obtain ⟨σ, s1, s2, s3⟩ := s
  refine ⟨fun i j hi hj h => ?_, fun i hi => ?_⟩
  · rw [s1, s1] at h
    have := hA.1 _ _ (s3 i hi) (s3 j hj) h
    rw [← s2 i, ← s2 j, this]
  · rw [s1]
    exact ⟨(hA.2 _ (s3 i hi)).1, Nat.lt_of_lt_of_le (hA.2 _ (s3 i hi)).2 hJ.1⟩
theorem s_count (hS : KS D g kq ts x kA re ve a0 a1 a3 cap tl ml rl kc tp ms rs ks H) (hc : KC0 D kq ts a0 a1 a3)   (u : Int32) : ∃ V, DStep l D g y_K_count b_K_count 2 (some .int) [.ref x, .int u] H V (CZ a0 a1 a3) (fun H1 => KS D g kq ts x kA re ve a0 a1 a3 cap tl ml rl kc tp ms rs ks H1) := by
  have hS0 := hS
  obtain ⟨ta, ma, bt, nt, bm, nm, ko, q, rd, sg, za, hg⟩ := hS
  have hg0 := hg
  obtain ⟨hcap, hsz, hX, hT, hM, hK, hr, hv, hC, hO, hA, v⟩ := hg
  obtain ⟨v1, v2, v3, v4, v5, v6⟩ := id v
  obtain ⟨fk, hka, hkk⟩ := id hK
  have go : ∀ {V : Int32} {P : Heap → Prop}, Met l y_K_count (.code y_K_count b_K_count 2 (some .int) :: G_) { frames := 0, cells := 0, slots := 0, locals := 0 } (sx_Pc [.ref x, .int u] H D g) (px_Q g (fun _ => False) H V P) 0 0 (fun _ => False) → ∃ V, DStep l D g y_K_count b_K_count 2 (some .int) [.ref x, .int u] H V (CZ a0 a1 a3) (fun H1 => KS D g kq ts x kA re ve a0 a1 a3 cap tl ml rl kc tp ms rs ks H1) := fun {V P} h => ⟨V, _, P, 0, 0, by decide, by decide, h, fun z h => h.elim, fun H1 _ hJ => hS0.kept hc hJ (fun z h => h.elim)⟩
  by_cases hw : u.toInt < 0 ∨ 9 < u.toInt
  · exact go (v_K_count_x (X := mm g H) hX hT.1 hM.1 hw rfl)
  · have hu : ∃ n : Nat, n < 10 ∧ u = nI n := ⟨u.toInt.toNat, by omega, Int32.toInt_inj.mp (by rw [nI_toInt (by omega)]; omega)⟩
    obtain ⟨n, hn, rfl⟩ := hu
    rcases (show n = 0 ∨ n = 1 ∨ n = 2 ∨ n = 3 ∨ n = 4 ∨ n = 5 ∨ n = 6 ∨ n = 7 ∨ n = 8 ∨ n = 9 by omega) with rfl | rfl | rfl | rfl | rfl | rfl | rfl | rfl | rfl | rfl
    · exact go (v_K_count_0 (X := mm g H) hX hT.1 hM.1 rfl)
    · exact go (v_K_count_1 (X := mm g H) hX hT.1 hM.1 rfl)
    · exact go (v_K_count_2 (X := mm g H) hX hT.1 hM.1 rfl)
    · exact go (v_K_count_3 (X := mm g H) hX hT.1 hM.1 rfl)
    · exact go (v_K_count_4 (X := mm g H) hX hT.1 hM.1 rfl)
    · exact go (v_K_count_5 (X := mm g H) hX hT.1 hM.1 hv rfl)
    · exact go (v_K_count_6 (X := mm g H) hX hT.1 hM.1 hv rfl)
    · exact go (v_K_count_7 (X := mm g H) hX hT.1 hM.1 hv rfl)
    · exact go (v_K_count_8 (X := mm g H) hX hT.1 hM.1 hv rfl)
    · exact go (v_K_count_9 (X := mm g H) hX hT.1 hM.1 rfl)
theorem s_key_a (hS : KS D g kq ts x kA re ve a0 a1 a3 cap tl ml rl kc tp ms rs ks H) (hc : KC0 D kq ts a0 a1 a3) (ok : Aok tl ml rl kc tp ms rs ks) (hou : lo_ g H ou w0) (no : ¬ CZ a0 a1 a3 ou) (ao : a0 ≤ ou) (ht : tl = 32) (hw : kc < 100) : CStep l D g y_L_key b_L_key 3 hh_L_key [.ref x, .ref ou] H ou a0 a1 a3 0 cap (fun c H1 => KS D g kq ts x kA re ve a0 a1 a3 c 0 ml rl (kc + 1) tp ms rs (upS ks kc tp) H1 ∧ lo_ g H1 ou (nI kc).toInt64) := by
  obtain ⟨ta, ma, bt, nt, bm, nm, ko, q, rd, sg, za, hg⟩ := hS
  have hg0 := hg
  obtain ⟨hcap, hsz, hX, hT, hM, hK, hr, hv, hC, hO, hA, v⟩ := hg
  obtain ⟨v1, v2, v3, v4, v5, v6⟩ := id v
  obtain ⟨fk, hka, hkk⟩ := id hK
  subst ht
  have hI : ∀ i ∈ ([0, 1, 3] : List Nat), i < 5 * kc + 8 := by
    intro i hi
    simp only [List.mem_cons, List.not_mem_nil, or_false] at hi
    omega
  have l1 : ∀ z, (z = x ∨ z = ta ∨ z = kA ∨ H.size ≤ z) → lE (kad x kA re ve ta ma bt bm ko q) [0, 1, 3] H.size z := fun z h => by
    rcases h with h | h | h | h
    · exact Or.inl ⟨0, by simp, h⟩
    · exact Or.inl ⟨1, by simp, h⟩
    · exact Or.inl ⟨3, by simp, h⟩
    · exact Or.inr h
  have cz : ∀ z, (z = x ∨ z = ta ∨ z = kA ∨ H.size ≤ z) → CZ a0 a1 a3 z := fun z h => ks_lz hg0 hI z (l1 z h)
  have hm := v_K_key (l := l) (X := mm g H) hX hT.1 hka (hA.ne (i := 0) (j := 1) (by omega) (by omega) (by decide)) (hA.ne (i := 0) (j := 3) (by omega) (by omega) (by decide)) (hA.ne (i := 1) (j := 3) (by omega) (by omega) (by decide)) hT.2.1 ⟨by have := hT.n; omega, hT.n.2⟩ hw rfl
  refine ⟨_, _, _, _, 5, 133, cap, ?_, ?_, by omega, by omega, h_key hm hX hou (fun z => no (cz _ z)), fun z h => h.elim (fun h => Or.inl (cz z h)) Or.inr, fun H2 hP hJ2 => ?_⟩
  · exact Nat.le_of_ble_eq_true rfl
  · exact Nat.le_of_ble_eq_true rfl
  obtain ⟨hlo, H1, ⟨o0, q0, z0, hO0, hka1, hX1, hT1, hq0, m0, m1, m2, hV1⟩, hJ0, hJo⟩ := hP
  have hJ : sx_J g (lE (kad x kA re ve ta ma bt bm ko q) [0, 1, 3] H.size) H H1 := hJ0.mono l1
  obtain ⟨c1, cO, c2, c3, c4⟩ := ks_lt hg0 hc hI hJ
  have c4o : ∀ n, n < kc → ¬ lE (kad x kA re ve ta ma bt bm ko q) [0, 1, 3] H.size (ko n) := fun n hn => by
    have := c4 (5 * n + 8) (by omega) (by simp only [List.mem_cons, List.not_mem_nil, or_false]; omega)
    rwa [kad_o] at this
  have cq : ∀ n, n < kc → ∀ j, j < 4 → (mm g H1).2 (q n j) = (mm g H).2 (q n j) := fun n hn j hj => by
    have := c3 (5 * n + j + 1 + 8) (by omega) (by simp only [List.mem_cons, List.not_mem_nil, or_false]; omega)
    rwa [kad_q n j hj] at this
  have e0 : ∀ n, n < kc → upN ko kc o0 n = ko n ∧ upQ q kc q0 n = q n ∧ upB rd kc n = rd n ∧ upS ks kc tp n = ks n := fun n hn => ⟨if_neg (by omega), if_neg (by omega), if_neg (by omega), if_neg (by omega)⟩
  have e1 : upN ko kc o0 kc = o0 ∧ upQ q kc q0 kc = q0 ∧ upB rd kc kc = false ∧ upS ks kc tp kc = tp := ⟨if_pos rfl, if_pos rfl, if_pos rfl, if_pos rfl⟩
  have ka := kad_up (x := x) (kA := kA) (re := re) (ve := ve) (kc := kc) (ta := ta) (ma := ma) (bt := bt) (bm := bm) (o0 := o0) (ko := ko) (q0 := q0) (q := q)
  have hAd : KAd D kq ts a0 a1 a3 H1.size (kad x kA re ve ta ma bt bm (upN ko kc o0) (upQ q kc q0)) (5 * kc + 8 + 5) := by
    have q00 := hq0 0 (by decide)
    have q03 := hq0 3 (by decide)
    refine hA.more hJ.1 ka.1 (by rw [ka.2.1]; exact z0) (fun t ht => ?_) (by rw [ka.2.2 3 (by decide)]; exact q03.2.2.2) (fun t ht => hc.new ?_)
    · rcases (show t = 0 ∨ t = 1 ∨ t = 2 ∨ t = 3 by omega) with rfl | rfl | rfl | rfl
      · rw [Nat.add_zero, ka.2.1, ka.2.2 0 (by decide)]
        exact q00.2.2.1
      · rw [ka.2.2 0 (by decide), show 5 * kc + 8 + 1 + 1 = 5 * kc + 8 + (1 + 1) by omega, ka.2.2 1 (by decide)]
        exact m0
      · rw [ka.2.2 1 (by decide), show 5 * kc + 8 + 2 + 1 = 5 * kc + 8 + (2 + 1) by omega, ka.2.2 2 (by decide)]
        exact m1
      · rw [ka.2.2 2 (by decide), show 5 * kc + 8 + 3 + 1 = 5 * kc + 8 + (3 + 1) by omega, ka.2.2 3 (by decide)]
        exact m2
    · by_cases ht0 : t = 0
      · rw [ht0, Nat.add_zero, ka.2.1]
        omega
      · rw [show 5 * kc + 8 + t = 5 * kc + 8 + ((t - 1) + 1) by omega, ka.2.2 (t - 1) (by omega)]
        have := (hq0 (t - 1) (by omega)).2.2.1
        omega
  have hK1 : KK D g H1 kA (upN ko kc o0) (upQ q kc q0) (upB rd kc) (kc + 1) := by
    refine ⟨_, hka1, fun k hk => ?_⟩
    by_cases e : k = kc
    · subst e
      rw [e1.1, e1.2.1, e1.2.2.1]
      exact ⟨if_pos rfl, hO0, fun j hj => (hq0 j hj).1⟩
    · obtain ⟨f1, f2, f3, -⟩ := e0 k (by omega)
      rw [f1, f2, f3]
      obtain ⟨g1, g2, g3⟩ := hkk k (by omega)
      exact ⟨(if_neg e).trans g1, hJ.ob (c4o k (by omega)) g2, fun j hj => hJ.2.2.1 _ _ _ (g3 j hj)⟩
  have hS1 : KS D g kq ts x kA re ve a0 a1 a3 cap 0 ml rl (kc + 1) tp ms rs (upS ks kc tp) H1 := by
    refine ⟨ta, ma, bt, nt, bm, nm, upN ko kc o0, upQ q kc q0, upB rd kc, sg, za, hcap, Nat.le_trans hsz hJ.1, hX1, ⟨hT1, hJ.2.2.1 _ _ _ hT.2.1, hJ.2.2.2 _ _ hT.2.2.1, Nat.zero_le _, hT.2.2.2.2⟩, hM.j hJ (c4 2 (by omega) (by simp)), hK1, hJ.2.2.1 _ _ _ hr, hJ.2.2.1 _ _ _ hv, c1, cO, by rw [show 5 * (kc + 1) + 8 = 5 * kc + 8 + 5 by omega]; exact hAd, c2, fun j hj => absurd hj (Nat.not_lt_zero j), fun j hj => by rw [show (mm g H1).2 bm = (mm g H).2 bm from c3 7 (by omega) (by simp)]; exact v3 j hj, fun k hk j hj => ?_, fun j hj => by rw [show (mm g H1).2 re = (mm g H).2 re from c3 4 (by omega) (by simp)]; exact v5 j hj, fun k hk hr1 => ?_⟩
    · by_cases e : k = kc
      · subst e
        rw [e1.2.1, e1.2.2.2, hV1, cp_at _ _ _ _ _ hj, Nat.zero_add]
        exact v2 j hj
      · obtain ⟨-, f2, -, f4⟩ := e0 k (by omega)
        rw [f2, f4, cq k (by omega) 0 (by decide)]
        exact v4 k (by omega) j hj
    · by_cases e : k = kc
      · subst e
        rw [e1.2.2.1] at hr1
        cases hr1
      · obtain ⟨-, f2, f3, -⟩ := e0 k (by omega)
        rw [f3] at hr1
        rw [f2]
        exact (v6 k (by omega) hr1).mv (cq k (by omega))
  exact ⟨hS1.kept hc hJo (fun z h => by rw [h]; exact ⟨ao, fun _ => no⟩), hlo⟩
end KSO
