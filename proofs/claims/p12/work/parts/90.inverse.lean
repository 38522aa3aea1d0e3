/-! the reference's inverse -/
theorem mR.on {X Y : vM} {to : Nat} {N : Int} (h : mR X Y to N) {S : List Nat} (hs : to ∈ S) : onL S X Y := by
  obtain ⟨⟨t, rfl⟩, -⟩ := h
  exact ⟨rfl, fun b hb => funext fun k => svL_ne X to 16 t (fun z => hb (by rw [z]; exact hs)) k⟩
theorem sv_on (X : vM) (a n : Nat) (t : Nat → Int64) {S : List Nat} (hs : a ∈ S) : onL S X (svL X a n t) := ⟨rfl, fun b hb => funext fun k => svL_ne X a n t (fun z => hb (by rw [z]; exact hs)) k⟩
theorem st_on (X : vM) (a j : Nat) (v : Int64) {S : List Nat} (hs : a ∈ S) : onL S X (stL X a j v) := ⟨rfl, fun b hb => funext fun k => if_neg (fun z => hb (by rw [z.1]; exact hs))⟩
theorem M16.on {S : List Nat} {X Y : vM} {b : Nat} {N : Int} (h : onL S X Y) (hb : b ∉ S) (k : M16 X b N) : M16 Y b N := ⟨k.1, fun i hi => (congrFun (h.2 b hb) i).trans (k.2 i hi)⟩
theorem M17.on {S : List Nat} {X Y : vM} {b : Nat} {N : Int} (h : onL S X Y) (hb : b ∉ S) (k : M17 X b N) : M17 Y b N := ⟨k.1.on h hb, (congrFun (h.2 b hb) 16).trans k.2⟩
theorem mR.m17 {X Y : vM} {to : Nat} {N : Int} (h : mR X Y to N) (h0 : X.1 to 16 = 0) : M17 Y to N := by
  obtain ⟨⟨t, rfl⟩, h2⟩ := h
  exact ⟨h2, (if_neg (fun z => by omega)).trans h0⟩
theorem M16.st {X : vM} {a b : Nat} {N : Int} {v : Int64} (h : M16 X a N) : M16 (stL X b 16 v) a N := ⟨h.1, fun i hi => (if_neg (fun z => by omega)).trans (h.2 i hi)⟩
theorem hf_c {M A w u c m : Int} (hM : M = 2 * m + 1) (h : A * (2 * w) - 2 * u = M * c) : A * w - u = M * ((A * w - u) - m * c) := by
  subst hM
  grind
theorem hf_o {M A w u c x : Int} (hx : x = 2 * w - M) (h : A * x - 2 * u = M * c) : A * (2 * w) - 2 * u = M * (c + A) := by
  subst hx
  grind
theorem hf_ok {M A x U : Int} (hM : M % 2 = 1) (hx : 0 ≤ x ∧ x < M) (hU : U % 2 = 0) (h : ∃ c, A * x - U = M * c) : (0 ≤ hfM x M ∧ hfM x M < M) ∧ ∃ c, A * hfM x M - U / 2 = M * c := by
  obtain ⟨c, hc⟩ := h
  obtain ⟨u, rfl⟩ : ∃ u, U = 2 * u := ⟨U / 2, by omega⟩
  obtain ⟨m, hm⟩ : ∃ m, M = 2 * m + 1 := ⟨M / 2, by omega⟩
  rw [show 2 * u / 2 = u by omega]
  unfold hfM
  by_cases h0 : x % 2 = 0
  · rw [if_pos h0]
    obtain ⟨w, rfl⟩ : ∃ w, x = 2 * w := ⟨x / 2, by omega⟩
    rw [show 2 * w / 2 = w by omega]
    exact ⟨by omega, _, hf_c hm hc⟩
  · rw [if_neg h0]
    obtain ⟨w, hw⟩ : ∃ w, x = 2 * w - M := ⟨(x + M) / 2, by omega⟩
    rw [show (x + M) / 2 = w by omega]
    exact ⟨by omega, _, hf_c hm (hf_o hw hc)⟩
theorem sb_c {M A x y U V c d q z : Int} (h : A * x - U = M * c) (k : A * y - V = M * d) (hz : M * q + z = y - x) : A * z - (V - U) = M * (d - c - A * q) := by
  have e : z = y - x - M * q := by omega
  subst e
  grind
theorem sb_ok {M A x y U V : Int} (hM : 0 < M) (h : ∃ c, A * x - U = M * c) (k : ∃ c, A * y - V = M * c) : (0 ≤ (y - x) % M ∧ (y - x) % M < M) ∧ ∃ c, A * ((y - x) % M) - (V - U) = M * c := by
  obtain ⟨c, hc⟩ := h
  obtain ⟨d, hd⟩ := k
  exact ⟨⟨Int.emod_nonneg _ (by omega), Int.emod_lt_of_pos _ hM⟩, _, sb_c hc hd (Int.mul_ediv_add_emod (y - x) M)⟩
def ivI (A M U V x y : Int) : Prop := (1 ≤ U ∧ 1 ≤ V) ∧ ((0 ≤ x ∧ x < M) ∧ ∃ c, A * x - U = M * c) ∧ ((0 ≤ y ∧ y < M) ∧ ∃ c, A * y - V = M * c) ∧ ∃ s t, s * U + t * V = 1
def ivS (X : vM) (r : Nat → Nat) (U V x y : Int) : Prop := M16 X (r 42) U ∧ M16 X (r 43) V ∧ M17 X (r 44) x ∧ M17 X (r 45) y
theorem iv_bz1 {s t U V u : Int} (h : s * U + t * V = 1) (hu : U = 2 * u) : s * 2 * u + t * V = 1 := by subst hu; grind
theorem iv_bz2 {s t U V : Int} (h : s * U + t * V = 1) : (s + t) * U + t * (V - U) = 1 := by grind
theorem iv_bz3 {s t U V : Int} (h : s * U + t * V = 1) : s * (U - V) + (s + t) * V = 1 := by grind
theorem iv_eq {s t U : Int} (h : s * U + t * U = 1) (hU : 1 ≤ U) : U = 1 := by
  have h1 : (s + t) * U = 1 := by grind
  have h2 : U ∣ 1 := ⟨s + t, by rw [Int.mul_comm]; exact h1.symm⟩
  have := Int.le_of_dvd (by decide) h2
  omega
theorem iv_hU {A M U V x y : Int} (hM : M % 2 = 1) (h : ivI A M U V x y) (hU : U % 2 = 0) : ivI A M (U / 2) V (hfM x M) y := by
  obtain ⟨h1, ⟨h2, h3⟩, h4, s, t, h5⟩ := h
  exact ⟨by omega, hf_ok hM h2 hU h3, h4, s * 2, t, iv_bz1 h5 (by omega)⟩
theorem iv_hV {A M U V x y : Int} (hM : M % 2 = 1) (h : ivI A M U V x y) (hV : V % 2 = 0) : ivI A M U (V / 2) x (hfM y M) := by
  obtain ⟨h1, h4, ⟨h2, h3⟩, s, t, h5⟩ := h
  refine ⟨by omega, h4, hf_ok hM h2 hV h3, s, t * 2, ?_⟩
  rw [Int.add_comm] at h5 ⊢
  exact iv_bz1 h5 (by omega)
theorem iv_sV {A M U V x y : Int} (hM : 0 < M) (h : ivI A M U V x y) (hl : U < V) : ivI A M U (V - U) x ((y - x) % M) := by
  obtain ⟨h1, ⟨h2, h3⟩, ⟨h4, h5⟩, s, t, h6⟩ := h
  exact ⟨by omega, ⟨h2, h3⟩, sb_ok hM h3 h5, s + t, t, iv_bz2 h6⟩
theorem iv_sU {A M U V x y : Int} (hM : 0 < M) (h : ivI A M U V x y) (hl : ¬ U < V) (h1' : U ≠ 1) : ivI A M (U - V) V ((x - y) % M) y := by
  obtain ⟨h1, ⟨h2, h3⟩, ⟨h4, h5⟩, s, t, h6⟩ := h
  have hne : U ≠ V := fun e => h1' (iv_eq (by rw [← e] at h6; exact h6) h1.1)
  exact ⟨by omega, sb_ok hM h5 h3, ⟨h4, h5⟩, s, s + t, iv_bz3 h6⟩
theorem iv_p1 {U V u P : Int} (h : U * V < P * 2) (hu : U = 2 * u) : u * V < P := by
  subst hu
  rw [Int.mul_assoc] at h
  generalize u * V = z at *
  omega
theorem iv_p2 {U V P : Int} (h : U * V < P) : U * (V - U) < P := by
  have h1 : 0 ≤ U * U := by
    rcases Int.le_total 0 U with h | h
    · exact Int.mul_nonneg h h
    · exact Int.mul_nonneg_of_nonpos_of_nonpos h h
  rw [Int.mul_sub]
  omega
theorem iv_pos {U V : Int} (h : 1 ≤ U ∧ 1 ≤ V) : 1 ≤ U * V := by
  have := Int.mul_le_mul (show (1 : Int) ≤ U from h.1) h.2 (by decide) (by omega)
  omega
theorem dg_par {X : vM} {a : Nat} {N : Int} (h : M16 X a N) : ((X.1 a 0 &&& (1 : Int64)) = (0 : Int64)) ↔ N % 2 = 0 := by
  have hd := dgI_bd N 0
  have h0 : dgI N 0 % 2 = N % 2 := by
    show N / 65536 ^ 0 % 65536 % 2 = _
    rw [show (65536 : Int) ^ 0 = 1 from rfl, Int.ediv_one]
    omega
  rw [h.2 0 (by decide), i6_and1 hd, h0]
  exact i6_eq0 (by omega)
/-- the arrays of inverse -/
def ivD (r : Nat → Nat) (m : Nat) : Prop := r 42 ≠ r 43 ∧ r 42 ≠ r 44 ∧ r 42 ≠ r 45 ∧ r 43 ≠ r 44 ∧ r 43 ≠ r 45 ∧ r 44 ≠ r 45 ∧ m ≠ r 42 ∧ m ≠ r 43 ∧ m ≠ r 44 ∧ m ≠ r 45
theorem ni4 {b x y z w : Nat} (h1 : b ≠ x) (h2 : b ≠ y) (h3 : b ≠ z) (h4 : b ≠ w) : b ∉ [x, y, z, w] := fun h => by
  simp only [List.mem_cons, List.not_mem_nil, or_false] at h
  rcases h with h | h | h | h
  · exact h1 h
  · exact h2 h
  · exact h3 h
  · exact h4 h
theorem ni1 {b x : Nat} (h1 : b ≠ x) : b ∉ [x] := fun h => h1 (List.mem_singleton.mp h)
abbrev ivL (r : Nat → Nat) : List Nat := [r 42, r 43, r 44, r 45]
/-- a turn of the loop -/
theorem iv_turn {r : Nat → Nat} {a m i : Nat} {A M : Int} (hA : A ≠ 0) (hM : M % 2 = 1) (hM0 : 0 < M) (hMb : M ≤ 57896044618658097711785492504343953926634992332820282019728792003956564819968) (hd : ivD r m) {X : vM} {U V x y : Int} (ha : M16 X a A) (hm : M16 X m M) (hS : ivS X r U V x y) (hI : ivI A M U V x y) (h1 : U ≠ 1) (h2 : V ≠ 1) : ∃ (Y : vM) (U' V' x' y' : Int), LL_M_inverse_51 a r m i X = Sum.inr Y ∧ ivS Y r U' V' x' y' ∧ ivI A M U' V' x' y' ∧ onL (ivL r) X Y ∧ ((U % 2 = 1 ∧ V % 2 = 1 ∧ ¬ (U' % 2 = 1 ∧ V' % 2 = 1) ∧ ∀ P : Int, U * V < P → U' * V' < P) ∨ (¬ (U % 2 = 1 ∧ V % 2 = 1) ∧ ∀ P : Int, U * V < P * 2 → U' * V' < P)) := by
  obtain ⟨d1, d2, d3, d4, d5, d6, d7, d8, d9, d10⟩ := hd
  obtain ⟨s1, s2, s3, s4⟩ := hS
  have hx := hI.2.1.1
  have hy := hI.2.2.1.1
  have z0 : ¬ (LF_M_zero X a = true) := by rw [m_zero ha]; simp [hA]
  have z1 : ¬ (LF_M_one X (r 42) = true) := by rw [m_one s1]; simp [h1]
  have z2 : ¬ (LF_M_one X (r 43) = true) := by rw [m_one s2]; simp [h2]
  by_cases hU : U % 2 = 0
  · have q1 := m_halve s1
    have o1 : onL [r 42] X (LF_M_halve X (r 42)) := q1.on List.mem_cons_self
    obtain ⟨t, e, q2⟩ := m_half (a := r 44) (m := m) (s3.on o1 (ni1 d2.symm)) (hm.on o1 (ni1 d7)) d9 hx.2 hMb
    have o2 := sv_on (LF_M_halve X (r 42)) (r 44) 17 t (S := [r 44]) List.mem_cons_self
    refine ⟨_, U / 2, V, hfM x M, y, ?_, ⟨q1.2.on o2 (ni1 d2), (s2.on o1 (ni1 d1.symm)).on o2 (ni1 d4), q2, (s4.on o1 (ni1 d3.symm)).on o2 (ni1 d6.symm)⟩, iv_hU hM hI hU, (o1.mono (by simp)).tr (o2.mono (by simp)), Or.inr ⟨by omega, fun P hP => iv_p1 hP (by omega)⟩⟩
    unfold LL_M_inverse_51
    rw [if_neg z0, if_neg z1, if_neg z2]
    simp only []
    rw [if_pos ((dg_par s1).mpr hU), e]
  · by_cases hV : V % 2 = 0
    · have q1 := m_halve s2
      have o1 : onL [r 43] X (LF_M_halve X (r 43)) := q1.on List.mem_cons_self
      obtain ⟨t, e, q2⟩ := m_half (a := r 45) (m := m) (s4.on o1 (ni1 d5.symm)) (hm.on o1 (ni1 d8)) d10 hy.2 hMb
      have o2 := sv_on (LF_M_halve X (r 43)) (r 45) 17 t (S := [r 45]) List.mem_cons_self
      refine ⟨_, U, V / 2, x, hfM y M, ?_, ⟨(s1.on o1 (ni1 d1)).on o2 (ni1 d3), q1.2.on o2 (ni1 d5), (s3.on o1 (ni1 d4.symm)).on o2 (ni1 d6), q2⟩, iv_hV hM hI hV, (o1.mono (by simp)).tr (o2.mono (by simp)), Or.inr ⟨by omega, fun P hP => by
        rw [Int.mul_comm] at hP ⊢
        exact iv_p1 hP (by omega)⟩⟩
      unfold LL_M_inverse_51
      rw [if_neg z0, if_neg z1, if_neg z2]
      simp only []
      rw [if_neg (fun z => hU ((dg_par s1).mp z)), if_pos ((dg_par s2).mpr hV), e]
    · by_cases hl : U < V
      · have hb : 0 ≤ V - U ∧ V - U < 115792089237316195423570985008687907853269984665640564039457584007913129639936 := by have := s2.1; have := hI.1; omega
        have q1 : mR X (LF_M_less X (r 43) (r 43) (r 42)) (r 43) (V - U) := mR.mk' (m_less s2 s1) hb
        have o1 : onL [r 43] X (LF_M_less X (r 43) (r 43) (r 42)) := q1.on List.mem_cons_self
        have q2 := m_minus (to := r 45) (m := m) (s4.1.on o1 (ni1 d5.symm)) (s3.1.on o1 (ni1 d4.symm)) (hm.on o1 (ni1 d8)) d10 hy.2 hx.2 hMb
        have o2 := q2.on (S := [r 45]) List.mem_cons_self
        refine ⟨_, U, V - U, x, (y - x) % M, ?_, ⟨(s1.on o1 (ni1 d1)).on o2 (ni1 d3), q1.2.on o2 (ni1 d5), (s3.on o1 (ni1 d4.symm)).on o2 (ni1 d6), q2.m17 (s4.on o1 (ni1 d5.symm)).2⟩, iv_sV hM0 hI hl, (o1.mono (by simp)).tr (o2.mono (by simp)), Or.inl ⟨by omega, by omega, by omega, fun P hP => iv_p2 hP⟩⟩
        unfold LL_M_inverse_51
        rw [if_neg z0, if_neg z1, if_neg z2]
        simp only []
        rw [if_neg (fun z => hU ((dg_par s1).mp z)), if_neg (fun z => hV ((dg_par s2).mp z)), if_pos (by rw [m_below s1 s2]; exact decide_eq_true hl)]
      · have hb : 0 ≤ U - V ∧ U - V < 115792089237316195423570985008687907853269984665640564039457584007913129639936 := by have := s1.1; have := hI.1; omega
        have q1 : mR X (LF_M_less X (r 42) (r 42) (r 43)) (r 42) (U - V) := mR.mk' (m_less s1 s2) hb
        have o1 : onL [r 42] X (LF_M_less X (r 42) (r 42) (r 43)) := q1.on List.mem_cons_self
        have q2 := m_minus (to := r 44) (m := m) (s3.1.on o1 (ni1 d2.symm)) (s4.1.on o1 (ni1 d3.symm)) (hm.on o1 (ni1 d7)) d9 hx.2 hy.2 hMb
        have o2 := q2.on (S := [r 44]) List.mem_cons_self
        refine ⟨_, U - V, V, (x - y) % M, y, ?_, ⟨q1.2.on o2 (ni1 d2), (s2.on o1 (ni1 d1.symm)).on o2 (ni1 d4), q2.m17 (s3.on o1 (ni1 d2.symm)).2, (s4.on o1 (ni1 d3.symm)).on o2 (ni1 d6.symm)⟩, iv_sU hM0 hI hl h1, (o1.mono (by simp)).tr (o2.mono (by simp)), Or.inl ⟨by omega, by omega, by omega, fun P hP => by
          rw [Int.mul_comm] at hP ⊢
          exact iv_p2 hP⟩⟩
        unfold LL_M_inverse_51
        rw [if_neg z0, if_neg z1, if_neg z2]
        simp only []
        rw [if_neg (fun z => hU ((dg_par s1).mp z)), if_neg (fun z => hV ((dg_par s2).mp z)), if_neg (by rw [m_below s1 s2]; simp [hl])]
theorem iv_loop {r : Nat → Nat} {a m : Nat} {A M : Int} (hA : A ≠ 0) (hM : M % 2 = 1) (hM0 : 0 < M) (hMb : M ≤ 57896044618658097711785492504343953926634992332820282019728792003956564819968) (hd : ivD r m) (ha4 : a ∉ ivL r) : ∀ (k i j : Nat) (X : vM) (U V x y : Int), M16 X a A → M16 X m M → ivS X r U V x y → ivI A M U V x y → U * V < 2 ^ j → 2 * j ≤ k + 1 → (U % 2 = 1 → V % 2 = 1 → 2 * j ≤ k) → ∃ (Y : vM) (U' V' x' y' : Int), Sum.elim id id (lpE 1 (LL_M_inverse_51 a r m) k i X) = Y ∧ ivS Y r U' V' x' y' ∧ ivI A M U' V' x' y' ∧ onL (ivL r) X Y ∧ (U' = 1 ∨ V' = 1)
  | 0, i, j, X, U, V, x, y, ha, hm, hS, hI, hp, hk, ho => by
    have hj : j = 0 := by omega
    subst hj
    have := iv_pos hI.1
    rw [show (2 : Int) ^ 0 = 1 from rfl] at hp
    omega
  | k + 1, i, j, X, U, V, x, y, ha, hm, hS, hI, hp, hk, ho => by
    by_cases h1 : U = 1 ∨ V = 1
    · refine ⟨X, U, V, x, y, ?_, hS, hI, onL.rf, h1⟩
      have e : LL_M_inverse_51 a r m i X = Sum.inl X := by
        unfold LL_M_inverse_51
        rw [if_neg (by rw [m_zero ha]; simp [hA])]
        rcases h1 with h1 | h1
        · rw [if_pos (by rw [m_one hS.1]; exact decide_eq_true h1)]
        · by_cases h2 : U = 1
          · rw [if_pos (by rw [m_one hS.1]; exact decide_eq_true h2)]
          · rw [if_neg (by rw [m_one hS.1]; simp [h2]), if_pos (by rw [m_one hS.2.1]; exact decide_eq_true h1)]
      show Sum.elim id id (Sum.elim Sum.inl (fun t => lpE 1 (LL_M_inverse_51 a r m) k (i + 1) t) (LL_M_inverse_51 a r m i X)) = X
      rw [e]
      rfl
    · obtain ⟨Y, U', V', x', y', e, hS', hI', ho', hdec⟩ := iv_turn (i := i) hA hM hM0 hMb hd ha hm hS hI (fun z => h1 (Or.inl z)) (fun z => h1 (Or.inr z))
      have hm4 : m ∉ ivL r := ni4 hd.2.2.2.2.2.2.1 hd.2.2.2.2.2.2.2.1 hd.2.2.2.2.2.2.2.2.1 hd.2.2.2.2.2.2.2.2.2
      have hj : j ≠ 0 := fun z => by
        subst z
        have := iv_pos hI.1
        rw [show (2 : Int) ^ 0 = 1 from rfl] at hp
        omega
      have key : ∃ j', U' * V' < 2 ^ j' ∧ 2 * j' ≤ k + 1 ∧ (U' % 2 = 1 → V' % 2 = 1 → 2 * j' ≤ k) := by
        rcases hdec with ⟨p1, p2, p3, p4⟩ | ⟨p1, p2⟩
        · exact ⟨j, p4 _ hp, ho p1 p2, fun z1 z2 => absurd ⟨z1, z2⟩ p3⟩
        · refine ⟨j - 1, p2 _ ?_, by omega, fun _ _ => by omega⟩
          rw [← Int.pow_succ, show (j - 1).succ = j by omega]
          exact hp
      obtain ⟨j', k1, k2, k3⟩ := key
      obtain ⟨Z, U2, V2, x2, y2, e2, g1, g2, g3, g4⟩ := iv_loop hA hM hM0 hMb hd ha4 k (i + 1) j' Y U' V' x' y' (ha.on ho' ha4) (hm.on ho' hm4) hS' hI' k1 k2 k3
      refine ⟨Z, U2, V2, x2, y2, ?_, g1, g2, ho'.tr g3, g4⟩
      show Sum.elim id id (Sum.elim Sum.inl (fun t => lpE 1 (LL_M_inverse_51 a r m) k (i + 1) t) (LL_M_inverse_51 a r m i X)) = Z
      rw [e]
      exact e2
