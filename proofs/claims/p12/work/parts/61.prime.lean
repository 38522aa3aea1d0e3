/-! numbers modulo a prime: Bezout, Fermat, Pocklington; 2^255 - 19 is a prime -/
def isP (q : Nat) : Prop := 1 < q ∧ ∀ m, m ∣ q → m = 1 ∨ m = q
theorem isP.cop {q a : Nat} (hq : isP q) (ha : ¬ q ∣ a) : Nat.gcd q a = 1 := by
  rcases hq.2 _ (Nat.gcd_dvd_left q a) with h | h
  · exact h
  · exact absurd (h ▸ Nat.gcd_dvd_right q a) ha
theorem isP.mul {q a b : Nat} (hq : isP q) (h : q ∣ a * b) : q ∣ a ∨ q ∣ b := by
  by_cases ha : q ∣ a
  · exact Or.inl ha
  · exact Or.inr (Nat.Coprime.dvd_of_dvd_mul_left (hq.cop ha) h)
theorem nt_bez (a q : Nat) : ∃ x y : Int, (a : Int) * x + (q : Int) * y = (Nat.gcd a q : Int) := by
  induction a, q using Nat.gcd.induction with
  | H0 n => exact ⟨0, 1, by simp⟩
  | H1 m n hm ih =>
    obtain ⟨x, y, h⟩ := ih
    refine ⟨y - ((n / m : Nat) : Int) * x, x, ?_⟩
    rw [Nat.gcd_rec, ← h]
    have e : (n : Int) = (m : Int) * ((n / m : Nat) : Int) + ((n % m : Nat) : Int) := by exact_mod_cast (Nat.div_add_mod n m).symm
    rw [e]
    grind
def nt_pr : List Nat → Nat
  | [] => 1
  | x :: l => x * nt_pr l
theorem nt_pr_perm {l l' : List Nat} (h : l.Perm l') : nt_pr l = nt_pr l' := by
  induction h with
  | nil => rfl
  | cons x _ ih => simp [nt_pr, ih]
  | swap x y l => simp [nt_pr, Nat.mul_left_comm]
  | trans _ _ h1 h2 => exact h1.trans h2
theorem nt_pr_map (a q : Nat) : ∀ l : List Nat, nt_pr (l.map (fun x => a * x % q)) % q = a ^ l.length * nt_pr l % q
  | [] => by simp [nt_pr]
  | x :: l => by
    have ih := nt_pr_map a q l
    simp only [List.map_cons, nt_pr, List.length_cons]
    rw [Nat.mul_mod, ih, ← Nat.mul_mod, Nat.mod_mul_mod, Nat.pow_succ]
    congr 1
    simp only [Nat.mul_comm, Nat.mul_left_comm, Nat.mul_assoc]
theorem nt_pr_dvd {q : Nat} (hq : isP q) : ∀ l : List Nat, (∀ x ∈ l, ¬ q ∣ x) → ¬ q ∣ nt_pr l
  | [], _ => fun h => by
    have := Nat.le_of_dvd (by decide) h
    have := hq.1
    simp [nt_pr] at *
    omega
  | x :: l, hl => fun h => by
    rcases hq.mul h with h | h
    · exact hl x List.mem_cons_self h
    · exact nt_pr_dvd hq l (fun y hy => hl y (List.mem_cons_of_mem _ hy)) h
theorem nt_cancel {q a x y : Nat} (hq : isP q) (ha : ¬ q ∣ a) (h : a * x % q = a * y % q) : x % q = y % q := by
  have key : ∀ u v : Nat, v ≤ u → a * u % q = a * v % q → u % q = v % q := fun u v huv h => by
    have h1 : (a * u - a * v) % q = 0 := Nat.sub_mod_eq_zero_of_mod_eq h
    rw [← Nat.mul_sub] at h1
    rcases hq.mul (Nat.dvd_of_mod_eq_zero h1) with h2 | h2
    · exact absurd h2 ha
    · obtain ⟨k, hk⟩ := h2
      have e : u = v + q * k := by omega
      rw [e, Nat.add_mul_mod_self_left]
  rcases Nat.le_total y x with h1 | h1
  · exact key x y h1 h
  · exact (key y x h1 h.symm).symm
theorem nt_inv {q a : Nat} (hq : isP q) (ha : ¬ q ∣ a) : ∃ b : Nat, a * b % q = 1 := by
  obtain ⟨x, y, h⟩ := nt_bez a q
  have hg : Nat.gcd a q = 1 := by rw [Nat.gcd_comm]; exact hq.cop ha
  rw [hg] at h
  have hq1 := hq.1
  refine ⟨(x % (q : Int)).toNat, ?_⟩
  have hx : 0 ≤ x % (q : Int) := Int.emod_nonneg _ (by omega)
  have e1 : ((a * (x % (q : Int)).toNat % q : Nat) : Int) = 1 := by
    rw [Int.natCast_emod, Int.natCast_mul, Int.toNat_of_nonneg hx, Int.mul_emod, Int.emod_emod, ← Int.mul_emod]
    have e2 : (a : Int) * x = 1 + (q : Int) * (-y) := by
      simp only [Int.natCast_one] at h
      grind
    rw [e2, Int.add_mul_emod_self_left]
    exact Int.emod_eq_of_lt (by decide) (by omega)
  exact_mod_cast e1
theorem nt_fermat {q a : Nat} (hq : isP q) (ha : ¬ q ∣ a) : a ^ (q - 1) % q = 1 := by
  have hq1 := hq.1
  have hL : ∀ x, x ∈ List.range' 1 (q - 1) ↔ 1 ≤ x ∧ x < q := fun x => by
    rw [List.mem_range'_1]; omega
  have hnd : ∀ x, x ∈ List.range' 1 (q - 1) → ¬ q ∣ x := fun x hx h => by
    have := Nat.le_of_dvd (by have := (hL x).mp hx; omega) h
    have := (hL x).mp hx
    omega
  have hperm : ((List.range' 1 (q - 1)).map (fun x => a * x % q)).Perm (List.range' 1 (q - 1)) := by
    refine (List.perm_ext_iff_of_nodup ?_ (List.nodup_range' 1)).mpr (fun y => ?_)
    · refine List.pairwise_map.mpr ?_
      have h0 : (List.range' 1 (q - 1)).Nodup := List.nodup_range' 1
      refine List.Pairwise.imp_of_mem ?_ h0
      intro x y hx hy hne he
      have e := nt_cancel hq ha he
      have h1 := (hL x).mp hx
      have h2 := (hL y).mp hy
      rw [Nat.mod_eq_of_lt h1.2, Nat.mod_eq_of_lt h2.2] at e
      exact hne e
    · rw [List.mem_map, hL]
      constructor
      · rintro ⟨x, hx, rfl⟩
        refine ⟨Nat.pos_of_ne_zero (fun h0 => ?_), Nat.mod_lt _ (by omega)⟩
        rcases hq.mul (Nat.dvd_of_mod_eq_zero h0) with h | h
        · exact ha h
        · exact hnd x hx h
      · intro hy
        obtain ⟨b, hb⟩ := nt_inv hq ha
        refine ⟨b * y % q, (hL _).mpr ⟨Nat.pos_of_ne_zero (fun h0 => ?_), Nat.mod_lt _ (by omega)⟩, ?_⟩
        · have h1 : a * (b * y) % q = 0 := by rw [Nat.mul_mod, h0]; simp
          rw [← Nat.mul_assoc, Nat.mul_mod, hb, Nat.one_mul, Nat.mod_mod, Nat.mod_eq_of_lt hy.2] at h1
          omega
        · show a * (b * y % q) % q = y
          rw [Nat.mul_mod_mod, ← Nat.mul_assoc, Nat.mul_mod, hb, Nat.one_mul, Nat.mod_mod, Nat.mod_eq_of_lt hy.2]
  have h1 := nt_pr_map a q (List.range' 1 (q - 1))
  rw [nt_pr_perm hperm, List.length_range'] at h1
  have h2 := nt_pr_dvd hq _ hnd
  have h3 : nt_pr (List.range' 1 (q - 1)) * 1 % q = nt_pr (List.range' 1 (q - 1)) * a ^ (q - 1) % q := by rw [Nat.mul_one, h1, Nat.mul_comm]
  have h4 := nt_cancel hq h2 h3
  rw [← h4, Nat.mod_eq_of_lt hq1]
/-! a prime divisor -/
theorem nt_minfac : ∀ n : Nat, 1 < n → ∃ s, isP s ∧ s ∣ n := by
  intro n
  induction n using Nat.strongRecOn with
  | ind n ih =>
    intro hn
    by_cases h : isP n
    · exact ⟨n, h, Nat.dvd_refl n⟩
    · have h1 : ∃ m, m ∣ n ∧ m ≠ 1 ∧ m ≠ n := Classical.byContradiction fun hc => h ⟨hn, fun m hm => Classical.byContradiction fun hc2 => hc ⟨m, hm, fun e => hc2 (Or.inl e), fun e => hc2 (Or.inr e)⟩⟩
      obtain ⟨m, hm, hm1, hmn⟩ := h1
      have hle := Nat.le_of_dvd (by omega) hm
      have h0 : m ≠ 0 := fun e => by rw [e] at hm; have := Nat.eq_zero_of_zero_dvd hm; omega
      obtain ⟨s, hs, hsm⟩ := ih m (by omega) (by omega)
      exact ⟨s, hs, Nat.dvd_trans hsm hm⟩
/-- powers modulo m, by squaring -/
def mpw (m : Nat) : Nat → Nat → Nat → Nat
  | 0, _, _ => 1 % m
  | f + 1, b, e => if e = 0 then 1 % m else if e % 2 = 1 then b * mpw m f (b * b % m) (e / 2) % m else mpw m f (b * b % m) (e / 2)
theorem mpw_eq (m : Nat) : ∀ (f b e : Nat), e < 2 ^ f → mpw m f b e = b ^ e % m
  | 0, b, e, h => by
    have : e = 0 := by simpa using h
    subst this
    simp [mpw]
  | f + 1, b, e, h => by
    unfold mpw
    by_cases h0 : e = 0
    · subst h0; simp
    · rw [if_neg h0]
      have hlt : e / 2 < 2 ^ f := by rw [Nat.pow_succ] at h; omega
      rw [mpw_eq m f _ _ hlt, ← Nat.pow_mod, ← Nat.pow_two, ← Nat.pow_mul]
      by_cases h1 : e % 2 = 1
      · rw [if_pos h1, Nat.mul_mod_mod]
        congr 1
        rw [← Nat.pow_succ']
        congr 1
        omega
      · rw [if_neg h1]
        congr 2
        omega
/-- a divisor s of N that is a prime is 1 modulo r -/
theorem nt_pk {N r a s : Nat} (hr : isP r) (hd : r ∣ N - 1) (hN : 1 < N) (h1 : a ^ (N - 1) % N = 1) (h2 : Nat.gcd (a ^ ((N - 1) / r) % N + (N - 1)) N = 1) (hs : isP s) (hsN : s ∣ N) : r ∣ s - 1 := by
  have hs1 := hs.1
  refine Classical.byContradiction fun hc => ?_
  obtain ⟨t, ht⟩ := hsN
  obtain ⟨b, hb⟩ : ∃ b, a ^ ((N - 1) / r) = b := ⟨_, rfl⟩
  have e1 : b ^ r % s = 1 := by
    rw [← hb, ← Nat.pow_mul, Nat.div_mul_cancel hd]
    have : a ^ (N - 1) % (s * t) % s = a ^ (N - 1) % s := Nat.mod_mul_right_mod _ _ _
    rw [← this, ← ht, h1, Nat.mod_eq_of_lt hs1]
  have e2 : ¬ b % s = 1 := fun hbs => by
    rw [hb] at h2
    have h3 : s ∣ (b % N + (N - 1)) := by
      apply Nat.dvd_of_mod_eq_zero
      have h4 : b % N % s = 1 := by rw [ht, Nat.mod_mul_right_mod, hbs]
      have h5 : (N - 1) % s = s - 1 := by
        have h6 : N - 1 = (s - 1) + s * (t - 1) := by
          have ht0 : 0 < t := Nat.pos_of_ne_zero (fun z => by rw [z] at ht; omega)
          obtain ⟨v, rfl⟩ : ∃ v, t = v + 1 := ⟨t - 1, by omega⟩
          rw [ht, Nat.mul_add, Nat.mul_one, Nat.add_sub_cancel]
          omega
        rw [h6, Nat.add_mul_mod_self_left, Nat.mod_eq_of_lt (by omega)]
      rw [Nat.add_mod, h4, h5]
      have : 1 + (s - 1) = s := by omega
      rw [this, Nat.mod_self]
    have h7 : s ∣ 1 := by
      rw [← h2]
      exact Nat.dvd_gcd h3 ⟨t, ht⟩
    have := Nat.le_of_dvd (by decide) h7
    omega
  have e3 : ¬ s ∣ b := fun h => by
    have h8 : s ∣ b ^ r := by
      obtain ⟨k, hk⟩ : ∃ k, r = k + 1 := ⟨r - 1, by have := hr.1; omega⟩
      rw [hk, Nat.pow_succ]
      exact Nat.dvd_trans h (Nat.dvd_mul_left b _)
    have := Nat.mod_eq_zero_of_dvd h8
    omega
  have e4 := nt_fermat hs e3
  have hs2 : s ≠ 2 := fun z => by
    subst z
    exact e2 (by simpa using e4)
  have hg : Nat.gcd r (s - 1) = 1 := hr.cop hc
  obtain ⟨x, y, hxy⟩ := nt_bez r (s - 1)
  rw [hg] at hxy
  -- natural exponents: r u = (s - 1) v + 1
  obtain ⟨u, v, huv⟩ : ∃ u v : Nat, r * u = (s - 1) * v + 1 := by
    have hs0 : (0 : Int) < ((s - 1 : Nat) : Int) := by omega
    have hr0 : (0 : Int) < (r : Int) := by have := hr.1; omega
    have hx0 : 0 ≤ x % ((s - 1 : Nat) : Int) := Int.emod_nonneg _ (by omega)
    have ex : x = ((s - 1 : Nat) : Int) * (x / ((s - 1 : Nat) : Int)) + x % ((s - 1 : Nat) : Int) := (Int.mul_ediv_add_emod x _).symm
    generalize x / ((s - 1 : Nat) : Int) = w at ex
    generalize hz : x % ((s - 1 : Nat) : Int) = z at ex hx0
    have e5 : (r : Int) * z = ((s - 1 : Nat) : Int) * (-(y + (r : Int) * w)) + 1 := by
      simp only [Int.natCast_one] at hxy
      rw [ex] at hxy
      grind
    have hv : 0 ≤ -(y + (r : Int) * w) := by
      have h9 : 0 ≤ (r : Int) * z := Int.mul_nonneg (by omega) hx0
      rcases Int.lt_or_le (-(y + (r : Int) * w)) 0 with h | h
      · have hm : ((s - 1 : Nat) : Int) * (-(y + (r : Int) * w)) ≤ ((s - 1 : Nat) : Int) * (-1) := Int.mul_le_mul_of_nonneg_left (by omega) (by omega)
        omega
      · exact h
    refine ⟨z.toNat, (-(y + (r : Int) * w)).toNat, ?_⟩
    have : ((r * z.toNat : Nat) : Int) = (((s - 1) * (-(y + (r : Int) * w)).toNat + 1 : Nat) : Int) := by
      rw [Int.natCast_mul, Int.natCast_add, Int.natCast_mul, Int.toNat_of_nonneg hx0, Int.toNat_of_nonneg hv]
      exact e5
    exact_mod_cast this
  have e6 : b ^ (r * u) % s = 1 := by rw [Nat.pow_mul, Nat.pow_mod, e1, Nat.one_pow, Nat.mod_eq_of_lt hs1]
  rw [huv, Nat.pow_succ, Nat.pow_mul, Nat.mul_mod, Nat.pow_mod, e4, Nat.one_pow, Nat.mod_eq_of_lt hs1, Nat.one_mul, Nat.mod_mod] at e6
  exact e2 e6
/-- Pocklington, with a number F of which every prime divisor of N is 1 modulo it -/
theorem nt_poc {N F : Nat} (hN : 1 < N) (hF : 0 < F) (h : ∀ s, isP s → s ∣ N → F ∣ s - 1) (hb : N < (F + 1) * (F + 1)) : isP N := by
  refine ⟨hN, fun m hm => Classical.byContradiction fun hc => ?_⟩
  obtain ⟨t, ht⟩ := hm
  have hm1 : m ≠ 1 := fun e => hc (Or.inl e)
  have hmN : m ≠ N := fun e => hc (Or.inr e)
  have hm0 : m ≠ 0 := fun e => by rw [e] at ht; omega
  have ht0 : t ≠ 0 := fun e => by rw [e] at ht; omega
  have ht1 : t ≠ 1 := fun e => by rw [e] at ht; omega
  obtain ⟨s, hs, hsm⟩ := nt_minfac m (by omega)
  obtain ⟨w, hw, hwt⟩ := nt_minfac t (by omega)
  have a1 := Nat.le_of_dvd (by have := hs.1; omega) (h s hs (Nat.dvd_trans hsm ⟨t, ht⟩))
  have a2 := Nat.le_of_dvd (by have := hw.1; omega) (h w hw (Nat.dvd_trans hwt ⟨m, by rw [ht, Nat.mul_comm]⟩))
  have b1 := Nat.le_of_dvd (by omega) hsm
  have b2 := Nat.le_of_dvd (by omega) hwt
  have := Nat.mul_le_mul (show F + 1 ≤ m by have := hs.1; omega) (show F + 1 ≤ t by have := hw.1; omega)
  omega
theorem nt_pk2 {r1 r2 n : Nat} (h1 : isP r1) (hn : ¬ r1 ∣ r2) (a : r1 ∣ n) (b : r2 ∣ n) : r1 * r2 ∣ n := by
  obtain ⟨k, rfl⟩ := b
  have : r1 ∣ k := by
    rcases h1.mul a with h | h
    · exact absurd h hn
    · exact h
  obtain ⟨j, rfl⟩ := this
  exact ⟨j, by rw [Nat.mul_left_comm, Nat.mul_assoc, Nat.mul_left_comm]⟩
/-- small primes, by trial -/
def trialP (n k : Nat) : Bool := (List.range k).all fun d => d < 2 || !(n % d == 0)
theorem nt_trial {n k : Nat} (hn : 1 < n) (h : trialP n k = true) (hk : n < k * k) : isP n := by
  refine ⟨hn, fun m hm => Classical.byContradiction fun hc => ?_⟩
  obtain ⟨t, ht⟩ := hm
  have hm1 : m ≠ 1 := fun e => hc (Or.inl e)
  have hmN : m ≠ n := fun e => hc (Or.inr e)
  have hm0 : m ≠ 0 := fun e => by rw [e] at ht; omega
  have ht0 : t ≠ 0 := fun e => by rw [e] at ht; omega
  have ht1 : t ≠ 1 := fun e => by rw [e] at ht; omega
  have key : ∀ x y, n = x * y → x ≠ 0 → x ≠ 1 → k ≤ x := fun x y e h0 h1 => by
    refine Nat.not_lt.mp fun hx => ?_
    have h3 := List.all_eq_true.mp h x (List.mem_range.mpr hx)
    have h4 : n % x = 0 := by rw [e]; exact Nat.mul_mod_right x y
    simp [h4] at h3
    omega
  have c1 := key m t ht hm0 hm1
  have c2 := key t m (by rw [ht, Nat.mul_comm]) ht0 ht1
  have := Nat.mul_le_mul c1 c2
  omega
/-! the chain up to 2^255 - 19 -/
theorem pr_127 : isP 127 := nt_trial (k := 12) (by decide) (by decide +kernel) (by decide)
theorem pr_353 : isP 353 := nt_trial (k := 19) (by decide) (by decide +kernel) (by decide)
theorem pr_75707 : isP 75707 := nt_trial (k := 276) (by decide) (by decide +kernel) (by decide)
theorem pr_8574133 : isP 8574133 := nt_trial (k := 2929) (by decide) (by decide +kernel) (by decide)
theorem nt_pkm {N r s : Nat} (f : Nat) (hr : isP r) (hd : (N - 1) % r = 0) (hN : 1 < N) (hf : N < 2 ^ f) (h1 : mpw N f 2 (N - 1) = 1) (h2 : Nat.gcd (mpw N f 2 ((N - 1) / r) + (N - 1)) N = 1) (hs : isP s) (hsN : s ∣ N) : r ∣ s - 1 := by
  have hlt : (N - 1) / r < 2 ^ f := Nat.lt_of_le_of_lt (Nat.div_le_self _ _) (by omega)
  rw [mpw_eq _ _ _ _ (by omega)] at h1
  rw [mpw_eq _ _ _ _ hlt] at h2
  exact nt_pk hr (Nat.dvd_of_mod_eq_zero hd) hN h1 h2 hs hsN
theorem pr_u : isP 1919519569386763 := nt_poc (F := 8574133 * 127) (by decide) (by decide) (fun s hs hsN => nt_pk2 pr_8574133 (by decide) (nt_pkm 51 pr_8574133 (by decide +kernel) (by decide) (by decide +kernel) (by decide +kernel) (by decide +kernel) hs hsN) (nt_pkm 51 pr_127 (by decide +kernel) (by decide) (by decide +kernel) (by decide +kernel) (by decide +kernel) hs hsN)) (by decide)
theorem pr_r : isP 75445702479781427272750846543864801 := nt_poc (F := 1919519569386763 * 75707) (by decide) (by decide) (fun s hs hsN => nt_pk2 pr_u (by decide) (nt_pkm 117 pr_u (by decide +kernel) (by decide) (by decide +kernel) (by decide +kernel) (by decide +kernel) hs hsN) (nt_pkm 117 pr_75707 (by decide +kernel) (by decide) (by decide +kernel) (by decide +kernel) (by decide +kernel) hs hsN)) (by decide)
theorem pr_q : isP 74058212732561358302231226437062788676166966415465897661863160754340907 := nt_poc (F := 75445702479781427272750846543864801 * 353) (by decide) (by decide) (fun s hs hsN => nt_pk2 pr_r (by decide) (nt_pkm 240 pr_r (by decide +kernel) (by decide) (by decide +kernel) (by decide +kernel) (by decide +kernel) hs hsN) (nt_pkm 240 pr_353 (by decide +kernel) (by decide) (by decide +kernel) (by decide +kernel) (by decide +kernel) hs hsN)) (by decide)
abbrev pP : Nat := 57896044618658097711785492504343953926634992332820282019728792003956564819949
theorem pr_p : isP pP := nt_poc (F := 74058212732561358302231226437062788676166966415465897661863160754340907) (by decide) (by decide) (fun s hs hsN => nt_pkm 256 pr_q (by decide +kernel) (by decide) (by decide +kernel) (by decide +kernel) (by decide +kernel) hs hsN) (by decide)
