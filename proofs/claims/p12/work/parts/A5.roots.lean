/-! roots of small numbers -/
theorem L8_1 {X : vM} {r : Nat → Nat} : L8 (lpU 1 (LL_M_fits_3 r) 8 0 X) (r 50) 1 ∧ onM r [50, 51] X (lpU 1 (LL_M_fits_3 r) 8 0 X) := by
  have e : lpU 1 (LL_M_fits_3 r) 8 0 X = svL X (r 50) 8 (fun k => if k = 0 then (1 : Int64) else (0 : Int64)) := lp_sv (r 50) 8 (LL_M_fits_3 r) X (fun k => if k = 0 then (1 : Int64) else (0 : Int64)) (fun i hi => st_sv X (r 50) i (fun k => if k = 0 then (1 : Int64) else (0 : Int64)))
  rw [e]
  refine ⟨⟨by decide, fun k hk => ?_⟩, sv_on X (r 50) 8 _ (by simp)⟩
  rw [svL_at X (r 50) 8 _ hk]
  exact (show ∀ k, k < 8 → (if k = 0 then (1 : Int64) else (0 : Int64)) = Int64.ofInt ((1 / 4294967296 ^ k % 4294967296 : Nat) : Int) by decide +kernel) k hk
theorem m_pows {r : Nat → Nat} {x : Nat} (hI : MInj r) (hx : x < 147573952589676412928) : ∀ (n i j : Nat) (X : vM), L8 X (r 50) (x ^ j % 115792089237316195423570985008687907853269984665640564039457584007913129639936) → L8 (lpU 1 (LL_M_fits_36 r (Int64.ofInt ((x / 18446744073709551616 : Nat) : Int)) (Int64.ofInt ((x % 18446744073709551616 : Nat) : Int))) n i X) (r 50) (x ^ (j + n) % 115792089237316195423570985008687907853269984665640564039457584007913129639936) ∧ onM r [50, 51] X (lpU 1 (LL_M_fits_36 r (Int64.ofInt ((x / 18446744073709551616 : Nat) : Int)) (Int64.ofInt ((x % 18446744073709551616 : Nat) : Int))) n i X)
  | 0, i, j, X, h => ⟨h, onM.rf⟩
  | n + 1, i, j, X, h => by
    have q := m_raise hI h hx
    rw [Nat.mod_mul_mod, ← Nat.pow_succ] at q
    have p := m_pows hI hx n (i + 1) (j + 1) _ q.2
    rw [show j + 1 + n = j + (n + 1) by omega] at p
    exact ⟨p.1, q.1.tr p.2⟩
theorem lp_zero (R : vM) (r : Nat → Nat) : ∀ n i, Sum.elim (fun r => r) (fun (_ : Unit) => (R, true)) (lpE 1 (LL_M_fits_119 R r) n i ()) = (R, decide (∀ j, j < n → R.1 (r 50) (i + j) = 0))
  | 0, i => by
    rw [decide_eq_true (fun j hj => absurd hj (by omega))]
    rfl
  | n + 1, i => by
    show Sum.elim (fun r => r) (fun (_ : Unit) => (R, true)) (Sum.elim Sum.inl (fun t => lpE 1 (LL_M_fits_119 R r) n (i + 1) t) (if (R.1 (r 50) i) = (0 : Int64) then (Sum.inr ()) else (Sum.inl ((R, false))))) = _
    by_cases h : R.1 (r 50) i = 0
    · rw [if_pos h]
      refine (lp_zero R r n (i + 1)).trans ?_
      congr 1
      refine decide_eq_decide.mpr ⟨fun h2 j hj => ?_, fun h2 j hj => ?_⟩
      · by_cases hj0 : j = 0
        · rw [hj0]; exact h
        · have := h2 (j - 1) (by omega)
          rwa [show i + 1 + (j - 1) = i + j by omega] at this
      · have := h2 (j + 1) (by omega)
        rwa [show i + (j + 1) = i + 1 + j by omega] at this
    · rw [if_neg h, decide_eq_false (fun h2 => h (h2 0 (by omega)))]
      rfl
theorem nz_dg {N n : Nat} : (∀ j, j < n → N / 4294967296 ^ j % 4294967296 = 0) ↔ N % 4294967296 ^ n = 0 := by
  constructor
  · intro h
    rw [← vB_of, vB_ext n (w := fun _ => 0) h]
    clear h
    induction n with
    | zero => rfl
    | succ n ih =>
      show vB (fun _ => 0) n + 0 * 4294967296 ^ n = 0
      rw [ih, Nat.zero_mul]
  · intro h j hj
    obtain ⟨M, hM⟩ := Nat.dvd_of_mod_eq_zero h
    rw [hM, show 4294967296 ^ n = 4294967296 ^ j * (4294967296 * 4294967296 ^ (n - j - 1)) from by rw [← Nat.pow_succ', ← Nat.pow_add, show j + (n - j - 1 + 1) = n by omega], Nat.mul_assoc, Nat.mul_div_cancel_left _ (Nat.pow_pos (by decide)), Nat.mul_assoc, Nat.mul_mod_right]
theorem le_dm {N p D : Nat} (hD : 0 < D) : N ≤ p * D ↔ (N / D < p ∨ (N / D = p ∧ N % D = 0)) := by
  have h := Nat.div_add_mod N D
  have hm := Nat.mod_lt N hD
  generalize N / D = T at *
  generalize N % D = u at *
  constructor
  · intro h2
    by_cases ht : T < p
    · exact Or.inl ht
    · right
      have h3 : p * D ≤ T * D := Nat.mul_le_mul_right _ (by omega)
      rw [Nat.mul_comm D T] at h
      have h4 : T * D ≤ p * D := by omega
      have h5 : T ≤ p := Nat.le_of_mul_le_mul_right h4 hD
      have h6 : T = p := by omega
      subst h6
      exact ⟨rfl, by omega⟩
  · rintro (h2 | ⟨rfl, h2⟩)
    · have h3 : (T + 1) * D ≤ p * D := Nat.mul_le_mul_right _ h2
      rw [Nat.add_mul, Nat.one_mul] at h3
      rw [Nat.mul_comm D T] at h
      omega
    · rw [Nat.mul_comm D T] at h
      omega
theorem pw_lt {x k : Nat} (hx : x < 147573952589676412928) (hk : k = 2 ∨ k = 3) : x ^ k < 18446744073709551616 ^ k * 512 := by
  have h1 : x ^ k < 147573952589676412928 ^ k := Nat.pow_lt_pow_left hx (by omega)
  have h2 : 147573952589676412928 ^ k ≤ 18446744073709551616 ^ k * 512 := by rcases hk with rfl | rfl <;> decide
  omega
theorem m_top {R : vM} {r : Nat → Nat} {N k : Nat} (hR : L8 R (r 50) N) (hN : N < 18446744073709551616 ^ k * 512) (hk : k = 2 ∨ k = 3) : lpD (LL_M_fits_62 R r k) (7 + 1 - (2 * k)) (0 : Int64) = Int64.ofInt ((N / 18446744073709551616 ^ k : Nat) : Int) ∧ N / 18446744073709551616 ^ k < 512 := by
  have hT : N / 18446744073709551616 ^ k < 512 := Nat.div_lt_of_lt_mul hN
  refine ⟨?_, hT⟩
  have z0 : ∀ x : Int64, ((0 : Int64) <<< ((nI 32).toInt64 &&& 63)) ||| x = x := fun x => by
    rw [show (0 : Int64) <<< ((nI 32).toInt64 &&& 63) = 0 from by decide, Int64.zero_or]
  have ez : Int64.ofInt ((0 : Nat) : Int) = (0 : Int64) := rfl
  rcases hk with rfl | rfl
  · have d4 : N / 4294967296 ^ 4 % 4294967296 = N / 18446744073709551616 ^ 2 := by
      rw [show 4294967296 ^ 4 = 18446744073709551616 ^ 2 from by decide]
      exact Nat.mod_eq_of_lt (by omega)
    have dz : ∀ j, 5 ≤ j → j < 8 → N / 4294967296 ^ j % 4294967296 = 0 := fun j h1 h2 => by
      rw [Nat.div_eq_of_lt (Nat.lt_of_lt_of_le hN (by
        rcases (show j = 5 ∨ j = 6 ∨ j = 7 by omega) with rfl | rfl | rfl <;> decide))]
    have h4 := hR.2 4 (by decide)
    have h5 := hR.2 5 (by decide)
    have h6 := hR.2 6 (by decide)
    have h7 := hR.2 7 (by decide)
    rw [d4] at h4
    rw [dz 5 (by decide) (by decide), ez] at h5
    rw [dz 6 (by decide) (by decide), ez] at h6
    rw [dz 7 (by decide) (by decide), ez] at h7
    show ((((((((0 : Int64) <<< ((nI 32).toInt64 &&& 63)) ||| R.1 (r 50) 7) <<< ((nI 32).toInt64 &&& 63)) ||| R.1 (r 50) 6) <<< ((nI 32).toInt64 &&& 63)) ||| R.1 (r 50) 5) <<< ((nI 32).toInt64 &&& 63)) ||| R.1 (r 50) 4 = _
    rw [h7, h6, h5, h4, z0, z0, z0, z0]
  · have d6 : N / 4294967296 ^ 6 % 4294967296 = N / 18446744073709551616 ^ 3 := by
      rw [show 4294967296 ^ 6 = 18446744073709551616 ^ 3 from by decide]
      exact Nat.mod_eq_of_lt (by omega)
    have d7 : N / 4294967296 ^ 7 % 4294967296 = 0 := by
      rw [Nat.div_eq_of_lt (Nat.lt_of_lt_of_le hN (by decide))]
    have h6 := hR.2 6 (by decide)
    have h7 := hR.2 7 (by decide)
    rw [d6] at h6
    rw [d7, ez] at h7
    show ((((0 : Int64) <<< ((nI 32).toInt64 &&& 63)) ||| R.1 (r 50) 7) <<< ((nI 32).toInt64 &&& 63)) ||| R.1 (r 50) 6 = _
    rw [h7, h6, z0, z0]
theorem m_fits {X : vM} {r : Nat → Nat} {x p k : Nat} (hI : MInj r) (hx : x < 147573952589676412928) (hk : k = 2 ∨ k = 3) (hp : p < 512) : onM r [50, 51] X (LF_M_fits X r (Int64.ofInt ((x / 18446744073709551616 : Nat) : Int)) (Int64.ofInt ((x % 18446744073709551616 : Nat) : Int)) (nI p) k).1 ∧ (LF_M_fits X r (Int64.ofInt ((x / 18446744073709551616 : Nat) : Int)) (Int64.ofInt ((x % 18446744073709551616 : Nat) : Int)) (nI p) k).2 = decide (x ^ k ≤ p * 18446744073709551616 ^ k) := by
  obtain ⟨a1, a2⟩ := L8_1 (X := X) (r := r)
  obtain ⟨X1, e1⟩ : ∃ Y, lpU 1 (LL_M_fits_3 r) 8 0 X = Y := ⟨_, rfl⟩
  rw [e1] at a1 a2
  have b := m_pows hI hx k 0 0 X1 a1
  rw [Nat.zero_add] at b
  obtain ⟨X2, e2⟩ : ∃ Y, lpU 1 (LL_M_fits_36 r (Int64.ofInt ((x / 18446744073709551616 : Nat) : Int)) (Int64.ofInt ((x % 18446744073709551616 : Nat) : Int))) k 0 X1 = Y := ⟨_, rfl⟩
  rw [e2] at b
  have hN := pw_lt hx hk
  have hN8 : x ^ k < 115792089237316195423570985008687907853269984665640564039457584007913129639936 := Nat.lt_of_lt_of_le hN (by rcases hk with rfl | rfl <;> decide)
  rw [Nat.mod_eq_of_lt hN8] at b
  obtain ⟨t1, t2⟩ := m_top b.1 hN hk
  have o2 : onM r [50, 51] X X2 := a2.tr b.2
  have ez := lp_zero X2 r (2 * k) 0
  have eq : LF_M_fits X r (Int64.ofInt ((x / 18446744073709551616 : Nat) : Int)) (Int64.ofInt ((x % 18446744073709551616 : Nat) : Int)) (nI p) k = if Int64.ofInt ((x ^ k / 18446744073709551616 ^ k : Nat) : Int) = Int64.ofInt (p : Int) then (X2, decide (∀ j, j < 2 * k → X2.1 (r 50) (0 + j) = 0)) else (X2, if Int64.ofInt (p : Int) ≤ Int64.ofInt ((x ^ k / 18446744073709551616 ^ k : Nat) : Int) then false else true) := by
    unfold LF_M_fits
    simp only []
    rw [e1, Nat.sub_zero, e2, t1, nI_6 (by omega), Nat.sub_zero, ez]
  have hD : 0 < 18446744073709551616 ^ k := Nat.pow_pos (by decide)
  rw [eq]
  have hTb : (0 : Int) ≤ ((x ^ k / 18446744073709551616 ^ k : Nat) : Int) ∧ ((x ^ k / 18446744073709551616 ^ k : Nat) : Int) < 65536 := ⟨Int.natCast_nonneg _, Int.ofNat_lt.mpr (Nat.lt_trans t2 (by decide))⟩
  have c1 := i6_eq (x := ((x ^ k / 18446744073709551616 ^ k : Nat) : Int)) (y := (p : Int)) hTb (by omega)
  have c2 := i6_le (x := (p : Int)) (y := ((x ^ k / 18446744073709551616 ^ k : Nat) : Int)) (by omega) hTb
  have hle := le_dm (N := x ^ k) (p := p) hD
  by_cases h1 : x ^ k / 18446744073709551616 ^ k = p
  · rw [if_pos (c1.mpr (by rw [h1]))]
    refine ⟨o2, ?_⟩
    refine decide_eq_decide.mpr ?_
    have hz : (∀ j, j < 2 * k → X2.1 (r 50) (0 + j) = 0) ↔ x ^ k % 18446744073709551616 ^ k = 0 := by
      rw [show 18446744073709551616 ^ k = 4294967296 ^ (2 * k) from by rw [Nat.pow_mul], ← nz_dg]
      refine ⟨fun h j hj => ?_, fun h j hj => ?_⟩
      · have h2 := h j hj
        rw [Nat.zero_add, b.1.2 j (by omega)] at h2
        have h3 : (Int64.ofInt ((x ^ k / 4294967296 ^ j % 4294967296 : Nat) : Int)).toBitVec.toNat = (0 : Int64).toBitVec.toNat := by rw [h2]
        rw [i6_tn (by omega)] at h3
        exact h3
      · rw [Nat.zero_add, b.1.2 j (by omega), h j hj]
        rfl
    rw [hz, hle]
    constructor
    · exact fun h => Or.inr ⟨h1, h⟩
    · rintro (h | h)
      · omega
      · exact h.2
  · rw [if_neg (fun z => h1 (Int.ofNat_inj.mp (c1.mp z)))]
    refine ⟨o2, ?_⟩
    by_cases h2 : p ≤ x ^ k / 18446744073709551616 ^ k
    · rw [decide_eq_false (fun z => by
        rcases hle.mp z with h | h
        · omega
        · omega)]
      show (if _ then false else true) = false
      rw [if_pos (c2.mpr (by omega))]
    · rw [decide_eq_true (hle.mpr (Or.inl (by omega)))]
      show (if _ then false else true) = true
      rw [if_neg (fun z => h2 (by have := c2.mp z; omega))]
theorem i6_or2 {A B h : Nat} (ha : A < 2 ^ h) (hs : A + B * 2 ^ h < 18446744073709551616) : Int64.ofInt ((B * 2 ^ h : Nat) : Int) ||| Int64.ofInt (A : Int) = Int64.ofInt ((B * 2 ^ h + A : Nat) : Int) := by
  apply Int64.toBitVec_inj.mp
  apply BitVec.eq_of_toNat_eq
  show ((Int64.ofInt ((B * 2 ^ h : Nat) : Int)).toBitVec ||| (Int64.ofInt (A : Int)).toBitVec).toNat = _
  rw [BitVec.toNat_or, i6_tn (by omega), i6_tn (by omega), i6_tn (by omega)]
  have := Nat.shiftLeft_add_eq_or_of_lt ha B
  rw [Nat.shiftLeft_eq] at this
  exact this.symm
/-- the largest number whose power is not above -/
theorem m_root0 {r : Nat → Nat} {p k : Nat} (hI : MInj r) (hk : k = 2 ∨ k = 3) (hp : p < 512) : ∀ (b : Nat) (X : vM) (x : Nat), b ≤ 67 → x % 2 ^ b = 0 → x + 2 ^ b ≤ 147573952589676412928 → x ^ k ≤ p * 18446744073709551616 ^ k → p * 18446744073709551616 ^ k < (x + 2 ^ b) ^ k → ∃ y Y z, lpD (LL_M_root_9 r (nI p) k) b (X, Int64.ofInt ((x % 18446744073709551616 : Nat) : Int), Int64.ofInt ((x / 18446744073709551616 : Nat) : Int)) = (Y, Int64.ofInt ((y % 18446744073709551616 : Nat) : Int), z) ∧ onM r [50, 51] X Y ∧ y ^ k ≤ p * 18446744073709551616 ^ k ∧ p * 18446744073709551616 ^ k < (y + 1) ^ k
  | 0, X, x, _, _, _, h1, h2 => ⟨x, X, _, rfl, onM.rf, h1, h2⟩
  | b + 1, X, x, hb, hm, hx, h1, h2 => by
    have hp2 : 2 ^ (b + 1) = 2 ^ b + 2 ^ b := by rw [Nat.pow_succ]; omega
    have hpos : 0 < 2 ^ b := Nat.pow_pos (by decide)
    have hy : x + 2 ^ b < 147573952589676412928 := by omega
    obtain ⟨M, hM⟩ := Nat.dvd_of_mod_eq_zero hm
    -- the candidate's two halves
    have hlo : (if b ≤ 63 then (Int64.ofInt ((x % 18446744073709551616 : Nat) : Int) ||| ((1 : Int64) <<< ((nI b).toInt64 &&& 63))) else Int64.ofInt ((x % 18446744073709551616 : Nat) : Int)) = Int64.ofInt (((x + 2 ^ b) % 18446744073709551616 : Nat) : Int) := by
      by_cases c : b ≤ 63
      · rw [if_pos c, show (1 : Int64) = Int64.ofInt 1 from by decide, i6_shl (by omega), Int.one_mul, show (2 : Int) ^ b = ((2 ^ b : Nat) : Int) from by rw [Int.natCast_pow]; rfl]
        obtain ⟨c1, hc1⟩ : ∃ c1, 18446744073709551616 = 2 ^ (b + 1) * c1 := ⟨2 ^ (63 - b), by rw [← Nat.pow_add, show b + 1 + (63 - b) = 64 by omega]⟩
        have e1 : x % 18446744073709551616 = M % c1 * 2 ^ (b + 1) := by rw [hM, hc1, Nat.mul_mod_mul_left, Nat.mul_comm]
        have hc0 : 0 < c1 := by
          rcases Nat.eq_zero_or_pos c1 with h | h
          · rw [h] at hc1; omega
          · exact h
        have hMc : M % c1 + 1 ≤ c1 := Nat.mod_lt M hc0
        have h3 : (M % c1 + 1) * 2 ^ (b + 1) ≤ c1 * 2 ^ (b + 1) := Nat.mul_le_mul_right _ hMc
        rw [Nat.add_mul, Nat.one_mul, Nat.mul_comm c1, ← hc1] at h3
        have e2 : (x + 2 ^ b) % 18446744073709551616 = M % c1 * 2 ^ (b + 1) + 2 ^ b := by
          rw [Nat.add_mod, e1, Nat.mod_eq_of_lt (show 2 ^ b < 18446744073709551616 by omega), Nat.mod_eq_of_lt (by omega)]
        rw [e1, e2]
        exact i6_or2 (by omega) (by omega)
      · rw [if_neg c]
        congr 2
        obtain ⟨c1, hc1⟩ : ∃ c1, 2 ^ b = 18446744073709551616 * c1 := ⟨2 ^ (b - 64), by rw [show 18446744073709551616 = 2 ^ 64 from by decide, ← Nat.pow_add, show 64 + (b - 64) = b by omega]⟩
        rw [hc1, Nat.add_mul_mod_self_left]
    have hhi : (if b ≤ 63 then Int64.ofInt ((x / 18446744073709551616 : Nat) : Int) else (Int64.ofInt ((x / 18446744073709551616 : Nat) : Int) ||| ((1 : Int64) <<< ((nI (b - 64)).toInt64 &&& 63)))) = Int64.ofInt (((x + 2 ^ b) / 18446744073709551616 : Nat) : Int) := by
      by_cases c : b ≤ 63
      · rw [if_pos c]
        congr 2
        obtain ⟨c1, hc1⟩ : ∃ c1, 18446744073709551616 = 2 ^ (b + 1) * c1 := ⟨2 ^ (63 - b), by rw [← Nat.pow_add, show b + 1 + (63 - b) = 64 by omega]⟩
        rw [hM, hc1, ← Nat.div_div_eq_div_mul, ← Nat.div_div_eq_div_mul, Nat.mul_div_cancel_left _ (by omega), Nat.mul_add_div (by omega), Nat.div_eq_of_lt (show 2 ^ b < 2 ^ (b + 1) by omega), Nat.add_zero]
      · rw [if_neg c, show (1 : Int64) = Int64.ofInt 1 from by decide, i6_shl (by omega), Int.one_mul, show (2 : Int) ^ (b - 64) = ((2 ^ (b - 64) : Nat) : Int) from by rw [Int.natCast_pow]; rfl]
        have hw : 2 ^ b = 2 ^ (b - 64) * 18446744073709551616 := by rw [show 18446744073709551616 = 2 ^ 64 from by decide, ← Nat.pow_add, show b - 64 + 64 = b by omega]
        have hw2 : 2 ^ (b + 1) = 2 ^ (b - 64 + 1) * 18446744073709551616 := by rw [show 18446744073709551616 = 2 ^ 64 from by decide, ← Nat.pow_add, show b - 64 + 1 + 64 = b + 1 by omega]
        have e1 : x / 18446744073709551616 = M * 2 ^ (b - 64 + 1) := by rw [hM, hw2, Nat.mul_comm, ← Nat.mul_assoc, Nat.mul_div_cancel _ (by decide)]
        have e2 : (x + 2 ^ b) / 18446744073709551616 = M * 2 ^ (b - 64 + 1) + 2 ^ (b - 64) := by rw [hw, Nat.add_mul_div_right _ _ (by decide), e1]
        have hlt : (x + 2 ^ b) / 18446744073709551616 < 8 := by omega
        rw [e2] at hlt ⊢
        rw [e1]
        have hq : 2 ^ (b - 64 + 1) = 2 ^ (b - 64) + 2 ^ (b - 64) := by rw [Nat.pow_succ]; omega
        have hq0 : 0 < 2 ^ (b - 64) := Nat.pow_pos (by decide)
        exact i6_or2 (by omega) (by omega)
    have f := m_fits (X := X) (x := x + 2 ^ b) (p := p) hI hy hk hp
    rw [← hlo, ← hhi] at f
    obtain ⟨V, eV⟩ : ∃ V, (LF_M_fits X r (if b ≤ 63 then Int64.ofInt ((x / 18446744073709551616 : Nat) : Int) else (Int64.ofInt ((x / 18446744073709551616 : Nat) : Int) ||| ((1 : Int64) <<< ((nI (b - 64)).toInt64 &&& 63)))) (if b ≤ 63 then (Int64.ofInt ((x % 18446744073709551616 : Nat) : Int) ||| ((1 : Int64) <<< ((nI b).toInt64 &&& 63))) else Int64.ofInt ((x % 18446744073709551616 : Nat) : Int)) (nI p) k).1 = V := ⟨_, rfl⟩
    rw [eV] at f
    have hst : LL_M_root_9 r (nI p) k b (X, Int64.ofInt ((x % 18446744073709551616 : Nat) : Int), Int64.ofInt ((x / 18446744073709551616 : Nat) : Int)) = (V, (if decide ((x + 2 ^ b) ^ k ≤ p * 18446744073709551616 ^ k) = true then (Int64.ofInt (((x + 2 ^ b) % 18446744073709551616 : Nat) : Int), Int64.ofInt (((x + 2 ^ b) / 18446744073709551616 : Nat) : Int)) else (Int64.ofInt ((x % 18446744073709551616 : Nat) : Int), Int64.ofInt ((x / 18446744073709551616 : Nat) : Int)))) := by
      unfold LL_M_root_9
      simp only []
      rw [f.2, eV, hlo, hhi]
    show ∃ y Y z, lpD (LL_M_root_9 r (nI p) k) b (LL_M_root_9 r (nI p) k b (X, Int64.ofInt ((x % 18446744073709551616 : Nat) : Int), Int64.ofInt ((x / 18446744073709551616 : Nat) : Int))) = _ ∧ _
    rw [hst]
    by_cases hc : (x + 2 ^ b) ^ k ≤ p * 18446744073709551616 ^ k
    · rw [if_pos (decide_eq_true hc)]
      obtain ⟨y, Y, z, g1, g2, g3⟩ := m_root0 hI hk hp b V (x + 2 ^ b) (by omega) (by rw [hM, hp2, ← Nat.mul_two, Nat.mul_assoc, Nat.add_mod_right, Nat.mul_mod_right]) (by omega) hc (by rw [Nat.add_assoc, ← hp2]; exact h2)
      exact ⟨y, Y, z, g1, f.1.tr g2, g3⟩
    · rw [if_neg (fun z => hc (of_decide_eq_true z))]
      obtain ⟨y, Y, z, g1, g2, g3⟩ := m_root0 hI hk hp b V x (by omega) (by rw [hM, hp2, ← Nat.mul_two, Nat.mul_assoc, Nat.mul_mod_right]) (by omega) h1 (by omega)
      exact ⟨y, Y, z, g1, f.1.tr g2, g3⟩
theorem m_root {X : vM} {r : Nat → Nat} {p k x0 : Nat} (hI : MInj r) (hk : k = 2 ∨ k = 3) (hp : p < (if k = 2 then 64 else 512)) (h1 : x0 ^ k ≤ p * 18446744073709551616 ^ k) (h2 : p * 18446744073709551616 ^ k < (x0 + 1) ^ k) : onM r [50, 51] X (LF_M_root X r (nI p) k).1 ∧ (LF_M_root X r (nI p) k).2 = Int64.ofInt ((x0 % 18446744073709551616 : Nat) : Int) := by
  have hp5 : p < 512 := by
    rcases hk with rfl | rfl
    · rw [if_pos rfl] at hp; omega
    · rw [if_neg (by decide)] at hp; exact hp
  have h3 : p * 18446744073709551616 ^ k < (0 + 2 ^ 67) ^ k := by
    rcases hk with rfl | rfl
    · rw [if_pos rfl] at hp
      have : p * 18446744073709551616 ^ 2 < 64 * 18446744073709551616 ^ 2 := Nat.mul_lt_mul_of_pos_right hp (by decide)
      exact Nat.lt_of_lt_of_le this (by decide)
    · rw [if_neg (by decide)] at hp
      have : p * 18446744073709551616 ^ 3 < 512 * 18446744073709551616 ^ 3 := Nat.mul_lt_mul_of_pos_right hp (by decide)
      exact Nat.lt_of_lt_of_le this (by decide)
  obtain ⟨y, Y, z, g1, g2, g3, g4⟩ := m_root0 hI hk hp5 67 X 0 (by decide) (Nat.zero_mod _) (by decide) (by rw [Nat.zero_pow (by omega)]; exact Nat.zero_le _) h3
  have ey : y = x0 := by
    have a1 : ¬ (y + 1 ≤ x0) := fun h => by
      have := Nat.pow_le_pow_left h k
      omega
    have a2 : ¬ (x0 + 1 ≤ y) := fun h => by
      have := Nat.pow_le_pow_left h k
      omega
    omega
  have e : LF_M_root X r (nI p) k = (Y, Int64.ofInt ((y % 18446744073709551616 : Nat) : Int)) := by
    show ((lpD (LL_M_root_9 r (nI p) k) 67 (X, (0 : Int64), (0 : Int64))).1, (lpD (LL_M_root_9 r (nI p) k) 67 (X, (0 : Int64), (0 : Int64))).2.1) = _
    have g1' : lpD (LL_M_root_9 r (nI p) k) 67 (X, (0 : Int64), (0 : Int64)) = (Y, Int64.ofInt ((y % 18446744073709551616 : Nat) : Int), z) := g1
    rw [g1']
  rw [e, ey]
  exact ⟨g2, rfl⟩
def rt3 (i : Nat) : Nat := ([23241441160490167842, 26604808713878332877, 31543488660544240431, 35287351959220771772, 41025191555757552952, 43374469216020582425, 47431773444313272219, 49223322299838333208, 52460086356995146306, 56674242196778545086, 57948244932766773900, 61468643694135456994, 63608380943893236079, 64626287408284341937, 66571091106846937653, 69291241975837173396, 71813108563482594002, 72615556083564357091, 74922338351982630325, 76384605279477341285, 77095200552867529333, 79152035218479047811, 80466001307761769428, 82360010132597855157, 84757271453788200875, 85906662539289440784, 86470001012957192511, 87575168524888248036, 88117443448470540226, 89182409882623190821, 92723033081372705391, 93686458245878541936, 95095488024300105724, 95556006044611561766, 97794660939065469677, 98230277650290947039, 99514478923103560670, 100766364611844223656, 101583977345534766822, 102786266195516601659, 103961068102722061156, 104346826991781163009, 106234157551817627537, 106603670640207904304, 107335108066752287256, 107697117917222381840, 109819772810290077738, 111863398698143437240, 112528278492720320712, 112857792170093030227, 113511107980111571865, 114477206417490790568, 114795642568024087139, 116361942610802215627, 117281838038729876339, 118187525164200278179, 119079540232616391420, 119373928427484032864, 120248493880617511794, 120824543361758411244, 121110519679094562344, 122520547622920568297, 124441674862916172053, 124979807718728684331, 125247145020423037340, 125778422408467759623, 127603441353585912606, 128369846764518166904, 129627222056361226170, 129875788766833580198, 130370087684295691694, 131104582549941012251, 132071287192121802116, 132787134709014930579, 133495346155087314620, 133963344184962190668, 134659270149180113590, 135576127461610847786, 136029942151059536620, 136928597060811708439] : List Nat).getD i 0
def rt2 (i : Nat) : Nat := ([26087635650665564424, 31950697969885030203, 41248173712355948587, 48805497317890012913, 61180928696206656209, 66510681623121259551, 76057874264641092971, 80407493254657745273] : List Nat).getD i 0
theorem rt3_ok : ∀ i, i < 80 → pl_ (i + 1) < 512 ∧ rt3 i ^ 3 ≤ pl_ (i + 1) * 18446744073709551616 ^ 3 ∧ pl_ (i + 1) * 18446744073709551616 ^ 3 < (rt3 i + 1) ^ 3 ∧ st_v 7 i = Int64.ofInt ((rt3 i % 18446744073709551616 : Nat) : Int) := by decide +kernel
theorem rt2_ok : ∀ i, i < 8 → pl_ (i + 1) < 64 ∧ rt2 i ^ 2 ≤ pl_ (i + 1) * 18446744073709551616 ^ 2 ∧ pl_ (i + 1) * 18446744073709551616 ^ 2 < (rt2 i + 1) ^ 2 ∧ st_v 6 i = Int64.ofInt ((rt2 i % 18446744073709551616 : Nat) : Int) := by decide +kernel
theorem m_consts {X : vM} {r : Nat → Nat} (hI : MInj r) : onM r [46, 47, 50, 51] X (LF_M_constants X r) ∧ (∀ i, i < 80 → (LF_M_constants X r).1 (r 46) i = st_v 7 i) ∧ ∀ i, i < 8 → (LF_M_constants X r).1 (r 47) i = st_v 6 i := by
  have key : ∀ n i Y q, i + n = 80 → onM r [46, 47, 50, 51] X Y → (∀ j, j < i → Y.1 (r 46) j = st_v 7 j) → (∀ j, j < i → j < 8 → Y.1 (r 47) j = st_v 6 j) → onM r [46, 47, 50, 51] X (lpU 1 (LL_M_constants_4 r) n i (Y, q)).1 ∧ (∀ j, j < 80 → (lpU 1 (LL_M_constants_4 r) n i (Y, q)).1.1 (r 46) j = st_v 7 j) ∧ ∀ j, j < 80 → j < 8 → (lpU 1 (LL_M_constants_4 r) n i (Y, q)).1.1 (r 47) j = st_v 6 j := by
    intro n
    induction n with
    | zero =>
      intro i Y q hi h1 h2 h3
      have : i = 80 := by omega
      subst this
      exact ⟨h1, h2, h3⟩
    | succ n ih =>
      intro i Y q hi h1 h2 h3
      obtain ⟨c1, c2, c3, c4⟩ := rt3_ok i (by omega)
      have a := m_root (X := Y) (r := r) (p := pl_ (i + 1)) (k := 3) hI (Or.inr rfl) (by rw [if_neg (by decide)]; exact c1) c2 c3
      rw [← c4] at a
      obtain ⟨X2, e2⟩ : ∃ Z, (LF_M_root Y r (nI (pl_ (i + 1))) 3).1 = Z := ⟨_, rfl⟩
      obtain ⟨X3, e3⟩ : ∃ Z, stL X2 (r 46) i (st_v 7 i) = Z := ⟨_, rfl⟩
      rw [e2] at a
      have o3 : onM r [46, 47, 50, 51] X X3 := by
        refine (h1.ad a.1 rfl).tr ?_
        rw [← e3]
        exact st_on X2 (r 46) i _ (by simp)
      have k46 : X2.1 (r 46) = Y.1 (r 46) := a.1.2 (r 46) (hI.ni (l := [50, 51]) 46 rfl)
      have k47 : X3.1 (r 47) = Y.1 (r 47) := by
        rw [← e3]
        refine Eq.trans (funext fun k => if_neg (fun z => hI.ne 47 46 rfl z.1)) (a.1.2 (r 47) (hI.ni (l := [50, 51]) 47 rfl))
      have v3 : ∀ j, j < i + 1 → X3.1 (r 46) j = st_v 7 j := fun j hj => by
        rw [← e3]
        show (if r 46 = r 46 ∧ j = i then st_v 7 i else X2.1 (r 46) j) = _
        by_cases hc : j = i
        · rw [if_pos ⟨rfl, hc⟩, hc]
        · rw [if_neg (fun z => hc z.2), k46]
          exact h2 j (by omega)
      show onM r [46, 47, 50, 51] X (lpU 1 (LL_M_constants_4 r) n (i + 1) (LL_M_constants_4 r i (Y, q))).1 ∧ (∀ j, j < 80 → (lpU 1 (LL_M_constants_4 r) n (i + 1) (LL_M_constants_4 r i (Y, q))).1.1 (r 46) j = st_v 7 j) ∧ ∀ j, j < 80 → j < 8 → (lpU 1 (LL_M_constants_4 r) n (i + 1) (LL_M_constants_4 r i (Y, q))).1.1 (r 47) j = st_v 6 j
      by_cases h8 : 8 ≤ i
      · have e : LL_M_constants_4 r i (Y, q) = (X3, pl_ (i + 1)) := by
          unfold LL_M_constants_4
          simp only []
          rw [a.2, e2, e3, if_pos h8]
        rw [e]
        exact ih (i + 1) X3 _ (by omega) o3 v3 (fun j hj hj8 => by rw [k47]; exact h3 j (by omega) hj8)
      · obtain ⟨d1, d2, d3, d4⟩ := rt2_ok i (by omega)
        have b := m_root (X := X3) (r := r) (p := pl_ (i + 1)) (k := 2) hI (Or.inl rfl) (by rw [if_pos rfl]; exact d1) d2 d3
        rw [← d4] at b
        obtain ⟨X5, e5⟩ : ∃ Z, (LF_M_root X3 r (nI (pl_ (i + 1))) 2).1 = Z := ⟨_, rfl⟩
        obtain ⟨X6, e6⟩ : ∃ Z, stL X5 (r 47) i (st_v 6 i) = Z := ⟨_, rfl⟩
        rw [e5] at b
        have o6 : onM r [46, 47, 50, 51] X X6 := by
          refine (o3.ad b.1 rfl).tr ?_
          rw [← e6]
          exact st_on X5 (r 47) i _ (by simp)
        have l46 : X6.1 (r 46) = X3.1 (r 46) := by
          rw [← e6]
          refine Eq.trans (funext fun k => if_neg (fun z => hI.ne 46 47 rfl z.1)) (b.1.2 (r 46) (hI.ni (l := [50, 51]) 46 rfl))
        have l47 : X5.1 (r 47) = X3.1 (r 47) := b.1.2 (r 47) (hI.ni (l := [50, 51]) 47 rfl)
        have e : LL_M_constants_4 r i (Y, q) = (X6, pl_ (i + 1)) := by
          unfold LL_M_constants_4
          simp only []
          rw [a.2, e2, e3, if_neg h8, b.2, e5, e6]
        rw [e]
        refine ih (i + 1) X6 _ (by omega) o6 (fun j hj => by rw [l46]; exact v3 j hj) (fun j hj hj8 => ?_)
        rw [← e6]
        show (if r 47 = r 47 ∧ j = i then st_v 6 i else X5.1 (r 47) j) = _
        by_cases hc : j = i
        · rw [if_pos ⟨rfl, hc⟩, hc]
        · rw [if_neg (fun z => hc z.2), l47, k47]
          exact h3 j (by omega) hj8
  obtain ⟨k1, k2, k3⟩ := key 80 0 X 1 rfl onM.rf (fun j hj => absurd hj (by omega)) (fun j hj => absurd hj (by omega))
  exact ⟨k1, k2, fun i hi => k3 i (by omega) hi⟩
