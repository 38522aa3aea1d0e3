/-! the reference's product -/
theorem m_one {X : vM} {a : Nat} {A : Int} (ha : M16 X a A) : LF_M_one X a = decide (A = 1) := by
  have h := lpE_all (P := fun i => X.1 a i = 0) (hP := fun i => inferInstance) (LL_M_one_12 X a) (fun i u => rfl) 15 1
  have e1 : (Int64.ofInt (dgI A 0) = (1 : Int64)) ↔ dgI A 0 = 1 := i6_eq (dgI_bd A 0) (y := 1) (by decide)
  have h2 : (X.1 a 0 = 1 ∧ ∀ j, 1 ≤ j → j < 1 + 15 → X.1 a j = 0) ↔ A = 1 := by
    constructor
    · rintro ⟨h0, hz⟩
      rw [← M16.sum ha.1, sS_ext (g := fun i => if i = 0 then 1 else 0) 16 (fun i hi => by
        by_cases i0 : i = 0
        · rw [if_pos i0, i0]
          exact e1.mp ((ha.2 0 (by decide)).symm.trans h0)
        · rw [if_neg i0]
          exact (i6_eq0 (dgI_bd A i)).mp ((ha.2 i hi).symm.trans (hz i (by omega) (by omega))))]
      decide
    · intro e
      refine ⟨?_, fun j h1 h2 => ?_⟩
      · rw [ha.2 0 (by decide), e, dg_small (by decide)]
        rfl
      · rw [ha.2 j (by omega), e, dg_small (by decide), if_neg (by omega)]
        rfl
  show (if X.1 a 0 = (1 : Int64) then Sum.elim (fun r => r) (fun (_ : Unit) => true) (lpE 1 (LL_M_one_12 X a) 15 1 ()) else false) = decide (A = 1)
  apply Bool.eq_iff_iff.mpr
  rw [decide_eq_true_iff, ← h2]
  by_cases h0 : X.1 a 0 = (1 : Int64)
  · rw [if_pos h0, h]
    exact ⟨fun z => ⟨h0, z⟩, fun z => z.2⟩
  · rw [if_neg h0]
    exact ⟨fun z => (by cases z), fun z => absurd z.1 h0⟩
/-- n numbers of a, from place o on, are set -/
def svO (X : vM) (a o n : Nat) (f : Nat → Int64) : vM := (fun b k => if b = a ∧ o ≤ k ∧ k < o + n then f (k - o) else X.1 b k, X.2)
theorem svO_0 (X : vM) (a o : Nat) (f : Nat → Int64) : svO X a o 0 f = X := by
  refine Prod.ext (funext fun b => funext fun k => ?_) rfl
  exact if_neg (fun z => by omega)
theorem svO_ne {X : vM} {a o n b : Nat} {f : Nat → Int64} (h : b ≠ a) (k : Nat) : (svO X a o n f).1 b k = X.1 b k := if_neg (fun z => h z.1)
theorem svO_out {X : vM} {a o n b k : Nat} {f : Nat → Int64} (h : k < o ∨ o + n ≤ k) : (svO X a o n f).1 b k = X.1 b k := if_neg (fun z => by omega)
theorem svO_in {X : vM} {a o n k : Nat} {f : Nat → Int64} (h : k < n) : (svO X a o n f).1 a (o + k) = f k := by
  show (if a = a ∧ o ≤ o + k ∧ o + k < o + n then f (o + k - o) else _) = _
  rw [if_pos ⟨rfl, by omega, by omega⟩, Nat.add_sub_cancel_left]
theorem svO_st (X : vM) (a o i : Nat) (f : Nat → Int64) : stL (svO X a o i f) a (o + i) (f i) = svO X a o (i + 1) f := by
  refine Prod.ext (funext fun b => funext fun k => ?_) rfl
  show (if b = a ∧ k = o + i then f i else if b = a ∧ o ≤ k ∧ k < o + i then f (k - o) else X.1 b k) = if b = a ∧ o ≤ k ∧ k < o + (i + 1) then f (k - o) else X.1 b k
  by_cases hb : b = a
  · by_cases hk : k = o + i
    · rw [if_pos ⟨hb, hk⟩, if_pos ⟨hb, by omega, by omega⟩, hk, Nat.add_sub_cancel_left]
    · rw [if_neg (fun z => hk z.2)]
      by_cases hl : o ≤ k ∧ k < o + i
      · rw [if_pos ⟨hb, hl⟩, if_pos ⟨hb, by omega, by omega⟩]
      · rw [if_neg (fun z => hl z.2), if_neg (fun z => by omega)]
  · rw [if_neg (fun z => hb z.1), if_neg (fun z => hb z.1), if_neg (fun z => hb z.1)]
theorem cl_addO (to o : Nat) (X : vM) (f : Nat → Int) (body : Nat → vM × Int64 → vM × Int64) (hf : ∀ i, i < 16 → -1099511627776 ≤ f i ∧ f i ≤ 1099511627776) (hb : ∀ (i : Nat) (c : Int64) (t : Nat → Int64), i < 16 → body i (svO X to o i t, c) = (stL (svO X to o i t) to (o + i) ((c + Int64.ofInt (f i)) &&& 65535), (c + Int64.ofInt (f i)) >>> ((nI 16).toInt64 &&& 63))) : lpU 1 body 16 0 (X, 0) = (svO X to o 16 (fun j => Int64.ofInt (sS f 16 / 65536 ^ j % 65536)), Int64.ofInt (sS f 16 / 65536 ^ 16)) := by
  have key : ∀ k i, i + k = 16 → lpU 1 body k i (svO X to o i (fun j => Int64.ofInt (sS f 16 / 65536 ^ j % 65536)), Int64.ofInt (sS f i / 65536 ^ i)) = (svO X to o 16 (fun j => Int64.ofInt (sS f 16 / 65536 ^ j % 65536)), Int64.ofInt (sS f 16 / 65536 ^ 16)) := by
    intro k
    induction k with
    | zero =>
      intro i hi
      rw [show i = 16 by omega]
      rfl
    | succ k ih =>
      intro i hi
      have hlt : i < 16 := by omega
      have hc := sS_b hf i (by omega)
      have h1 := hf i hlt
      show lpU 1 body k (i + 1) (body i _) = _
      rw [hb i _ _ hlt, ← Int64.ofInt_add, i6_and16, i6_shr (by decide) (by omega), sS_d f hlt, show (2 : Int) ^ 16 = 65536 from rfl, sS_c, svO_st X to o i (fun j => Int64.ofInt (sS f 16 / 65536 ^ j % 65536))]
      exact ih (i + 1) (by omega)
  have := key 16 0 (by omega)
  rw [svO_0] at this
  exact this
theorem dg_shift (N : Int) (i j : Nat) : dgI N (i + j) = dgI (N / 65536 ^ i) j := by
  unfold dgI
  have := p16_pos i
  rw [Int.pow_add, Int.ediv_ediv_of_nonneg (by omega)]
theorem dg_low (N K : Int) {k i : Nat} (h : k < i) : dgI (N + K * 65536 ^ i) k = dgI N k := by
  obtain ⟨m, rfl⟩ : ∃ m, i = k + (m + 1) := ⟨i - k - 1, by omega⟩
  unfold dgI
  have hp := p16_pos k
  rw [Int.pow_add, ← Int.mul_assoc, Int.mul_right_comm, Int.add_mul_ediv_right _ _ (by omega), Int.pow_succ, ← Int.mul_assoc, Int.add_mul_emod_self_right]
theorem dg_top {N : Int} {j : Nat} (h0 : 0 ≤ N) (h : N < 65536 ^ j) : dgI N j = 0 := by
  unfold dgI
  rw [Int.ediv_eq_zero_of_lt h0 h]
  rfl
theorem sS_mul (f : Nat → Int) (c : Int) : ∀ n, sS (fun i => c * f i) n = c * sS f n
  | 0 => (Int.mul_zero c).symm
  | n + 1 => by
    show sS (fun i => c * f i) n + c * f n * 65536 ^ n = c * (sS f n + f n * 65536 ^ n)
    rw [sS_mul f c n, Int.mul_add, Int.mul_assoc]
theorem p16_mono {i j : Nat} (h : i ≤ j) : (65536 : Int) ^ i ≤ 65536 ^ j := by
  obtain ⟨k, rfl⟩ : ∃ k, j = i + k := ⟨j - i, by omega⟩
  rw [Int.pow_add]
  have h1 := p16_pos i
  have h2 := p16_pos k
  have := Int.mul_le_mul_of_nonneg_left (show (1 : Int) ≤ 65536 ^ k by omega) (show (0 : Int) ≤ 65536 ^ i by omega)
  omega
/-- a row of the product -/
theorem m_row {X : vM} {r : Nat → Nat} {a b i : Nat} {A B N : Int} (hi : i < 16) (ha : M16 X a A) (hb : M16 X b B) (na : a ≠ r 40) (nb : b ≠ r 40) (hN : 0 ≤ N ∧ N < 65536 ^ (i + 16)) : LL_M_times_27 r a b i (svL X (r 40) 32 (fun j => Int64.ofInt (dgI N j))) = svL X (r 40) 32 (fun j => Int64.ofInt (dgI (N + dgI A i * B * 65536 ^ i) j)) := by
  obtain ⟨Z, hZ⟩ : ∃ Z, svL X (r 40) 32 (fun j => Int64.ofInt (dgI N j)) = Z := ⟨_, rfl⟩
  have dA := dgI_bd A i
  have h := cl_addO (r 40) i Z (fun j => dgI N (i + j) + dgI A i * dgI B j) (LL_M_times_40 r i a b) (fun j _ => by
    have h1 := dgI_bd N (i + j)
    have h2 := dgI_bd B j
    have h3 := mb (a := dgI A i) (b := dgI B j) (A := 65536) (B := 65536) (by omega) (by omega)
    omega) (fun j c t hj => by
    show (stL (svO Z (r 40) i j t) (r 40) (i + j) ((c + ((svO Z (r 40) i j t).1 (r 40) (i + j) + (svO Z (r 40) i j t).1 a i * (svO Z (r 40) i j t).1 b j)) &&& 65535), (c + ((svO Z (r 40) i j t).1 (r 40) (i + j) + (svO Z (r 40) i j t).1 a i * (svO Z (r 40) i j t).1 b j)) >>> ((nI 16).toInt64 &&& 63)) = _
    rw [svO_out (Or.inr (Nat.le_refl _)), svO_ne na, svO_ne nb, ← hZ, svL_at X (r 40) 32 _ (by omega), svL_ne X (r 40) 32 _ na, svL_ne X (r 40) 32 _ nb, ha.2 i hi, hb.2 j hj, ← Int64.ofInt_mul, ← Int64.ofInt_add])
  have hp := p16_pos i
  have hS : sS (fun j => dgI N (i + j) + dgI A i * dgI B j) 16 = N / 65536 ^ i + dgI A i * B := by
    rw [sS_add, sS_mul, M16.sum hb.1, sS_ext (f := fun j => dgI N (i + j)) (g := dgI (N / 65536 ^ i)) 16 (fun j _ => dg_shift N i j), dg_sum, Int.emod_eq_of_lt (Int.ediv_nonneg hN.1 (by omega)) (Int.ediv_lt_of_lt_mul hp (by have := hN.2; rw [Int.pow_add, Int.mul_comm] at this; exact this))]
  rw [hS] at h
  have hS0 : 0 ≤ N / 65536 ^ i := Int.ediv_nonneg hN.1 (by omega)
  have hS1 : N / 65536 ^ i < 65536 ^ 16 := Int.ediv_lt_of_lt_mul hp (by have := hN.2; rw [Int.pow_add, Int.mul_comm] at this; exact this)
  have hAB : 0 ≤ dgI A i * B ∧ dgI A i * B ≤ 65535 * B := ⟨Int.mul_nonneg dA.1 hb.1.1, Int.mul_le_mul_of_nonneg_right (by omega) hb.1.1⟩
  have hB2 := hb.1.2
  rw [p16_16] at hS1
  have hM : (N + dgI A i * B * 65536 ^ i) / 65536 ^ i = N / 65536 ^ i + dgI A i * B := Int.add_mul_ediv_right _ _ (by omega)
  show stL (lpU 1 (LL_M_times_40 r i a b) 16 0 (svL X (r 40) 32 (fun j => Int64.ofInt (dgI N j)), (0 : Int64))).1 (r 40) (i + 16) (lpU 1 (LL_M_times_40 r i a b) 16 0 (svL X (r 40) 32 (fun j => Int64.ofInt (dgI N j)), (0 : Int64))).2 = _
  rw [hZ, h]
  simp only []
  rw [← hM]
  obtain ⟨T, hT⟩ : ∃ T, N + dgI A i * B * 65536 ^ i = T := ⟨_, rfl⟩
  rw [hT]
  have hTS : T / 65536 ^ i = N / 65536 ^ i + dgI A i * B := by rw [← hT]; exact hM
  refine Prod.ext (funext fun q => funext fun k => ?_) (by rw [← hZ]; rfl)
  show (if q = r 40 ∧ k = i + 16 then Int64.ofInt (T / 65536 ^ i / 65536 ^ 16) else if q = r 40 ∧ i ≤ k ∧ k < i + 16 then Int64.ofInt (T / 65536 ^ i / 65536 ^ (k - i) % 65536) else Z.1 q k) = if q = r 40 ∧ k < 32 then Int64.ofInt (dgI T k) else X.1 q k
  by_cases hq : q = r 40
  · subst hq
    by_cases k1 : k = i + 16
    · rw [if_pos ⟨rfl, k1⟩, if_pos ⟨rfl, by omega⟩, k1, dg_shift]
      congr 1
      unfold dgI
      have b1 : 0 ≤ T / 65536 ^ i / 65536 ^ 16 := Int.ediv_nonneg (by omega) (by decide)
      have b2 : T / 65536 ^ i / 65536 ^ 16 < 65536 := Int.ediv_lt_of_lt_mul (by decide) (by rw [p16_16]; omega)
      exact (Int.emod_eq_of_lt b1 b2).symm
    · rw [if_neg (fun z => k1 z.2)]
      by_cases k2 : i ≤ k ∧ k < i + 16
      · rw [if_pos ⟨rfl, k2⟩, if_pos ⟨rfl, by omega⟩]
        have e : k = i + (k - i) := by omega
        conv => rhs; rw [e, dg_shift]
        rfl
      · rw [if_neg (fun z => k2 z.2), ← hZ]
        show (if r 40 = r 40 ∧ k < 32 then Int64.ofInt (dgI N k) else X.1 (r 40) k) = _
        by_cases k3 : k < 32
        · rw [if_pos ⟨rfl, k3⟩, if_pos ⟨rfl, k3⟩]
          congr 1
          by_cases k4 : k < i
          · rw [← hT]; exact (dg_low N (dgI A i * B) k4).symm
          · have e : k = i + (k - i) := by omega
            have hk : (65536 : Int) ^ 17 ≤ 65536 ^ (k - i) := p16_mono (by omega)
            have hk2 : (65536 : Int) ^ 17 = 65536 * 115792089237316195423570985008687907853269984665640564039457584007913129639936 := by decide
            rw [e, dg_shift, dg_shift, dg_top hS0 (by omega), dg_top (by omega) (by omega)]
        · rw [if_neg (fun z => k3 z.2), if_neg (fun z => k3 z.2)]
  · rw [if_neg (fun z => hq z.1), if_neg (fun z => hq z.1), if_neg (fun z => hq z.1), ← hZ]
    exact svL_ne X (r 40) 32 _ hq k
