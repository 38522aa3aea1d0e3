/-! the reference's small methods: minus, copy, set, zero, alike, one -/
theorem sS_ext {f g : Nat → Int} : ∀ n, (∀ i, i < n → f i = g i) → sS f n = sS g n
  | 0, _ => rfl
  | n + 1, h => by
    show sS f n + f n * 65536 ^ n = sS g n + g n * 65536 ^ n
    rw [sS_ext n (fun i hi => h i (by omega)), h n (by omega)]
theorem m_minus {X : vM} {to a b m : Nat} {A B M : Int} (ha : M16 X a A) (hb : M16 X b B) (hm : M16 X m M) (hmt : m ≠ to) (hA : A < M) (hB : B < M) (hM : M ≤ 57896044618658097711785492504343953926634992332820282019728792003956564819968) : mR X (LF_M_minus X to a b m) to ((A - B) % M) := by
  have h := cl_sub to X (fun i => dgI A i - dgI B i) (LL_M_minus_6 a b to) (fun i _ => by have := dgI_bd A i; have := dgI_bd B i; omega) (fun i c t hi => by
    show (stL (svL X to i t) to i ((((svL X to i t).1 a i - (svL X to i t).1 b i) - c) &&& 65535), if (0 : Int64) ≤ ((svL X to i t).1 a i - (svL X to i t).1 b i) - c then (0 : Int64) else (1 : Int64)) = _
    rw [sv_rd, sv_rd, ha.2 i hi, hb.2 i hi, ← Int64.ofInt_sub])
  rw [sS_sub, M16.sum ha.1, M16.sum hb.1, p16_16] at h
  have a0 := ha.1.1
  have b0 := hb.1.1
  show mR X (if (lpU 1 (LL_M_minus_6 a b to) 16 0 (X, (0 : Int64))).2 = (0 : Int64) then (lpU 1 (LL_M_minus_6 a b to) 16 0 (X, (0 : Int64))).1 else (lpU 1 (LL_M_minus_71 to m) 16 0 ((lpU 1 (LL_M_minus_6 a b to) 16 0 (X, (0 : Int64))).1, (0 : Int64))).1) to ((A - B) % M)
  rw [h]
  simp only []
  by_cases hle : B ≤ A
  · rw [show (A - B) / 115792089237316195423570985008687907853269984665640564039457584007913129639936 = 0 from Int.ediv_eq_zero_of_lt (by omega) (by omega), if_pos (by decide), Int.emod_eq_of_lt (by omega) (by omega)]
    exact mR.mk' rfl (by omega)
  · have hq : (A - B) / 115792089237316195423570985008687907853269984665640564039457584007913129639936 = -1 := by omega
    rw [hq, if_neg (by decide)]
    have e : (A - B) % M = A - B + M := by
      have := Int.add_mul_emod_self_right (A - B) 1 M
      rw [Int.one_mul] at this
      rw [← this]
      exact Int.emod_eq_of_lt (by omega) (by omega)
    have hm2 : M16 (svL X to 16 (fun j => Int64.ofInt ((A - B) / 65536 ^ j % 65536))) m M := hm.ne hmt
    have h2 := cl_add to (svL X to 16 (fun j => Int64.ofInt ((A - B) / 65536 ^ j % 65536))) (fun i => dgI (A - B) i + dgI M i) (LL_M_minus_71 to m) (fun i _ => by have := dgI_bd (A - B) i; have := dgI_bd M i; omega) (fun i c t hi => by
      show (stL (svL (svL X to 16 (fun j => Int64.ofInt ((A - B) / 65536 ^ j % 65536))) to i t) to i ((c + ((svL (svL X to 16 (fun j => Int64.ofInt ((A - B) / 65536 ^ j % 65536))) to i t).1 to i + (svL (svL X to 16 (fun j => Int64.ofInt ((A - B) / 65536 ^ j % 65536))) to i t).1 m i)) &&& 65535), (c + ((svL (svL X to 16 (fun j => Int64.ofInt ((A - B) / 65536 ^ j % 65536))) to i t).1 to i + (svL (svL X to 16 (fun j => Int64.ofInt ((A - B) / 65536 ^ j % 65536))) to i t).1 m i)) >>> ((nI 16).toInt64 &&& 63)) = _
      rw [sv_rd, sv_rd, hm2.2 i hi, svL_at X to 16 _ hi, ← Int64.ofInt_add]
      rfl)
    rw [sS_add, dg_sum, M16.sum hm.1, p16_16] at h2
    rw [h2]
    simp only []
    rw [sv_sv, e]
    have hT : (A - B) % 115792089237316195423570985008687907853269984665640564039457584007913129639936 + M = A - B + M + 115792089237316195423570985008687907853269984665640564039457584007913129639936 := by omega
    refine mR.mk' (svL_ext (fun i hi => ?_)) (by omega)
    congr 1
    rw [hT]
    show dgI (A - B + M + 115792089237316195423570985008687907853269984665640564039457584007913129639936) i = dgI (A - B + M) i
    rw [← dg_mod (A - B + M + 115792089237316195423570985008687907853269984665640564039457584007913129639936) hi, ← dg_mod (A - B + M) hi]
    congr 1
    omega
theorem m_copy {X : vM} {to a : Nat} {A : Int} (ha : M16 X a A) : mR X (LF_M_copy X to a) to A := by
  refine mR.mk' ?_ ha.1
  have e : LF_M_copy X to a = svL X to 16 (fun i => X.1 a i) := lp_sv to 16 _ X _ (fun i _ => by
    show stL _ to i ((svL X to i _).1 a i) = _
    rw [sv_rd]; exact st_sv X to i _)
  rw [e]
  exact svL_ext (fun i hi => ha.2 i hi)
theorem dg_small {n : Int} (h : 0 ≤ n ∧ n < 65536) (i : Nat) : dgI n i = if i = 0 then n else 0 := by
  unfold dgI
  by_cases h0 : i = 0
  · subst h0
    rw [if_pos rfl]
    show n / 1 % 65536 = n
    omega
  · rw [if_neg h0]
    obtain ⟨k, rfl⟩ : ∃ k, i = k + 1 := ⟨i - 1, by omega⟩
    have : (65536 : Int) ≤ 65536 ^ (k + 1) := by
      rw [Int.pow_succ]
      have := p16_pos k
      omega
    rw [Int.ediv_eq_zero_of_lt h.1 (by omega)]
    rfl
theorem m_set {X : vM} {to : Nat} {n : Nat} (hn : n < 65536) : mR X (LF_M_set X to (nI n)) to (n : Int) := by
  refine mR.mk' ?_ (by omega)
  have e : LF_M_set X to (nI n) = svL X to 16 (fun i => if i = 0 then (nI n).toInt64 else 0) := lp_sv to 16 _ X _ (fun i _ => st_sv X to i (fun i => if i = 0 then (nI n).toInt64 else 0))
  rw [e]
  refine svL_ext (fun i hi => ?_)
  rw [dg_small (by omega)]
  by_cases h0 : i = 0
  · rw [if_pos h0, if_pos h0, ← Int64.ofInt_int32ToInt, nI_toInt (by omega)]
  · rw [if_neg h0, if_neg h0]
    rfl
theorem lpE_all {P : Nat → Prop} {hP : ∀ i, Decidable (P i)} (body : Nat → Unit → Bool ⊕ Unit) (hb : ∀ i u, body i u = @ite _ (P i) (hP i) (Sum.inr ()) (Sum.inl false)) : ∀ k i, (Sum.elim (fun r => r) (fun (_ : Unit) => true) (lpE 1 body k i ()) = true) ↔ ∀ j, i ≤ j → j < i + k → P j
  | 0, i => ⟨fun _ j h1 h2 => by omega, fun _ => rfl⟩
  | k + 1, i => by
    have ih := lpE_all (hP := hP) body hb k (i + 1)
    show (Sum.elim (fun r => r) (fun (_ : Unit) => true) (Sum.elim Sum.inl (fun t => lpE 1 body k (i + 1) t) (body i ())) = true) ↔ _
    rw [hb]
    by_cases h : P i
    · rw [if_pos h]
      show (Sum.elim (fun r => r) (fun (_ : Unit) => true) (lpE 1 body k (i + 1) ()) = true) ↔ _
      rw [ih]
      constructor
      · intro h2 j h3 h4
        rcases Nat.lt_or_ge i j with h5 | h5
        · exact h2 j (by omega) (by omega)
        · rw [show j = i by omega]; exact h
      · intro h2 j h3 h4
        exact h2 j (by omega) (by omega)
    · rw [if_neg h]
      show (false = true) ↔ _
      constructor
      · intro z; cases z
      · intro h2; exact absurd (h2 i (by omega) (by omega)) h
theorem i6_eq0 {x : Int} (hx : 0 ≤ x ∧ x < 65536) : (Int64.ofInt x = (0 : Int64)) ↔ x = 0 := i6_eq hx (y := 0) (by decide)
theorem m_zero {X : vM} {a : Nat} {A : Int} (ha : M16 X a A) : LF_M_zero X a = decide (A = 0) := by
  have h := lpE_all (P := fun i => X.1 a i = 0) (hP := fun i => inferInstance) (LL_M_zero_2 X a) (fun i u => rfl) 16 0
  have h2 : (∀ j, 0 ≤ j → j < 0 + 16 → X.1 a j = 0) ↔ A = 0 := by
    constructor
    · intro hz
      rw [← M16.sum ha.1, sS_ext (g := fun _ => 0) 16 (fun i hi => (i6_eq0 (dgI_bd A i)).mp ((ha.2 i hi).symm.trans (hz i (by omega) (by omega))))]
      decide
    · intro e j _ hj
      rw [ha.2 j (by omega), e, dg_small (by decide)]
      split <;> rfl
  rw [h2] at h
  exact Bool.eq_iff_iff.mpr (by rw [decide_eq_true_iff]; exact h)
theorem m_alike {X : vM} {a b : Nat} {A B : Int} (ha : M16 X a A) (hb : M16 X b B) : LF_M_alike X a b = decide (A = B) := by
  have h := lpE_all (P := fun i => X.1 a i = X.1 b i) (hP := fun i => inferInstance) (LL_M_alike_2 X a b) (fun i u => rfl) 16 0
  have h2 : (∀ j, 0 ≤ j → j < 0 + 16 → X.1 a j = X.1 b j) ↔ A = B := by
    constructor
    · intro hz
      rw [← M16.sum ha.1, ← M16.sum hb.1]
      exact sS_ext 16 (fun i hi => (i6_eq (dgI_bd A i) (dgI_bd B i)).mp (by rw [← ha.2 i hi, ← hb.2 i hi]; exact hz i (by omega) (by omega)))
    · intro e j _ hj
      rw [ha.2 j (by omega), hb.2 j (by omega), e]
  rw [h2] at h
  exact Bool.eq_iff_iff.mpr (by rw [decide_eq_true_iff]; exact h)
