/-! digits; sums and differences -/
def dgI (T : Int) (i : Nat) : Int := T / 65536 ^ i % 65536
theorem dgI_bd (T : Int) (i : Nat) : 0 ≤ dgI T i ∧ dgI T i < 65536 := ⟨Int.emod_nonneg _ (by decide), Int.emod_lt_of_pos _ (by decide)⟩
theorem dg_sum (T : Int) : ∀ n, sS (dgI T) n = T % 65536 ^ n
  | 0 => by
    show (0 : Int) = T % 1
    omega
  | n + 1 => by
    show sS (dgI T) n + dgI T n * 65536 ^ n = _
    rw [dg_sum T n]
    have hp := p16_pos n
    have e1 := Int.mul_ediv_add_emod T (65536 ^ n)
    have e2 := Int.mul_ediv_add_emod (T / 65536 ^ n) 65536
    have e3 := Int.mul_ediv_add_emod T (65536 ^ (n + 1))
    have e4 : T / 65536 ^ (n + 1) = T / 65536 ^ n / 65536 := by rw [Int.pow_succ, Int.ediv_ediv_of_nonneg (by omega)]
    rw [e4, Int.pow_succ] at e3
    rw [Int.pow_succ]
    unfold dgI
    generalize T / 65536 ^ n = q at *
    generalize q / 65536 = r at *
    generalize q % 65536 = s at *
    generalize T % (65536 ^ n * 65536) = u at *
    generalize T % 65536 ^ n = w at *
    generalize (65536 : Int) ^ n = P at *
    grind
theorem sS_add (f g : Nat → Int) : ∀ n, sS (fun i => f i + g i) n = sS f n + sS g n
  | 0 => rfl
  | n + 1 => by
    show sS (fun i => f i + g i) n + (f n + g n) * 65536 ^ n = sS f n + f n * 65536 ^ n + (sS g n + g n * 65536 ^ n)
    rw [sS_add f g n, Int.add_mul]
    omega
theorem sS_sub (f g : Nat → Int) : ∀ n, sS (fun i => f i - g i) n = sS f n - sS g n
  | 0 => rfl
  | n + 1 => by
    show sS (fun i => f i - g i) n + (f n - g n) * 65536 ^ n = sS f n + f n * 65536 ^ n - (sS g n + g n * 65536 ^ n)
    rw [sS_sub f g n, Int.sub_mul]
    omega
/-- a loop that takes away, digit by digit -/
theorem cl_sub (to : Nat) (X : vM) (f : Nat → Int) (body : Nat → vM × Int64 → vM × Int64) (hf : ∀ i, i < 16 → -65535 ≤ f i ∧ f i ≤ 65535) (hb : ∀ (i : Nat) (c : Int64) (t : Nat → Int64), i < 16 → body i (svL X to i t, c) = (stL (svL X to i t) to i ((Int64.ofInt (f i) - c) &&& 65535), if (0 : Int64) ≤ Int64.ofInt (f i) - c then (0 : Int64) else (1 : Int64))) : lpU 1 body 16 0 (X, 0) = (svL X to 16 (fun j => Int64.ofInt (sS f 16 / 65536 ^ j % 65536)), Int64.ofInt (-(sS f 16 / 65536 ^ 16))) := by
  have hB : ∀ i, i ≤ 16 → -1 ≤ sS f i / 65536 ^ i ∧ sS f i / 65536 ^ i ≤ 0 := by
    intro i
    induction i with
    | zero => intro _; exact ⟨show -1 ≤ (0 : Int) / 65536 ^ 0 by decide, show (0 : Int) / 65536 ^ 0 ≤ 0 by decide⟩
    | succ i ih =>
      intro h
      have h1 := ih (by omega)
      have h2 := hf i (by omega)
      rw [← sS_c]
      generalize sS f i / 65536 ^ i = c at *
      omega
  have key : ∀ k i, i + k = 16 → lpU 1 body k i (svL X to i (fun j => Int64.ofInt (sS f 16 / 65536 ^ j % 65536)), Int64.ofInt (-(sS f i / 65536 ^ i))) = (svL X to 16 (fun j => Int64.ofInt (sS f 16 / 65536 ^ j % 65536)), Int64.ofInt (-(sS f 16 / 65536 ^ 16))) := by
    intro k
    induction k with
    | zero =>
      intro i hi
      rw [show i = 16 by omega]
      rfl
    | succ k ih =>
      intro i hi
      have hlt : i < 16 := by omega
      have hc := hB i (by omega)
      have h1 := hf i hlt
      have ez : Int64.ofInt (f i) - Int64.ofInt (-(sS f i / 65536 ^ i)) = Int64.ofInt (sS f i / 65536 ^ i + f i) := by
        rw [← Int64.ofInt_sub]
        congr 1
        omega
      have hif : (if (0 : Int64) ≤ Int64.ofInt (sS f i / 65536 ^ i + f i) then (0 : Int64) else (1 : Int64)) = Int64.ofInt (-(sS f (i + 1) / 65536 ^ (i + 1))) := by
        rw [← sS_c]
        have hz : -65536 ≤ sS f i / 65536 ^ i + f i ∧ sS f i / 65536 ^ i + f i ≤ 65535 := by omega
        generalize sS f i / 65536 ^ i + f i = z at hz ⊢
        by_cases h0 : 0 ≤ z
        · rw [if_pos (by rw [Int64.le_iff_toInt_le, i6_to (by omega)]; exact h0), show z / 65536 = 0 by omega]
          rfl
        · rw [if_neg (by rw [Int64.le_iff_toInt_le, i6_to (by omega)]; exact h0), show z / 65536 = -1 by omega]
          rfl
      show lpU 1 body k (i + 1) (body i _) = _
      rw [hb i _ _ hlt, ez, i6_and16, sS_d f hlt, hif, st_sv X to i (fun j => Int64.ofInt (sS f 16 / 65536 ^ j % 65536))]
      exact ih (i + 1) (by omega)
  have h0 : X = svL X to 0 (fun j => Int64.ofInt (sS f 16 / 65536 ^ j % 65536)) := by
    refine Prod.ext (funext fun b => funext fun k => ?_) rfl
    exact (if_neg (fun z => absurd z.2 (Nat.not_lt_zero k))).symm
  have := key 16 0 (by omega)
  rw [← h0] at this
  exact this
/-- an array holds the number N -/
def M16 (X : vM) (a : Nat) (N : Int) : Prop := (0 ≤ N ∧ N < 115792089237316195423570985008687907853269984665640564039457584007913129639936) ∧ ∀ i, i < 16 → X.1 a i = Int64.ofInt (dgI N i)
theorem M16.sum {N : Int} (h : 0 ≤ N ∧ N < 115792089237316195423570985008687907853269984665640564039457584007913129639936) : sS (dgI N) 16 = N := by
  rw [dg_sum]
  exact Int.emod_eq_of_lt h.1 h.2
theorem M16.sv {X : vM} {a : Nat} {N : Int} (h : 0 ≤ N ∧ N < 115792089237316195423570985008687907853269984665640564039457584007913129639936) : M16 (svL X a 16 (fun j => Int64.ofInt (dgI N j))) a N := ⟨h, fun i hi => svL_at X a 16 _ hi⟩
theorem M16.ne {X : vM} {a b : Nat} {N : Int} {t : Nat → Int64} (h : M16 X b N) (hb : b ≠ a) : M16 (svL X a 16 t) b N := ⟨h.1, fun i hi => (svL_ne X a 16 t hb i).trans (h.2 i hi)⟩
/-- digits beyond the top fall away -/
theorem dg_mod (T : Int) {i : Nat} (hi : i < 16) : dgI (T % 115792089237316195423570985008687907853269984665640564039457584007913129639936) i = dgI T i := by
  have h1 := sS_d (dgI T) (i := i) (n := 16) hi
  have h2 := sS_d (dgI T) (i := i) (n := i + 1) (by omega)
  rw [dg_sum T 16] at h1
  rw [dg_sum T i] at h1 h2
  rw [dg_sum T (i + 1)] at h2
  have hq : T % 65536 ^ i / 65536 ^ i = 0 := Int.ediv_eq_zero_of_lt (Int.emod_nonneg _ (by have := p16_pos i; omega)) (Int.emod_lt_of_pos _ (p16_pos i))
  rw [hq, Int.zero_add] at h1
  have hb := dgI_bd T i
  rw [Int.emod_eq_of_lt hb.1 hb.2] at h1
  exact h1.symm
theorem m_less {X : vM} {to a b : Nat} {A B : Int} (ha : M16 X a A) (hb : M16 X b B) : LF_M_less X to a b = svL X to 16 (fun j => Int64.ofInt (dgI (A - B) j)) := by
  have h := cl_sub to X (fun i => dgI A i - dgI B i) (LL_M_less_5 a b to) (fun i _ => by have := dgI_bd A i; have := dgI_bd B i; omega) (fun i c t hi => by
    show (stL (svL X to i t) to i ((((svL X to i t).1 a i - (svL X to i t).1 b i) - c) &&& 65535), if (0 : Int64) ≤ ((svL X to i t).1 a i - (svL X to i t).1 b i) - c then (0 : Int64) else (1 : Int64)) = _
    rw [sv_rd, sv_rd, ha.2 i hi, hb.2 i hi, ← Int64.ofInt_sub])
  show (lpU 1 (LL_M_less_5 a b to) 16 0 (X, (0 : Int64))).1 = _
  rw [h, sS_sub, M16.sum ha.1, M16.sum hb.1]
  rfl
theorem dg_split (T : Int) (k : Nat) : T % 65536 ^ (k + 1) = T % 65536 ^ k + dgI T k * 65536 ^ k := by
  rw [← dg_sum, ← dg_sum]
  rfl
theorem i6_le {x y : Int} (hx : 0 ≤ x ∧ x < 65536) (hy : 0 ≤ y ∧ y < 65536) : (Int64.ofInt x ≤ Int64.ofInt y) ↔ x ≤ y := by
  rw [Int64.le_iff_toInt_le, i6_to (by omega), i6_to (by omega)]
theorem i6_eq {x y : Int} (hx : 0 ≤ x ∧ x < 65536) (hy : 0 ≤ y ∧ y < 65536) : (Int64.ofInt x = Int64.ofInt y) ↔ x = y := by
  rw [← Int64.toInt_inj, i6_to (by omega), i6_to (by omega)]
theorem p16_16 : (65536 : Int) ^ 16 = 115792089237316195423570985008687907853269984665640564039457584007913129639936 := by decide
theorem m_below {X : vM} {a b : Nat} {A B : Int} (ha : M16 X a A) (hb : M16 X b B) : LF_M_below X a b = decide (A < B) := by
  have key : ∀ k, k ≤ 16 → Sum.elim (fun r => r) (fun (_ : Unit) => false) (lpF (LL_M_below_3 X a b) k ()) = decide (A % 65536 ^ k < B % 65536 ^ k) := by
    intro k
    induction k with
    | zero =>
      intro _
      show false = decide (A % 1 < B % 1)
      rw [Int.emod_one, Int.emod_one]
      rfl
    | succ k ih =>
      intro hk
      have da := dgI_bd A k
      have db := dgI_bd B k
      have la := Int.emod_nonneg A (show (65536 : Int) ^ k ≠ 0 by have := p16_pos k; omega)
      have lb := Int.emod_nonneg B (show (65536 : Int) ^ k ≠ 0 by have := p16_pos k; omega)
      have ua := Int.emod_lt_of_pos A (p16_pos k)
      have ub := Int.emod_lt_of_pos B (p16_pos k)
      have e : LL_M_below_3 X a b k () = if dgI A k = dgI B k then Sum.inr () else Sum.inl (if dgI B k ≤ dgI A k then false else true) := by
        show (if X.1 a k = X.1 b k then Sum.inr () else Sum.inl (if X.1 b k ≤ X.1 a k then false else true)) = _
        rw [ha.2 k (by omega), hb.2 k (by omega)]
        simp only [i6_le db da, i6_eq da db]
      show Sum.elim (fun r => r) (fun (_ : Unit) => false) (Sum.elim Sum.inl (fun t => lpF (LL_M_below_3 X a b) k t) (LL_M_below_3 X a b k ())) = _
      rw [e, dg_split, dg_split]
      generalize A % 65536 ^ k = x at *
      generalize B % 65536 ^ k = y at *
      generalize (65536 : Int) ^ k = P at *
      generalize dgI A k = u at *
      generalize dgI B k = v at *
      by_cases h1 : u = v
      · rw [if_pos h1, h1]
        show Sum.elim (fun r => r) (fun (_ : Unit) => false) (lpF (LL_M_below_3 X a b) k ()) = _
        rw [ih (by omega)]
        exact decide_eq_decide.mpr (by omega)
      · rw [if_neg h1]
        show (if v ≤ u then false else true) = _
        by_cases h2 : v ≤ u
        · have h3 : (v + 1) * P ≤ u * P := Int.mul_le_mul_of_nonneg_right (by omega) (by omega)
          rw [Int.add_mul, Int.one_mul] at h3
          rw [if_pos h2]
          exact (decide_eq_false (by omega)).symm
        · have h3 : (u + 1) * P ≤ v * P := Int.mul_le_mul_of_nonneg_right (by omega) (by omega)
          rw [Int.add_mul, Int.one_mul] at h3
          rw [if_neg h2]
          exact (decide_eq_true (by omega)).symm
  have h := key 16 (by omega)
  rw [p16_16, Int.emod_eq_of_lt ha.1.1 ha.1.2, Int.emod_eq_of_lt hb.1.1 hb.1.2] at h
  exact h
/-- Y is X but for the array to, which holds N -/
def mR (X Y : vM) (to : Nat) (N : Int) : Prop := (∃ t : Nat → Int64, Y = svL X to 16 t) ∧ M16 Y to N
theorem mR.mk' {X Y : vM} {to : Nat} {N : Int} (e : Y = svL X to 16 (fun j => Int64.ofInt (dgI N j))) (h : 0 ≤ N ∧ N < 115792089237316195423570985008687907853269984665640564039457584007913129639936) : mR X Y to N := by
  subst e
  exact ⟨⟨_, rfl⟩, M16.sv h⟩
theorem mR.ne {X Y : vM} {to b : Nat} {N M : Int} (h : mR X Y to N) (hb : b ≠ to) (k : M16 X b M) : M16 Y b M := by
  obtain ⟨⟨t, rfl⟩, -⟩ := h
  exact k.ne hb
theorem sv_sv16 (X : vM) (a n : Nat) (f g : Nat → Int64) : svL (svL X a n f) a n g = svL X a n g := sv_sv X a n f g
/-- A + B modulo m -/
theorem m_plus {X : vM} {to a b m : Nat} {A B M : Int} (ha : M16 X a A) (hb : M16 X b B) (hm : M16 X m M) (hmt : m ≠ to) (hA : A < M) (hB : B < M) (hM : M ≤ 57896044618658097711785492504343953926634992332820282019728792003956564819968) : mR X (LF_M_plus X to a b m) to ((A + B) % M) := by
  have h := cl_add to X (fun i => dgI A i + dgI B i) (LL_M_plus_6 a b to) (fun i _ => by have := dgI_bd A i; have := dgI_bd B i; omega) (fun i c t hi => by
    show (stL (svL X to i t) to i ((c + ((svL X to i t).1 a i + (svL X to i t).1 b i)) &&& 65535), (c + ((svL X to i t).1 a i + (svL X to i t).1 b i)) >>> ((nI 16).toInt64 &&& 63)) = _
    rw [sv_rd, sv_rd, ha.2 i hi, hb.2 i hi, ← Int64.ofInt_add])
  rw [sS_add, M16.sum ha.1, M16.sum hb.1] at h
  have a0 := ha.1.1
  have b0 := hb.1.1
  have hq : (A + B) / 65536 ^ 16 = 0 := by
    rw [p16_16]
    exact Int.ediv_eq_zero_of_lt (by omega) (by omega)
  rw [hq] at h
  have hS : M16 (svL X to 16 (fun j => Int64.ofInt ((A + B) / 65536 ^ j % 65536))) to (A + B) := M16.sv (N := A + B) (by omega)
  have hm2 : M16 (svL X to 16 (fun j => Int64.ofInt ((A + B) / 65536 ^ j % 65536))) m M := hm.ne hmt
  show mR X (if (0 : Int64) < (lpU 1 (LL_M_plus_6 a b to) 16 0 (X, (0 : Int64))).2 then LF_M_less (lpU 1 (LL_M_plus_6 a b to) 16 0 (X, (0 : Int64))).1 to to m else if LF_M_below (lpU 1 (LL_M_plus_6 a b to) 16 0 (X, (0 : Int64))).1 to m = true then (lpU 1 (LL_M_plus_6 a b to) 16 0 (X, (0 : Int64))).1 else LF_M_less (lpU 1 (LL_M_plus_6 a b to) 16 0 (X, (0 : Int64))).1 to to m) to ((A + B) % M)
  rw [h]
  simp only []
  rw [if_neg (show ¬ (0 : Int64) < Int64.ofInt 0 by decide), m_below hS hm2]
  by_cases hlt : A + B < M
  · rw [if_pos (decide_eq_true hlt), Int.emod_eq_of_lt (by omega) hlt]
    exact mR.mk' rfl (by omega)
  · rw [if_neg (by simp [hlt]), m_less hS hm2, sv_sv16]
    have e : (A + B) % M = A + B - M := by
      have := Int.sub_mul_emod_self_right (A + B) 1 M
      rw [Int.one_mul] at this
      rw [← this]
      exact Int.emod_eq_of_lt (by omega) (by omega)
    rw [e]
    exact mR.mk' rfl (by omega)
