/-! limbs of 32 bits -/
theorem i6_md {a b : Int} (h : a % 18446744073709551616 = b % 18446744073709551616) : Int64.ofInt a = Int64.ofInt b := by
  apply Int64.toBitVec_inj.mp
  show BitVec.ofInt 64 a = BitVec.ofInt 64 b
  apply BitVec.eq_of_toNat_eq
  rw [BitVec.toNat_ofInt, BitVec.toNat_ofInt]
  have : ((2 ^ 64 : Nat) : Int) = 18446744073709551616 := rfl
  rw [this, h]
theorem i6_tn {a : Nat} (h : a < 18446744073709551616) : (Int64.ofInt (a : Int)).toBitVec.toNat = a := by
  show (BitVec.ofInt 64 (a : Int)).toNat = a
  rw [BitVec.ofInt_natCast, BitVec.toNat_ofNat, Nat.mod_eq_of_lt h]
theorem i6_an32 {a : Nat} (h : a < 18446744073709551616) : Int64.ofInt (a : Int) &&& (4294967295 : Int64) = Int64.ofInt ((a % 4294967296 : Nat) : Int) := by
  have e0 : (4294967295 : Int64) = Int64.ofInt ((4294967295 : Nat) : Int) := by decide +kernel
  apply Int64.toBitVec_inj.mp
  apply BitVec.eq_of_toNat_eq
  show ((Int64.ofInt (a : Int)).toBitVec &&& (4294967295 : Int64).toBitVec).toNat = _
  rw [BitVec.toNat_and, e0, i6_tn h, i6_tn (by decide), i6_tn (by omega), show 4294967295 = 2 ^ 32 - 1 from rfl, Nat.and_two_pow_sub_one_eq_mod]
theorem i6_us32 {a : Nat} (h : a < 18446744073709551616) : ((Int64.ofInt (a : Int)).toUInt64 >>> ((nI 32).toInt64.toUInt64 &&& Int64.toUInt64 63)).toInt64 = Int64.ofInt ((a / 4294967296 : Nat) : Int) := by
  rw [u6_sm 32 (by decide)]
  apply Int64.toBitVec_inj.mp
  apply BitVec.eq_of_toNat_eq
  show ((Int64.ofInt (a : Int)).toBitVec >>> ((UInt64.ofNat 32).toBitVec % 64)).toNat = _
  rw [show ((UInt64.ofNat 32).toBitVec % 64) = 32#64 from by decide, i6_tn (by omega)]
  show ((Int64.ofInt (a : Int)).toBitVec >>> (32#64).toNat).toNat = _
  rw [show (32#64).toNat = 32 from rfl, BitVec.toNat_ushiftRight, i6_tn h, Nat.shiftRight_eq_div_pow]
def vB (w : Nat → Nat) : Nat → Nat
  | 0 => 0
  | n + 1 => vB w n + w n * 4294967296 ^ n
def uN (w : Nat → Nat) (i v : Nat) : Nat → Nat := fun k => if k = i then v else w k
theorem uN_at (w : Nat → Nat) (i v : Nat) : uN w i v i = v := if_pos rfl
theorem uN_ne (w : Nat → Nat) {i k : Nat} (v : Nat) (h : k ≠ i) : uN w i v k = w k := if_neg h
theorem vB_ext {v w : Nat → Nat} : ∀ n, (∀ k, k < n → v k = w k) → vB v n = vB w n
  | 0, _ => rfl
  | n + 1, h => by
    show vB v n + v n * 4294967296 ^ n = vB w n + w n * 4294967296 ^ n
    rw [vB_ext n (fun k hk => h k (by omega)), h n (by omega)]
theorem vB_up (w : Nat → Nat) {i : Nat} (v : Nat) : ∀ n, i < n → vB (uN w i v) n + w i * 4294967296 ^ i = vB w n + v * 4294967296 ^ i
  | 0, h => absurd h (by omega)
  | n + 1, h => by
    show vB (uN w i v) n + uN w i v n * 4294967296 ^ n + w i * 4294967296 ^ i = vB w n + w n * 4294967296 ^ n + v * 4294967296 ^ i
    by_cases hn : n = i
    · subst hn
      rw [vB_ext n (w := w) (fun k hk => uN_ne w v (by omega)), uN_at]
      omega
    · have := vB_up w (i := i) v n (by omega)
      rw [uN_ne w v hn]
      omega
theorem vB_lt {w : Nat → Nat} : ∀ n, (∀ k, k < n → w k < 4294967296) → vB w n < 4294967296 ^ n
  | 0, _ => by show 0 < 1; decide
  | n + 1, h => by
    have ih := vB_lt n (fun k hk => h k (by omega))
    have hn := h n (by omega)
    show vB w n + w n * 4294967296 ^ n < 4294967296 ^ (n + 1)
    have h2 : w n * 4294967296 ^ n ≤ 4294967295 * 4294967296 ^ n := Nat.mul_le_mul_right _ (by omega)
    rw [Nat.pow_succ]
    omega
theorem vB_dg {w : Nat → Nat} : ∀ n, (∀ k, k < n → w k < 4294967296) → ∀ k, k < n → vB w n / 4294967296 ^ k % 4294967296 = w k
  | 0, _, k, hk => absurd hk (by omega)
  | n + 1, h, k, hk => by
    have hl := vB_lt n (fun k hk => h k (by omega))
    show (vB w n + w n * 4294967296 ^ n) / 4294967296 ^ k % 4294967296 = w k
    by_cases hn : k = n
    · subst hn
      rw [Nat.add_mul_div_right _ _ (Nat.pow_pos (by decide)), Nat.div_eq_of_lt hl, Nat.zero_add, Nat.mod_eq_of_lt (h k (by omega))]
    · have ih := vB_dg n (fun k hk => h k (by omega)) k (by omega)
      have e : w n * 4294967296 ^ n = (w n * 4294967296 ^ (n - k - 1) * 4294967296) * 4294967296 ^ k := by
        rw [Nat.mul_assoc, Nat.mul_assoc, ← Nat.pow_succ', ← Nat.pow_add, show n - k - 1 + (k + 1) = n by omega]
      rw [e, Nat.add_mul_div_right _ _ (Nat.pow_pos (by decide)), Nat.add_mul_mod_self_right]
      exact ih
theorem vB_of (N : Nat) : ∀ n, vB (fun k => N / 4294967296 ^ k % 4294967296) n = N % 4294967296 ^ n
  | 0 => (Nat.mod_one N).symm
  | n + 1 => by
    show vB (fun k => N / 4294967296 ^ k % 4294967296) n + N / 4294967296 ^ n % 4294967296 * 4294967296 ^ n = _
    rw [vB_of N n, Nat.mod_pow_succ, Nat.mul_comm]
/-- eight limbs -/
def L8 (X : vM) (a N : Nat) : Prop := N < 115792089237316195423570985008687907853269984665640564039457584007913129639936 ∧ ∀ k, k < 8 → X.1 a k = Int64.ofInt ((N / 4294967296 ^ k % 4294967296 : Nat) : Int)
def oN (w : Nat → Nat) : Nat → Int64 := fun k => Int64.ofInt ((w k : Nat) : Int)
theorem st_oN (X : vM) (a i : Nat) (w : Nat → Nat) (v : Nat) : stL (sg X a (oN w)) a i (Int64.ofInt (v : Int)) = sg X a (oN (uN w i v)) := by
  rw [st_sg]
  congr 1
  funext k
  show (if k = i then Int64.ofInt (v : Int) else Int64.ofInt ((w k : Nat) : Int)) = Int64.ofInt (((if k = i then v else w k) : Nat) : Int)
  by_cases h : k = i
  · rw [if_pos h, if_pos h]
  · rw [if_neg h, if_neg h]
theorem sg_rN (X : vM) (a k : Nat) (w : Nat → Nat) : (sg X a (oN w)).1 a k = Int64.ofInt ((w k : Nat) : Int) := if_pos rfl
theorem oN_of (X : vM) (a : Nat) (w : Nat → Nat) (h : ∀ k, k < 8 → X.1 a k = Int64.ofInt ((w k : Nat) : Int)) : ∃ u, X = sg X a (oN u) ∧ ∀ k, k < 8 → u k = w k := by
  refine ⟨fun k => if k < 8 then w k else (X.1 a k).toBitVec.toNat, ?_, fun k hk => if_pos hk⟩
  have e : X.1 a = oN (fun k => if k < 8 then w k else (X.1 a k).toBitVec.toNat) := funext fun k => by
    show X.1 a k = Int64.ofInt (((if k < 8 then w k else (X.1 a k).toBitVec.toNat) : Nat) : Int)
    by_cases hk : k < 8
    · rw [if_pos hk]
      exact h k hk
    · rw [if_neg hk]
      apply Int64.toBitVec_inj.mp
      apply BitVec.eq_of_toNat_eq
      rw [i6_tn (X.1 a k).toBitVec.isLt]
  rw [← e]
  exact (sg_id X a).symm
/-! one number times another -/
theorem rn_rs {V c P Q R V0 y S l a U e d s : Nat} (ih : V + c * P = V0 + y * S * Q) (e1 : U + a * P = V + e * P) (hdm : 4294967296 * d + e = a + y * l + c) (hP : P = Q * R) (hs : s = P * 4294967296) : U + d * s = V0 + y * (S + l * R) * Q := by
  subst hs
  have h1 : (4294967296 * d + e) * P = (a + y * l + c) * P := by rw [hdm]
  have h2 : y * l * P = y * (l * R) * Q := by
    rw [hP, Nat.mul_assoc, Nat.mul_assoc, Nat.mul_assoc, Nat.mul_comm Q R]
  have h3 : d * (P * 4294967296) = 4294967296 * d * P := by
    rw [Nat.mul_comm 4294967296 d, Nat.mul_assoc, Nat.mul_comm P 4294967296]
  rw [Nat.add_mul, Nat.add_mul, Nat.add_mul, h2] at h1
  rw [Nat.mul_add, Nat.add_mul, h3]
  omega
theorem rn_dm (y a q b c : Nat) : y * (a * q + b) * c = y * b * c + a * c * (y * q) := by
  rw [Nat.mul_add, Nat.add_mul, Nat.add_comm]
  congr 1
  rw [Nat.mul_comm y (a * q), Nat.mul_assoc a, Nat.mul_assoc a, Nat.mul_assoc a, Nat.mul_comm c, Nat.mul_comm q y]
theorem rn_x (N x : Nat) : 0 + x % 18446744073709551616 % 4294967296 * N * 4294967296 ^ 0 + (x % 18446744073709551616 / 4294967296 * N * 4294967296 ^ 1 + x / 18446744073709551616 * N * 4294967296 ^ 2) = N * x := by
  have h : x = x % 18446744073709551616 % 4294967296 + x % 18446744073709551616 / 4294967296 * 4294967296 + x / 18446744073709551616 * 18446744073709551616 := by omega
  have h2 : N * x = N * (x % 18446744073709551616 % 4294967296 + x % 18446744073709551616 / 4294967296 * 4294967296 + x / 18446744073709551616 * 18446744073709551616) := by rw [← h]
  rw [h2, Nat.mul_add, Nat.mul_add, Nat.zero_add, Nat.pow_zero, Nat.mul_one, Nat.pow_one, show 4294967296 ^ 2 = 18446744073709551616 from by decide, Nat.mul_comm _ N, Nat.mul_comm _ N, Nat.mul_comm _ N, Nat.mul_assoc, Nat.mul_assoc, Nat.add_assoc]
def rS (L w : Nat → Nat) (y i : Nat) : Nat → (Nat → Nat) × Nat
  | 0 => (w, 0)
  | j + 1 => (uN (rS L w y i j).1 (i + j) (((rS L w y i j).1 (i + j) + y * L j + (rS L w y i j).2) % 4294967296), ((rS L w y i j).1 (i + j) + y * L j + (rS L w y i j).2) / 4294967296)
theorem mul_32 {a b c d : Nat} (ha : a < 4294967296) (hb : b < 4294967296) (hc : c < 4294967296) (hd : d < 4294967296) : c + a * b + d < 18446744073709551616 := by
  have : a * b ≤ 4294967295 * 4294967295 := Nat.mul_le_mul (by omega) (by omega)
  omega
theorem rS_b {L w : Nat → Nat} {y i : Nat} (hL : ∀ k, k < 8 → L k < 4294967296) (hw : ∀ k, k < 8 → w k < 4294967296) (hy : y < 4294967296) : ∀ j, i + j ≤ 8 → (∀ k, k < 8 → (rS L w y i j).1 k < 4294967296) ∧ (rS L w y i j).2 < 4294967296
  | 0, _ => ⟨hw, by show 0 < 4294967296; decide⟩
  | j + 1, h => by
    have ih := rS_b (i := i) hL hw hy j (by omega)
    have hm := mul_32 hy (hL j (by omega)) (ih.1 (i + j) (by omega)) ih.2
    refine ⟨fun k hk => ?_, ?_⟩
    · show uN (rS L w y i j).1 (i + j) _ k < 4294967296
      by_cases hc : k = i + j
      · rw [hc, uN_at]
        omega
      · rw [uN_ne _ _ hc]
        exact ih.1 k hk
    · show ((rS L w y i j).1 (i + j) + y * L j + (rS L w y i j).2) / 4294967296 < 4294967296
      omega
theorem rS_v (L w : Nat → Nat) (y i : Nat) : ∀ j, i + j ≤ 8 → vB (rS L w y i j).1 8 + (rS L w y i j).2 * 4294967296 ^ (i + j) = vB w 8 + y * vB L j * 4294967296 ^ i
  | 0, _ => by
    show vB w 8 + 0 * 4294967296 ^ (i + 0) = vB w 8 + y * 0 * 4294967296 ^ i
    rw [Nat.zero_mul, Nat.mul_zero, Nat.zero_mul]
  | j + 1, h => by
    have ih := rS_v L w y i j (by omega)
    have e1 := vB_up (rS L w y i j).1 (i := i + j) (((rS L w y i j).1 (i + j) + y * L j + (rS L w y i j).2) % 4294967296) 8 (by omega)
    have hdm := Nat.div_add_mod ((rS L w y i j).1 (i + j) + y * L j + (rS L w y i j).2) 4294967296
    show vB (uN (rS L w y i j).1 (i + j) (((rS L w y i j).1 (i + j) + y * L j + (rS L w y i j).2) % 4294967296)) 8 + ((rS L w y i j).1 (i + j) + y * L j + (rS L w y i j).2) / 4294967296 * 4294967296 ^ (i + (j + 1)) = vB w 8 + y * (vB L j + L j * 4294967296 ^ j) * 4294967296 ^ i
    exact rn_rs ih e1 hdm (Nat.pow_add 4294967296 i j) (by rw [← Nat.add_assoc, Nat.pow_succ])
theorem rS_m {X : vM} {r : Nat → Nat} {L w : Nat → Nat} {y i : Nat} (hI : MInj r) (hL : ∀ k, k < 8 → L k < 4294967296) (hw : ∀ k, k < 8 → w k < 4294967296) (hy : y < 4294967296) (hX : ∀ k, k < 8 → X.1 (r 50) k = Int64.ofInt ((L k : Nat) : Int)) : ∀ n j, i + j + n ≤ 8 → lpU 1 (LL_M_raise_68 r i (Int64.ofInt (y : Int))) n j (sg X (r 51) (oN (rS L w y i j).1), Int64.ofInt ((rS L w y i j).2 : Int)) = (sg X (r 51) (oN (rS L w y i (j + n)).1), Int64.ofInt ((rS L w y i (j + n)).2 : Int))
  | 0, j, h => rfl
  | n + 1, j, h => by
    have ih := rS_m (i := i) hI hL hw hy hX n (j + 1) (by omega)
    rw [show j + (n + 1) = j + 1 + n by omega, ← ih]
    show lpU 1 (LL_M_raise_68 r i (Int64.ofInt (y : Int))) n (j + 1) (LL_M_raise_68 r i (Int64.ofInt (y : Int)) j (sg X (r 51) (oN (rS L w y i j).1), Int64.ofInt ((rS L w y i j).2 : Int))) = _
    congr 1
    have hb := rS_b (i := i) hL hw hy j (by omega)
    have hm := mul_32 hy (hL j (by omega)) (hb.1 (i + j) (by omega)) hb.2
    unfold LL_M_raise_68
    simp only []
    rw [sg_rN, sg_ne X _ (hI.ne 50 51 rfl), hX j (by omega), ← Int64.ofInt_mul, ← Int64.ofInt_add, ← Int64.ofInt_add, ← Int.natCast_mul, ← Int.natCast_add, ← Int.natCast_add, i6_an32 hm, st_oN, i6_us32 hm]
    rfl
theorem m_raise {X : vM} {r : Nat → Nat} {N x : Nat} (hI : MInj r) (hN : L8 X (r 50) N) (hx : x < 147573952589676412928) : onM r [50, 51] X (LF_M_raise X r (Int64.ofInt ((x / 18446744073709551616 : Nat) : Int)) (Int64.ofInt ((x % 18446744073709551616 : Nat) : Int))) ∧ L8 (LF_M_raise X r (Int64.ofInt ((x / 18446744073709551616 : Nat) : Int)) (Int64.ofInt ((x % 18446744073709551616 : Nat) : Int))) (r 50) (N * x % 115792089237316195423570985008687907853269984665640564039457584007913129639936) := by
  have n51 : r 50 ≠ r 51 := hI.ne 50 51 rfl
  -- zeros
  have e0 : lpU 1 (LL_M_raise_3 r) 8 0 X = svL X (r 51) 8 (fun _ => Int64.ofInt ((0 : Nat) : Int)) := lp_sv (r 51) 8 (LL_M_raise_3 r) X (fun _ => Int64.ofInt ((0 : Nat) : Int)) (fun i hi => st_sv X (r 51) i (fun _ => Int64.ofInt ((0 : Nat) : Int)))
  obtain ⟨X1, e1⟩ : ∃ Y, svL X (r 51) 8 (fun _ => Int64.ofInt ((0 : Nat) : Int)) = Y := ⟨_, rfl⟩
  rw [e1] at e0
  have o1 : onM r [50, 51] X X1 := by
    rw [← e1]
    exact sv_on X (r 51) 8 _ (by simp)
  obtain ⟨u, hu, hu2⟩ := oN_of X1 (r 51) (fun _ => 0) (fun k hk => by rw [← e1]; exact svL_at X (r 51) 8 _ hk)
  have h50 : ∀ k, k < 8 → X1.1 (r 50) k = Int64.ofInt ((N / 4294967296 ^ k % 4294967296 : Nat) : Int) := fun k hk => by
    rw [← e1, svL_ne X (r 51) 8 _ n51]
    exact hN.2 k hk
  have hL : ∀ k, k < 8 → N / 4294967296 ^ k % 4294967296 < 4294967296 := fun k _ => Nat.mod_lt _ (by decide)
  have vN : vB (fun k => N / 4294967296 ^ k % 4294967296) 8 = N := by
    rw [vB_of, Nat.mod_eq_of_lt (Nat.lt_of_lt_of_eq hN.1 (by decide))]
  -- one of the three
  have one : ∀ (i y : Nat) (w : Nat → Nat), i < 3 → y < 4294967296 → (∀ k, k < 8 → w k < 4294967296) → ∃ w', lpU 1 (LL_M_raise_68 r i (Int64.ofInt (y : Int))) (8 - i - 0) 0 (sg X1 (r 51) (oN w), (0 : Int64)) = (sg X1 (r 51) (oN w'), Int64.ofInt ((rS (fun k => N / 4294967296 ^ k % 4294967296) w y i (8 - i)).2 : Int)) ∧ (∀ k, k < 8 → w' k < 4294967296) ∧ vB w' 8 % 115792089237316195423570985008687907853269984665640564039457584007913129639936 = (vB w 8 + y * N * 4294967296 ^ i) % 115792089237316195423570985008687907853269984665640564039457584007913129639936 := fun i y w hi hy hw => by
    have m := rS_m (X := X1) (r := r) (L := fun k => N / 4294967296 ^ k % 4294967296) (w := w) (y := y) (i := i) hI hL hw hy h50 (8 - i) 0 (by omega)
    rw [Nat.zero_add] at m
    refine ⟨(rS (fun k => N / 4294967296 ^ k % 4294967296) w y i (8 - i)).1, m, (rS_b hL hw hy (8 - i) (by omega)).1, ?_⟩
    have v := rS_v (fun k => N / 4294967296 ^ k % 4294967296) w y i (8 - i) (by omega)
    rw [show i + (8 - i) = 8 by omega, vB_of] at v
    have e8 : 4294967296 ^ 8 = 115792089237316195423570985008687907853269984665640564039457584007913129639936 := by decide
    rw [e8] at v
    have hq : y * N * 4294967296 ^ i % 115792089237316195423570985008687907853269984665640564039457584007913129639936 = y * (N % 4294967296 ^ (8 - i)) * 4294967296 ^ i % 115792089237316195423570985008687907853269984665640564039457584007913129639936 := by
      have hd := Nat.div_add_mod N (4294967296 ^ (8 - i))
      have e9 : y * N * 4294967296 ^ i = y * (N % 4294967296 ^ (8 - i)) * 4294967296 ^ i + 115792089237316195423570985008687907853269984665640564039457584007913129639936 * (y * (N / 4294967296 ^ (8 - i))) := by
        rw [← e8, show 4294967296 ^ 8 = 4294967296 ^ (8 - i) * 4294967296 ^ i from by rw [← Nat.pow_add, show 8 - i + i = 8 by omega]]
        conv => lhs; rw [← hd]
        exact rn_dm _ _ _ _ _
      rw [e9, Nat.add_mul_mod_self_left]
    rw [Nat.add_mod, hq, ← Nat.add_mod, ← v, Nat.add_mul_mod_self_right]
  have lx : x % 18446744073709551616 < 18446744073709551616 := Nat.mod_lt _ (by decide)
  obtain ⟨w1, m1, b1, v1⟩ := one 0 (x % 18446744073709551616 % 4294967296) u (by decide) (Nat.mod_lt _ (by decide)) (fun k hk => by rw [hu2 k hk]; decide)
  obtain ⟨w2, m2, b2, v2⟩ := one 1 (x % 18446744073709551616 / 4294967296) w1 (by decide) (by omega) b1
  obtain ⟨w3, m3, b3, v3⟩ := one 2 (x / 18446744073709551616) w2 (by decide) (by omega) b2
  have e2 : lpU 1 (LL_M_raise_27 (Int64.ofInt ((x % 18446744073709551616 : Nat) : Int)) (Int64.ofInt ((x / 18446744073709551616 : Nat) : Int)) r) 3 0 X1 = sg X1 (r 51) (oN w3) := by
    have s0 : LL_M_raise_27 (Int64.ofInt ((x % 18446744073709551616 : Nat) : Int)) (Int64.ofInt ((x / 18446744073709551616 : Nat) : Int)) r 0 X1 = sg X1 (r 51) (oN w1) := by
      conv => lhs; rw [hu]
      unfold LL_M_raise_27
      simp only []
      rw [if_pos trivial, i6_an32 lx, m1]
    have s1 : LL_M_raise_27 (Int64.ofInt ((x % 18446744073709551616 : Nat) : Int)) (Int64.ofInt ((x / 18446744073709551616 : Nat) : Int)) r 1 (sg X1 (r 51) (oN w1)) = sg X1 (r 51) (oN w2) := by
      unfold LL_M_raise_27
      simp only []
      rw [if_neg (by decide), if_pos trivial, i6_us32 lx, m2]
    have s2 : LL_M_raise_27 (Int64.ofInt ((x % 18446744073709551616 : Nat) : Int)) (Int64.ofInt ((x / 18446744073709551616 : Nat) : Int)) r 2 (sg X1 (r 51) (oN w2)) = sg X1 (r 51) (oN w3) := by
      unfold LL_M_raise_27
      simp only []
      rw [if_neg (by decide), if_neg (by decide), m3]
    show LL_M_raise_27 _ _ r 2 (LL_M_raise_27 _ _ r 1 (LL_M_raise_27 _ _ r 0 X1)) = _
    rw [s0, s1, s2]
  obtain ⟨X3, e3⟩ : ∃ Y, sg X1 (r 51) (oN w3) = Y := ⟨_, rfl⟩
  rw [e3] at e2
  have o3 : onM r [50, 51] X1 X3 := by
    rw [← e3]
    exact sg_on X1 (r 51) _ (by simp)
  have e4 : lpU 1 (LL_M_raise_142 r) 8 0 X3 = svL X3 (r 50) 8 (X3.1 (r 51)) := lp_sv (r 50) 8 (LL_M_raise_142 r) X3 (X3.1 (r 51)) (fun i hi => by
    show stL (svL X3 (r 50) i (X3.1 (r 51))) (r 50) i ((svL X3 (r 50) i (X3.1 (r 51))).1 (r 51) i) = _
    rw [svL_ne X3 (r 50) i _ n51.symm]
    exact st_sv X3 (r 50) i (X3.1 (r 51)))
  have eq : LF_M_raise X r (Int64.ofInt ((x / 18446744073709551616 : Nat) : Int)) (Int64.ofInt ((x % 18446744073709551616 : Nat) : Int)) = svL X3 (r 50) 8 (X3.1 (r 51)) := by
    unfold LF_M_raise
    simp only []
    rw [e0, e2, e4]
  rw [eq]
  refine ⟨(o1.tr o3).tr (sv_on X3 (r 50) 8 _ (by simp)), Nat.mod_lt _ (by decide), fun k hk => ?_⟩
  rw [svL_at X3 (r 50) 8 _ hk, ← e3, sg_rN]
  congr 2
  have hv : vB w3 8 = N * x % 115792089237316195423570985008687907853269984665640564039457584007913129639936 := by
    have hl := vB_lt 8 b3
    rw [show 4294967296 ^ 8 = 115792089237316195423570985008687907853269984665640564039457584007913129639936 from by decide] at hl
    rw [← Nat.mod_eq_of_lt hl, v3, Nat.add_mod, v2, ← Nat.add_mod, Nat.add_assoc, Nat.add_mod, v1, ← Nat.add_mod]
    have u0 : vB u 8 = 0 := by
      rw [vB_ext 8 hu2]
      decide
    rw [u0]
    congr 1
    exact rn_x N x
  rw [← hv]
  exact (vB_dg 8 b3 k hk).symm
