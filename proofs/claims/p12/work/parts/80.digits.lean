/-! the reference's numbers: sixteen digits of sixteen bits -/
def sS (f : Nat → Int) : Nat → Int
  | 0 => 0
  | i + 1 => sS f i + f i * 65536 ^ i
theorem p16_pos (i : Nat) : (0 : Int) < 65536 ^ i := Int.pow_pos (by decide)
theorem sS_1 (f : Nat → Int) (i : Nat) : sS f (i + 1) / 65536 ^ i = sS f i / 65536 ^ i + f i := by
  show (sS f i + f i * 65536 ^ i) / 65536 ^ i = _
  have := p16_pos i
  exact Int.add_mul_ediv_right _ _ (by omega)
theorem sS_c (f : Nat → Int) (i : Nat) : (sS f i / 65536 ^ i + f i) / 65536 = sS f (i + 1) / 65536 ^ (i + 1) := by
  have := p16_pos i
  rw [← sS_1, Int.pow_succ, Int.ediv_ediv_of_nonneg (by omega)]
theorem sS_k (f : Nat → Int) (i : Nat) : ∀ k, ∃ K : Int, sS f (i + k) = sS f i + K * 65536 ^ i
  | 0 => ⟨0, by rw [Int.zero_mul, Int.add_zero]; rfl⟩
  | k + 1 => by
    obtain ⟨K, hK⟩ := sS_k f i k
    refine ⟨K + f (i + k) * 65536 ^ k, ?_⟩
    show sS f (i + k) + f (i + k) * 65536 ^ (i + k) = _
    rw [hK, Int.pow_add, Int.add_mul, Int.add_assoc, Int.mul_assoc, Int.mul_comm (65536 ^ i)]
theorem sS_d (f : Nat → Int) {i n : Nat} (h : i < n) : (sS f i / 65536 ^ i + f i) % 65536 = sS f n / 65536 ^ i % 65536 := by
  obtain ⟨k, rfl⟩ : ∃ k, n = (i + 1) + k := ⟨n - (i + 1), by omega⟩
  obtain ⟨K, hK⟩ := sS_k f (i + 1) k
  have hp := p16_pos i
  rw [← sS_1, hK, Int.pow_succ, ← Int.mul_assoc, Int.mul_right_comm, Int.add_mul_ediv_right _ _ (by omega), Int.add_mul_emod_self_right]
theorem i6_and16 (z : Int) : Int64.ofInt z &&& 65535 = Int64.ofInt (z % 65536) := by
  have e0 : (65535 : Int64) = Int64.ofInt ((2 ^ 16 - 1 : Nat) : Int) := by decide +kernel
  obtain ⟨a, ha⟩ : ∃ a : Nat, z % 18446744073709551616 = (a : Int) := ⟨(z % 18446744073709551616).toNat, by omega⟩
  have e1 : Int64.ofInt z = Int64.ofInt (a : Int) := by
    apply Int64.toBitVec_inj.mp
    show BitVec.ofInt 64 z = BitVec.ofInt 64 (a : Int)
    apply BitVec.eq_of_toNat_eq
    rw [BitVec.toNat_ofInt, BitVec.toNat_ofInt]
    have : ((2 ^ 64 : Nat) : Int) = 18446744073709551616 := rfl
    rw [this]
    omega
  rw [e0, e1]
  apply Int64.toBitVec_inj.mp
  show BitVec.ofInt 64 (a : Int) &&& BitVec.ofInt 64 ((2 ^ 16 - 1 : Nat) : Int) = BitVec.ofInt 64 (z % 65536)
  have e2 : z % 65536 = ((a % 65536 : Nat) : Int) := by omega
  rw [e2, BitVec.ofInt_natCast, BitVec.ofInt_natCast, BitVec.ofInt_natCast]
  apply BitVec.eq_of_toNat_eq
  have hlt : a < 2 ^ 64 := by omega
  rw [BitVec.toNat_and, BitVec.toNat_ofNat, BitVec.toNat_ofNat, BitVec.toNat_ofNat, Nat.mod_eq_of_lt hlt, Nat.mod_eq_of_lt (show 2 ^ 16 - 1 < 2 ^ 64 by decide), Nat.and_two_pow_sub_one_eq_mod, Nat.mod_eq_of_lt (show a % 65536 < 2 ^ 64 from by have := Nat.mod_lt a (show 0 < 65536 by decide); omega)]
theorem sS_b {f : Nat → Int} (hf : ∀ i, i < 16 → -1099511627776 ≤ f i ∧ f i ≤ 1099511627776) : ∀ i, i ≤ 16 → -33554432 ≤ sS f i / 65536 ^ i ∧ sS f i / 65536 ^ i ≤ 33554432
  | 0, _ => ⟨show -33554432 ≤ (0 : Int) / 65536 ^ 0 by decide, show (0 : Int) / 65536 ^ 0 ≤ 33554432 by decide⟩
  | i + 1, h => by
    have ih := sS_b hf i (by omega)
    have h1 := hf i (by omega)
    rw [← sS_c]
    generalize sS f i / 65536 ^ i = c at *
    omega
/-- a loop that adds up, digit by digit -/
theorem cl_add (to : Nat) (X : vM) (f : Nat → Int) (body : Nat → vM × Int64 → vM × Int64) (hf : ∀ i, i < 16 → -1099511627776 ≤ f i ∧ f i ≤ 1099511627776) (hb : ∀ (i : Nat) (c : Int64) (t : Nat → Int64), i < 16 → body i (svL X to i t, c) = (stL (svL X to i t) to i ((c + Int64.ofInt (f i)) &&& 65535), (c + Int64.ofInt (f i)) >>> ((nI 16).toInt64 &&& 63))) : lpU 1 body 16 0 (X, 0) = (svL X to 16 (fun j => Int64.ofInt (sS f 16 / 65536 ^ j % 65536)), Int64.ofInt (sS f 16 / 65536 ^ 16)) := by
  have key : ∀ k i, i + k = 16 → lpU 1 body k i (svL X to i (fun j => Int64.ofInt (sS f 16 / 65536 ^ j % 65536)), Int64.ofInt (sS f i / 65536 ^ i)) = (svL X to 16 (fun j => Int64.ofInt (sS f 16 / 65536 ^ j % 65536)), Int64.ofInt (sS f 16 / 65536 ^ 16)) := by
    intro k
    induction k with
    | zero =>
      intro i hi
      rw [show i = 16 by omega]
      rfl
    | succ k ih =>
      intro i hi
      have hlt : i < 16 := by omega
      have hc := sS_b hf i (by omega)
      have h1 := hf i hlt
      show lpU 1 body k (i + 1) (body i _) = _
      rw [hb i _ _ hlt, ← Int64.ofInt_add, i6_and16, i6_shr (by decide) (by omega), sS_d f hlt, show (2 : Int) ^ 16 = 65536 from rfl, sS_c, st_sv X to i (fun j => Int64.ofInt (sS f 16 / 65536 ^ j % 65536))]
      exact ih (i + 1) (by omega)
  have h0 : X = svL X to 0 (fun j => Int64.ofInt (sS f 16 / 65536 ^ j % 65536)) := by
    refine Prod.ext (funext fun b => funext fun k => ?_) rfl
    exact (if_neg (fun z => absurd z.2 (Nat.not_lt_zero k))).symm
  have := key 16 0 (by omega)
  rw [← h0] at this
  exact this
