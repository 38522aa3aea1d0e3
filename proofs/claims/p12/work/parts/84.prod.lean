/-! the whole product -/
theorem m_prod0 {X : vM} {r : Nat → Nat} : lpU 1 (LL_M_times_3 r) 32 0 X = svL X (r 40) 32 (fun j => Int64.ofInt (dgI 0 j)) := by
  rw [lp_sv (r 40) 32 (LL_M_times_3 r) X (fun _ => 0) (fun i _ => st_sv X (r 40) i (fun _ => 0))]
  refine svL_ext (fun i _ => ?_)
  rw [dg_small (by decide)]
  split <;> rfl
theorem m_prod {X : vM} {r : Nat → Nat} {a b : Nat} {A B : Int} (ha : M16 X a A) (hb : M16 X b B) (na : a ≠ r 40) (nb : b ≠ r 40) : lpU 1 (LL_M_times_27 r a b) 16 0 (lpU 1 (LL_M_times_3 r) 32 0 X) = svL X (r 40) 32 (fun j => Int64.ofInt (dgI (A * B) j)) := by
  have hB0 := hb.1.1
  have hB1 := hb.1.2
  have bnd : ∀ i, 0 ≤ sS (dgI A) i * B ∧ sS (dgI A) i * B < 65536 ^ (i + 16) := fun i => by
    rw [dg_sum]
    have hp := p16_pos i
    have h0 := Int.emod_nonneg A (show (65536 : Int) ^ i ≠ 0 by omega)
    have h1 := Int.emod_lt_of_pos A hp
    generalize A % 65536 ^ i = x at *
    rw [Int.pow_add, p16_16]
    generalize (65536 : Int) ^ i = P at *
    refine ⟨Int.mul_nonneg h0 hB0, ?_⟩
    have h2 : x * B ≤ x * 115792089237316195423570985008687907853269984665640564039457584007913129639936 := Int.mul_le_mul_of_nonneg_left (by omega) h0
    omega
  have key : ∀ k i, i + k = 16 → lpU 1 (LL_M_times_27 r a b) k i (svL X (r 40) 32 (fun j => Int64.ofInt (dgI (sS (dgI A) i * B) j))) = svL X (r 40) 32 (fun j => Int64.ofInt (dgI (A * B) j)) := by
    intro k
    induction k with
    | zero =>
      intro i hi
      rw [show i = 16 by omega, M16.sum ha.1]
      rfl
    | succ k ih =>
      intro i hi
      show lpU 1 (LL_M_times_27 r a b) k (i + 1) (LL_M_times_27 r a b i _) = _
      rw [m_row (by omega) ha hb na nb (bnd i)]
      have e : sS (dgI A) i * B + dgI A i * B * 65536 ^ i = sS (dgI A) (i + 1) * B := by
        show _ = (sS (dgI A) i + dgI A i * 65536 ^ i) * B
        rw [Int.add_mul, Int.mul_right_comm]
      rw [e]
      exact ih (i + 1) (by omega)
  rw [m_prod0]
  have := key 16 0 (by omega)
  rw [show sS (dgI A) 0 * B = 0 from Int.zero_mul B] at this
  exact this
