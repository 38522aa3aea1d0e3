/-! the reference's halves -/
theorem i6_and1 {x : Int} (hx : 0 ≤ x ∧ x < 65536) : Int64.ofInt x &&& (1 : Int64) = Int64.ofInt (x % 2) := by
  obtain ⟨a, rfl⟩ : ∃ a : Nat, x = (a : Int) := ⟨x.toNat, by omega⟩
  have h := rd_and (a := a) (w := 1) (by omega) (by decide)
  rw [show Int64.ofInt ((2 ^ 1 - 1 : Nat) : Int) = (1 : Int64) from rfl] at h
  rw [h, show ((a % 2 ^ 1 : Nat) : Int) = (a : Int) % 2 from by omega]
theorem hv_dig {x y : Int} (hx : 0 ≤ x ∧ x < 65536) (hy : 0 ≤ y ∧ y < 65536) : (Int64.ofInt x >>> ((nI 1).toInt64 &&& 63)) ||| ((Int64.ofInt y &&& (1 : Int64)) <<< ((nI 15).toInt64 &&& 63)) = Int64.ofInt (x / 2 + y % 2 * 32768) := by
  rw [i6_and1 hy, i6_shr (by decide) (by omega), i6_shl (by decide)]
  obtain ⟨a, ha⟩ : ∃ a : Nat, x / 2 = (a : Int) := ⟨(x / 2).toNat, by omega⟩
  obtain ⟨b, hb⟩ : ∃ b : Nat, y % 2 = (b : Int) := ⟨(y % 2).toNat, by omega⟩
  have h := i6_or (A := a) (B := b) (h := 15) (by omega) (by omega)
  rw [show (2 : Int) ^ 1 = 2 from rfl, show (2 : Int) ^ 15 = 32768 from rfl, ha, hb]
  rw [show ((b * 2 ^ 15 : Nat) : Int) = (b : Int) * 32768 from by omega, show ((a + b * 2 ^ 15 : Nat) : Int) = (a : Int) + (b : Int) * 32768 from by omega] at h
  exact h
theorem dg_half (N : Int) (i : Nat) : dgI (N / 2) i = dgI N i / 2 + dgI N (i + 1) % 2 * 32768 := by
  have hp := p16_pos i
  have e1 : N / 2 / 65536 ^ i = N / 65536 ^ i / 2 := by
    rw [Int.ediv_ediv_of_nonneg (by decide), Int.ediv_ediv_of_nonneg (by omega), Int.mul_comm]
  have e2 : N / 65536 ^ (i + 1) = N / 65536 ^ i / 65536 := by rw [Int.pow_succ, Int.ediv_ediv_of_nonneg (by omega)]
  unfold dgI
  rw [e1, e2]
  generalize N / 65536 ^ i = q
  omega
theorem m_halve {X : vM} {a : Nat} {N : Int} (h : M16 X a N) : mR X (LF_M_halve X a) a (N / 2) := by
  refine mR.mk' ?_ (by have := h.1; omega)
  refine lp_sv a 16 (LL_M_halve_2 a) X (fun j => Int64.ofInt (dgI (N / 2) j)) (fun i hi => ?_)
  rw [← st_sv]
  show stL _ a i (((svL X a i _).1 a i >>> ((nI 1).toInt64 &&& 63)) ||| (if 15 ≤ i then (0 : Int64) else (((svL X a i _).1 a (i + 1) &&& (1 : Int64)) <<< ((nI 15).toInt64 &&& 63)))) = _
  rw [sv_rd]
  have hd := dgI_bd N i
  have hd1 := dgI_bd N (i + 1)
  have e1 : (svL X a i (fun j => Int64.ofInt (dgI (N / 2) j))).1 a (i + 1) = X.1 a (i + 1) := if_neg (fun z => by omega)
  rw [e1, h.2 i hi, dg_half]
  by_cases h15 : 15 ≤ i
  · rw [if_pos h15]
    have e : i + 1 = 16 := by omega
    have e0 : dgI N (i + 1) = 0 := by
      rw [e]
      exact dg_top h.1.1 (by rw [p16_16]; exact h.1.2)
    have := hv_dig hd (y := 0) (by decide)
    rw [e0]
    rw [← this]
    rfl
  · rw [if_neg h15, h.2 (i + 1) (by omega), hv_dig hd hd1]
/-- seventeen digits, the last 0 -/
def M17 (X : vM) (a : Nat) (N : Int) : Prop := M16 X a N ∧ X.1 a 16 = 0
theorem half_tail {X : vM} {a : Nat} {N : Int} (h : M17 X a N) : ∃ t, stL (lpU 1 (LL_M_half_64 a) 16 0 X) a 16 ((lpU 1 (LL_M_half_64 a) 16 0 X).1 a 16 >>> ((nI 1).toInt64 &&& 63)) = svL X a 17 t ∧ M17 (svL X a 17 t) a (N / 2) := by
  have e := lp_sv a 16 (LL_M_half_64 a) X (fun j => Int64.ofInt (dgI (N / 2) j)) (fun i hi => by
    rw [← st_sv]
    show stL _ a i (((svL X a i _).1 a i >>> ((nI 1).toInt64 &&& 63)) ||| (((svL X a i _).1 a (i + 1) &&& (1 : Int64)) <<< ((nI 15).toInt64 &&& 63))) = _
    rw [sv_rd]
    have hd := dgI_bd N i
    have hd1 := dgI_bd N (i + 1)
    have e1 : (svL X a i (fun j => Int64.ofInt (dgI (N / 2) j))).1 a (i + 1) = X.1 a (i + 1) := if_neg (fun z => by omega)
    have e2 : X.1 a (i + 1) = Int64.ofInt (dgI N (i + 1)) := by
      by_cases h15 : i + 1 = 16
      · rw [h15, h.2, dg_top h.1.1.1 (by rw [p16_16]; exact h.1.1.2)]
        rfl
      · exact h.1.2 (i + 1) (by omega)
    rw [e1, e2, h.1.2 i hi, dg_half, hv_dig hd hd1])
  have e16 : (svL X a 16 (fun j => Int64.ofInt (dgI (N / 2) j))).1 a 16 = X.1 a 16 := if_neg (fun z => by omega)
  refine ⟨fun j => Int64.ofInt (dgI (N / 2) j), ?_, ?_⟩
  · have hb : 0 ≤ N / 2 ∧ N / 2 < 115792089237316195423570985008687907853269984665640564039457584007913129639936 := by have := h.1.1; omega
    rw [e, e16, h.2, ← st_sv X a 16 (fun j => Int64.ofInt (dgI (N / 2) j)), dg_top (j := 16) hb.1 (by rw [p16_16]; exact hb.2)]
    exact congrArg (stL _ a 16) (by decide +kernel)
  · have hb : 0 ≤ N / 2 ∧ N / 2 < 115792089237316195423570985008687907853269984665640564039457584007913129639936 := by have := h.1.1; omega
    refine ⟨⟨hb, fun i hi => svL_at X a 17 _ (by omega)⟩, ?_⟩
    rw [svL_at X a 17 _ (by omega), dg_top (j := 16) hb.1 (by rw [p16_16]; exact hb.2)]
    rfl
/-- half of a number modulo M -/
def hfM (N M : Int) : Int := if N % 2 = 0 then N / 2 else (N + M) / 2
theorem m_half {X : vM} {a m : Nat} {N M : Int} (h : M17 X a N) (hm : M16 X m M) (hma : m ≠ a) (hN : N < M) (hM : M ≤ 57896044618658097711785492504343953926634992332820282019728792003956564819968) : ∃ t, LF_M_half X a m = svL X a 17 t ∧ M17 (svL X a 17 t) a (hfM N M) := by
  have hd := dgI_bd N 0
  have h0 : dgI N 0 % 2 = N % 2 := by
    show N / 65536 ^ 0 % 65536 % 2 = _
    rw [show (65536 : Int) ^ 0 = 1 from rfl, Int.ediv_one]
    omega
  have hc : ((X.1 a 0 &&& (1 : Int64)) = (1 : Int64)) ↔ N % 2 = 1 := by
    rw [h.1.2 0 (by decide), i6_and1 hd, h0]
    have := i6_eq (x := N % 2) (y := 1) (by omega) (by decide)
    exact this
  by_cases ho : N % 2 = 1
  · have e1 := cl_add a X (fun i => dgI N i + dgI M i) (LL_M_half_15 a m) (fun i _ => by have := dgI_bd N i; have := dgI_bd M i; omega) (fun i c t hi => by
      show (stL (svL X a i t) a i ((c + ((svL X a i t).1 a i + (svL X a i t).1 m i)) &&& 65535), (c + ((svL X a i t).1 a i + (svL X a i t).1 m i)) >>> ((nI 16).toInt64 &&& 63)) = _
      rw [sv_rd, sv_rd, h.1.2 i hi, hm.2 i hi, ← Int64.ofInt_add])
    rw [sS_add, M16.sum h.1.1, M16.sum hm.1] at e1
    have hb : 0 ≤ N + M ∧ N + M < 115792089237316195423570985008687907853269984665640564039457584007913129639936 := by have := h.1.1; have := hm.1; omega
    rw [p16_16, Int.ediv_eq_zero_of_lt hb.1 hb.2] at e1
    obtain ⟨Y, hY⟩ : ∃ Y, svL X a 16 (fun j => Int64.ofInt ((N + M) / 65536 ^ j % 65536)) = Y := ⟨_, rfl⟩
    rw [hY] at e1
    have e16 : Y.1 a 16 = X.1 a 16 := by rw [← hY]; exact if_neg (fun z => by omega)
    obtain ⟨Z, hZ⟩ : ∃ Z, stL Y a 16 (Y.1 a 16 + Int64.ofInt 0) = Z := ⟨_, rfl⟩
    have hZs : Z = svL X a 17 (fun j => Int64.ofInt (dgI (N + M) j)) := by
      rw [← hZ, e16, h.2, ← st_sv X a 16 (fun j => Int64.ofInt (dgI (N + M) j)), ← hY, dg_top (j := 16) hb.1 (by rw [p16_16]; exact hb.2)]
      rfl
    have hZ17 : M17 Z a (N + M) := by
      rw [hZs]
      refine ⟨⟨hb, fun i hi => svL_at X a 17 _ (by omega)⟩, ?_⟩
      rw [svL_at X a 17 _ (by omega), dg_top (j := 16) hb.1 (by rw [p16_16]; exact hb.2)]
      rfl
    obtain ⟨t, ht, h17⟩ := half_tail hZ17
    refine ⟨t, ?_, ?_⟩
    · unfold LF_M_half
      simp only []
      rw [if_pos (hc.mpr ho), e1]
      simp only []
      rw [hZ, ht, hZs, sv_sv]
    · unfold hfM
      rw [if_neg (by omega)]
      rw [hZs, sv_sv] at h17
      exact h17
  · obtain ⟨t, ht, h17⟩ := half_tail h
    refine ⟨t, ?_, ?_⟩
    · unfold LF_M_half
      simp only []
      rw [if_neg (fun z => ho (hc.mp z)), ht]
    · unfold hfM
      rw [if_pos (by omega)]
      exact h17
