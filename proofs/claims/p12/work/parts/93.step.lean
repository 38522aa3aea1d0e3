/-! the reference's bytes and digits -/
theorem rd16 (a b : Int32) {A B : Nat} (ha : a.toBitVec.toNat = A) (hb : b.toBitVec.toNat = B) (hA : A < 256) (hB : B < 256) : (a ||| (b <<< ((nI 8) &&& 31))).toInt64 = Int64.ofInt ((A + 256 * B : Nat) : Int) := by
  have hs : ((nI 8) &&& 31 : Int32).toBitVec.smod 32 = 8#32 := by decide +kernel
  have e : (a ||| (b <<< ((nI 8) &&& 31))).toBitVec = a.toBitVec ||| (b.toBitVec <<< (8#32)) := by
    show a.toBitVec ||| (b.toBitVec <<< (((nI 8) &&& 31 : Int32).toBitVec.smod 32)) = _
    rw [hs]
  have n : (a ||| (b <<< ((nI 8) &&& 31))).toBitVec.toNat = A + 256 * B := by
    rw [e, BitVec.toNat_or, BitVec.shiftLeft_eq', BitVec.toNat_shiftLeft, ha, hb, show (8#32).toNat = 8 from rfl, Nat.shiftLeft_eq, Nat.mod_eq_of_lt (by omega)]
    have := Nat.shiftLeft_add_eq_or_of_lt (i := 8) (b := A) (by omega) B
    rw [Nat.shiftLeft_eq] at this
    rw [Nat.or_comm, ← this]
    omega
  rw [← Int64.ofInt_int32ToInt]
  congr 1
  show (a ||| (b <<< ((nI 8) &&& 31))).toBitVec.toInt = _
  rw [BitVec.toInt_eq_toNat_of_lt (by omega), n]
theorem ub_and (x : Int32) : (x &&& nI 255).toBitVec.toNat = ub x := rfl
theorem ub_mod (x : Int32) : ub x = x.toBitVec.toNat % 256 := by
  show (x.toBitVec &&& 255#32).toNat = _
  rw [BitVec.toNat_and, show (255#32).toNat = 2 ^ 8 - 1 from rfl, Nat.and_two_pow_sub_one_eq_mod]
theorem ub_127 (x : Int32) : (x &&& nI 127).toBitVec.toNat = ub x % 128 := by
  rw [ub_mod]
  show (x.toBitVec &&& 127#32).toNat = _
  rw [BitVec.toNat_and, show (127#32).toNat = 2 ^ 7 - 1 from rfl, Nat.and_two_pow_sub_one_eq_mod]
  omega
theorem rd_w (x y : Int32) : ((x &&& nI 255) ||| ((y &&& nI 255) <<< ((nI 8) &&& 31))).toInt64 = Int64.ofInt ((ub x + 256 * ub y : Nat) : Int) := rd16 _ _ (ub_and x) (ub_and y) (ub_lt x) (ub_lt y)
theorem rd_w7 (x y : Int32) : ((x &&& nI 255) ||| ((y &&& nI 127) <<< ((nI 8) &&& 31))).toInt64 = Int64.ofInt ((ub x + 256 * (ub y % 128) : Nat) : Int) := rd16 _ _ (ub_and x) (ub_127 y) (ub_lt x) (by omega)
/-- two bytes are a digit -/
theorem dg_le (f : Nat → Int32) {i n : Nat} (h : 2 * i + 2 ≤ n) : dgI ((leN f n : Nat) : Int) i = ((ub (f (2 * i)) + 256 * ub (f (2 * i + 1)) : Nat) : Int) := by
  obtain ⟨k, rfl⟩ : ∃ k, n = 2 * i + (2 + k) := ⟨n - (2 * i + 2), by omega⟩
  have e1 : leN (fun j => f (2 * i + j)) 2 = ub (f (2 * i)) + 256 * ub (f (2 * i + 1)) := by
    show 0 + ub (f (2 * i)) * 256 ^ 0 + ub (f (2 * i + 1)) * 256 ^ 1 = _
    rw [Nat.pow_zero, Nat.pow_one]
    omega
  have h1 := lim2 f (a := 2 * i) (c := 2) (k := k) (s := 0) (w := 16) (r := 0) (by decide)
  rw [e1, Nat.pow_zero, Nat.mul_one, Nat.div_one] at h1
  have b0 := ub_lt (f (2 * i))
  have b1 := ub_lt (f (2 * i + 1))
  rw [show 2 ^ 16 = 65536 from rfl, Nat.mod_eq_of_lt (show ub (f (2 * i)) + 256 * ub (f (2 * i + 1)) < 65536 by omega), Nat.pow_mul, show 256 ^ 2 = 65536 from rfl] at h1
  rw [← h1, Int.natCast_emod, Int.natCast_ediv, Int.natCast_pow]
  rfl
theorem dg_255 (N : Nat) {i : Nat} (h : i < 16) : dgI ((N % 57896044618658097711785492504343953926634992332820282019728792003956564819968 : Nat) : Int) i = if i = 15 then dgI (N : Int) 15 % 32768 else dgI (N : Int) i := by
  rcases (show i = 0 ∨ i = 1 ∨ i = 2 ∨ i = 3 ∨ i = 4 ∨ i = 5 ∨ i = 6 ∨ i = 7 ∨ i = 8 ∨ i = 9 ∨ i = 10 ∨ i = 11 ∨ i = 12 ∨ i = 13 ∨ i = 14 ∨ i = 15 by omega) with rfl | rfl | rfl | rfl | rfl | rfl | rfl | rfl | rfl | rfl | rfl | rfl | rfl | rfl | rfl | rfl
  all_goals
    simp only [dgI, reduceIte, Int.reducePow, Nat.reduceEqDiff]
    omega
/-- thirty-two bytes, without the highest bit, into sixteen digits -/
theorem m_rd255 {X : vM} {to b : Nat} (body : Nat → vM → vM) (hb : ∀ i Y, Y.2 = X.2 → body i Y = stL Y to i ((((Y.2 b (2 * i)) &&& (nI 255)) ||| ((if i = 15 then ((Y.2 b 31) &&& (nI 127)) else ((Y.2 b ((2 * i) + 1)) &&& (nI 255))) <<< ((nI 8) &&& 31))).toInt64)) : mR X (lpU 1 body 16 0 X) to ((leN (X.2 b) 32 % 57896044618658097711785492504343953926634992332820282019728792003956564819968 : Nat) : Int) := by
  refine mR.mk' (lp_sv to 16 body X _ (fun i hi => ?_)) (by omega)
  rw [hb i (svL X to i _) rfl]
  show stL (svL X to i _) to i ((((X.2 b (2 * i)) &&& (nI 255)) ||| ((if i = 15 then ((X.2 b 31) &&& (nI 127)) else ((X.2 b ((2 * i) + 1)) &&& (nI 255))) <<< ((nI 8) &&& 31))).toInt64) = _
  rw [← st_sv, dg_255 _ hi]
  congr 1
  by_cases h : i = 15
  · subst h
    rw [if_pos rfl, if_pos rfl, rd_w7, dg_le (X.2 b) (i := 15) (n := 32) (by decide)]
    congr 1
    have b0 := ub_lt (X.2 b (2 * 15))
    show ((ub (X.2 b (2 * 15)) + 256 * (ub (X.2 b 31) % 128) : Nat) : Int) = ((ub (X.2 b (2 * 15)) + 256 * ub (X.2 b 31) : Nat) : Int) % 32768
    omega
  · rw [if_neg h, if_neg h, rd_w, dg_le (X.2 b) (i := i) (n := 32) (by omega)]
theorem svI_0 (X : vM) (a : Nat) (f : Nat → Int32) : svI X a 0 f = X := by
  refine Prod.ext rfl (funext fun b => funext fun k => ?_)
  exact if_neg (fun z => absurd z.2 (Nat.not_lt_zero k))
theorem lp_svI (a n : Nat) (body : Nat → vM → vM) (X : vM) (f : Nat → Int32) (hb : ∀ i, i < n → body i (svI X a i f) = svI X a (i + 1) f) : lpU 1 body n 0 X = svI X a n f := by
  have key : ∀ k i, i + k = n → lpU 1 body k i (svI X a i f) = svI X a n f := by
    intro k
    induction k with
    | zero =>
      intro i hi
      rw [show i = n by omega]
      rfl
    | succ k ih =>
      intro i hi
      show lpU 1 body k (i + 1) (body i _) = _
      rw [hb i (by omega)]
      exact ih (i + 1) (by omega)
  have := key n 0 (by omega)
  rw [svI_0] at this
  exact this
theorem by8_dg (N : Int) (i : Nat) : by8 (dgI N (i / 2) / 2 ^ (8 * (i % 2))) = by8 (N / 256 ^ i) := by
  refine by8_mod ?_
  have e : N / 256 ^ i = N / 65536 ^ (i / 2) / 2 ^ (8 * (i % 2)) := by
    have hp := p16_pos (i / 2)
    rw [Int.ediv_ediv_of_nonneg (by omega), show (65536 : Int) = 2 ^ 16 from rfl, show (256 : Int) = 2 ^ 8 from rfl, ← Int.pow_mul, ← Int.pow_mul, ← Int.pow_add, show 16 * (i / 2) + 8 * (i % 2) = 8 * i by omega]
  rw [e]
  unfold dgI
  generalize N / 65536 ^ (i / 2) = x
  rcases (show i % 2 = 0 ∨ i % 2 = 1 by omega) with h | h <;> rw [h]
  · rw [show (2 : Int) ^ (8 * 0) = 1 from rfl]
    omega
  · rw [show (2 : Int) ^ (8 * 1) = 256 from rfl]
    omega
theorem by8_of1 (n : Int) : (Int64.ofInt n).toInt32.toInt8.toInt32.toInt8.toInt32 = by8 n := by8_of n
/-- sixteen digits into thirty-two bytes -/
theorem m_wr {X : vM} {to a : Nat} {N : Int} (ha : M16 X a N) (body : Nat → vM → vM) (hb : ∀ i Y, Y.1 = X.1 → body i Y = stI Y to i (((((Y.1 a (i / 2)) >>> ((nI (8 * (i % 2))).toInt64 &&& 63)).toInt32).toInt8.toInt32).toInt8.toInt32)) : lpU 1 body 32 0 X = svI X to 32 (fun j => by8 (N / 256 ^ j)) := by
  refine lp_svI to 32 body X _ (fun i hi => ?_)
  rw [hb i (svI X to i _) rfl, ← st_svI]
  congr 1
  have hd := dgI_bd N (i / 2)
  show ((((X.1 a (i / 2)) >>> ((nI (8 * (i % 2))).toInt64 &&& 63)).toInt32).toInt8.toInt32).toInt8.toInt32 = _
  rw [ha.2 (i / 2) (by omega), i6_shr (by omega) (by omega), by8_of, by8_dg]
/-! the reference's ladder -/
theorem rg_lz {R : Type} [Lean.Grind.CommRing R] (e t a : R) : e * (e * t + a) = (e * t + a) * e := by grind
set_option maxHeartbeats 4000000 in
theorem fm_stepA {X : vM} {r : Nat → Nat} {x z s t u : Fp} (hI : MInj r) (hK : Kp X r) (hx : Fm X (r 18) x) (hz : Fm X (r 19) z) (hs : Fm X (r 20) s) (ht : Fm X (r 21) t) (hu : Fm X (r 33) u) (h10 : Fm X (r 34) (iF 121665)) : onM r [18, 19, 20, 21, 24, 25, 26, 27, 28, 29, 40, 41] X (LF_M_step X r (r 18) (r 19) (r 20) (r 21)) ∧ Fm (LF_M_step X r (r 18) (r 19) (r 20) (r 21)) (r 18) (lstep u (x, z, s, t)).1 ∧ Fm (LF_M_step X r (r 18) (r 19) (r 20) (r 21)) (r 19) (lstep u (x, z, s, t)).2.1 ∧ Fm (LF_M_step X r (r 18) (r 19) (r 20) (r 21)) (r 20) (lstep u (x, z, s, t)).2.2.1 ∧ Fm (LF_M_step X r (r 18) (r 19) (r 20) (r 21)) (r 21) (lstep u (x, z, s, t)).2.2.2 := by
  have R1 := fm_plus (to := 24) hI hK hx hz rfl
  obtain ⟨X1, eX1⟩ : ∃ Y, LF_M_plus X (r 24) (r 18) (r 19) (r 10) = Y := ⟨_, rfl⟩
  rw [eX1] at R1
  have K1 := hK.kp hI R1.1 rfl
  have hx := hx.kp hI R1.1 rfl
  have hz := hz.kp hI R1.1 rfl
  have hs := hs.kp hI R1.1 rfl
  have ht := ht.kp hI R1.1 rfl
  have hu := hu.kp hI R1.1 rfl
  have h10 := h10.kp hI R1.1 rfl
  have g1 := R1.2
  have R2 := fm_minus (to := 25) hI K1 hx hz rfl
  obtain ⟨X2, eX2⟩ : ∃ Y, LF_M_minus X1 (r 25) (r 18) (r 19) (r 10) = Y := ⟨_, rfl⟩
  rw [eX2] at R2
  have K2 := K1.kp hI R2.1 rfl
  have hs := hs.kp hI R2.1 rfl
  have ht := ht.kp hI R2.1 rfl
  have hu := hu.kp hI R2.1 rfl
  have h10 := h10.kp hI R2.1 rfl
  have g1 := g1.kp hI R2.1 rfl
  have g2 := R2.2
  have R3 := fm_plus (to := 26) hI K2 hs ht rfl
  obtain ⟨X3, eX3⟩ : ∃ Y, LF_M_plus X2 (r 26) (r 20) (r 21) (r 10) = Y := ⟨_, rfl⟩
  rw [eX3] at R3
  have K3 := K2.kp hI R3.1 rfl
  have hs := hs.kp hI R3.1 rfl
  have ht := ht.kp hI R3.1 rfl
  have hu := hu.kp hI R3.1 rfl
  have h10 := h10.kp hI R3.1 rfl
  have g1 := g1.kp hI R3.1 rfl
  have g2 := g2.kp hI R3.1 rfl
  have g3 := R3.2
  have R4 := fm_minus (to := 27) hI K3 hs ht rfl
  obtain ⟨X4, eX4⟩ : ∃ Y, LF_M_minus X3 (r 27) (r 20) (r 21) (r 10) = Y := ⟨_, rfl⟩
  rw [eX4] at R4
  have K4 := K3.kp hI R4.1 rfl
  have hu := hu.kp hI R4.1 rfl
  have h10 := h10.kp hI R4.1 rfl
  have g1 := g1.kp hI R4.1 rfl
  have g2 := g2.kp hI R4.1 rfl
  have g3 := g3.kp hI R4.1 rfl
  have g4 := R4.2
  have R5 := fm_times (to := 27) hI K4 g4 g1 rfl
  obtain ⟨X5, eX5⟩ : ∃ Y, LF_M_times X4 r (r 27) (r 27) (r 24) (r 10) (r 11) = Y := ⟨_, rfl⟩
  rw [eX5] at R5
  have K5 := K4.kp hI R5.1 rfl
  have hu := hu.kp hI R5.1 rfl
  have h10 := h10.kp hI R5.1 rfl
  have g1 := g1.kp hI R5.1 rfl
  have g2 := g2.kp hI R5.1 rfl
  have g3 := g3.kp hI R5.1 rfl
  have g5 := R5.2
  have R6 := fm_times (to := 26) hI K5 g3 g2 rfl
  obtain ⟨X6, eX6⟩ : ∃ Y, LF_M_times X5 r (r 26) (r 26) (r 25) (r 10) (r 11) = Y := ⟨_, rfl⟩
  rw [eX6] at R6
  have K6 := K5.kp hI R6.1 rfl
  have hu := hu.kp hI R6.1 rfl
  have h10 := h10.kp hI R6.1 rfl
  have g1 := g1.kp hI R6.1 rfl
  have g2 := g2.kp hI R6.1 rfl
  have g5 := g5.kp hI R6.1 rfl
  have g6 := R6.2
  have R7 := fm_plus (to := 28) hI K6 g5 g6 rfl
  obtain ⟨X7, eX7⟩ : ∃ Y, LF_M_plus X6 (r 28) (r 27) (r 26) (r 10) = Y := ⟨_, rfl⟩
  rw [eX7] at R7
  have K7 := K6.kp hI R7.1 rfl
  have hu := hu.kp hI R7.1 rfl
  have h10 := h10.kp hI R7.1 rfl
  have g1 := g1.kp hI R7.1 rfl
  have g2 := g2.kp hI R7.1 rfl
  have g6 := g6.kp hI R7.1 rfl
  have g5 := g5.kp hI R7.1 rfl
  have g7 := R7.2
  have R8 := fm_minus (to := 29) hI K7 g5 g6 rfl
  obtain ⟨X8, eX8⟩ : ∃ Y, LF_M_minus X7 (r 29) (r 27) (r 26) (r 10) = Y := ⟨_, rfl⟩
  rw [eX8] at R8
  have K8 := K7.kp hI R8.1 rfl
  have hu := hu.kp hI R8.1 rfl
  have h10 := h10.kp hI R8.1 rfl
  have g1 := g1.kp hI R8.1 rfl
  have g2 := g2.kp hI R8.1 rfl
  have g7 := g7.kp hI R8.1 rfl
  have g8 := R8.2
  have R9 := fm_times (to := 20) hI K8 g7 g7 rfl
  obtain ⟨X9, eX9⟩ : ∃ Y, LF_M_times X8 r (r 20) (r 28) (r 28) (r 10) (r 11) = Y := ⟨_, rfl⟩
  rw [eX9] at R9
  have K9 := K8.kp hI R9.1 rfl
  have hu := hu.kp hI R9.1 rfl
  have h10 := h10.kp hI R9.1 rfl
  have g1 := g1.kp hI R9.1 rfl
  have g2 := g2.kp hI R9.1 rfl
  have g8 := g8.kp hI R9.1 rfl
  have g9 := R9.2
  have R10 := fm_times (to := 29) hI K9 g8 g8 rfl
  obtain ⟨X10, eX10⟩ : ∃ Y, LF_M_times X9 r (r 29) (r 29) (r 29) (r 10) (r 11) = Y := ⟨_, rfl⟩
  rw [eX10] at R10
  have K10 := K9.kp hI R10.1 rfl
  have hu := hu.kp hI R10.1 rfl
  have h10 := h10.kp hI R10.1 rfl
  have g1 := g1.kp hI R10.1 rfl
  have g2 := g2.kp hI R10.1 rfl
  have g9 := g9.kp hI R10.1 rfl
  have g10 := R10.2
  have R11 := fm_times (to := 21) hI K10 g10 hu rfl
  obtain ⟨X11, eX11⟩ : ∃ Y, LF_M_times X10 r (r 21) (r 29) (r 33) (r 10) (r 11) = Y := ⟨_, rfl⟩
  rw [eX11] at R11
  have K11 := K10.kp hI R11.1 rfl
  have h10 := h10.kp hI R11.1 rfl
  have g1 := g1.kp hI R11.1 rfl
  have g2 := g2.kp hI R11.1 rfl
  have g9 := g9.kp hI R11.1 rfl
  have g11 := R11.2
  have R12 := fm_times (to := 24) hI K11 g1 g1 rfl
  obtain ⟨X12, eX12⟩ : ∃ Y, LF_M_times X11 r (r 24) (r 24) (r 24) (r 10) (r 11) = Y := ⟨_, rfl⟩
  rw [eX12] at R12
  have K12 := K11.kp hI R12.1 rfl
  have h10 := h10.kp hI R12.1 rfl
  have g2 := g2.kp hI R12.1 rfl
  have g9 := g9.kp hI R12.1 rfl
  have g11 := g11.kp hI R12.1 rfl
  have g12 := R12.2
  have R13 := fm_times (to := 25) hI K12 g2 g2 rfl
  obtain ⟨X13, eX13⟩ : ∃ Y, LF_M_times X12 r (r 25) (r 25) (r 25) (r 10) (r 11) = Y := ⟨_, rfl⟩
  rw [eX13] at R13
  have K13 := K12.kp hI R13.1 rfl
  have h10 := h10.kp hI R13.1 rfl
  have g12 := g12.kp hI R13.1 rfl
  have g9 := g9.kp hI R13.1 rfl
  have g11 := g11.kp hI R13.1 rfl
  have g13 := R13.2
  have R14 := fm_times (to := 18) hI K13 g12 g13 rfl
  obtain ⟨X14, eX14⟩ : ∃ Y, LF_M_times X13 r (r 18) (r 24) (r 25) (r 10) (r 11) = Y := ⟨_, rfl⟩
  rw [eX14] at R14
  have K14 := K13.kp hI R14.1 rfl
  have h10 := h10.kp hI R14.1 rfl
  have g12 := g12.kp hI R14.1 rfl
  have g13 := g13.kp hI R14.1 rfl
  have g9 := g9.kp hI R14.1 rfl
  have g11 := g11.kp hI R14.1 rfl
  have g14 := R14.2
  have R15 := fm_minus (to := 25) hI K14 g12 g13 rfl
  obtain ⟨X15, eX15⟩ : ∃ Y, LF_M_minus X14 (r 25) (r 24) (r 25) (r 10) = Y := ⟨_, rfl⟩
  rw [eX15] at R15
  have K15 := K14.kp hI R15.1 rfl
  have h10 := h10.kp hI R15.1 rfl
  have g12 := g12.kp hI R15.1 rfl
  have g9 := g9.kp hI R15.1 rfl
  have g11 := g11.kp hI R15.1 rfl
  have g14 := g14.kp hI R15.1 rfl
  have g15 := R15.2
  have R16 := fm_times (to := 26) hI K15 g15 h10 rfl
  obtain ⟨X16, eX16⟩ : ∃ Y, LF_M_times X15 r (r 26) (r 25) (r 34) (r 10) (r 11) = Y := ⟨_, rfl⟩
  rw [eX16] at R16
  have K16 := K15.kp hI R16.1 rfl
  have g12 := g12.kp hI R16.1 rfl
  have g15 := g15.kp hI R16.1 rfl
  have g9 := g9.kp hI R16.1 rfl
  have g11 := g11.kp hI R16.1 rfl
  have g14 := g14.kp hI R16.1 rfl
  have g16 := R16.2
  have R17 := fm_plus (to := 26) hI K16 g16 g12 rfl
  obtain ⟨X17, eX17⟩ : ∃ Y, LF_M_plus X16 (r 26) (r 26) (r 24) (r 10) = Y := ⟨_, rfl⟩
  rw [eX17] at R17
  have K17 := K16.kp hI R17.1 rfl
  have g15 := g15.kp hI R17.1 rfl
  have g9 := g9.kp hI R17.1 rfl
  have g11 := g11.kp hI R17.1 rfl
  have g14 := g14.kp hI R17.1 rfl
  have g17 := R17.2
  have R18 := fm_times (to := 19) hI K17 g15 g17 rfl
  obtain ⟨X18, eX18⟩ : ∃ Y, LF_M_times X17 r (r 19) (r 25) (r 26) (r 10) (r 11) = Y := ⟨_, rfl⟩
  rw [eX18] at R18
  have K18 := K17.kp hI R18.1 rfl
  have g9 := g9.kp hI R18.1 rfl
  have g11 := g11.kp hI R18.1 rfl
  have g14 := g14.kp hI R18.1 rfl
  have g18 := R18.2
  have hX : LF_M_step X r (r 18) (r 19) (r 20) (r 21) = X18 := by subst eX1 eX2 eX3 eX4 eX5 eX6 eX7 eX8 eX9 eX10 eX11 eX12 eX13 eX14 eX15 eX16 eX17 eX18; rfl
  rw [hX]
  exact ⟨(((((((((((((((((((onM.rf (l := [18, 19, 20, 21, 24, 25, 26, 27, 28, 29, 40, 41])).ad R1.1 rfl).ad R2.1 rfl).ad R3.1 rfl).ad R4.1 rfl).ad R5.1 rfl).ad R6.1 rfl).ad R7.1 rfl).ad R8.1 rfl).ad R9.1 rfl).ad R10.1 rfl).ad R11.1 rfl).ad R12.1 rfl).ad R13.1 rfl).ad R14.1 rfl).ad R15.1 rfl).ad R16.1 rfl).ad R17.1 rfl).ad R18.1 rfl), g14, g18.ev (rg_lz _ _ _), g9, g11⟩
set_option maxHeartbeats 4000000 in
theorem fm_stepB {X : vM} {r : Nat → Nat} {x z s t u : Fp} (hI : MInj r) (hK : Kp X r) (hx : Fm X (r 20) x) (hz : Fm X (r 21) z) (hs : Fm X (r 18) s) (ht : Fm X (r 19) t) (hu : Fm X (r 33) u) (h10 : Fm X (r 34) (iF 121665)) : onM r [18, 19, 20, 21, 24, 25, 26, 27, 28, 29, 40, 41] X (LF_M_step X r (r 20) (r 21) (r 18) (r 19)) ∧ Fm (LF_M_step X r (r 20) (r 21) (r 18) (r 19)) (r 20) (lstep u (x, z, s, t)).1 ∧ Fm (LF_M_step X r (r 20) (r 21) (r 18) (r 19)) (r 21) (lstep u (x, z, s, t)).2.1 ∧ Fm (LF_M_step X r (r 20) (r 21) (r 18) (r 19)) (r 18) (lstep u (x, z, s, t)).2.2.1 ∧ Fm (LF_M_step X r (r 20) (r 21) (r 18) (r 19)) (r 19) (lstep u (x, z, s, t)).2.2.2 := by
  have R1 := fm_plus (to := 24) hI hK hx hz rfl
  obtain ⟨X1, eX1⟩ : ∃ Y, LF_M_plus X (r 24) (r 20) (r 21) (r 10) = Y := ⟨_, rfl⟩
  rw [eX1] at R1
  have K1 := hK.kp hI R1.1 rfl
  have hx := hx.kp hI R1.1 rfl
  have hz := hz.kp hI R1.1 rfl
  have hs := hs.kp hI R1.1 rfl
  have ht := ht.kp hI R1.1 rfl
  have hu := hu.kp hI R1.1 rfl
  have h10 := h10.kp hI R1.1 rfl
  have g1 := R1.2
  have R2 := fm_minus (to := 25) hI K1 hx hz rfl
  obtain ⟨X2, eX2⟩ : ∃ Y, LF_M_minus X1 (r 25) (r 20) (r 21) (r 10) = Y := ⟨_, rfl⟩
  rw [eX2] at R2
  have K2 := K1.kp hI R2.1 rfl
  have hs := hs.kp hI R2.1 rfl
  have ht := ht.kp hI R2.1 rfl
  have hu := hu.kp hI R2.1 rfl
  have h10 := h10.kp hI R2.1 rfl
  have g1 := g1.kp hI R2.1 rfl
  have g2 := R2.2
  have R3 := fm_plus (to := 26) hI K2 hs ht rfl
  obtain ⟨X3, eX3⟩ : ∃ Y, LF_M_plus X2 (r 26) (r 18) (r 19) (r 10) = Y := ⟨_, rfl⟩
  rw [eX3] at R3
  have K3 := K2.kp hI R3.1 rfl
  have hs := hs.kp hI R3.1 rfl
  have ht := ht.kp hI R3.1 rfl
  have hu := hu.kp hI R3.1 rfl
  have h10 := h10.kp hI R3.1 rfl
  have g1 := g1.kp hI R3.1 rfl
  have g2 := g2.kp hI R3.1 rfl
  have g3 := R3.2
  have R4 := fm_minus (to := 27) hI K3 hs ht rfl
  obtain ⟨X4, eX4⟩ : ∃ Y, LF_M_minus X3 (r 27) (r 18) (r 19) (r 10) = Y := ⟨_, rfl⟩
  rw [eX4] at R4
  have K4 := K3.kp hI R4.1 rfl
  have hu := hu.kp hI R4.1 rfl
  have h10 := h10.kp hI R4.1 rfl
  have g1 := g1.kp hI R4.1 rfl
  have g2 := g2.kp hI R4.1 rfl
  have g3 := g3.kp hI R4.1 rfl
  have g4 := R4.2
  have R5 := fm_times (to := 27) hI K4 g4 g1 rfl
  obtain ⟨X5, eX5⟩ : ∃ Y, LF_M_times X4 r (r 27) (r 27) (r 24) (r 10) (r 11) = Y := ⟨_, rfl⟩
  rw [eX5] at R5
  have K5 := K4.kp hI R5.1 rfl
  have hu := hu.kp hI R5.1 rfl
  have h10 := h10.kp hI R5.1 rfl
  have g1 := g1.kp hI R5.1 rfl
  have g2 := g2.kp hI R5.1 rfl
  have g3 := g3.kp hI R5.1 rfl
  have g5 := R5.2
  have R6 := fm_times (to := 26) hI K5 g3 g2 rfl
  obtain ⟨X6, eX6⟩ : ∃ Y, LF_M_times X5 r (r 26) (r 26) (r 25) (r 10) (r 11) = Y := ⟨_, rfl⟩
  rw [eX6] at R6
  have K6 := K5.kp hI R6.1 rfl
  have hu := hu.kp hI R6.1 rfl
  have h10 := h10.kp hI R6.1 rfl
  have g1 := g1.kp hI R6.1 rfl
  have g2 := g2.kp hI R6.1 rfl
  have g5 := g5.kp hI R6.1 rfl
  have g6 := R6.2
  have R7 := fm_plus (to := 28) hI K6 g5 g6 rfl
  obtain ⟨X7, eX7⟩ : ∃ Y, LF_M_plus X6 (r 28) (r 27) (r 26) (r 10) = Y := ⟨_, rfl⟩
  rw [eX7] at R7
  have K7 := K6.kp hI R7.1 rfl
  have hu := hu.kp hI R7.1 rfl
  have h10 := h10.kp hI R7.1 rfl
  have g1 := g1.kp hI R7.1 rfl
  have g2 := g2.kp hI R7.1 rfl
  have g6 := g6.kp hI R7.1 rfl
  have g5 := g5.kp hI R7.1 rfl
  have g7 := R7.2
  have R8 := fm_minus (to := 29) hI K7 g5 g6 rfl
  obtain ⟨X8, eX8⟩ : ∃ Y, LF_M_minus X7 (r 29) (r 27) (r 26) (r 10) = Y := ⟨_, rfl⟩
  rw [eX8] at R8
  have K8 := K7.kp hI R8.1 rfl
  have hu := hu.kp hI R8.1 rfl
  have h10 := h10.kp hI R8.1 rfl
  have g1 := g1.kp hI R8.1 rfl
  have g2 := g2.kp hI R8.1 rfl
  have g7 := g7.kp hI R8.1 rfl
  have g8 := R8.2
  have R9 := fm_times (to := 18) hI K8 g7 g7 rfl
  obtain ⟨X9, eX9⟩ : ∃ Y, LF_M_times X8 r (r 18) (r 28) (r 28) (r 10) (r 11) = Y := ⟨_, rfl⟩
  rw [eX9] at R9
  have K9 := K8.kp hI R9.1 rfl
  have hu := hu.kp hI R9.1 rfl
  have h10 := h10.kp hI R9.1 rfl
  have g1 := g1.kp hI R9.1 rfl
  have g2 := g2.kp hI R9.1 rfl
  have g8 := g8.kp hI R9.1 rfl
  have g9 := R9.2
  have R10 := fm_times (to := 29) hI K9 g8 g8 rfl
  obtain ⟨X10, eX10⟩ : ∃ Y, LF_M_times X9 r (r 29) (r 29) (r 29) (r 10) (r 11) = Y := ⟨_, rfl⟩
  rw [eX10] at R10
  have K10 := K9.kp hI R10.1 rfl
  have hu := hu.kp hI R10.1 rfl
  have h10 := h10.kp hI R10.1 rfl
  have g1 := g1.kp hI R10.1 rfl
  have g2 := g2.kp hI R10.1 rfl
  have g9 := g9.kp hI R10.1 rfl
  have g10 := R10.2
  have R11 := fm_times (to := 19) hI K10 g10 hu rfl
  obtain ⟨X11, eX11⟩ : ∃ Y, LF_M_times X10 r (r 19) (r 29) (r 33) (r 10) (r 11) = Y := ⟨_, rfl⟩
  rw [eX11] at R11
  have K11 := K10.kp hI R11.1 rfl
  have h10 := h10.kp hI R11.1 rfl
  have g1 := g1.kp hI R11.1 rfl
  have g2 := g2.kp hI R11.1 rfl
  have g9 := g9.kp hI R11.1 rfl
  have g11 := R11.2
  have R12 := fm_times (to := 24) hI K11 g1 g1 rfl
  obtain ⟨X12, eX12⟩ : ∃ Y, LF_M_times X11 r (r 24) (r 24) (r 24) (r 10) (r 11) = Y := ⟨_, rfl⟩
  rw [eX12] at R12
  have K12 := K11.kp hI R12.1 rfl
  have h10 := h10.kp hI R12.1 rfl
  have g2 := g2.kp hI R12.1 rfl
  have g9 := g9.kp hI R12.1 rfl
  have g11 := g11.kp hI R12.1 rfl
  have g12 := R12.2
  have R13 := fm_times (to := 25) hI K12 g2 g2 rfl
  obtain ⟨X13, eX13⟩ : ∃ Y, LF_M_times X12 r (r 25) (r 25) (r 25) (r 10) (r 11) = Y := ⟨_, rfl⟩
  rw [eX13] at R13
  have K13 := K12.kp hI R13.1 rfl
  have h10 := h10.kp hI R13.1 rfl
  have g12 := g12.kp hI R13.1 rfl
  have g9 := g9.kp hI R13.1 rfl
  have g11 := g11.kp hI R13.1 rfl
  have g13 := R13.2
  have R14 := fm_times (to := 20) hI K13 g12 g13 rfl
  obtain ⟨X14, eX14⟩ : ∃ Y, LF_M_times X13 r (r 20) (r 24) (r 25) (r 10) (r 11) = Y := ⟨_, rfl⟩
  rw [eX14] at R14
  have K14 := K13.kp hI R14.1 rfl
  have h10 := h10.kp hI R14.1 rfl
  have g12 := g12.kp hI R14.1 rfl
  have g13 := g13.kp hI R14.1 rfl
  have g9 := g9.kp hI R14.1 rfl
  have g11 := g11.kp hI R14.1 rfl
  have g14 := R14.2
  have R15 := fm_minus (to := 25) hI K14 g12 g13 rfl
  obtain ⟨X15, eX15⟩ : ∃ Y, LF_M_minus X14 (r 25) (r 24) (r 25) (r 10) = Y := ⟨_, rfl⟩
  rw [eX15] at R15
  have K15 := K14.kp hI R15.1 rfl
  have h10 := h10.kp hI R15.1 rfl
  have g12 := g12.kp hI R15.1 rfl
  have g9 := g9.kp hI R15.1 rfl
  have g11 := g11.kp hI R15.1 rfl
  have g14 := g14.kp hI R15.1 rfl
  have g15 := R15.2
  have R16 := fm_times (to := 26) hI K15 g15 h10 rfl
  obtain ⟨X16, eX16⟩ : ∃ Y, LF_M_times X15 r (r 26) (r 25) (r 34) (r 10) (r 11) = Y := ⟨_, rfl⟩
  rw [eX16] at R16
  have K16 := K15.kp hI R16.1 rfl
  have g12 := g12.kp hI R16.1 rfl
  have g15 := g15.kp hI R16.1 rfl
  have g9 := g9.kp hI R16.1 rfl
  have g11 := g11.kp hI R16.1 rfl
  have g14 := g14.kp hI R16.1 rfl
  have g16 := R16.2
  have R17 := fm_plus (to := 26) hI K16 g16 g12 rfl
  obtain ⟨X17, eX17⟩ : ∃ Y, LF_M_plus X16 (r 26) (r 26) (r 24) (r 10) = Y := ⟨_, rfl⟩
  rw [eX17] at R17
  have K17 := K16.kp hI R17.1 rfl
  have g15 := g15.kp hI R17.1 rfl
  have g9 := g9.kp hI R17.1 rfl
  have g11 := g11.kp hI R17.1 rfl
  have g14 := g14.kp hI R17.1 rfl
  have g17 := R17.2
  have R18 := fm_times (to := 21) hI K17 g15 g17 rfl
  obtain ⟨X18, eX18⟩ : ∃ Y, LF_M_times X17 r (r 21) (r 25) (r 26) (r 10) (r 11) = Y := ⟨_, rfl⟩
  rw [eX18] at R18
  have K18 := K17.kp hI R18.1 rfl
  have g9 := g9.kp hI R18.1 rfl
  have g11 := g11.kp hI R18.1 rfl
  have g14 := g14.kp hI R18.1 rfl
  have g18 := R18.2
  have hX : LF_M_step X r (r 20) (r 21) (r 18) (r 19) = X18 := by subst eX1 eX2 eX3 eX4 eX5 eX6 eX7 eX8 eX9 eX10 eX11 eX12 eX13 eX14 eX15 eX16 eX17 eX18; rfl
  rw [hX]
  exact ⟨(((((((((((((((((((onM.rf (l := [18, 19, 20, 21, 24, 25, 26, 27, 28, 29, 40, 41])).ad R1.1 rfl).ad R2.1 rfl).ad R3.1 rfl).ad R4.1 rfl).ad R5.1 rfl).ad R6.1 rfl).ad R7.1 rfl).ad R8.1 rfl).ad R9.1 rfl).ad R10.1 rfl).ad R11.1 rfl).ad R12.1 rfl).ad R13.1 rfl).ad R14.1 rfl).ad R15.1 rfl).ad R16.1 rfl).ad R17.1 rfl).ad R18.1 rfl), g14, g18.ev (rg_lz _ _ _), g9, g11⟩
