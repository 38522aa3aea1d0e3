/-! bits of bytes -/
theorem i3_sm : ∀ n : Nat, n < 32 → ((nI n) &&& 31 : Int32).toBitVec.smod 32 = BitVec.ofNat 32 n := by decide +kernel
theorem i3_bits (x : Int32) {s w : Nat} (h : s + w ≤ 8) : (x >>> ((nI s) &&& 31)) &&& nI (2 ^ w - 1) = nI (ub x / 2 ^ s % 2 ^ w) := by
  have hw : 2 ^ w ≤ 256 := by
    have := Nat.pow_le_pow_right (n := 2) (by decide) (show w ≤ 8 by omega)
    omega
  have hw0 : 0 < 2 ^ w := Nat.pow_pos (by decide)
  obtain ⟨a, ha⟩ : ∃ a : Nat, (x.toBitVec.toInt >>> s) % 4294967296 = (a : Int) := ⟨((x.toBitVec.toInt >>> s) % 4294967296).toNat, by omega⟩
  have e1 : (x >>> ((nI s) &&& 31)).toBitVec.toNat = a := by
    show (x.toBitVec.sshiftRight' (((nI s) &&& 31 : Int32).toBitVec.smod 32)).toNat = a
    rw [i3_sm s (by omega), BitVec.sshiftRight', BitVec.toNat_ofNat, Nat.mod_eq_of_lt (by omega)]
    have h1 : (BitVec.ofInt 32 (x.toBitVec.sshiftRight s).toInt) = x.toBitVec.sshiftRight s := BitVec.ofInt_toInt
    rw [← h1, BitVec.toNat_ofInt, BitVec.toInt_sshiftRight, show ((2 ^ 32 : Nat) : Int) = 4294967296 from rfl, ha, Int.toNat_natCast]
  have e2 : ((x >>> ((nI s) &&& 31)) &&& nI (2 ^ w - 1)).toBitVec.toNat = a % 2 ^ w := by
    show ((x >>> ((nI s) &&& 31)).toBitVec &&& (nI (2 ^ w - 1)).toBitVec).toNat = _
    have h2 : (nI (2 ^ w - 1)).toBitVec.toNat = 2 ^ w - 1 := by
      show (BitVec.ofInt 32 ((2 ^ w - 1 : Nat) : Int)).toNat = _
      rw [BitVec.ofInt_natCast, BitVec.toNat_ofNat, Nat.mod_eq_of_lt (by omega)]
    rw [BitVec.toNat_and, e1, h2, Nat.and_two_pow_sub_one_eq_mod]
  have e3 : (nI (ub x / 2 ^ s % 2 ^ w)).toBitVec.toNat = ub x / 2 ^ s % 2 ^ w := by
    have h2 : ub x / 2 ^ s % 2 ^ w < 2 ^ w := Nat.mod_lt _ hw0
    show (BitVec.ofInt 32 ((ub x / 2 ^ s % 2 ^ w : Nat) : Int)).toNat = _
    rw [BitVec.ofInt_natCast, BitVec.toNat_ofNat, Nat.mod_eq_of_lt (by omega)]
  apply Int32.toBitVec_inj.mp
  apply BitVec.eq_of_toNat_eq
  rw [e2, e3, ub_mod]
  have hx := x.toBitVec.isLt
  have e4 : x.toBitVec.toInt % 4294967296 = (x.toBitVec.toNat : Int) := by
    rw [BitVec.toInt_eq_toNat_cond]
    split <;> omega
  rw [Int.shiftRight_eq_div_pow] at ha
  generalize x.toBitVec.toInt = z at *
  generalize x.toBitVec.toNat = m at *
  clear e1 e2 e3
  have hs : s ≤ 8 := by omega
  have hww : w ≤ 8 := by omega
  rcases (show s = 0 ∨ s = 1 ∨ s = 2 ∨ s = 3 ∨ s = 4 ∨ s = 5 ∨ s = 6 ∨ s = 7 ∨ s = 8 by omega) with rfl | rfl | rfl | rfl | rfl | rfl | rfl | rfl | rfl <;> rcases (show w = 0 ∨ w = 1 ∨ w = 2 ∨ w = 3 ∨ w = 4 ∨ w = 5 ∨ w = 6 ∨ w = 7 ∨ w = 8 by omega) with rfl | rfl | rfl | rfl | rfl | rfl | rfl | rfl | rfl <;> simp only [Nat.reducePow, Int.reducePow, Int.natCast_one, Int.cast_ofNat_Int] at * <;> omega
theorem i3_sign (x : Int32) : (x >>> ((nI 7) &&& 31)) &&& nI 1 = nI (ub x / 128) := by
  have h := i3_bits x (s := 7) (w := 1) (by decide)
  have b := ub_lt x
  rw [show (2 : Nat) ^ 1 - 1 = 1 from rfl, show ub x / 2 ^ 7 % 2 ^ 1 = ub x / 128 by omega] at h
  exact h
/-! a point of its y: what both do -/
def rtW (y : Fp) : Fp := (y * y - 1) * fpi (y * y * eD + 1)
def rtT (w : Fp) : Fp := fpw w 7237005577332262213973186563042994240829374041602535252466099000494570602494
def rtX (w : Fp) : Fp := if rtT w * rtT w = w then rtT w else rtT w * eI
def dOK (w : Fp) (s : Nat) : Bool := decide (rtX w * rtX w = w) && !(decide (rtX w = 0) && decide (s = 1))
def dX (w : Fp) (s : Nat) : Fp := if (rtX w).val % 2 = s then rtX w else -rtX w
theorem m_e252 {X : vM} {r : Nat → Nat} : mR X (lpU 1 (LL_M_decode_214 r) 16 0 X) (r 27) ((7237005577332262213973186563042994240829374041602535252466099000494570602494 : Nat) : Int) := by
  refine mR.mk' (lp_sv (r 27) 16 (LL_M_decode_214 r) X _ (fun i hi => ?_)) (by decide)
  rw [← st_sv]
  show stL _ (r 27) i (if i = 0 then (65534 : Int64) else (if i = 15 then (4095 : Int64) else (65535 : Int64))) = _
  refine congrArg (stL _ (r 27) i) ?_
  exact (show ∀ i, i < 16 → (if i = 0 then (65534 : Int64) else (if i = 15 then (4095 : Int64) else (65535 : Int64))) = Int64.ofInt (dgI ((7237005577332262213973186563042994240829374041602535252466099000494570602494 : Nat) : Int) i) by decide +kernel) i hi
theorem fp_par {X : vM} {a : Nat} {v : Fp} (h : Fm X a v) {s : Nat} (hs : s < 2) : ((X.1 a 0 &&& (1 : Int64)) = (nI s).toInt64) ↔ v.val % 2 = s := by
  have hd := dgI_bd (v.val : Int) 0
  have h0 : dgI (v.val : Int) 0 % 2 = (v.val : Int) % 2 := by
    show (v.val : Int) / 65536 ^ 0 % 65536 % 2 = _
    rw [show (65536 : Int) ^ 0 = 1 from rfl, Int.ediv_one]
    omega
  rw [h.2 0 (by decide), i6_and1 hd, h0]
  have e : (nI s).toInt64 = Int64.ofInt (s : Int) := by
    rcases (show s = 0 ∨ s = 1 by omega) with rfl | rfl <;> decide +kernel
  rw [e, i6_eq (by omega) (by omega)]
  omega
theorem i3_1 {s : Nat} (hs : s < 2) : (nI s = nI 1) ↔ s = 1 := by
  rcases (show s = 0 ∨ s = 1 by omega) with rfl | rfl <;> decide +kernel
theorem rg_neg {R : Type} [Lean.Grind.CommRing R] (x : R) : 0 - x = -x := by grind
def deW : List Nat := [20, 21, 24, 25, 26, 27, 28, 40, 41, 42, 43, 44, 45]
theorem d_model {X : vM} {r : Nat → Nat} (hI : MInj r) (hK : Kp X r) (hd : Fm X (r 14) eD) (h1 : Fm X (r 30) 1) (hr : Fm X (r 15) eI) : onM r deW X (LF_M_decode X r).1 ∧ (LF_M_decode X r).2 = (decide (leN (X.2 (r 35)) 32 % 57896044618658097711785492504343953926634992332820282019728792003956564819968 < pP) && dOK (rtW (iF ((leN (X.2 (r 35)) 32 % 57896044618658097711785492504343953926634992332820282019728792003956564819968 : Nat) : Int))) (ub (X.2 (r 35) 31) / 128)) ∧ ((LF_M_decode X r).2 = true → Fm (LF_M_decode X r).1 (r 20) (dX (rtW (iF ((leN (X.2 (r 35)) 32 % 57896044618658097711785492504343953926634992332820282019728792003956564819968 : Nat) : Int))) (ub (X.2 (r 35) 31) / 128)) ∧ Fm (LF_M_decode X r).1 (r 21) (iF ((leN (X.2 (r 35)) 32 % 57896044618658097711785492504343953926634992332820282019728792003956564819968 : Nat) : Int))) := by
  have hN : leN (X.2 (r 35)) 32 % 57896044618658097711785492504343953926634992332820282019728792003956564819968 < 57896044618658097711785492504343953926634992332820282019728792003956564819968 := Nat.mod_lt _ (by decide)
  have hs2 : ub (X.2 (r 35) 31) / 128 < 2 := by have := ub_lt (X.2 (r 35) 31); omega
  have q0 := m_rd255 (X := X) (to := r 21) (b := r 35) (LL_M_decode_2 r) (fun i Y _ => rfl)
  obtain ⟨X0, e0⟩ : ∃ Y, lpU 1 (LL_M_decode_2 r) 16 0 X = Y := ⟨_, rfl⟩
  rw [e0] at q0
  have o0 : onM r [21] X X0 := q0.on List.mem_cons_self
  have K0 := hK.kp hI o0 rfl
  generalize leN (X.2 (r 35)) 32 % 57896044618658097711785492504343953926634992332820282019728792003956564819968 = N at *
  obtain ⟨sg, hsg⟩ : ∃ s, ub (X.2 (r 35) 31) / 128 = s := ⟨_, rfl⟩
  rw [hsg] at hs2 ⊢
  have hbl := m_below q0.2 K0.1
  have ep : ((pP : Nat) : Int) = 57896044618658097711785492504343953926634992332820282019728792003956564819949 := rfl
  by_cases hp : N < pP
  · have hpI : (N : Int) < (pP : Int) := Int.ofNat_lt.mpr hp
    have h21 : Fm X0 (r 21) (iF (N : Int)) := fm_nat q0.2 hpI
    generalize iF (N : Int) = y at h21 ⊢
    have hd := hd.kp hI o0 rfl
    have h1 := h1.kp hI o0 rfl
    have hr := hr.kp hI o0 rfl
    have R1 := fm_times (to := 24) hI K0 h21 h21 rfl
    obtain ⟨X1, eX1⟩ : ∃ Y, LF_M_times X0 r (r 24) (r 21) (r 21) (r 10) (r 11) = Y := ⟨_, rfl⟩
    rw [eX1] at R1
    have K1 := K0.kp hI R1.1 rfl
    have h21 := h21.kp hI R1.1 rfl
    have hd := hd.kp hI R1.1 rfl
    have h1 := h1.kp hI R1.1 rfl
    have g1 := R1.2
    have R2 := fm_times (to := 25) hI K1 g1 hd rfl
    obtain ⟨X2, eX2⟩ : ∃ Y, LF_M_times X1 r (r 25) (r 24) (r 14) (r 10) (r 11) = Y := ⟨_, rfl⟩
    rw [eX2] at R2
    have K2 := K1.kp hI R2.1 rfl
    have h21 := h21.kp hI R2.1 rfl
    have h1 := h1.kp hI R2.1 rfl
    have g1 := g1.kp hI R2.1 rfl
    have g2 := R2.2
    have R3 := fm_minus (to := 24) hI K2 g1 h1 rfl
    obtain ⟨X3, eX3⟩ : ∃ Y, LF_M_minus X2 (r 24) (r 24) (r 30) (r 10) = Y := ⟨_, rfl⟩
    rw [eX3] at R3
    have K3 := K2.kp hI R3.1 rfl
    have h21 := h21.kp hI R3.1 rfl
    have h1 := h1.kp hI R3.1 rfl
    have g2 := g2.kp hI R3.1 rfl
    have g3 := R3.2
    have R4 := fm_plus (to := 25) hI K3 g2 h1 rfl
    obtain ⟨X4, eX4⟩ : ∃ Y, LF_M_plus X3 (r 25) (r 25) (r 30) (r 10) = Y := ⟨_, rfl⟩
    rw [eX4] at R4
    have K4 := K3.kp hI R4.1 rfl
    have h21 := h21.kp hI R4.1 rfl
    have g3 := g3.kp hI R4.1 rfl
    have g4 := R4.2
    have R5 := fm_inv (to := 26) hI K4 g4 rfl
    obtain ⟨X5, eX5⟩ : ∃ Y, LF_M_inverse X4 r (r 26) (r 25) (r 10) = Y := ⟨_, rfl⟩
    rw [eX5] at R5
    have K5 := K4.kp hI R5.1 rfl
    have h21 := h21.kp hI R5.1 rfl
    have g3 := g3.kp hI R5.1 rfl
    have g5 := R5.2
    have R6 := fm_times (to := 24) hI K5 g3 g5 rfl
    obtain ⟨X6, eX6⟩ : ∃ Y, LF_M_times X5 r (r 24) (r 24) (r 26) (r 10) (r 11) = Y := ⟨_, rfl⟩
    rw [eX6] at R6
    have K6 := K5.kp hI R6.1 rfl
    have h21 := h21.kp hI R6.1 rfl
    have g6 := R6.2
    have w24 : Fm X6 (r 24) (rtW y) := g6
    generalize rtW y = w at w24 ⊢
    have oA : onM r deW X X6 := (((((((o0.mono (m := deW) rfl).ad R1.1 rfl).ad R2.1 rfl).ad R3.1 rfl).ad R4.1 rfl).ad R5.1 rfl).ad R6.1 rfl)
    have q7 := m_e252 (X := X6) (r := r)
    obtain ⟨X7, eX7⟩ : ∃ Y, lpU 1 (LL_M_decode_214 r) 16 0 X6 = Y := ⟨_, rfl⟩
    rw [eX7] at q7
    have o7 : onM r [27] X6 X7 := q7.on List.mem_cons_self
    have K7 := K6.kp hI o7 rfl
    have q8 := fm_power (to := 20) hI K7 (w24.kp hI o7 rfl) q7.2 rfl
    obtain ⟨X8, eX8⟩ : ∃ Y, LF_M_power X7 r (r 20) (r 24) (r 27) = Y := ⟨_, rfl⟩
    rw [eX8] at q8
    have K8 := K7.kp hI q8.1 rfl
    have t20 : Fm X8 (r 20) (rtT w) := q8.2
    have w8 := (w24.kp hI o7 rfl).kp hI q8.1 rfl
    have y8 := (h21.kp hI o7 rfl).kp hI q8.1 rfl
    have q9 := fm_times (to := 26) hI K8 t20 t20 rfl
    obtain ⟨X9, eX9⟩ : ∃ Y, LF_M_times X8 r (r 26) (r 20) (r 20) (r 10) (r 11) = Y := ⟨_, rfl⟩
    rw [eX9] at q9
    have K9 := K8.kp hI q9.1 rfl
    have o9 : onM r deW X X9 := ((oA.ad o7 rfl).ad q8.1 rfl).ad q9.1 rfl
    have w9 := w8.kp hI q9.1 rfl
    have y9 := y8.kp hI q9.1 rfl
    have t9 := t20.kp hI q9.1 rfl
    obtain ⟨XA, eXA⟩ : ∃ Y, (if LF_M_alike X9 (r 26) (r 24) = true then X9 else LF_M_times X9 r (r 20) (r 20) (r 15) (r 10) (r 11)) = Y := ⟨_, rfl⟩
    have hA : onM r [20, 40, 41] X9 XA ∧ Fm XA (r 20) (rtX w) := by
      rw [← eXA, fm_alike q9.2 w9]
      unfold rtX
      by_cases hc : rtT w * rtT w = w
      · rw [if_pos (decide_eq_true hc), if_pos hc]
        exact ⟨onM.rf, t9⟩
      · rw [if_neg (fun z => hc (of_decide_eq_true z)), if_neg hc]
        have hr9 : Fm X9 (r 15) eI := Fm.kp hI hr (((((((((onM.rf (l := [20, 21, 24, 25, 26, 27, 28, 40, 41, 42, 43, 44, 45])).ad R1.1 rfl).ad R2.1 rfl).ad R3.1 rfl).ad R4.1 rfl).ad R5.1 rfl).ad R6.1 rfl).ad o7 rfl |>.ad q8.1 rfl).ad q9.1 rfl) rfl
        have q := fm_times (to := 20) hI K9 t9 hr9 rfl
        exact ⟨q.1.mono rfl, q.2⟩
    obtain ⟨oA2, tA⟩ := hA
    have KA := K9.kp hI oA2 rfl
    have qB := fm_times (to := 26) hI KA tA tA rfl
    obtain ⟨XB, eXB⟩ : ∃ Y, LF_M_times XA r (r 26) (r 20) (r 20) (r 10) (r 11) = Y := ⟨_, rfl⟩
    rw [eXB] at qB
    have KB := KA.kp hI qB.1 rfl
    have oB : onM r deW X XB := (o9.ad oA2 rfl).ad qB.1 rfl
    have wB := (w9.kp hI oA2 rfl).kp hI qB.1 rfl
    have yB := (y9.kp hI oA2 rfl).kp hI qB.1 rfl
    have tB := tA.kp hI qB.1 rfl
    have hsgn : ((XB.2 (r 35) 31) >>> ((nI 7) &&& 31)) &&& (nI 1) = nI sg := by
      have e2 : XB.2 = X.2 := oB.1
      rw [e2, i3_sign, hsg]
    have hal := fm_alike qB.2 wB
    have eD0 : LF_M_decode X r = if LF_M_alike XB (r 26) (r 24) = true then (if LF_M_zero XB (r 20) = true then (if nI sg = nI 1 then (XB, false) else ((if (XB.1 (r 20) 0 &&& (1 : Int64)) = (nI sg).toInt64 then XB else LF_M_minus (LF_M_set XB (r 26) (nI 0)) (r 20) (r 26) (r 20) (r 10)), true)) else ((if (XB.1 (r 20) 0 &&& (1 : Int64)) = (nI sg).toInt64 then XB else LF_M_minus (LF_M_set XB (r 26) (nI 0)) (r 20) (r 26) (r 20) (r 10)), true)) else (XB, false) := by
      unfold LF_M_decode
      simp only []
      rw [e0, if_pos (by rw [hbl]; exact decide_eq_true hpI), eX1, eX2, eX3, eX4, eX5, eX6, eX7, eX8, eX9, eXA, eXB, hsgn]
    obtain ⟨XC, eXC⟩ : ∃ Y, (if (XB.1 (r 20) 0 &&& (1 : Int64)) = (nI sg).toInt64 then XB else LF_M_minus (LF_M_set XB (r 26) (nI 0)) (r 20) (r 26) (r 20) (r 10)) = Y := ⟨_, rfl⟩
    have hC : onM r [20, 26] XB XC ∧ Fm XC (r 20) (dX w sg) ∧ Fm XC (r 21) y := by
      rw [← eXC]
      unfold dX
      by_cases hc : (rtX w).val % 2 = sg
      · rw [if_pos ((fp_par tB hs2).mpr hc), if_pos hc]
        exact ⟨onM.rf, tB, yB⟩
      · rw [if_neg (fun z => hc ((fp_par tB hs2).mp z)), if_neg hc]
        have s1 := fm_set (X := XB) (r := r) (to := 26) 0 (by decide)
        have s2 := fm_minus (to := 20) hI (KB.kp hI s1.1 rfl) s1.2 (tB.kp hI s1.1 rfl) rfl
        refine ⟨(s1.1.mono (m := [20, 26]) rfl).ad s2.1 rfl, s2.2.ev ?_, (yB.kp hI s1.1 rfl).kp hI s2.1 rfl⟩
        rw [show iF ((0 : Nat) : Int) = 0 from by decide]
        exact rg_neg _
    obtain ⟨oC, tC, yC⟩ := hC
    rw [eXC] at eD0
    rw [decide_eq_true hp, Bool.true_and]
    by_cases hq : rtX w * rtX w = w
    · have e1 : dOK w sg = !(decide (rtX w = 0) && decide (sg = 1)) := by
        unfold dOK
        rw [decide_eq_true hq, Bool.true_and]
      rw [if_pos (by rw [hal]; exact decide_eq_true hq), fm_zero tB] at eD0
      rw [e1]
      by_cases hz : rtX w = 0
      · rw [if_pos (decide_eq_true hz)] at eD0
        by_cases h1s : sg = 1
        · rw [if_pos ((i3_1 hs2).mpr h1s)] at eD0
          rw [eD0, decide_eq_true hz, decide_eq_true h1s]
          exact ⟨oB, rfl, fun z => absurd (show false = true from z) (by decide)⟩
        · rw [if_neg (fun z => h1s ((i3_1 hs2).mp z))] at eD0
          rw [eD0, decide_eq_false h1s, Bool.and_false]
          exact ⟨oB.ad oC rfl, rfl, fun _ => ⟨tC, yC⟩⟩
      · rw [if_neg (fun z => hz (of_decide_eq_true z))] at eD0
        rw [eD0, decide_eq_false hz]
        exact ⟨oB.ad oC rfl, rfl, fun _ => ⟨tC, yC⟩⟩
    · have e1 : dOK w sg = false := by
        unfold dOK
        rw [decide_eq_false hq, Bool.false_and]
      rw [if_neg (by rw [hal]; exact fun z => hq (of_decide_eq_true z))] at eD0
      rw [e1, eD0]
      exact ⟨oB, rfl, fun z => absurd (show false = true from z) (by decide)⟩
  · have hpI : ¬ (N : Int) < (pP : Int) := fun z => hp (Int.ofNat_lt.mp z)
    have e : LF_M_decode X r = (X0, false) := by
      unfold LF_M_decode
      simp only []
      rw [e0, if_neg (by rw [hbl]; exact fun z => hpI (of_decide_eq_true z))]
    rw [e, decide_eq_false hp, Bool.false_and]
    exact ⟨o0.mono rfl, rfl, fun z => absurd (show false = true from z) (by decide)⟩
