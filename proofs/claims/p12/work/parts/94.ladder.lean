/-! the reference's X25519 -/
def nbit (n : Nat) (i : Nat) : Bool := decide (n / 2 ^ i % 2 = 1)
theorem fm_lad {X : vM} {r : Nat → Nat} {u : Fp} {n : Nat} (hI : MInj r) (hK : Kp X r) (hn : M16 X (r 31) (n : Int)) (hu : Fm X (r 33) u) (h10 : Fm X (r 34) (iF 121665)) : ∀ (k : Nat) (Y : vM) (q : La4), k ≤ 255 → onM r [18, 19, 20, 21, 24, 25, 26, 27, 28, 29, 40, 41] X Y → Fm Y (r 18) q.1 → Fm Y (r 19) q.2.1 → Fm Y (r 20) q.2.2.1 → Fm Y (r 21) q.2.2.2 → onM r [18, 19, 20, 21, 24, 25, 26, 27, 28, 29, 40, 41] X (lpD (LL_M_ladder_162 r) k Y) ∧ Fm (lpD (LL_M_ladder_162 r) k Y) (r 18) (lad u (nbit n) k q).1 ∧ Fm (lpD (LL_M_ladder_162 r) k Y) (r 19) (lad u (nbit n) k q).2.1
  | 0, Y, q, _, ho, h1, h2, h3, h4 => ⟨ho, h1, h2⟩
  | k + 1, Y, q, hk, ho, h1, h2, h3, h4 => by
    have hb := m_bitN (i := k) (hn.kp hI ho rfl) (by omega)
    have K := hK.kp hI ho rfl
    have hu' := hu.kp hI ho rfl
    have h10' := h10.kp hI ho rfl
    have es : lpD (LL_M_ladder_162 r) (k + 1) Y = lpD (LL_M_ladder_162 r) k (LL_M_ladder_162 r k Y) := rfl
    have el : lad u (nbit n) (k + 1) q = lad u (nbit n) k (if nbit n k then lswap (lstep u (lswap q)) else lstep u q) := rfl
    rw [es, el]
    by_cases h : n / 2 ^ k % 2 = 1
    · have e : LL_M_ladder_162 r k Y = LF_M_step Y r (r 20) (r 21) (r 18) (r 19) := by
        unfold LL_M_ladder_162
        simp only [if_pos (hb.mpr h), if_true]
      have eb : nbit n k = true := decide_eq_true h
      rw [e, eb, if_pos rfl]
      obtain ⟨q1, q2, q3, q4, q5⟩ := fm_stepB hI K h3 h4 h1 h2 hu' h10'
      exact fm_lad hI hK hn hu h10 k _ (lswap (lstep u (lswap q))) (by omega) (ho.ad q1 rfl) q4 q5 q2 q3
    · have e : LL_M_ladder_162 r k Y = LF_M_step Y r (r 18) (r 19) (r 20) (r 21) := by
        unfold LL_M_ladder_162
        simp only [if_neg (fun z => h (hb.mp z)), Bool.false_eq_true, if_false]
      have eb : nbit n k = false := decide_eq_false h
      rw [e, eb, if_neg (by decide)]
      obtain ⟨q1, q2, q3, q4, q5⟩ := fm_stepA hI K h1 h2 h3 h4 hu' h10'
      exact fm_lad hI hK hn hu h10 k _ (lstep u q) (by omega) (ho.ad q1 rfl) q2 q3 q4 q5
theorem m_ten {X : vM} {a : Nat} (h : M16 X a 0) : M16 (stL (stL X a 0 (56129 : Int64)) a 1 (1 : Int64)) a 121665 := by
  refine ⟨by decide, fun i hi => ?_⟩
  have hz := h.2 i hi
  show (if a = a ∧ i = 1 then (1 : Int64) else if a = a ∧ i = 0 then (56129 : Int64) else X.1 a i) = _
  by_cases h1 : i = 1
  · subst h1
    rw [if_pos ⟨rfl, rfl⟩]
    decide +kernel
  · rw [if_neg (fun z => h1 z.2)]
    by_cases h0 : i = 0
    · subst h0
      rw [if_pos ⟨rfl, rfl⟩]
      decide +kernel
    · rw [if_neg (fun z => h0 z.2), hz]
      congr 1
      have e1 : dgI 121665 i = 0 := by
        have hp := p16_mono (show 2 ≤ i by omega)
        unfold dgI
        rw [Int.ediv_eq_zero_of_lt (by decide) (by rw [show (65536 : Int) ^ 2 = 4294967296 from rfl] at hp; omega)]
        rfl
      have e2 : dgI 0 i = 0 := by
        unfold dgI
        rw [Int.zero_ediv]
        rfl
      rw [e1, e2]
theorem fm_nat {X : vM} {a : Nat} {N : Int} (h : M16 X a N) (hN : N < (pP : Int)) : Fm X a (iF N) := by
  unfold Fm
  rw [iF_val, Int.emod_eq_of_lt h.1.1 hN]
  exact h
def ldW : List Nat := [18, 19, 20, 21, 24, 25, 26, 27, 28, 29, 33, 34, 40, 41, 42, 43, 44, 45]
/-- sixteen digits below 2^255, brought below the prime -/
theorem fm_canon {X Y : vM} {r : Nat → Nat} {k : Nat} {N : Nat} (hI : MInj r) (hK : Kp X r) (hY : mR X Y (r k) (N : Int)) (hN : N < 57896044618658097711785492504343953926634992332820282019728792003956564819968) (hc : okN 10 k = true) : onM r [k] X (if LF_M_below Y (r k) (r 10) = true then Y else LF_M_less Y (r k) (r k) (r 10)) ∧ Fm (if LF_M_below Y (r k) (r 10) = true then Y else LF_M_less Y (r k) (r k) (r 10)) (r k) (iF (N : Int)) := by
  have o1 : onM r [k] X Y := hY.on List.mem_cons_self
  have hp : M16 Y (r 10) (pP : Int) := hK.1.on o1 (ni1 (hI.ne 10 k hc))
  have ep : ((pP : Nat) : Int) = 57896044618658097711785492504343953926634992332820282019728792003956564819949 := rfl
  rw [m_below hY.2 hp]
  by_cases h : (N : Int) < (pP : Int)
  · rw [if_pos (decide_eq_true h)]
    exact ⟨o1, fm_nat hY.2 h⟩
  · rw [if_neg (fun z => h (of_decide_eq_true z))]
    have hb : 0 ≤ (N : Int) - (pP : Int) ∧ (N : Int) - (pP : Int) < 115792089237316195423570985008687907853269984665640564039457584007913129639936 := by omega
    have q : mR Y (LF_M_less Y (r k) (r k) (r 10)) (r k) ((N : Int) - (pP : Int)) := mR.mk' (m_less hY.2 hp) hb
    have e : iF (N : Int) = iF ((N : Int) - (pP : Int)) := by
      have := iF_mod (N : Int) 1
      rw [Int.one_mul] at this
      exact this.symm
    rw [e]
    have oq : onM r [k] Y (LF_M_less Y (r k) (r k) (r 10)) := q.on List.mem_cons_self
    exact ⟨o1.tr oq, fm_nat q.2 (by omega)⟩
theorem x_model {X : vM} {r : Nat → Nat} {n : Nat} (hI : MInj r) (hK : Kp X r) (hn : M16 X (r 31) (n : Int)) : ∃ Y : vM, LF_M_ladder X r = svI Y (r 35) 32 (fun j => by8 (((xL (nbit n) (iF ((leN (X.2 (r 35)) 32 % 57896044618658097711785492504343953926634992332820282019728792003956564819968 : Nat) : Int))).val : Int) / 256 ^ j)) ∧ onM r ldW X Y ∧ Fm Y (r 18) (xL (nbit n) (iF ((leN (X.2 (r 35)) 32 % 57896044618658097711785492504343953926634992332820282019728792003956564819968 : Nat) : Int))) := by
  have hN : leN (X.2 (r 35)) 32 % 57896044618658097711785492504343953926634992332820282019728792003956564819968 < 57896044618658097711785492504343953926634992332820282019728792003956564819968 := Nat.mod_lt _ (by decide)
  have q1 := m_rd255 (X := X) (to := r 33) (b := r 35) (LL_M_ladder_2 r) (fun i Y _ => rfl)
  obtain ⟨X1, e1⟩ : ∃ Y, lpU 1 (LL_M_ladder_2 r) 16 0 X = Y := ⟨_, rfl⟩
  rw [e1] at q1
  obtain ⟨o2, h33⟩ := fm_canon hI hK q1 hN rfl
  generalize iF ((leN (X.2 (r 35)) 32 % 57896044618658097711785492504343953926634992332820282019728792003956564819968 : Nat) : Int) = u at h33 ⊢
  obtain ⟨X2, e2⟩ : ∃ Y, (if LF_M_below X1 (r 33) (r 10) = true then X1 else LF_M_less X1 (r 33) (r 33) (r 10)) = Y := ⟨_, rfl⟩
  rw [e2] at o2 h33
  have q3 := m_set (X := X2) (to := r 34) (n := 0) (by decide)
  obtain ⟨X3, e3⟩ : ∃ Y, LF_M_set X2 (r 34) (nI 0) = Y := ⟨_, rfl⟩
  rw [e3] at q3
  have o3 : onM r [34] X2 X3 := q3.on List.mem_cons_self
  obtain ⟨X4, e4⟩ : ∃ Y, stL (stL X3 (r 34) 0 (56129 : Int64)) (r 34) 1 (1 : Int64) = Y := ⟨_, rfl⟩
  have o4 : onM r [34] X3 X4 := by
    rw [← e4]
    exact onL.tr (st_on X3 (r 34) 0 _ List.mem_cons_self) (st_on _ (r 34) 1 _ List.mem_cons_self)
  have h34 : Fm X4 (r 34) (iF 121665) := by
    rw [← e4]
    exact fm_nat (m_ten q3.2) (by decide)
  have o34 : onM r ldW X X4 := ((o2.mono (m := ldW) rfl).ad o3 rfl).ad o4 rfl
  have h33' := (h33.kp hI o3 rfl).kp hI o4 rfl
  have q5 := fm_set (X := X4) (r := r) (to := 18) 1 (by decide)
  obtain ⟨X5, e5⟩ : ∃ Y, LF_M_set X4 (r 18) (nI 1) = Y := ⟨_, rfl⟩
  rw [e5] at q5
  have q6 := fm_set (X := X5) (r := r) (to := 19) 0 (by decide)
  obtain ⟨X6, e6⟩ : ∃ Y, LF_M_set X5 (r 19) (nI 0) = Y := ⟨_, rfl⟩
  rw [e6] at q6
  have q7 := fm_copy (to := 20) ((h33'.kp hI q5.1 rfl).kp hI q6.1 rfl)
  obtain ⟨X7, e7⟩ : ∃ Y, LF_M_copy X6 (r 20) (r 33) = Y := ⟨_, rfl⟩
  rw [e7] at q7
  have q8 := fm_set (X := X7) (r := r) (to := 21) 1 (by decide)
  obtain ⟨X8, e8⟩ : ∃ Y, LF_M_set X7 (r 21) (nI 1) = Y := ⟨_, rfl⟩
  rw [e8] at q8
  have o8 : onM r ldW X X8 := (((o34.ad q5.1 rfl).ad q6.1 rfl).ad q7.1 rfl).ad q8.1 rfl
  have h33'' := (((h33'.kp hI q5.1 rfl).kp hI q6.1 rfl).kp hI q7.1 rfl).kp hI q8.1 rfl
  have h34' := (((h34.kp hI q5.1 rfl).kp hI q6.1 rfl).kp hI q7.1 rfl).kp hI q8.1 rfl
  have g18 := ((q5.2.kp hI q6.1 rfl).kp hI q7.1 rfl).kp hI q8.1 rfl
  have g19 := (q6.2.kp hI q7.1 rfl).kp hI q8.1 rfl
  have g20 := q7.2.kp hI q8.1 rfl
  obtain ⟨l1, l2, l3⟩ := fm_lad hI (hK.kp hI o8 rfl) (hn.kp hI o8 rfl) h33'' h34' 255 X8 (1, 0, u, 1) (by decide) onM.rf (g18.ev (show iF 1 = 1 by decide)) (g19.ev (show iF 0 = 0 by decide)) g20 (q8.2.ev (show iF 1 = 1 by decide))
  obtain ⟨X9, e9⟩ : ∃ Y, lpD (LL_M_ladder_162 r) 255 X8 = Y := ⟨_, rfl⟩
  rw [e9] at l1 l2 l3
  have o9 : onM r ldW X X9 := o8.ad l1 rfl
  have K9 := hK.kp hI o9 rfl
  have q10 := fm_inv (to := 26) hI K9 l3 rfl
  obtain ⟨X10, e10⟩ : ∃ Y, LF_M_inverse X9 r (r 26) (r 19) (r 10) = Y := ⟨_, rfl⟩
  rw [e10] at q10
  have q11 := fm_times (to := 18) hI (K9.kp hI q10.1 rfl) (l2.kp hI q10.1 rfl) q10.2 rfl
  obtain ⟨X11, e11⟩ : ∃ Y, LF_M_times X10 r (r 18) (r 18) (r 26) (r 10) (r 11) = Y := ⟨_, rfl⟩
  rw [e11] at q11
  have hw := m_wr (to := r 35) q11.2 (LL_M_ladder_296 r) (fun i Y _ => rfl)
  refine ⟨X11, ?_, (o9.ad q10.1 rfl).ad q11.1 rfl, q11.2⟩
  rw [show xL (nbit n) u = (lad u (nbit n) 255 (1, 0, u, 1)).1 * fpi (lad u (nbit n) 255 (1, 0, u, 1)).2.1 from rfl, ← hw]
  unfold LF_M_ladder
  simp only []
  rw [e1, e2, e3, e4, e5, e6, e7, e8, e9, e10, e11]
