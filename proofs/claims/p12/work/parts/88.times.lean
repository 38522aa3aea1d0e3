/-! the reference's remainder and its product modulo m -/
theorem aS_mod (c R Q : Nat → Int) (M : Int) : ∀ n, n ≤ 16 → (∀ i, i < 16 → R i % M = Q i % M) → aS (fun i => c i * R i) n % M = aS (fun i => c i * Q i) n % M
  | 0, _, _ => rfl
  | n + 1, hn, h => by
    show (aS (fun i => c i * R i) n + c n * R n) % M = (aS (fun i => c i * Q i) n + c n * Q n) % M
    rw [Int.add_emod, aS_mod c R Q M n (by omega) h, Int.mul_emod (c n) (R n), h n (by omega), ← Int.mul_emod, ← Int.add_emod]
theorem aS_sS (c : Nat → Int) (P : Int) : ∀ n, aS (fun i => c i * (P * 65536 ^ i)) n = P * sS c n
  | 0 => (Int.mul_zero P).symm
  | n + 1 => by
    show aS (fun i => c i * (P * 65536 ^ i)) n + c n * (P * 65536 ^ n) = P * (sS c n + c n * 65536 ^ n)
    rw [aS_sS c P n, Int.mul_add, Int.mul_left_comm]
/-- the table of the remainders by M -/
def TbM (X : vM) (t : Nat) (M : Int) : Prop := Tb X t (fun i => 115792089237316195423570985008687907853269984665640564039457584007913129639936 * 65536 ^ i % M)
theorem m_reduce {X : vM} {r : Nat → Nat} {to m t : Nat} {M N : Int} (hP : M32 X (r 40) N) (hN : 0 ≤ N ∧ N < 13407807929942597099574024998205846127479365820592393377723561443721764030073546976801874298166903427690031858186486050853753882811946569946433649006084096) (hT : TbM X t M) (hm : M16 X m M) (hM : 7237005577332262213973186563042994240829374041602535252466099000494570602496 ≤ M ∧ M ≤ 57896044618658097711785492504343953926634992332820282019728792003956564819968) (hR : 115792089237316195423570985008687907853269984665640564039457584007913129639936 % M < 14474011154664524427946373126085988481658748083205070504932198000989141204992) (n1 : r 40 ≠ r 41) (n2 : t ≠ r 41) (n3 : m ≠ r 41) (n4 : m ≠ to) (n5 : to ≠ r 41) : (∃ u w : Nat → Int64, LF_M_reduce X r to m t = svL (svL X (r 41) 16 u) to 16 w) ∧ M16 (LF_M_reduce X r to m t) to (N % M) := by
  have hM0 : 0 < M := by omega
  have hR0 : (fun i => 115792089237316195423570985008687907853269984665640564039457584007913129639936 * 65536 ^ i % M) 0 = 115792089237316195423570985008687907853269984665640564039457584007913129639936 % M := by
    show 115792089237316195423570985008687907853269984665640564039457584007913129639936 * 65536 ^ 0 % M = _
    rw [show (65536 : Int) ^ 0 = 1 from rfl, Int.mul_one]
  have hRn : 0 ≤ 115792089237316195423570985008687907853269984665640564039457584007913129639936 % M := Int.emod_nonneg _ (by omega)
  have hdv : (115792089237316195423570985008687907853269984665640564039457584007913129639936 - (fun i => 115792089237316195423570985008687907853269984665640564039457584007913129639936 * 65536 ^ i % M) 0) % M = 0 := by
    rw [hR0]
    have e := Int.mul_ediv_add_emod 115792089237316195423570985008687907853269984665640564039457584007913129639936 M
    have e2 : 115792089237316195423570985008687907853269984665640564039457584007913129639936 - 115792089237316195423570985008687907853269984665640564039457584007913129639936 % M = M * (115792089237316195423570985008687907853269984665640564039457584007913129639936 / M) := by omega
    rw [e2]
    exact Int.mul_emod_right _ _
  have e1 := m_red1 hP hT n1 n2
  have hb : ∀ i, i < 16 → 0 ≤ dgI N (16 + i) * (115792089237316195423570985008687907853269984665640564039457584007913129639936 * 65536 ^ i % M) ∧ dgI N (16 + i) * (115792089237316195423570985008687907853269984665640564039457584007913129639936 * 65536 ^ i % M) ≤ 65535 * 57896044618658097711785492504343953926634992332820282019728792003956564819968 := fun i _ => by
    have d1 := dgI_bd N (16 + i)
    have d2 := Int.emod_nonneg (115792089237316195423570985008687907853269984665640564039457584007913129639936 * 65536 ^ i) (show M ≠ 0 by omega)
    have d3 := Int.emod_lt_of_pos (115792089237316195423570985008687907853269984665640564039457584007913129639936 * 65536 ^ i) hM0
    generalize 115792089237316195423570985008687907853269984665640564039457584007913129639936 * 65536 ^ i % M = y at *
    exact ⟨Int.mul_nonneg d1.1 d2, Int.le_trans (Int.mul_le_mul_of_nonneg_right (show dgI N (16 + i) ≤ 65535 by omega) d2) (Int.mul_le_mul_of_nonneg_left (by omega) (by decide))⟩
  have hsum := rdS_sum (N := N) hT
  have ha := aS_bd hb 16 (by omega)
  have hx0 := Int.emod_nonneg N (show (115792089237316195423570985008687907853269984665640564039457584007913129639936 : Int) ≠ 0 by decide)
  have hx1 := Int.emod_lt_of_pos N (show (0 : Int) < 115792089237316195423570985008687907853269984665640564039457584007913129639936 by decide)
  have hs : ∀ j, j < 16 → -1099511627776 ≤ rdS N (fun i => 115792089237316195423570985008687907853269984665640564039457584007913129639936 * 65536 ^ i % M) j ∧ rdS N (fun i => 115792089237316195423570985008687907853269984665640564039457584007913129639936 * 65536 ^ i % M) j ≤ 1099511627776 := fun j _ => by
    have d1 := dgI_bd N j
    have d2 := aS_bd (g := fun i => dgI N (16 + i) * dgI (115792089237316195423570985008687907853269984665640564039457584007913129639936 * 65536 ^ i % M) j) (b := 4294967296) (fun i _ => by
      have q1 := dgI_bd N (16 + i)
      have q2 := dgI_bd (115792089237316195423570985008687907853269984665640564039457584007913129639936 * 65536 ^ i % M) j
      have q3 := mb (a := dgI N (16 + i)) (b := dgI (115792089237316195423570985008687907853269984665640564039457584007913129639936 * 65536 ^ i % M) j) (A := 65536) (B := 65536) (by omega) (by omega)
      exact ⟨Int.mul_nonneg q1.1 q2.1, by omega⟩) 16 (by omega)
    rw [show ((16 : Nat) : Int) = 16 from rfl] at d2
    show -1099511627776 ≤ dgI N j + aS (fun i => dgI N (16 + i) * dgI (115792089237316195423570985008687907853269984665640564039457584007913129639936 * 65536 ^ i % M) j) 16 ∧ dgI N j + aS (fun i => dgI N (16 + i) * dgI (115792089237316195423570985008687907853269984665640564039457584007913129639936 * 65536 ^ i % M) j) 16 ≤ 1099511627776
    omega
  have hBd : Bd 9 = 121416805764108066932466369176469931665150427440758720078238275608681517825325531136 := rfl
  rw [show ((16 : Nat) : Int) = 16 from rfl] at ha
  obtain ⟨V, v1, v2, v3⟩ := m_passes hT n2 (by rw [show 115792089237316195423570985008687907853269984665640564039457584007913129639936 * 65536 ^ 0 % M = 115792089237316195423570985008687907853269984665640564039457584007913129639936 % M from hR0]; exact ⟨hRn, hR⟩) hdv 9 0 (rdS N (fun i => 115792089237316195423570985008687907853269984665640564039457584007913129639936 * 65536 ^ i % M)) 1 (by omega) (Or.inr ⟨by decide, ⟨by rw [hsum]; omega, by rw [hsum, hBd]; omega⟩, hs⟩)
  have hcong : sS (rdS N (fun i => 115792089237316195423570985008687907853269984665640564039457584007913129639936 * 65536 ^ i % M)) 16 % M = N % M := by
    rw [hsum, Int.add_emod, aS_mod (fun i => dgI N (16 + i)) (fun i => 115792089237316195423570985008687907853269984665640564039457584007913129639936 * 65536 ^ i % M) (fun i => 115792089237316195423570985008687907853269984665640564039457584007913129639936 * 65536 ^ i) M 16 (by omega) (fun i _ => Int.emod_emod _ _), ← Int.add_emod, aS_sS, sS_ext (f := fun i => dgI N (16 + i)) (g := dgI (N / 115792089237316195423570985008687907853269984665640564039457584007913129639936)) 16 (fun i _ => by rw [dg_shift, p16_16])]
    have hq : 0 ≤ N / 115792089237316195423570985008687907853269984665640564039457584007913129639936 ∧ N / 115792089237316195423570985008687907853269984665640564039457584007913129639936 < 115792089237316195423570985008687907853269984665640564039457584007913129639936 := ⟨Int.ediv_nonneg hN.1 (by decide), Int.ediv_lt_of_lt_mul (by decide) (by omega)⟩
    rw [M16.sum hq, Int.add_comm, Int.mul_ediv_add_emod]
  rw [hcong] at v2
  obtain ⟨Y, hY⟩ : ∃ Y, svL X (r 41) 16 (fun j => Int64.ofInt (dgI V j)) = Y := ⟨_, rfl⟩
  have e3 : lpU 1 (LL_M_reduce_193 to r) 16 0 Y = svL Y to 16 (fun j => Int64.ofInt (dgI V j)) := by
    rw [lp_sv to 16 _ Y (fun j => Y.1 (r 41) j) (fun i _ => by
      show stL _ to i ((svL Y to i _).1 (r 41) i) = _
      rw [sv_rd]; exact st_sv Y to i _)]
    exact svL_ext (fun j hj => by rw [← hY]; exact svL_at X (r 41) 16 _ hj)
  have hX : LF_M_reduce X r to m t = Sum.elim id id (lpE 1 (LL_M_reduce_220 to m) 16 0 (svL Y to 16 (fun j => Int64.ofInt (dgI V j)))) := by
    show Sum.elim id id (lpE 1 (LL_M_reduce_220 to m) 16 0 (lpU 1 (LL_M_reduce_193 to r) 16 0 (Sum.elim id id (lpE 1 (LL_M_reduce_82 r t) 9 0 (lpU 1 (LL_M_reduce_3 r t) 16 0 X, (1 : Int64)))).1)) = _
    rw [e1, show (1 : Int64) = Int64.ofInt 1 from rfl, v3, hY, e3]
  have hmY : M16 (svL Y to 16 (fun j => Int64.ofInt (dgI V j))) m M := M16.ne (by rw [← hY]; exact hm.ne n3) n4
  obtain ⟨⟨w, hw⟩, hr⟩ := m_subs n4 16 0 (svL Y to 16 (fun j => Int64.ofInt (dgI V j))) V hmY (M16.sv v1) (by rw [show ((16 : Nat) : Int) + 1 = 17 from rfl]; omega)
  rw [← hX] at hw hr
  rw [v2] at hr
  exact ⟨⟨_, w, by rw [hw, sv_svn, ← hY]⟩, hr⟩
theorem m_times {X : vM} {r : Nat → Nat} {to a b m t : Nat} {A B M : Int} (ha : M16 X a A) (hb : M16 X b B) (hT : TbM X t M) (hm : M16 X m M) (hM : 7237005577332262213973186563042994240829374041602535252466099000494570602496 ≤ M ∧ M ≤ 57896044618658097711785492504343953926634992332820282019728792003956564819968) (hR : 115792089237316195423570985008687907853269984665640564039457584007913129639936 % M < 14474011154664524427946373126085988481658748083205070504932198000989141204992) (na : a ≠ r 40) (nb : b ≠ r 40) (nt : t ≠ r 40) (nm : m ≠ r 40) (n1 : r 40 ≠ r 41) (n2 : t ≠ r 41) (n3 : m ≠ r 41) (n4 : m ≠ to) (n5 : to ≠ r 41) : (∃ p u w : Nat → Int64, LF_M_times X r to a b m t = svL (svL (svL X (r 40) 32 p) (r 41) 16 u) to 16 w) ∧ M16 (LF_M_times X r to a b m t) to (A * B % M) := by
  have e := m_prod (r := r) ha hb na nb
  obtain ⟨Y, hY⟩ : ∃ Y, svL X (r 40) 32 (fun j => Int64.ofInt (dgI (A * B) j)) = Y := ⟨_, rfl⟩
  have hX : LF_M_times X r to a b m t = LF_M_reduce Y r to m t := by
    show LF_M_reduce (lpU 1 (LL_M_times_27 r a b) 16 0 (lpU 1 (LL_M_times_3 r) 32 0 X)) r to m t = _
    rw [e, hY]
  have hab : 0 ≤ A * B ∧ A * B < 13407807929942597099574024998205846127479365820592393377723561443721764030073546976801874298166903427690031858186486050853753882811946569946433649006084096 := by
    refine ⟨Int.mul_nonneg ha.1.1 hb.1.1, ?_⟩
    have h1 : A * B ≤ 115792089237316195423570985008687907853269984665640564039457584007913129639936 * B := Int.mul_le_mul_of_nonneg_right (by have := ha.1.2; omega) hb.1.1
    have := hb.1.2
    omega
  obtain ⟨⟨u, w, h1⟩, h2⟩ := m_reduce (r := r) (to := to) (m := m) (t := t) (X := Y) (N := A * B) (fun j hj => by rw [← hY]; exact svL_at X (r 40) 32 _ hj) hab (fun i hi => ⟨(hT i hi).1, fun k hk => by rw [← hY, svL_ne X (r 40) 32 _ nt]; exact (hT i hi).2 k hk⟩) ⟨hm.1, fun i hi => by rw [← hY, svL_ne X (r 40) 32 _ nm]; exact hm.2 i hi⟩ hM hR n1 n2 n3 n4 n5
  rw [hX]
  exact ⟨⟨_, u, w, by rw [h1, ← hY]⟩, h2⟩
