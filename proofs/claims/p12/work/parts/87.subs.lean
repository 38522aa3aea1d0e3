/-! all passes; the last loop -/
theorem Bd_le {k : Nat} (h : k ≤ 9) : Bd k ≤ 121416805764108066932466369176469931665150427440758720078238275608681517825325531136 := by
  rcases (show k = 0 ∨ k = 1 ∨ k = 2 ∨ k = 3 ∨ k = 4 ∨ k = 5 ∨ k = 6 ∨ k = 7 ∨ k = 8 ∨ k = 9 by omega) with rfl | rfl | rfl | rfl | rfl | rfl | rfl | rfl | rfl | rfl <;> decide
theorem m_passes {X : vM} {r : Nat → Nat} {t : Nat} {R : Nat → Int} {M : Int} (hT : Tb X t R) (ht : t ≠ r 41) (hR : 0 ≤ R 0 ∧ R 0 < 14474011154664524427946373126085988481658748083205070504932198000989141204992) (hM : (115792089237316195423570985008687907853269984665640564039457584007913129639936 - R 0) % M = 0) : ∀ (k i : Nat) (s : Nat → Int) (tp : Int), k ≤ 9 → ((tp = 0 ∧ (0 ≤ sS s 16 ∧ sS s 16 < 115792089237316195423570985008687907853269984665640564039457584007913129639936) ∧ ∀ j, j < 16 → s j = dgI (sS s 16) j) ∨ ((0 < tp ∧ tp < 1099511627776) ∧ (0 ≤ sS s 16 ∧ sS s 16 < Bd k) ∧ ∀ j, j < 16 → -1099511627776 ≤ s j ∧ s j ≤ 1099511627776)) → ∃ V : Int, (0 ≤ V ∧ V < 115792089237316195423570985008687907853269984665640564039457584007913129639936) ∧ V % M = sS s 16 % M ∧ (Sum.elim id id (lpE 1 (LL_M_reduce_82 r t) k i (svL X (r 41) 16 (fun k => Int64.ofInt (s k)), Int64.ofInt tp))).1 = svL X (r 41) 16 (fun j => Int64.ofInt (dgI V j))
  | 0, i, s, tp, _, h => by
    rcases h with ⟨h1, h2, h3⟩ | ⟨h1, h2, h3⟩
    · exact ⟨sS s 16, h2, rfl, svL_ext (fun j hj => by rw [← h3 j hj])⟩
    · have : Bd 0 = 0 := rfl
      omega
  | k + 1, i, s, tp, hk, h => by
    rcases h with ⟨h1, h2, h3⟩ | ⟨h1, h2, h3⟩
    · refine ⟨sS s 16, h2, rfl, ?_⟩
      have e : LL_M_reduce_82 r t i (svL X (r 41) 16 (fun k => Int64.ofInt (s k)), Int64.ofInt tp) = Sum.inl (svL X (r 41) 16 (fun k => Int64.ofInt (s k)), Int64.ofInt tp) := if_pos ((i6_le0 (by omega)).mpr (by omega))
      show (Sum.elim id id (Sum.elim Sum.inl (fun t_1 => lpE 1 (LL_M_reduce_82 r t) k (i + 1) t_1) (LL_M_reduce_82 r t i (svL X (r 41) 16 (fun k => Int64.ofInt (s k)), Int64.ofInt tp)))).1 = _
      rw [e]
      exact svL_ext (fun j hj => by rw [← h3 j hj])
    · have e := m_pass (n := i) hT ht h3 (show 0 < tp ∧ tp < 9223372036854775808 by omega)
      show ∃ V : Int, _ ∧ _ ∧ (Sum.elim id id (Sum.elim Sum.inl (fun t_1 => lpE 1 (LL_M_reduce_82 r t) k (i + 1) t_1) (LL_M_reduce_82 r t i (svL X (r 41) 16 (fun k => Int64.ofInt (s k)), Int64.ofInt tp)))).1 = _
      rw [e]
      obtain ⟨V, hV⟩ : ∃ V, sS s 16 = V := ⟨_, rfl⟩
      rw [hV] at h2 ⊢
      have hle := Bd_le hk
      have hq0 : 0 ≤ V / 115792089237316195423570985008687907853269984665640564039457584007913129639936 := Int.ediv_nonneg h2.1 (by decide)
      have hq1 : V / 115792089237316195423570985008687907853269984665640564039457584007913129639936 < 1048577 := Int.ediv_lt_of_lt_mul (by decide) (by omega)
      have hs' : sS (fun k => dgI V k + V / 115792089237316195423570985008687907853269984665640564039457584007913129639936 * dgI (R 0) k) 16 = V % 115792089237316195423570985008687907853269984665640564039457584007913129639936 + V / 115792089237316195423570985008687907853269984665640564039457584007913129639936 * R 0 := by
        rw [sS_add, sS_mul, dg_sum, p16_16, M16.sum (hT 0 (by decide)).1]
      have hcong : (V % 115792089237316195423570985008687907853269984665640564039457584007913129639936 + V / 115792089237316195423570985008687907853269984665640564039457584007913129639936 * R 0) % M = V % M := by
        obtain ⟨c, hc⟩ := Int.dvd_of_emod_eq_zero hM
        have e2 := Int.mul_ediv_add_emod V 115792089237316195423570985008687907853269984665640564039457584007913129639936
        have e3 : V % 115792089237316195423570985008687907853269984665640564039457584007913129639936 + V / 115792089237316195423570985008687907853269984665640564039457584007913129639936 * R 0 = V + (-(V / 115792089237316195423570985008687907853269984665640564039457584007913129639936 * c)) * M := by
          have e4 : R 0 = 115792089237316195423570985008687907853269984665640564039457584007913129639936 - M * c := by omega
          rw [e4]
          generalize V / 115792089237316195423570985008687907853269984665640564039457584007913129639936 = q at *
          generalize V % 115792089237316195423570985008687907853269984665640564039457584007913129639936 = x at *
          grind
        rw [e3, Int.add_mul_emod_self_right]
      have hpos : 0 ≤ V / 115792089237316195423570985008687907853269984665640564039457584007913129639936 * R 0 := Int.mul_nonneg hq0 hR.1
      have hx0 := Int.emod_nonneg V (show (115792089237316195423570985008687907853269984665640564039457584007913129639936 : Int) ≠ 0 by decide)
      have hrec := m_passes hT ht hR hM k (i + 1) (fun k => dgI V k + V / 115792089237316195423570985008687907853269984665640564039457584007913129639936 * dgI (R 0) k) (V / 115792089237316195423570985008687907853269984665640564039457584007913129639936) (by omega) (by
        rw [hs']
        by_cases hz : V / 115792089237316195423570985008687907853269984665640564039457584007913129639936 = 0
        · left
          have hV2 : V < 115792089237316195423570985008687907853269984665640564039457584007913129639936 := by omega
          refine ⟨hz, ?_, fun j _ => ?_⟩
          · rw [hz, Int.zero_mul, Int.emod_eq_of_lt h2.1 hV2]
            omega
          · rw [hz, Int.zero_mul, Int.zero_mul, Int.add_zero, Int.add_zero, Int.emod_eq_of_lt h2.1 hV2]
        · right
          refine ⟨by omega, ⟨by omega, Bd_step (by omega) h2.1 h2.2 (by omega) hR⟩, fun j _ => ?_⟩
          have d1 := dgI_bd V j
          have d2 := dgI_bd (R 0) j
          have d3 := mb (a := V / 115792089237316195423570985008687907853269984665640564039457584007913129639936) (b := dgI (R 0) j) (A := 1048577) (B := 65536) (by omega) (by omega)
          omega)
      rw [hs', hcong] at hrec
      exact hrec
theorem sv_self (X : vM) (a n : Nat) : X = svL X a n (X.1 a) := by
  refine Prod.ext (funext fun b => funext fun k => ?_) rfl
  show X.1 b k = if b = a ∧ k < n then X.1 a k else X.1 b k
  by_cases h : b = a ∧ k < n
  · rw [if_pos h, h.1]
  · rw [if_neg h]
theorem m_subs {to m : Nat} {M : Int} (hmt : m ≠ to) : ∀ (k i : Nat) (X : vM) (v : Int), M16 X m M → M16 X to v → v < ((k : Int) + 1) * M → mR X (Sum.elim id id (lpE 1 (LL_M_reduce_220 to m) k i X)) to (v % M)
  | 0, i, X, v, hm, hv, hb => by
    rw [show ((0 : Nat) : Int) + 1 = 1 from rfl, Int.one_mul] at hb
    rw [Int.emod_eq_of_lt hv.1.1 hb]
    exact ⟨⟨_, sv_self X to 16⟩, hv⟩
  | k + 1, i, X, v, hm, hv, hb => by
    show mR X (Sum.elim id id (Sum.elim Sum.inl (fun t => lpE 1 (LL_M_reduce_220 to m) k (i + 1) t) (if LF_M_below X to m = true then Sum.inl X else Sum.inr (LF_M_less X to to m)))) to (v % M)
    rw [m_below hv hm]
    by_cases h : v < M
    · rw [if_pos (decide_eq_true h), Int.emod_eq_of_lt hv.1.1 h]
      exact ⟨⟨_, sv_self X to 16⟩, hv⟩
    · rw [if_neg (by simp [h]), m_less hv hm]
      have h0 := hm.1.1
      have h1 := hv.1
      have hrec := m_subs hmt k (i + 1) (svL X to 16 (fun j => Int64.ofInt (dgI (v - M) j))) (v - M) (hm.ne hmt) (M16.sv (by omega)) (by
        rw [Int.natCast_add, Int.add_mul] at hb
        have e : (((1 : Nat) : Int)) * M = M := Int.one_mul M
        have e2 : ((k : Int) + ((1 : Nat) : Int)) * M = (k : Int) * M + M := by rw [Int.add_mul, e]
        rw [e2, Int.one_mul] at hb
        rw [Int.add_mul, Int.one_mul]
        omega)
      have e : (v - M) % M = v % M := by
        have := Int.sub_mul_emod_self_right v 1 M
        rwa [Int.one_mul] at this
      rw [e] at hrec
      obtain ⟨⟨t, ht⟩, hN⟩ := hrec
      exact ⟨⟨t, by rw [← sv_svn X to 16 (fun j => Int64.ofInt (dgI (v - M) j)) t]; exact ht⟩, hN⟩
