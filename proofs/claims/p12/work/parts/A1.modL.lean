/-! a number of 64 bytes, and k a + r, modulo L -/
theorem vS_ub (f : Nat → Int32) : ∀ n, vS (fun k => (ub (f k) : Int)) n = ((leN f n : Nat) : Int)
  | 0 => rfl
  | n + 1 => by
    show vS (fun k => (ub (f k) : Int)) n + (ub (f n) : Int) * 256 ^ n = ((leN f n + ub (f n) * 256 ^ n : Nat) : Int)
    rw [vS_ub f n, Int.natCast_add, Int.natCast_mul, Int.natCast_pow]
    rfl
theorem c_red {X : vM} {kq : Nat → Nat → Nat} {ts : Nat → Nat} {to a1 : Nat} : ∃ Y, LF_Or_reduce X kq ts to a1 = svI Y to 32 (fun j => by8 (((leN (X.2 a1) 64 % lL : Nat) : Int) / 256 ^ j)) ∧ onL [kq 6 0] X Y := by
  have e : lpU 1 (LL_Or_reduce_2 kq a1) 64 0 X = svL X (kq 6 0) 64 (fun i => Int64.ofInt (ub (X.2 a1 i) : Int)) := lp_sv (kq 6 0) 64 _ X _ (fun i hi => by
    rw [← st_sv]
    show stL _ (kq 6 0) i (((X.2 a1 i) &&& (nI 255)).toInt64) = _
    rw [ub_6])
  obtain ⟨X1, e1⟩ : ∃ Y, svL X (kq 6 0) 64 (fun i => Int64.ofInt (ub (X.2 a1 i) : Int)) = Y := ⟨_, rfl⟩
  rw [e1] at e
  obtain ⟨Y, h1, h2⟩ := c_wide (X := X1) (kq := kq) (ts := ts) (to := to) (N := leN (X.2 a1) 64) (w := fun k => (ub (X.2 a1 k) : Int)) (fun k hk => by rw [← e1]; exact svL_at X (kq 6 0) 64 _ hk) (fun k hk => by
    have := ub_lt (X.2 a1 k)
    show 0 ≤ ((ub (X.2 a1 k) : Nat) : Int) ∧ ((ub (X.2 a1 k) : Nat) : Int) ≤ 2097152
    omega) (vS_ub _ 64)
  refine ⟨Y, ?_, ?_⟩
  · rw [← h1]
    unfold LF_Or_reduce
    simp only []
    rw [e]
  · refine onL.tr ?_ h2
    rw [← e1]
    exact sv_on X (kq 6 0) 64 _ List.mem_cons_self
theorem an_nI (x : Int32) : x &&& nI 255 = nI (ub x) := by
  apply Int32.toBitVec_inj.mp
  apply BitVec.eq_of_toNat_eq
  have h := ub_lt x
  show ub x = (BitVec.ofInt 32 ((ub x : Nat) : Int)).toNat
  rw [BitVec.ofInt_natCast, BitVec.toNat_ofNat, Nat.mod_eq_of_lt (by omega)]
theorem nI_6 {n : Nat} (h : n < 2147483648) : (nI n).toInt64 = Int64.ofInt (n : Int) := by
  rw [← Int64.ofInt_int32ToInt]
  congr 1
  show (Int32.ofInt (n : Int)).toInt = (n : Int)
  exact Int32.toInt_ofInt_of_le (by omega) (by omega)
theorem nI_ml (a b : Nat) : nI a * nI b = nI (a * b) := by
  show Int32.ofInt (a : Int) * Int32.ofInt (b : Int) = Int32.ofInt ((a * b : Nat) : Int)
  rw [← Int32.ofInt_mul, Int.natCast_mul]
theorem ub_ml (x y : Int32) : ub x * ub y ≤ 65025 := by
  have h1 := ub_lt x
  have h2 := ub_lt y
  exact Nat.mul_le_mul (show ub x ≤ 255 by omega) (show ub y ≤ 255 by omega)
theorem rg_in {R : Type} [Lean.Grind.CommRing R] (V w K a P Q H S A : R) (h : H = P * Q) : V + (w + K * a - w) * H + K * P * (S - (A + a * Q)) = V + K * P * (S - A) := by grind
theorem rg_out {R : Type} [Lean.Grind.CommRing R] (V w u P K A R3 r3 K1 k1 : R) : V + (w + u - w) * P + K * P * (A - 0) + (R3 - (r3 + u * P)) + (K1 - (k1 + K * P)) * A = V + (R3 - r3) + (K1 - k1) * A := by grind
theorem mA_in {X : vM} {kq : Nat → Nat → Nat} {i a1 a2 : Nat} : ∀ (n j : Nat) (w : Nat → Int), i + j + n ≤ 64 → ∃ w', lpU 1 (LL_Or_multiplyAndAdd_41 kq i a1 a2) n j (sg X (kq 6 0) (oI w)) = sg X (kq 6 0) (oI w') ∧ vS w' 64 = vS w 64 + (ub (X.2 a1 i) : Int) * 256 ^ i * (((leN (X.2 a2) (j + n) : Nat) : Int) - ((leN (X.2 a2) j : Nat) : Int)) ∧ ∀ m, w m ≤ w' m ∧ w' m ≤ w m + (if i + j ≤ m then 65025 else 0)
  | 0, j, w, _ => ⟨w, rfl, by rw [Nat.add_zero, Int.sub_self, Int.mul_zero, Int.add_zero], fun m => ⟨by omega, by split <;> omega⟩⟩
  | n + 1, j, w, h => by
    have hb := ub_ml (X.2 a1 i) (X.2 a2 j)
    obtain ⟨w', e, v, b⟩ := mA_in (X := X) (kq := kq) (i := i) (a1 := a1) (a2 := a2) n (j + 1) (uz w (i + j) (w (i + j) + ((ub (X.2 a1 i) * ub (X.2 a2 j) : Nat) : Int))) (by omega)
    refine ⟨w', ?_, ?_, fun m => ?_⟩
    · rw [← e]
      show lpU 1 (LL_Or_multiplyAndAdd_41 kq i a1 a2) n (j + 1) (LL_Or_multiplyAndAdd_41 kq i a1 a2 j (sg X (kq 6 0) (oI w))) = _
      congr 1
      show stL (sg X (kq 6 0) (oI w)) (kq 6 0) (i + j) ((sg X (kq 6 0) (oI w)).1 (kq 6 0) (i + j) + (((X.2 a1 i) &&& (nI 255)) * ((X.2 a2 j) &&& (nI 255))).toInt64) = _
      rw [sg_rd, an_nI, an_nI, nI_ml, nI_6 (by omega), ← Int64.ofInt_add, st_oI]
    · rw [v, vS_up w _ 64 (by omega), show j + 1 + n = j + (n + 1) by omega, show leN (X.2 a2) (j + 1) = leN (X.2 a2) j + ub (X.2 a2 j) * 256 ^ j from rfl, Int.natCast_add, Int.natCast_mul, Int.natCast_mul, Int.natCast_pow]
      exact rg_in _ _ _ _ _ _ _ _ _ (Int.pow_add 256 i j)
    · have hm := b m
      by_cases hc : m = i + j
      · rw [hc, uz_at] at hm
        rw [if_neg (by omega)] at hm
        rw [hc, if_pos (by omega)]
        omega
      · rw [uz_ne _ _ hc] at hm
        by_cases h2 : i + j ≤ m
        · rw [if_pos (by omega)] at hm
          rw [if_pos h2]
          exact hm
        · rw [if_neg (by omega)] at hm
          rw [if_neg h2]
          exact hm
theorem mA_out {X : vM} {kq : Nat → Nat → Nat} {a1 a2 a3 : Nat} : ∀ (n i : Nat) (w : Nat → Int), i + n = 32 → (∀ m, m < 64 → 0 ≤ w m ∧ w m ≤ 65280 * i) → ∃ w', lpU 1 (LL_Or_multiplyAndAdd_11 kq a3 a1 a2) n i (sg X (kq 6 0) (oI w)) = sg X (kq 6 0) (oI w') ∧ vS w' 64 = vS w 64 + (((leN (X.2 a3) 32 : Nat) : Int) - ((leN (X.2 a3) i : Nat) : Int)) + (((leN (X.2 a1) 32 : Nat) : Int) - ((leN (X.2 a1) i : Nat) : Int)) * ((leN (X.2 a2) 32 : Nat) : Int) ∧ ∀ m, m < 64 → 0 ≤ w' m ∧ w' m ≤ 2097152
  | 0, i, w, h, hb => by
    have : i = 32 := by omega
    subst this
    exact ⟨w, rfl, by rw [Int.sub_self, Int.sub_self, Int.zero_mul]; omega, fun m hm => by have := hb m hm; omega⟩
  | n + 1, i, w, h, hb => by
    have hu := ub_lt (X.2 a3 i)
    obtain ⟨w1, e1, v1, b1⟩ := mA_in (X := X) (kq := kq) (i := i) (a1 := a1) (a2 := a2) 32 0 (uz w i (w i + (ub (X.2 a3 i) : Int))) (by omega)
    obtain ⟨w2, e2, v2, b2⟩ := mA_out (X := X) (kq := kq) (a1 := a1) (a2 := a2) (a3 := a3) n (i + 1) w1 (by omega) (fun m hm => by
      have h1 := b1 m
      have h2 := hb m hm
      have h3 : (if i + 0 ≤ m then (65025 : Int) else 0) ≤ 65025 := by split <;> omega
      by_cases hc : m = i
      · rw [hc, uz_at] at h1
        rw [hc] at h2 h3 ⊢
        omega
      · rw [uz_ne _ _ hc] at h1
        omega)
    refine ⟨w2, ?_, ?_, b2⟩
    · rw [← e2, ← e1]
      show lpU 1 (LL_Or_multiplyAndAdd_11 kq a3 a1 a2) n (i + 1) (lpU 1 (LL_Or_multiplyAndAdd_41 kq i a1 a2) 32 0 (stL (sg X (kq 6 0) (oI w)) (kq 6 0) i ((sg X (kq 6 0) (oI w)).1 (kq 6 0) i + ((X.2 a3 i) &&& (nI 255)).toInt64))) = _
      rw [sg_rd, ub_6, ← Int64.ofInt_add, st_oI]
    · rw [v2, v1, vS_up w _ 64 (by omega), Nat.zero_add, show leN (X.2 a2) 0 = 0 from rfl, show leN (X.2 a3) (i + 1) = leN (X.2 a3) i + ub (X.2 a3 i) * 256 ^ i from rfl, show leN (X.2 a1) (i + 1) = leN (X.2 a1) i + ub (X.2 a1 i) * 256 ^ i from rfl, Int.natCast_add, Int.natCast_add, Int.natCast_mul, Int.natCast_mul, Int.natCast_pow]
      exact rg_out _ _ _ _ _ _ _ _ _ _
theorem c_mad {X : vM} {kq : Nat → Nat → Nat} {ts : Nat → Nat} {to a1 a2 a3 : Nat} : ∃ Y, LF_Or_multiplyAndAdd X kq ts to a1 a2 a3 = svI Y to 32 (fun j => by8 ((((leN (X.2 a1) 32 * leN (X.2 a2) 32 + leN (X.2 a3) 32) % lL : Nat) : Int) / 256 ^ j)) ∧ onL [kq 6 0] X Y := by
  have e0 : LF_JA_fill X (kq 6 0) 64 (0 : Int64) = svL X (kq 6 0) 64 (fun _ => Int64.ofInt 0) := by
    show lpU 1 (LL_JA_fill_6 (kq 6 0) 0) 64 0 X = _
    exact lp_sv (kq 6 0) 64 (LL_JA_fill_6 (kq 6 0) 0) X (fun _ => Int64.ofInt 0) (fun i hi => st_sv X (kq 6 0) i (fun _ => Int64.ofInt 0))
  obtain ⟨X1, e1⟩ : ∃ Y, svL X (kq 6 0) 64 (fun _ => Int64.ofInt 0) = Y := ⟨_, rfl⟩
  rw [e1] at e0
  have o1 : onL [kq 6 0] X X1 := by
    rw [← e1]
    exact sv_on X (kq 6 0) 64 _ List.mem_cons_self
  have x2 : X1.2 = X.2 := o1.1
  obtain ⟨u, hu, hu2⟩ := oI_of X1 (kq 6 0) (fun _ => 0) (fun k hk => by rw [← e1]; exact svL_at X (kq 6 0) 64 _ hk)
  obtain ⟨w, ew, vw, bw⟩ := mA_out (X := X1) (kq := kq) (a1 := a1) (a2 := a2) (a3 := a3) 32 0 u rfl (fun m hm => by rw [hu2 m hm]; omega)
  rw [← hu] at ew
  have v0 : vS u 64 = 0 := by
    rw [vS_ext 64 hu2]
    decide +kernel
  rw [v0, x2, show leN (X.2 a3) 0 = 0 from rfl, show leN (X.2 a1) 0 = 0 from rfl] at vw
  have o2 : onL [kq 6 0] X1 (sg X1 (kq 6 0) (oI w)) := sg_on X1 (kq 6 0) (oI w) List.mem_cons_self
  obtain ⟨Y, h1, h2⟩ := c_wide (X := sg X1 (kq 6 0) (oI w)) (kq := kq) (ts := ts) (to := to) (N := leN (X.2 a1) 32 * leN (X.2 a2) 32 + leN (X.2 a3) 32) (w := w) (fun k hk => sg_rd X1 (kq 6 0) k w) bw (by
    rw [vw, Int.natCast_add, Int.natCast_mul, Int.natCast_zero, Int.sub_zero, Int.sub_zero]
    omega)
  refine ⟨Y, ?_, (o1.tr o2).tr h2⟩
  rw [← h1]
  unfold LF_Or_multiplyAndAdd
  simp only []
  rw [e0, ew]
/-! the reference's numbers modulo L -/
def Ko (X : vM) (r : Nat → Nat) : Prop := M16 X (r 12) (lL : Int) ∧ TbM X (r 13) (lL : Int)
theorem Ko.kp {r : Nat → Nat} (hI : MInj r) {l : List Nat} {X Y : vM} (h : Ko X r) (o : onM r l X Y) (hc : (okL 12 l && okL 13 l) = true) : Ko Y r := by
  rw [Bool.and_eq_true] at hc
  exact ⟨h.1.kp hI o hc.1, h.2.on o (hI.ni 13 hc.2)⟩
theorem lL_b : (7237005577332262213973186563042994240829374041602535252466099000494570602496 : Int) ≤ (lL : Int) ∧ (lL : Int) ≤ 57896044618658097711785492504343953926634992332820282019728792003956564819968 := by decide
theorem lL_r : (115792089237316195423570985008687907853269984665640564039457584007913129639936 : Int) % (lL : Int) < 14474011154664524427946373126085988481658748083205070504932198000989141204992 := by decide +kernel
theorem m_hnum {X : vM} {r : Nat → Nat} {to : Nat} (hI : MInj r) (hK : Ko X r) (hc : (okN 12 to && okN to 41) = true) : onM r [40, 41, to] X (LF_M_hashNumber X r (r to)) ∧ M16 (LF_M_hashNumber X r (r to)) (r to) ((leN (X.2 (r 52)) 64 % lL : Nat) : Int) := by
  rw [Bool.and_eq_true] at hc
  have e : lpU 1 (LL_M_hashNumber_2 r) 32 0 X = svL X (r 40) 32 (fun j => Int64.ofInt (dgI ((leN (X.2 (r 52)) 64 : Nat) : Int) j)) := lp_sv (r 40) 32 _ X _ (fun i hi => by
    rw [← st_sv]
    show stL _ (r 40) i ((((X.2 (r 52) (2 * i)) &&& (nI 255)) ||| (((X.2 (r 52) ((2 * i) + 1)) &&& (nI 255)) <<< ((nI 8) &&& 31))).toInt64) = _
    rw [rd_w, dg_le (X.2 (r 52)) (i := i) (n := 64) (by omega)])
  obtain ⟨X1, e1⟩ : ∃ Y, svL X (r 40) 32 (fun j => Int64.ofInt (dgI ((leN (X.2 (r 52)) 64 : Nat) : Int) j)) = Y := ⟨_, rfl⟩
  rw [e1] at e
  have o1 : onM r [40] X X1 := by
    rw [← e1]
    exact sv_on X (r 40) 32 _ List.mem_cons_self
  have hlt := leN_lt (X.2 (r 52)) 64
  have q := m_reduce (X := X1) (r := r) (to := r to) (m := r 12) (t := r 13) (M := (lL : Int)) (N := ((leN (X.2 (r 52)) 64 : Nat) : Int)) (fun j hj => by rw [← e1]; exact svL_at X (r 40) 32 _ hj) ⟨by omega, by
    rw [show (256 : Nat) ^ 64 = 13407807929942597099574024998205846127479365820592393377723561443721764030073546976801874298166903427690031858186486050853753882811946569946433649006084096 from by decide] at hlt
    omega⟩ (hK.2.on o1 (hI.ni (l := [40]) 13 rfl)) (hK.1.kp hI o1 rfl) lL_b lL_r (hI.ne 40 41 rfl) (hI.ne 13 41 rfl) (hI.ne 12 41 rfl) (hI.ne 12 to hc.1) (hI.ne to 41 hc.2)
  have e2 : LF_M_hashNumber X r (r to) = LF_M_reduce X1 r (r to) (r 12) (r 13) := by
    unfold LF_M_hashNumber
    simp only []
    rw [e]
  rw [e2]
  obtain ⟨⟨u, w, e3⟩, q2⟩ := q
  refine ⟨?_, by rw [Int.natCast_emod]; exact q2⟩
  have o2 : onM r [40, 41, to] X X1 := onL.mono o1 (by simp)
  refine onM.tr o2 ?_
  rw [e3]
  exact onL.tr (sv_on X1 (r 41) 16 u (by simp)) (sv_on _ (r to) 16 w (by simp))
/-! tables of remainders -/
theorem lp_cpt (Z : vM) (t w o : Nat) (n3 : t ≠ w) : ∀ n i, ∀ (f : Nat → vM → vM), (∀ j Y, f j Y = stL Y t (o + j) (Y.1 w j)) → lpU 1 f n i Z = (fun b k => if b = t ∧ o + i ≤ k ∧ k < o + i + n then Z.1 w (k - o) else Z.1 b k, Z.2) := by
  intro n i f hf
  have key : ∀ n i (Y : vM), Y.1 w = Z.1 w → lpU 1 f n i Y = (fun b k => if b = t ∧ o + i ≤ k ∧ k < o + i + n then Z.1 w (k - o) else Y.1 b k, Y.2) := by
    intro n
    induction n with
    | zero =>
      intro i Y _
      exact Prod.ext (funext fun b => funext fun k => (if_neg (fun z => by omega)).symm) rfl
    | succ n ih =>
      intro i Y hY
      show lpU 1 f n (i + 1) (f i Y) = _
      rw [hf]
      rw [ih (i + 1) (stL Y t (o + i) (Y.1 w i)) (by
        refine Eq.trans (funext fun k => if_neg (fun z => n3 z.1.symm)) hY)]
      refine Prod.ext (funext fun b => funext fun k => ?_) rfl
      show (if b = t ∧ o + (i + 1) ≤ k ∧ k < o + (i + 1) + n then Z.1 w (k - o) else if b = t ∧ k = o + i then Y.1 w i else Y.1 b k) = if b = t ∧ o + i ≤ k ∧ k < o + i + (n + 1) then Z.1 w (k - o) else Y.1 b k
      by_cases hb : b = t
      · by_cases h1 : o + (i + 1) ≤ k ∧ k < o + (i + 1) + n
        · rw [if_pos ⟨hb, h1⟩, if_pos ⟨hb, by omega⟩]
        · rw [if_neg (fun z => h1 z.2)]
          by_cases h2 : k = o + i
          · rw [if_pos ⟨hb, h2⟩, if_pos ⟨hb, by omega⟩, hY, h2, Nat.add_sub_cancel_left]
          · rw [if_neg (fun z => h2 z.2), if_neg (fun z => by omega)]
      · rw [if_neg (fun z => hb z.1), if_neg (fun z => hb z.1), if_neg (fun z => hb z.1)]
  exact key n i Z rfl
theorem tw_2 (M : Int) (n : Nat) : (2 ^ n % M + 2 ^ n % M) % M = 2 ^ (n + 1) % M := by
  rw [← Int.add_emod, Int.pow_succ]
  congr 1
  omega
theorem m_rem {X : vM} {t m w : Nat} {M : Int} (hm : M16 X m M) (hM : 1 < M ∧ M ≤ 57896044618658097711785492504343953926634992332820282019728792003956564819968) (n1 : m ≠ w) (n2 : m ≠ t) (n3 : t ≠ w) : onL [t, w] X (LF_M_remainders X t m w) ∧ TbM (LF_M_remainders X t m w) t M := by
  have key : ∀ n i Y, i + n = 496 → onL [t, w] X Y → M16 Y w (2 ^ i % M) → (∀ j, j < 16 → 255 + 16 * j < i → ∀ k, k < 16 → Y.1 t (16 * j + k) = Int64.ofInt (dgI (115792089237316195423570985008687907853269984665640564039457584007913129639936 * 65536 ^ j % M) k)) → onL [t, w] X (lpU 1 (LL_M_remainders_7 w m t) n i Y) ∧ (∀ j, j < 16 → 255 + 16 * j < 496 → ∀ k, k < 16 → (lpU 1 (LL_M_remainders_7 w m t) n i Y).1 t (16 * j + k) = Int64.ofInt (dgI (115792089237316195423570985008687907853269984665640564039457584007913129639936 * 65536 ^ j % M) k)) := by
    intro n
    induction n with
    | zero =>
      intro i Y hi ho hw ht
      have : i = 496 := by omega
      subst this
      exact ⟨ho, ht⟩
    | succ n ih =>
      intro i Y hi ho hw ht
      have hlt : 2 ^ i % M < M := Int.emod_lt_of_pos _ (by omega)
      have q := m_plus (to := w) hw hw (hm.on ho (by simp [n1, n2])) n1 hlt hlt hM.2
      rw [tw_2] at q
      obtain ⟨Z, eZ⟩ : ∃ Z, LF_M_plus Y w w w m = Z := ⟨_, rfl⟩
      rw [eZ] at q
      have oZ : onL [t, w] X Z := ho.tr (q.on (by simp))
      have tZ : Z.1 t = Y.1 t := (q.on (S := [w]) List.mem_cons_self).2 t (by simp [n3])
      show onL [t, w] X (lpU 1 (LL_M_remainders_7 w m t) n (i + 1) (LL_M_remainders_7 w m t i Y)) ∧ _
      by_cases h1 : i < 255
      · have e : LL_M_remainders_7 w m t i Y = Z := by
          unfold LL_M_remainders_7
          simp only []
          rw [eZ, if_pos h1]
        have := ih (i + 1) Z (by omega) oZ q.2 (fun j hj hj2 k hk => absurd hj2 (by omega))
        rw [← e] at this
        exact this
      · by_cases h2 : i % 16 = 15
        · obtain ⟨j0, hj0⟩ : ∃ j0, i = 255 + 16 * j0 := ⟨(i - 255) / 16, by omega⟩
          have hcp := lp_cpt Z t w (i - 255) n3 16 0 (LL_M_remainders_40 t i w) (fun _ _ => rfl)
          obtain ⟨V, eV⟩ : ∃ V, lpU 1 (LL_M_remainders_40 t i w) 16 0 Z = V := ⟨_, rfl⟩
          rw [eV] at hcp
          have e : LL_M_remainders_7 w m t i Y = V := by
            unfold LL_M_remainders_7
            simp only []
            rw [eZ, if_neg h1, if_pos h2, eV]
          have oV : onL [t, w] Z V := by
            rw [hcp]
            exact ⟨rfl, fun b hb => funext fun k => if_neg (fun z => hb (by rw [z.1]; simp))⟩
          have wV : M16 V w (2 ^ (i + 1) % M) := ⟨q.2.1, fun k hk => by
            rw [hcp]
            show (if w = t ∧ _ then _ else Z.1 w k) = _
            rw [if_neg (fun z => n3 z.1.symm)]
            exact q.2.2 k hk⟩
          have := ih (i + 1) V (by omega) (oZ.tr oV) wV (fun j hj hj2 k hk => by
            rw [hcp]
            show (if t = t ∧ i - 255 + 0 ≤ 16 * j + k ∧ 16 * j + k < i - 255 + 0 + 16 then Z.1 w (16 * j + k - (i - 255)) else Z.1 t (16 * j + k)) = _
            by_cases hjj : j = j0
            · rw [if_pos ⟨rfl, by omega, by omega⟩, show 16 * j + k - (i - 255) = k by omega, q.2.2 k hk, hj0, hjj, show 255 + 16 * j0 + 1 = 256 + 16 * j0 by omega, Int.pow_add, Int.pow_mul]
              rfl
            · rw [if_neg (fun z => by omega), tZ]
              exact ht j hj (by omega) k hk)
          rw [← e] at this
          exact this
        · have e : LL_M_remainders_7 w m t i Y = Z := by
            unfold LL_M_remainders_7
            simp only []
            rw [eZ, if_neg h1, if_neg h2]
          have := ih (i + 1) Z (by omega) oZ q.2 (fun j hj hj2 k hk => by rw [tZ]; exact ht j hj (by omega) k hk)
          rw [← e] at this
          exact this
  have q0 := m_set (X := X) (to := w) (n := 1) (by decide)
  obtain ⟨X1, e1⟩ : ∃ Y, LF_M_set X w (nI 1) = Y := ⟨_, rfl⟩
  rw [e1] at q0
  have w1 : M16 X1 w (2 ^ 0 % M) := by
    rw [show (2 : Int) ^ 0 = 1 from rfl, Int.emod_eq_of_lt (by decide) hM.1]
    exact q0.2
  obtain ⟨k1, k2⟩ := key 496 0 X1 rfl (q0.on (by simp)) w1 (fun j hj hj2 => absurd hj2 (by omega))
  have e : LF_M_remainders X t m w = lpU 1 (LL_M_remainders_7 w m t) 496 0 X1 := by
    unfold LF_M_remainders
    simp only []
    rw [e1]
  rw [e]
  refine ⟨k1, fun j hj => ⟨⟨Int.emod_nonneg _ (by omega), ?_⟩, fun k hk => k2 j hj (by omega) k hk⟩⟩
  have h : 115792089237316195423570985008687907853269984665640564039457584007913129639936 * 65536 ^ j % M < M := Int.emod_lt_of_pos _ (by omega)
  show 115792089237316195423570985008687907853269984665640564039457584007913129639936 * 65536 ^ j % M < 115792089237316195423570985008687907853269984665640564039457584007913129639936
  generalize 115792089237316195423570985008687907853269984665640564039457584007913129639936 * 65536 ^ j % M = z at *
  omega
