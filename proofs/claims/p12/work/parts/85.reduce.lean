/-! the reference's remainder, first loop: the high digits go over by the table -/
def aS (g : Nat → Int) : Nat → Int
  | 0 => 0
  | i + 1 => aS g i + g i
/-- the table t holds the numbers R 0 .. R 15 -/
def Tb (X : vM) (t : Nat) (R : Nat → Int) : Prop := ∀ i, i < 16 → (0 ≤ R i ∧ R i < 115792089237316195423570985008687907853269984665640564039457584007913129639936) ∧ ∀ k, k < 16 → X.1 t (16 * i + k) = Int64.ofInt (dgI (R i) k)
def M32 (X : vM) (a : Nat) (N : Int) : Prop := ∀ j, j < 32 → X.1 a j = Int64.ofInt (dgI N j)
def rdS (N : Int) (R : Nat → Int) (k : Nat) : Int := dgI N k + aS (fun i => dgI N (16 + i) * dgI (R i) k) 16
theorem m_acc {X : vM} {r : Nat → Nat} {t k : Nat} {N : Int} {R : Nat → Int} (hP : M32 X (r 40) N) (hT : Tb X t R) (hk : k < 16) : lpU 1 (LL_M_reduce_22 X r t k) 16 0 (Int64.ofInt (dgI N k)) = Int64.ofInt (rdS N R k) := by
  have key : ∀ m i, i + m = 16 → lpU 1 (LL_M_reduce_22 X r t k) m i (Int64.ofInt (dgI N k + aS (fun i => dgI N (16 + i) * dgI (R i) k) i)) = Int64.ofInt (rdS N R k) := by
    intro m
    induction m with
    | zero =>
      intro i hi
      rw [show i = 16 by omega]
      rfl
    | succ m ih =>
      intro i hi
      show lpU 1 (LL_M_reduce_22 X r t k) m (i + 1) (Int64.ofInt (dgI N k + aS (fun i => dgI N (16 + i) * dgI (R i) k) i) + X.1 (r 40) (16 + i) * X.1 t (16 * i + k)) = _
      rw [hP (16 + i) (by omega), (hT i (by omega)).2 k hk, ← Int64.ofInt_mul, ← Int64.ofInt_add, Int.add_assoc]
      exact ih (i + 1) (by omega)
  have := key 16 0 (by omega)
  rw [show dgI N k + aS (fun i => dgI N (16 + i) * dgI (R i) k) 0 = dgI N k from Int.add_zero _] at this
  exact this
theorem m_red1 {X : vM} {r : Nat → Nat} {t : Nat} {N : Int} {R : Nat → Int} (hP : M32 X (r 40) N) (hT : Tb X t R) (h41 : r 40 ≠ r 41) (ht : t ≠ r 41) : lpU 1 (LL_M_reduce_3 r t) 16 0 X = svL X (r 41) 16 (fun k => Int64.ofInt (rdS N R k)) := by
  refine lp_sv (r 41) 16 (LL_M_reduce_3 r t) X (fun k => Int64.ofInt (rdS N R k)) (fun k hk => ?_)
  obtain ⟨Y, hY⟩ : ∃ Y, svL X (r 41) k (fun k => Int64.ofInt (rdS N R k)) = Y := ⟨_, rfl⟩
  have hP' : M32 Y (r 40) N := fun j hj => by rw [← hY, svL_ne X (r 41) k _ h41]; exact hP j hj
  have hT' : Tb Y t R := fun i hi => ⟨(hT i hi).1, fun k2 hk2 => by rw [← hY, svL_ne X (r 41) k _ ht]; exact (hT i hi).2 k2 hk2⟩
  rw [hY]
  show stL Y (r 41) k (lpU 1 (LL_M_reduce_22 Y r t k) 16 0 (Y.1 (r 40) k)) = _
  rw [hP' k (by omega), m_acc hP' hT' hk, ← hY]
  exact st_sv X (r 41) k (fun k => Int64.ofInt (rdS N R k))
theorem sS_aS (c : Nat → Int) (d : Nat → Nat → Int) (m : Nat) : ∀ n, sS (fun k => aS (fun i => c i * d i k) n) m = aS (fun i => c i * sS (d i) m) n
  | 0 => by
    show sS (fun _ => 0) m = 0
    induction m with
    | zero => rfl
    | succ m ih =>
      show sS (fun _ => 0) m + 0 * 65536 ^ m = 0
      rw [ih, Int.zero_mul]
      rfl
  | n + 1 => by
    show sS (fun k => aS (fun i => c i * d i k) n + c n * d n k) m = aS (fun i => c i * sS (d i) m) n + c n * sS (d n) m
    rw [sS_add, sS_aS c d m n, sS_mul]
theorem aS_ext {f g : Nat → Int} : ∀ n, (∀ i, i < n → f i = g i) → aS f n = aS g n
  | 0, _ => rfl
  | n + 1, h => by
    show aS f n + f n = aS g n + g n
    rw [aS_ext n (fun i hi => h i (by omega)), h n (by omega)]
/-- the sum's number -/
theorem rdS_sum {X : vM} {t : Nat} {N : Int} {R : Nat → Int} (hT : Tb X t R) : sS (rdS N R) 16 = N % 115792089237316195423570985008687907853269984665640564039457584007913129639936 + aS (fun i => dgI N (16 + i) * R i) 16 := by
  have e : sS (rdS N R) 16 = sS (dgI N) 16 + sS (fun k => aS (fun i => dgI N (16 + i) * dgI (R i) k) 16) 16 := sS_add _ _ 16
  rw [e, dg_sum, p16_16, sS_aS (fun i => dgI N (16 + i)) (fun i => dgI (R i)) 16 16]
  congr 1
  exact aS_ext 16 (fun i hi => by rw [M16.sum (hT i hi).1])
theorem aS_bd {g : Nat → Int} {b : Int} (h : ∀ i, i < 16 → 0 ≤ g i ∧ g i ≤ b) : ∀ n, n ≤ 16 → 0 ≤ aS g n ∧ aS g n ≤ n * b
  | 0, _ => ⟨Int.le_refl 0, by rw [show ((0 : Nat) : Int) = 0 from rfl, Int.zero_mul]; exact Int.le_refl 0⟩
  | n + 1, hn => by
    have ih := aS_bd h n (by omega)
    have h1 := h n (by omega)
    show 0 ≤ aS g n + g n ∧ aS g n + g n ≤ ((n + 1 : Nat) : Int) * b
    rw [Int.natCast_add, Int.add_mul]
    omega
