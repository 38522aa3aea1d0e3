/-! numbers modulo L, as the class does it -/
def lL : Nat := 7237005577332262213973186563042994240857116359379907606001950938285454250989
def Lv (j : Nat) : Int := (([237, 211, 245, 92, 26, 99, 18, 88, 214, 156, 247, 162, 222, 249, 222, 20, 0, 0, 0, 0, 0, 0, 0, 0, 0, 0, 0, 0, 0, 0, 0, 16] : List Int)).getD j 0
theorem Lv_st : ∀ j, j < 32 → st_v 8 j = Int64.ofInt (Lv j) := by decide +kernel
theorem Lv_bd : ∀ j, j < 32 → 0 ≤ Lv j ∧ Lv j ≤ 255 := by decide +kernel
theorem Lv_0 : ∀ j, j < 20 → 16 ≤ j → Lv j = 0 := by decide +kernel
/-- the number of places -/
def vS (w : Nat → Int) : Nat → Int
  | 0 => 0
  | n + 1 => vS w n + w n * 256 ^ n
def uz (w : Nat → Int) (i : Nat) (v : Int) : Nat → Int := fun k => if k = i then v else w k
theorem uz_at (w : Nat → Int) (i : Nat) (v : Int) : uz w i v i = v := if_pos rfl
theorem uz_ne (w : Nat → Int) {i k : Nat} (v : Int) (h : k ≠ i) : uz w i v k = w k := if_neg h
theorem vS_ext {v w : Nat → Int} : ∀ n, (∀ k, k < n → v k = w k) → vS v n = vS w n
  | 0, _ => rfl
  | n + 1, h => by
    show vS v n + v n * 256 ^ n = vS w n + w n * 256 ^ n
    rw [vS_ext n (fun k hk => h k (by omega)), h n (by omega)]
theorem vS_up (w : Nat → Int) {i : Nat} (v : Int) : ∀ n, i < n → vS (uz w i v) n = vS w n + (v - w i) * 256 ^ i
  | 0, h => absurd h (by omega)
  | n + 1, h => by
    show vS (uz w i v) n + uz w i v n * 256 ^ n = vS w n + w n * 256 ^ n + (v - w i) * 256 ^ i
    by_cases hn : n = i
    · subst hn
      rw [vS_ext n (w := w) (fun k hk => uz_ne w v (by omega)), uz_at, Int.sub_mul]
      omega
    · rw [vS_up w v n (by omega), uz_ne w v hn]
      omega
def oI (w : Nat → Int) : Nat → Int64 := fun k => Int64.ofInt (w k)
theorem up_oI (w : Nat → Int) (i : Nat) (v : Int) : upL (oI w) i (Int64.ofInt v) = oI (uz w i v) := by
  funext k
  show (if k = i then Int64.ofInt v else Int64.ofInt (w k)) = Int64.ofInt (if k = i then v else w k)
  by_cases h : k = i
  · rw [if_pos h, if_pos h]
  · rw [if_neg h, if_neg h]
theorem st_oI (X : vM) (a i : Nat) (w : Nat → Int) (v : Int) : stL (sg X a (oI w)) a i (Int64.ofInt v) = sg X a (oI (uz w i v)) := by rw [st_sg, up_oI]
theorem sg_rd (X : vM) (a k : Nat) (w : Nat → Int) : (sg X a (oI w)).1 a k = Int64.ofInt (w k) := if_pos rfl
theorem rg_fold {R : Type} [Lean.Grind.CommRing R] (V a c F l d S P Q W T H : R) (ih : V + c * P = W - F * S * Q) (hP : H * Q = P) (hT : T = P * 256) : V + (a + c - F * l - d * 256 - a) * P + d * T = W - F * (S + l * H) * Q := by grind
/-! one place folded into lower ones -/
def fS (w : Nat → Int) (F : Int) (st : Nat) : Nat → (Nat → Int) × Int
  | 0 => (w, 0)
  | j + 1 => (uz (fS w F st j).1 (st + j) ((fS w F st j).1 (st + j) + (fS w F st j).2 - F * Lv j - ((fS w F st j).1 (st + j) + (fS w F st j).2 - F * Lv j + 128) / 256 * 256), ((fS w F st j).1 (st + j) + (fS w F st j).2 - F * Lv j + 128) / 256)
theorem fS_out (w : Nat → Int) (F : Int) (st : Nat) : ∀ j k, (k < st ∨ st + j ≤ k) → (fS w F st j).1 k = w k
  | 0, k, _ => rfl
  | j + 1, k, h => by
    show uz (fS w F st j).1 (st + j) _ k = w k
    rw [uz_ne _ _ (by omega)]
    exact fS_out w F st j k (by omega)
theorem fS_c (w : Nat → Int) (F : Int) (st j : Nat) : (fS w F st (j + 1)).2 = (w (st + j) + (fS w F st j).2 - F * Lv j + 128) / 256 := by
  show ((fS w F st j).1 (st + j) + (fS w F st j).2 - F * Lv j + 128) / 256 = _
  rw [fS_out w F st j (st + j) (by omega)]
theorem fS_in (w : Nat → Int) (F : Int) (st : Nat) : ∀ j k, st ≤ k → k < st + j → -128 ≤ (fS w F st j).1 k ∧ (fS w F st j).1 k ≤ 127
  | 0, k, h1, h2 => absurd h2 (by omega)
  | j + 1, k, h1, h2 => by
    show -128 ≤ uz (fS w F st j).1 (st + j) _ k ∧ uz (fS w F st j).1 (st + j) _ k ≤ 127
    by_cases h : k = st + j
    · rw [h, uz_at]
      omega
    · rw [uz_ne _ _ h]
      exact fS_in w F st j k h1 (by omega)
theorem fS_v (w : Nat → Int) (F : Int) (st : Nat) : ∀ j, st + j ≤ 64 → vS (fS w F st j).1 64 + (fS w F st j).2 * 256 ^ (st + j) = vS w 64 - F * vS Lv j * 256 ^ st
  | 0, _ => by
    show vS w 64 + 0 * 256 ^ (st + 0) = vS w 64 - F * 0 * 256 ^ st
    rw [Int.zero_mul, Int.mul_zero, Int.zero_mul]
    omega
  | j + 1, h => by
    have ih := fS_v w F st j (by omega)
    have e1 : vS (fS w F st (j + 1)).1 64 = vS (fS w F st j).1 64 + ((fS w F st j).1 (st + j) + (fS w F st j).2 - F * Lv j - ((fS w F st j).1 (st + j) + (fS w F st j).2 - F * Lv j + 128) / 256 * 256 - (fS w F st j).1 (st + j)) * 256 ^ (st + j) := vS_up _ _ 64 (by omega)
    have e2 : (fS w F st (j + 1)).2 = ((fS w F st j).1 (st + j) + (fS w F st j).2 - F * Lv j + 128) / 256 := rfl
    rw [e1, e2, show vS Lv (j + 1) = vS Lv j + Lv j * 256 ^ j from rfl]
    exact rg_fold _ _ _ F (Lv j) _ (vS Lv j) (256 ^ (st + j)) (256 ^ st) _ _ (256 ^ j) ih (by rw [← Int.pow_add, Nat.add_comm]) (by rw [← Nat.add_assoc, Int.pow_succ])
theorem mul_bd {F l B : Int} (hF : -B ≤ F ∧ F ≤ B) (hl : 0 ≤ l ∧ l ≤ 255) : -(B * 255) ≤ F * l ∧ F * l ≤ B * 255 := by
  have h1 : F * l ≤ B * l := Int.mul_le_mul_of_nonneg_right hF.2 hl.1
  have h2 : -B * l ≤ F * l := Int.mul_le_mul_of_nonneg_right hF.1 hl.1
  have h3 : B * l ≤ B * 255 := Int.mul_le_mul_of_nonneg_left hl.2 (by omega)
  rw [Int.neg_mul] at h2
  omega
theorem fS_b {w : Nat → Int} {F : Int} {st : Nat} (hF : -34000000 ≤ F ∧ F ≤ 34000000) (hw : ∀ k, st ≤ k → k < st + 20 → -2200000 ≤ w k ∧ w k ≤ 2200000) : ∀ j, j ≤ 20 → -45000000 ≤ (fS w F st j).2 ∧ (fS w F st j).2 ≤ 45000000
  | 0, _ => by
    show -45000000 ≤ (0 : Int) ∧ (0 : Int) ≤ 45000000
    omega
  | j + 1, h => by
    have ih := fS_b hF hw j (by omega)
    have h1 := mul_bd hF (Lv_bd j (by omega))
    have h2 := hw (st + j) (by omega) (by omega)
    rw [fS_c]
    omega
/-- the last carry -/
theorem fS_l {w : Nat → Int} {F : Int} {st : Nat} {E : Int} (hF : -34000000 ≤ F ∧ F ≤ 34000000) (hw : ∀ k, st ≤ k → k < st + 20 → -2200000 ≤ w k ∧ w k ≤ 2200000) (hE : ∀ k, st < k → k < st + 20 → -E ≤ w k ∧ w k ≤ E) : (E = 128 → -1 ≤ (fS w F st 20).2 ∧ (fS w F st 20).2 ≤ 1) ∧ (E = 2097152 → -20000 ≤ (fS w F st 20).2 ∧ (fS w F st 20).2 ≤ 20000) := by
  have h16 := fS_b hF hw 16 (by decide)
  have e17 := fS_c w F st 16
  have e18 := fS_c w F st 17
  have e19 := fS_c w F st 18
  have e20 := fS_c w F st 19
  rw [Lv_0 16 (by decide) (by decide), Int.mul_zero] at e17
  rw [Lv_0 17 (by decide) (by decide), Int.mul_zero] at e18
  rw [Lv_0 18 (by decide) (by decide), Int.mul_zero] at e19
  rw [Lv_0 19 (by decide) (by decide), Int.mul_zero] at e20
  have w16 := hE (st + 16) (by omega) (by omega)
  have w17 := hE (st + 17) (by omega) (by omega)
  have w18 := hE (st + 18) (by omega) (by omega)
  have w19 := hE (st + 19) (by omega) (by omega)
  rw [show 16 + 1 = 17 from rfl] at e17
  rw [show 17 + 1 = 18 from rfl] at e18
  rw [show 18 + 1 = 19 from rfl] at e19
  rw [show 19 + 1 = 20 from rfl] at e20
  generalize (fS w F st 16).2 = c16 at *
  generalize (fS w F st 17).2 = c17 at *
  generalize (fS w F st 18).2 = c18 at *
  generalize (fS w F st 19).2 = c19 at *
  generalize (fS w F st 20).2 = c20 at *
  generalize w (st + 16) = a16 at *
  generalize w (st + 17) = a17 at *
  generalize w (st + 18) = a18 at *
  generalize w (st + 19) = a19 at *
  clear hw hE hF
  constructor
  · rintro rfl
    omega
  · rintro rfl
    omega
theorem fS_m {X : vM} {kq : Nat → Nat → Nat} {w : Nat → Int} {F : Int} {p : Nat} (hF : -34000000 ≤ F ∧ F ≤ 34000000) (hw : ∀ k, p - 32 ≤ k → k < p - 32 + 20 → -2200000 ≤ w k ∧ w k ≤ 2200000) : ∀ n j, j + n = 20 → lpU 1 (LL_Or_foldPlace_23 kq p (Int64.ofInt F)) n j (sg X (kq 6 0) (oI (fS w F (p - 32) j).1), Int64.ofInt (fS w F (p - 32) j).2) = (sg X (kq 6 0) (oI (fS w F (p - 32) 20).1), Int64.ofInt (fS w F (p - 32) 20).2)
  | 0, j, h => by
    have : j = 20 := by omega
    subst this
    rfl
  | n + 1, j, h => by
    have ih := fS_m (X := X) (kq := kq) hF hw n (j + 1) (by omega)
    refine Eq.trans ?_ ih
    show lpU 1 (LL_Or_foldPlace_23 kq p (Int64.ofInt F)) n (j + 1) (LL_Or_foldPlace_23 kq p (Int64.ofInt F) j (sg X (kq 6 0) (oI (fS w F (p - 32) j).1), Int64.ofInt (fS w F (p - 32) j).2)) = _
    congr 1
    have hb := fS_b hF hw j (by omega)
    have h1 := mul_bd hF (Lv_bd j (by omega))
    have h2 := hw (p - 32 + j) (by omega) (by omega)
    have h3 := fS_out w F (p - 32) j (p - 32 + j) (by omega)
    unfold LL_Or_foldPlace_23
    simp only []
    rw [sg_rd, Lv_st j (by omega), ← Int64.ofInt_mul, ← Int64.ofInt_add, ← Int64.ofInt_sub, show (128 : Int64) = Int64.ofInt 128 from by decide +kernel, ← Int64.ofInt_add, i6_shr (by decide) (by rw [h3]; omega), show (2 : Int) ^ 8 = 256 from rfl, i6_shl (by decide), show (2 : Int) ^ 8 = 256 from rfl, ← Int64.ofInt_sub, st_oI]
    rfl
/-- how large the places are, when place p comes -/
def OI (p : Nat) (w : Nat → Int) : Prop := ∀ k, k < 64 → (k + 32 ≤ p → 0 ≤ w k ∧ w k ≤ 2097152) ∧ (p < k + 32 → k + 12 ≤ p → (p < 63 → -128 ≤ w k ∧ w k ≤ 127) ∧ 0 - 128 ≤ w k ∧ w k ≤ 2097152) ∧ (p < k + 12 → k ≤ p → (k ≤ 50 → -129 ≤ w k ∧ w k ≤ 129) ∧ -2117152 ≤ w k ∧ w k ≤ 2117152) ∧ (p < k → w k = 0)
theorem Lv_sum : vS Lv 20 = 27742317777372353535851937790883648493 := by decide +kernel
theorem rg_f16 {R : Type} [Lean.Grind.CommRing R] (V c P W x S Q D E : R) (h : V + c * P = W - 16 * x * S * Q) (hE : E = D * Q) : V + c * P + (0 - x) * E = W - x * Q * (16 * S + D) := by grind
theorem c_fold {X : vM} {kq : Nat → Nat → Nat} {ts : Nat → Nat} {w : Nat → Int} {p : Nat} (hp : 32 ≤ p) (hp2 : p < 64) (hO : OI p w) : ∃ w', LF_Or_foldPlace (sg X (kq 6 0) (oI w)) kq ts p = sg X (kq 6 0) (oI w') ∧ OI (p - 1) w' ∧ ∃ t : Int, vS w' 64 = vS w 64 - t * (lL : Int) := by
  have hwp := ((hO p hp2).2.2.1 (by omega) (by omega)).2
  have hF : -34000000 ≤ 16 * w p ∧ 16 * w p ≤ 34000000 := by omega
  have hw : ∀ k, p - 32 ≤ k → k < p - 32 + 20 → -2200000 ≤ w k ∧ w k ≤ 2200000 := fun k h1 h2 => by
    by_cases h : k + 32 ≤ p
    · have := (hO k (by omega)).1 h
      omega
    · have := ((hO k (by omega)).2.1 (by omega) (by omega)).2
      omega
  have m := fS_m (X := X) (kq := kq) (w := w) (F := 16 * w p) (p := p) hF hw 20 0 rfl
  have m0 : lpU 1 (LL_Or_foldPlace_23 kq p (Int64.ofInt (16 * w p))) 20 0 (sg X (kq 6 0) (oI w), (0 : Int64)) = _ := m
  have hv := fS_v w (16 * w p) (p - 32) 20 (by omega)
  have ho : ∀ k, (k < p - 32 ∨ p - 32 + 20 ≤ k) → (fS w (16 * w p) (p - 32) 20).1 k = w k := fun k h => fS_out w (16 * w p) (p - 32) 20 k h
  have hi : ∀ k, p - 32 ≤ k → k < p - 32 + 20 → -128 ≤ (fS w (16 * w p) (p - 32) 20).1 k ∧ (fS w (16 * w p) (p - 32) 20).1 k ≤ 127 := fun k h1 h2 => fS_in w (16 * w p) (p - 32) 20 k h1 h2
  have hc1 : p < 63 → -1 ≤ (fS w (16 * w p) (p - 32) 20).2 ∧ (fS w (16 * w p) (p - 32) 20).2 ≤ 1 := fun h63 => (fS_l (E := 128) hF hw (fun k h1 h2 => by
    have := ((hO k (by omega)).2.1 (by omega) (by omega)).1 h63
    omega)).1 rfl
  have hc2 : -20000 ≤ (fS w (16 * w p) (p - 32) 20).2 ∧ (fS w (16 * w p) (p - 32) 20).2 ≤ 20000 := (fS_l (E := 2097152) hF hw (fun k h1 h2 => by
    have := ((hO k (by omega)).2.1 (by omega) (by omega)).2
    omega)).2 rfl
  obtain ⟨u, hu⟩ : ∃ u, (fS w (16 * w p) (p - 32) 20).1 = u := ⟨_, rfl⟩
  obtain ⟨c, hcc⟩ : ∃ c, (fS w (16 * w p) (p - 32) 20).2 = c := ⟨_, rfl⟩
  rw [hu, hcc] at m0 hv
  rw [hcc] at hc1 hc2
  rw [hu] at ho hi
  refine ⟨uz (uz u (p - 32 + 20) (u (p - 32 + 20) + c)) p 0, ?_, ?_, ?_⟩
  · unfold LF_Or_foldPlace
    simp only []
    rw [sg_rd, show (16 : Int64) = Int64.ofInt 16 from by decide +kernel, ← Int64.ofInt_mul, m0]
    simp only []
    rw [sg_rd, ← Int64.ofInt_add, st_oI, show (0 : Int64) = Int64.ofInt 0 from rfl, st_oI]
  · intro k hk
    have hok := hO k hk
    by_cases kp : k = p
    · subst kp
      rw [uz_at]
      exact ⟨fun h => absurd h (by omega), fun h1 h2 => absurd h2 (by omega), fun h1 h2 => absurd h2 (by omega), fun _ => rfl⟩
    · rw [uz_ne _ _ kp]
      by_cases k2 : k = p - 32 + 20
      · subst k2
        rw [uz_at, ho _ (by omega)]
        have hz := hok.2.1 (by omega) (by omega)
        refine ⟨fun h => absurd h (by omega), fun h1 h2 => absurd h2 (by omega), fun h1 h2 => ⟨fun h50 => ?_, ?_⟩, fun h => absurd h (by omega)⟩
        · have := hc1 (by omega)
          have := hz.1 (by omega)
          omega
        · have := hz.2
          omega
      · rw [uz_ne _ _ k2]
        by_cases k3 : p - 32 ≤ k ∧ k < p - 32 + 20
        · have := hi k k3.1 k3.2
          exact ⟨fun h => absurd h (by omega), fun h1 h2 => ⟨fun _ => this, by omega⟩, fun h1 h2 => absurd h1 (by omega), fun h => absurd h (by omega)⟩
        · rw [ho k (by omega)]
          exact ⟨fun h => hok.1 (by omega), fun h1 h2 => absurd h1 (by omega), fun h1 h2 => hok.2.2.1 (by omega) (by omega), fun h => hok.2.2.2 (by omega)⟩
  · have e1 := vS_up (uz u (p - 32 + 20) (u (p - 32 + 20) + c)) (i := p) 0 64 hp2
    have e2 := vS_up u (i := p - 32 + 20) (u (p - 32 + 20) + c) 64 (by omega)
    rw [uz_ne _ _ (show p ≠ p - 32 + 20 by omega), ho p (by omega)] at e1
    rw [e1, e2, show u (p - 32 + 20) + c - u (p - 32 + 20) = c by omega, Lv_sum] at *
    refine ⟨w p * 256 ^ (p - 32) * 16, ?_⟩
    have q := rg_f16 (vS u 64) c (256 ^ (p - 32 + 20)) (vS w 64) (w p) (27742317777372353535851937790883648493 : Int) (256 ^ (p - 32)) (256 ^ 32) (256 ^ p) hv (by rw [← Int.pow_add, show 32 + (p - 32) = p by omega])
    rw [q, Int.mul_assoc (w p * 256 ^ (p - 32))]
    rfl
theorem c_folds {X : vM} {kq : Nat → Nat → Nat} {ts : Nat → Nat} : ∀ (n : Nat) (w : Nat → Int), n ≤ 32 → OI (31 + n) w → ∃ w', lpD (LL_Or_reduceWide_3 kq ts) n (sg X (kq 6 0) (oI w)) = sg X (kq 6 0) (oI w') ∧ OI 31 w' ∧ ∃ t : Int, vS w' 64 = vS w 64 - t * (lL : Int)
  | 0, w, _, h => ⟨w, rfl, h, 0, by rw [Int.zero_mul, Int.sub_zero]⟩
  | n + 1, w, hn, h => by
    obtain ⟨w1, e1, h1, t1, v1⟩ := c_fold (X := X) (kq := kq) (ts := ts) (p := 32 + n) (by omega) (by omega) (by rw [show 32 + n = 31 + (n + 1) by omega]; exact h)
    rw [show 32 + n - 1 = 31 + n by omega] at h1
    obtain ⟨w2, e2, h2, t2, v2⟩ := c_folds (X := X) (kq := kq) (ts := ts) n w1 (by omega) h1
    refine ⟨w2, ?_, h2, t1 + t2, by rw [v2, v1, Int.add_mul]; omega⟩
    show lpD (LL_Or_reduceWide_3 kq ts) n (LF_Or_foldPlace (sg X (kq 6 0) (oI w)) kq ts (32 + n)) = _
    rw [e1, e2]
/-! L taken away -/
def sM (w : Nat → Int) (q : Int) : Nat → (Nat → Int) × Int
  | 0 => (w, 0)
  | j + 1 => (uz (sM w q j).1 j (((sM w q j).1 j + (sM w q j).2 - q * Lv j) % 256), ((sM w q j).1 j + (sM w q j).2 - q * Lv j) / 256)
theorem sM_out (w : Nat → Int) (q : Int) : ∀ j k, j ≤ k → (sM w q j).1 k = w k
  | 0, k, _ => rfl
  | j + 1, k, h => by
    show uz (sM w q j).1 j _ k = w k
    rw [uz_ne _ _ (by omega)]
    exact sM_out w q j k (by omega)
theorem sM_in (w : Nat → Int) (q : Int) : ∀ j k, k < j → 0 ≤ (sM w q j).1 k ∧ (sM w q j).1 k ≤ 255
  | 0, k, h => absurd h (by omega)
  | j + 1, k, h => by
    show 0 ≤ uz (sM w q j).1 j _ k ∧ uz (sM w q j).1 j _ k ≤ 255
    by_cases hk : k = j
    · rw [hk, uz_at]
      omega
    · rw [uz_ne _ _ hk]
      exact sM_in w q j k (by omega)
theorem rg_sm {R : Type} [Lean.Grind.CommRing R] (V a c q l d m S P W T : R) (ih : V + c * P = W - q * S) (hT : T = P * 256) (hm : a + c - q * l = d * 256 + m) : V + (m - a) * P + d * T = W - q * (S + l * P) := by grind
theorem sM_v (w : Nat → Int) (q : Int) : ∀ j, j ≤ 32 → vS (sM w q j).1 32 + (sM w q j).2 * 256 ^ j = vS w 32 - q * vS Lv j
  | 0, _ => by
    show vS w 32 + 0 * 256 ^ 0 = vS w 32 - q * 0
    rw [Int.zero_mul, Int.mul_zero]
    omega
  | j + 1, h => by
    have ih := sM_v w q j (by omega)
    have e1 : vS (sM w q (j + 1)).1 32 = vS (sM w q j).1 32 + (((sM w q j).1 j + (sM w q j).2 - q * Lv j) % 256 - (sM w q j).1 j) * 256 ^ j := vS_up _ _ 32 (by omega)
    have e2 : (sM w q (j + 1)).2 = ((sM w q j).1 j + (sM w q j).2 - q * Lv j) / 256 := rfl
    rw [e1, e2, show vS Lv (j + 1) = vS Lv j + Lv j * 256 ^ j from rfl]
    exact rg_sm _ _ _ q (Lv j) _ _ (vS Lv j) (256 ^ j) _ _ ih (by rw [Int.pow_succ]) (by omega)
theorem sM_b {w : Nat → Int} {q : Int} (hq : -100 ≤ q ∧ q ≤ 100) (hw : ∀ k, k < 32 → -1000 ≤ w k ∧ w k ≤ 1000) : ∀ j, j ≤ 32 → -200 ≤ (sM w q j).2 ∧ (sM w q j).2 ≤ 200
  | 0, _ => by
    show -200 ≤ (0 : Int) ∧ (0 : Int) ≤ 200
    omega
  | j + 1, h => by
    have ih := sM_b hq hw j (by omega)
    have h1 := mul_bd hq (Lv_bd j (by omega))
    have h2 := hw j (by omega)
    have h3 := sM_out w q j j (by omega)
    show -200 ≤ ((sM w q j).1 j + (sM w q j).2 - q * Lv j) / 256 ∧ ((sM w q j).1 j + (sM w q j).2 - q * Lv j) / 256 ≤ 200
    rw [h3]
    omega
theorem i6_and8 (z : Int) : Int64.ofInt z &&& 255 = Int64.ofInt (z % 256) := by
  have e0 : (255 : Int64) = Int64.ofInt ((2 ^ 8 - 1 : Nat) : Int) := by decide +kernel
  obtain ⟨a, ha⟩ : ∃ a : Nat, z % 65536 = (a : Int) := ⟨(z % 65536).toNat, by omega⟩
  have h := i6_and16 z
  have e1 : (255 : Int64) = (65535 : Int64) &&& (255 : Int64) := by decide +kernel
  rw [e1, ← Int64.and_assoc, h, ha, e0, rd_and (by omega) (by decide)]
  congr 1
  omega
theorem sM_m {X : vM} {kq : Nat → Nat → Nat} {w : Nat → Int} {q : Int} (hq : -100 ≤ q ∧ q ≤ 100) (hw : ∀ k, k < 32 → -1000 ≤ w k ∧ w k ≤ 1000) : ∀ n j, j + n = 31 → lpU 1 (LL_Or_subtractMultiple_9 kq (Int64.ofInt q)) n j (sg X (kq 6 0) (oI (sM w q j).1), Int64.ofInt (sM w q j).2) = (sg X (kq 6 0) (oI (sM w q 31).1), Int64.ofInt (sM w q 31).2)
  | 0, j, h => by
    have : j = 31 := by omega
    subst this
    rfl
  | n + 1, j, h => by
    have ih := sM_m (X := X) (kq := kq) hq hw n (j + 1) (by omega)
    refine Eq.trans ?_ ih
    show lpU 1 (LL_Or_subtractMultiple_9 kq (Int64.ofInt q)) n (j + 1) (LL_Or_subtractMultiple_9 kq (Int64.ofInt q) j (sg X (kq 6 0) (oI (sM w q j).1), Int64.ofInt (sM w q j).2)) = _
    congr 1
    have hb := sM_b hq hw j (by omega)
    have h1 := mul_bd hq (Lv_bd j (by omega))
    have h2 := hw j (by omega)
    have h3 := sM_out w q j j (by omega)
    unfold LL_Or_subtractMultiple_9
    simp only []
    rw [sg_rd, Lv_st j (by omega), ← Int64.ofInt_mul, ← Int64.ofInt_add, ← Int64.ofInt_sub, i6_and8, st_oI, i6_shr (by decide) (by rw [h3]; omega), show (2 : Int) ^ 8 = 256 from rfl]
    rfl
theorem Lv_32 : vS Lv 32 = (lL : Int) := by decide +kernel
theorem rg_s31 {R : Type} [Lean.Grind.CommRing R] (V u c q l S P W : R) (h : V + c * P = W - q * S) : V + (u + (c - q * l) - u) * P = W - q * (S + l * P) := by grind
/-- what taking q times L away leaves -/
theorem c_sub {X : vM} {kq : Nat → Nat → Nat} {ts : Nat → Nat} {w : Nat → Int} {q : Int} (hq : -100 ≤ q ∧ q ≤ 100) (hw : ∀ k, k < 32 → -1000 ≤ w k ∧ w k ≤ 1000) : ∃ w', LF_Or_subtractMultiple (sg X (kq 6 0) (oI w)) kq ts (Int64.ofInt q) = sg X (kq 6 0) (oI w') ∧ (∀ k, k < 31 → 0 ≤ w' k ∧ w' k ≤ 255) ∧ (-3000 ≤ w' 31 ∧ w' 31 ≤ 3000) ∧ vS w' 32 = vS w 32 - q * (lL : Int) := by
  have m := sM_m (X := X) (kq := kq) (w := w) hq hw 31 0 rfl
  have m0 : lpU 1 (LL_Or_subtractMultiple_9 kq (Int64.ofInt q)) 31 0 (sg X (kq 6 0) (oI w), (0 : Int64)) = _ := m
  have hv := sM_v w q 31 (by decide)
  have hb := sM_b hq hw 31 (by decide)
  have ho := sM_out w q 31 31 (by decide)
  have hi := sM_in w q 31
  obtain ⟨u, hu⟩ : ∃ u, (sM w q 31).1 = u := ⟨_, rfl⟩
  obtain ⟨c, hcc⟩ : ∃ c, (sM w q 31).2 = c := ⟨_, rfl⟩
  rw [hu, hcc] at m0 hv
  rw [hcc] at hb
  rw [hu] at ho hi
  refine ⟨uz u 31 (u 31 + (c - q * Lv 31)), ?_, fun k hk => ?_, ?_, ?_⟩
  · unfold LF_Or_subtractMultiple
    simp only []
    rw [m0]
    simp only []
    rw [sg_rd, Lv_st 31 (by decide), ← Int64.ofInt_mul, ← Int64.ofInt_sub, ← Int64.ofInt_add, st_oI]
  · rw [uz_ne _ _ (by omega)]
    exact hi k hk
  · rw [uz_at, ho, show Lv 31 = 16 from by decide]
    have := hw 31 (by decide)
    omega
  · rw [vS_up u _ 32 (by decide), ← Lv_32, show vS Lv 32 = vS Lv 31 + Lv 31 * 256 ^ 31 from rfl]
    exact rg_s31 _ _ _ _ _ _ _ _ hv
theorem vS_bd {w : Nat → Int} {B : Int} : ∀ n, (∀ k, k < n → -B ≤ w k ∧ w k ≤ B) → -(B * (256 ^ n - 1)) ≤ vS w n * 255 ∧ vS w n * 255 ≤ B * (256 ^ n - 1)
  | 0, _ => by
    show -(B * (1 - 1)) ≤ (0 : Int) * 255 ∧ (0 : Int) * 255 ≤ B * (1 - 1)
    omega
  | n + 1, h => by
    have ih := vS_bd n (fun k hk => h k (by omega))
    have hn := h n (by omega)
    have hp : (0 : Int) < 256 ^ n := Int.pow_pos (by decide)
    have h1 : w n * 256 ^ n ≤ B * 256 ^ n := Int.mul_le_mul_of_nonneg_right hn.2 (by omega)
    have h2 : -B * 256 ^ n ≤ w n * 256 ^ n := Int.mul_le_mul_of_nonneg_right hn.1 (by omega)
    rw [Int.neg_mul] at h2
    show -(B * (256 ^ (n + 1) - 1)) ≤ (vS w n + w n * 256 ^ n) * 255 ∧ (vS w n + w n * 256 ^ n) * 255 ≤ B * (256 ^ (n + 1) - 1)
    rw [Int.pow_succ, Int.mul_sub, Int.mul_one] at *
    rw [← Int.mul_assoc]
    omega
theorem vS_dg {w : Nat → Int} : ∀ n, (∀ k, k < n → 0 ≤ w k ∧ w k ≤ 255) → vS w n = ((leN (fun k => by8 (w k)) n : Nat) : Int)
  | 0, _ => rfl
  | n + 1, h => by
    have hn := h n (by omega)
    show vS w n + w n * 256 ^ n = ((leN (fun k => by8 (w k)) n + ub (by8 (w n)) * 256 ^ n : Nat) : Int)
    rw [vS_dg n (fun k hk => h k (by omega)), Int.natCast_add, Int.natCast_mul, ub_by8, Int.emod_eq_of_lt hn.1 (by omega), Int.natCast_pow]
    rfl
theorem i6_ge0 {x : Int} (hx : -9223372036854775808 ≤ x ∧ x < 9223372036854775808) : ((0 : Int64) ≤ Int64.ofInt x) ↔ 0 ≤ x := by
  rw [Int64.le_iff_toInt_le, i6_to hx]
  exact Iff.rfl
theorem oI_of (X : vM) (a : Nat) (w : Nat → Int) (h : ∀ k, k < 64 → X.1 a k = Int64.ofInt (w k)) : ∃ u, X = sg X a (oI u) ∧ ∀ k, k < 64 → u k = w k := by
  refine ⟨fun k => if k < 64 then w k else (X.1 a k).toInt, ?_, fun k hk => if_pos hk⟩
  have e : X.1 a = oI (fun k => if k < 64 then w k else (X.1 a k).toInt) := funext fun k => by
    show X.1 a k = Int64.ofInt (if k < 64 then w k else (X.1 a k).toInt)
    by_cases hk : k < 64
    · rw [if_pos hk]
      exact h k hk
    · rw [if_neg hk]
      exact i6_of _
  rw [← e]
  exact (sg_id X a).symm
theorem c_wide {X : vM} {kq : Nat → Nat → Nat} {ts : Nat → Nat} {to N : Nat} {w : Nat → Int} (hX : ∀ k, k < 64 → X.1 (kq 6 0) k = Int64.ofInt (w k)) (hw : ∀ k, k < 64 → 0 ≤ w k ∧ w k ≤ 2097152) (hN : vS w 64 = (N : Int)) : ∃ Y, LF_Or_reduceWide X kq ts to = svI Y to 32 (fun j => by8 (((N % lL : Nat) : Int) / 256 ^ j)) ∧ onL [kq 6 0] X Y := by
  obtain ⟨u, hu, hu2⟩ := oI_of X (kq 6 0) w hX
  obtain ⟨w1, e1, h1, t1, v1⟩ := c_folds (X := X) (kq := kq) (ts := ts) 32 u (by decide) (fun k hk => by
    have := hw k hk
    rw [hu2 k hk]
    refine ⟨fun _ => this, fun _ _ => ⟨fun h => absurd h (by decide), by omega⟩, fun h _ => ⟨fun h5 => absurd h5 (by omega), by omega⟩, fun h => absurd h (by omega)⟩)
  rw [← hu] at e1
  have hs : ∀ k, k < 32 → -129 ≤ w1 k ∧ w1 k ≤ 129 := fun k hk => by
    by_cases h : k + 12 ≤ 31
    · have := ((h1 k (by omega)).2.1 (by omega) h).1 (by decide)
      omega
    · exact ((h1 k (by omega)).2.2.1 (by omega) (by omega)).1 (by omega)
  have v64 : vS w1 64 = vS w1 32 := by
    have q : ∀ n, vS w1 (32 + n) = vS w1 32 ∨ 32 < n := by
      intro n
      induction n with
      | zero => exact Or.inl rfl
      | succ n ih =>
        by_cases hn : n < 32
        · rcases ih with ih | ih
          · left
            show vS w1 (32 + n) + w1 (32 + n) * 256 ^ (32 + n) = _
            rw [ih, (h1 (32 + n) (by omega)).2.2.2 (by omega), Int.zero_mul, Int.add_zero]
          · omega
        · right
          omega
    rcases q 32 with q | q
    · exact q
    · exact absurd q (by decide)
  have vu : vS u 64 = (N : Int) := by rw [vS_ext 64 hu2, hN]
  rw [v64, vu] at v1
  have w31 := hs 31 (by decide)
  obtain ⟨q, hq⟩ : ∃ q, w1 31 / 16 = q := ⟨_, rfl⟩
  obtain ⟨w2, e2, h2, b2, v2⟩ := c_sub (X := X) (kq := kq) (ts := ts) (w := w1) (q := q) (by omega) (fun k hk => by have := hs k hk; omega)
  have bd := vS_bd (w := w1) (B := 129) 31 (fun k hk => hs k (by omega))
  have hv1 : vS w1 32 = vS w1 31 + w1 31 * 256 ^ 31 := rfl
  have hd := vS_dg (w := w2) 31 (fun k hk => h2 k hk)
  have hl := leN_lt (fun k => by8 (w2 k)) 31
  have hv2 : vS w2 32 = vS w2 31 + w2 31 * 256 ^ 31 := rfl
  have eL : (lL : Int) = 7237005577332262213973186563042994240857116359379907606001950938285454250989 := rfl
  rw [show (256 : Nat) ^ 31 = 452312848583266388373324160190187140051835877600158453279131187530910662656 from by decide] at hl
  rw [show (256 : Int) ^ 31 = 452312848583266388373324160190187140051835877600158453279131187530910662656 from by decide] at bd hv1 hv2
  have rng : -7237005577332262213973186563042994240857116359379907606001950938285454250989 ≤ vS w2 32 ∧ vS w2 32 < 7237005577332262213973186563042994240857116359379907606001950938285454250989 ∧ (w2 31 < 0 ↔ vS w2 32 < 0) := by
    rw [eL] at v2
    generalize leN (fun k => by8 (w2 k)) 31 = D at *
    generalize vS w1 31 = S at *
    generalize vS w1 32 = V1 at *
    generalize vS w2 31 = S2 at *
    generalize vS w2 32 = V2 at *
    generalize w1 31 = a1 at *
    generalize w2 31 = a2 at *
    clear hs h2 h1 e1 e2 hu hu2 hX hw v1 vu v64 hN
    omega
  -- what is left, as a number below L
  have fin : ∀ (w3 : Nat → Int), (∀ k, k < 31 → 0 ≤ w3 k ∧ w3 k ≤ 255) → 0 ≤ vS w3 32 → vS w3 32 < (lL : Int) → (∃ t : Int, vS w3 32 = (N : Int) - t * (lL : Int)) → ∃ Y, lpU 1 (LL_Or_reduceWide_54 to kq) 32 0 (sg X (kq 6 0) (oI w3)) = svI Y to 32 (fun j => by8 (((N % lL : Nat) : Int) / 256 ^ j)) ∧ onL [kq 6 0] X Y := fun w3 h3 p0 p1 ⟨t, ht⟩ => by
    refine ⟨sg X (kq 6 0) (oI w3), ?_, sg_on X (kq 6 0) (oI w3) List.mem_cons_self⟩
    have hN3 : vS w3 32 = ((N % lL : Nat) : Int) := by
      rw [Int.natCast_emod, ← Int.emod_eq_of_lt p0 p1, ht, Int.sub_mul_emod_self_right]
    have h31 : 0 ≤ w3 31 ∧ w3 31 ≤ 255 := by
      have hd3 := vS_dg (w := w3) 31 (fun k hk => h3 k hk)
      have hl3 := leN_lt (fun k => by8 (w3 k)) 31
      have hv : vS w3 32 = vS w3 31 + w3 31 * 256 ^ 31 := rfl
      rw [show (256 : Nat) ^ 31 = 452312848583266388373324160190187140051835877600158453279131187530910662656 from by decide] at hl3
      rw [show (256 : Int) ^ 31 = 452312848583266388373324160190187140051835877600158453279131187530910662656 from by decide] at hv
      rw [eL] at p1
      generalize leN (fun k => by8 (w3 k)) 31 = D at *
      generalize vS w3 31 = S at *
      generalize vS w3 32 = V at *
      generalize w3 31 = a at *
      clear rng hd bd hv1 hv2 v2 v1
      omega
    have hd := vS_dg (w := w3) 32 (fun k hk => by
      by_cases h : k < 31
      · exact h3 k h
      · rw [show k = 31 by omega]; exact h31)
    have hlt : N % lL < 256 ^ 32 := Nat.lt_trans (Nat.mod_lt _ (by decide)) (by decide)
    have hb : leN (fun k => by8 (w3 k)) 32 = leN (fun j => by8 (((N % lL : Nat) : Int) / 256 ^ j)) 32 := by
      rw [leN_by8, Nat.mod_eq_of_lt hlt]
      exact Int.ofNat_inj.mp (hd.symm.trans hN3)
    refine lp_svI to 32 (LL_Or_reduceWide_54 to kq) _ _ (fun i hi => ?_)
    rw [← st_svI]
    show stI _ to i (((((sg X (kq 6 0) (oI w3)).1 (kq 6 0) i).toInt32).toInt8.toInt32).toInt8.toInt32) = _
    rw [sg_rd, by8_of, isB_inj (isB_by8 _) (isB_by8 _) (leN_inj 32 hb i hi)]
  have hr : sg X (kq 6 0) (oI w1) = sg X (kq 6 0) (oI w1) := rfl
  have e0 : LF_Or_reduceWide X kq ts to = lpU 1 (LL_Or_reduceWide_54 to kq) 32 0 (if (0 : Int64) ≤ (sg X (kq 6 0) (oI w2)).1 (kq 6 0) 31 then sg X (kq 6 0) (oI w2) else LF_Or_subtractMultiple (sg X (kq 6 0) (oI w2)) kq ts (-1 : Int64)) := by
    unfold LF_Or_reduceWide
    simp only []
    rw [show 63 + 1 - 32 = 32 from rfl, e1, sg_rd, i6_shr (by decide) (by omega), show (2 : Int) ^ 4 = 16 from rfl, hq, e2]
  rw [e0, sg_rd]
  by_cases hc : 0 ≤ w2 31
  · rw [if_pos ((i6_ge0 (by omega)).mpr hc)]
    refine fin w2 h2 (by omega) (by rw [eL]; exact rng.2.1) ⟨t1 + q, ?_⟩
    rw [v2, v1, Int.add_mul]
    omega
  · rw [if_neg (fun z => hc ((i6_ge0 (by omega)).mp z))]
    obtain ⟨w3, e3, h3, b3, v3⟩ := c_sub (X := X) (kq := kq) (ts := ts) (w := w2) (q := -1) (by decide) (fun k hk => by
      by_cases h : k < 31
      · have := h2 k h
        omega
      · rw [show k = 31 by omega]
        have hb2 : -100 ≤ w2 31 ∧ w2 31 ≤ 100 := by
          rw [eL] at v2
          generalize leN (fun k => by8 (w2 k)) 31 = D at *
          generalize vS w2 31 = S2 at *
          generalize vS w2 32 = V2 at *
          generalize w2 31 = a2 at *
          clear fin v2 v1 bd hv1 e0
          omega
        omega)
    rw [show Int64.ofInt (-1) = (-1 : Int64) from rfl] at e3
    rw [e3]
    refine fin w3 h3 ?_ ?_ ⟨t1 + q - 1, ?_⟩
    · rw [v3, eL]
      omega
    · rw [v3, eL]
      omega
    · rw [v3, v2, v1, Int.sub_mul, Int.add_mul]
      omega
