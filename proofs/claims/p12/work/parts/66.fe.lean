/-! an array of ten limbs holds a number of the field (Fe), its limbs at most n times those of a product -/
def Fe (X : vM) (a : Nat) (n : Int) (v : Fp) : Prop := ∃ Z : Nat → Int, (∀ i, i < 10 → X.1 a i = Int64.ofInt (Z i)) ∧ bd n Z ∧ iF (fvI Z) = v
theorem wL_pos (i : Nat) : 0 ≤ wL i / 2 + 131072 := by
  rcases wL_or i with w | w <;> rw [w] <;> decide
theorem bd_mono {n m : Int} {Z : Nat → Int} (h : bd n Z) (hn : n ≤ m) : bd m Z := fun i hi => by
  have h1 := h i hi
  have h2 := Int.mul_le_mul_of_nonneg_right hn (wL_pos i)
  omega
theorem bd_add {n m : Int} {F G : Nat → Int} (h : bd n F) (k : bd m G) : bd (n + m) (fun i => F i + G i) := fun i hi => by
  have h1 := h i hi
  have h2 := k i hi
  rw [Int.add_mul]
  show -(_ + _) ≤ F i + G i ∧ F i + G i ≤ _ + _
  omega
theorem bd_sub {n m : Int} {F G : Nat → Int} (h : bd n F) (k : bd m G) : bd (n + m) (fun i => F i - G i) := fun i hi => by
  have h1 := h i hi
  have h2 := k i hi
  rw [Int.add_mul]
  show -(_ + _) ≤ F i - G i ∧ F i - G i ≤ _ + _
  omega
theorem bd_neg {n : Int} {F : Nat → Int} (h : bd n F) : bd n (fun i => -F i) := fun i hi => by
  have h1 := h i hi
  show -_ ≤ -F i ∧ -F i ≤ _
  omega
theorem fvI_add (F G : Nat → Int) : fvI (fun i => F i + G i) = fvI F + fvI G := by simp only [fvI]; omega
theorem fvI_sub (F G : Nat → Int) : fvI (fun i => F i - G i) = fvI F - fvI G := by simp only [fvI]; omega
theorem fvI_neg (F : Nat → Int) : fvI (fun i => -F i) = -fvI F := by simp only [fvI]; omega
theorem Fe.mono {X : vM} {a : Nat} {n m : Int} {v : Fp} (h : Fe X a n v) (hn : n ≤ m) : Fe X a m v := by
  obtain ⟨Z, h1, h2, h3⟩ := h
  exact ⟨Z, h1, bd_mono h2 hn, h3⟩
theorem Fe.sv {X : vM} {a : Nat} {n : Int} {Z : Nat → Int} (h : bd n Z) : Fe (svL X a 10 (fun i => Int64.ofInt (Z i))) a n (iF (fvI Z)) := ⟨Z, fun i hi => svL_at X a 10 _ hi, h, rfl⟩
/-- Y is X, but for a, which holds v -/
def fR (X Y : vM) (a : Nat) (n : Int) (v : Fp) : Prop := (∃ t : Nat → Int64, Y = svL X a 10 t) ∧ Fe Y a n v
theorem fR.fe {X Y : vM} {a b : Nat} {n m : Int} {v w : Fp} (h : fR X Y a n v) (hb : b ≠ a) (k : Fe X b m w) : Fe Y b m w := by
  obtain ⟨⟨t, rfl⟩, -⟩ := h
  obtain ⟨Z, h1, h2⟩ := k
  exact ⟨Z, fun i hi => (svL_ne X a 10 t hb i).trans (h1 i hi), h2⟩
theorem fR.mk' {X Y : vM} {a : Nat} {n : Int} {v : Fp} {Z : Nat → Int} (e : Y = svL X a 10 (fun i => Int64.ofInt (Z i))) (h : bd n Z) (hv : iF (fvI Z) = v) : fR X Y a n v := by
  subst e; subst hv
  exact ⟨⟨_, rfl⟩, Fe.sv h⟩
theorem sv_sv (X : vM) (a n : Nat) (f g : Nat → Int64) : svL (svL X a n f) a n g = svL X a n g := by
  refine Prod.ext (funext fun b => funext fun k => ?_) rfl
  show (if b = a ∧ k < n then g k else if b = a ∧ k < n then f k else X.1 b k) = if b = a ∧ k < n then g k else X.1 b k
  by_cases h : b = a ∧ k < n
  · rw [if_pos h, if_pos h]
  · rw [if_neg h, if_neg h, if_neg h]
theorem fe_carry {X : vM} {h : Nat} {Z : Nat → Int} (hZ : ∀ i, i < 10 → -4611686018427387904 ≤ Z i ∧ Z i ≤ 4611686018427387904) : fR X (LF_F_carry (svL X h 10 (fun i => Int64.ofInt (Z i))) h) h 1 (iF (fvI Z)) := by
  refine fR.mk' (Z := cO Z) ?_ (cO_bd hZ) ?_
  · rw [LF_F_carry_eq (Z := Z) (fun i hi => svL_at X h 10 _ hi) hZ, sv_sv]
  · rw [cO_fv]
    exact iF_mod _ _
theorem fe_times {X : vM} {h f g : Nat} {n m : Int} {v w : Fp} (hf : Fe X f n v) (hg : Fe X g m w) (hn : n * m ≤ 16) : fR X (LF_F_times X h f g) h 1 (v * w) := by
  obtain ⟨F, f1, f2, rfl⟩ := hf
  obtain ⟨G, g1, g2, rfl⟩ := hg
  have e : LF_F_times X h f g = LF_F_carry (svL X h 10 (fun i => Int64.ofInt (tmI F G i))) h := by
    rw [times_s]
    congr 1
    refine svL_ext (fun i hi => ?_)
    rw [← tmL_of F G i hi]
    have q : ∀ k, k < 10 → tmL (X.1 f) (X.1 g) k = tmL (fun j => Int64.ofInt (F j)) (fun j => Int64.ofInt (G j)) k := fun k hk => by
      rcases (show k = 0 ∨ k = 1 ∨ k = 2 ∨ k = 3 ∨ k = 4 ∨ k = 5 ∨ k = 6 ∨ k = 7 ∨ k = 8 ∨ k = 9 by omega) with rfl | rfl | rfl | rfl | rfl | rfl | rfl | rfl | rfl | rfl <;>
        simp only [tmL, f1 0 (by decide), f1 1 (by decide), f1 2 (by decide), f1 3 (by decide), f1 4 (by decide), f1 5 (by decide), f1 6 (by decide), f1 7 (by decide), f1 8 (by decide), f1 9 (by decide), g1 0 (by decide), g1 1 (by decide), g1 2 (by decide), g1 3 (by decide), g1 4 (by decide), g1 5 (by decide), g1 6 (by decide), g1 7 (by decide), g1 8 (by decide), g1 9 (by decide)]
    exact q i hi
  rw [e, ← tm_id]
  exact fe_carry (tm_bd f2 g2 hn)
theorem fe_square {X : vM} {h f : Nat} {n : Int} {v : Fp} (hf : Fe X f n v) (hn : n * n ≤ 16) : fR X (LF_F_square X h f) h 1 (v * v) := by
  obtain ⟨F, f1, f2, rfl⟩ := hf
  have e : LF_F_square X h f = LF_F_carry (svL X h 10 (fun i => Int64.ofInt (sqI F i))) h := by
    rw [square_s]
    congr 1
    refine svL_ext (fun i hi => ?_)
    rw [← sqL_of F i hi]
    have q : ∀ k, k < 10 → sqL (X.1 f) k = sqL (fun j => Int64.ofInt (F j)) k := fun k hk => by
      rcases (show k = 0 ∨ k = 1 ∨ k = 2 ∨ k = 3 ∨ k = 4 ∨ k = 5 ∨ k = 6 ∨ k = 7 ∨ k = 8 ∨ k = 9 by omega) with rfl | rfl | rfl | rfl | rfl | rfl | rfl | rfl | rfl | rfl <;>
        simp only [sqL, f1 0 (by decide), f1 1 (by decide), f1 2 (by decide), f1 3 (by decide), f1 4 (by decide), f1 5 (by decide), f1 6 (by decide), f1 7 (by decide), f1 8 (by decide), f1 9 (by decide)]
    exact q i hi
  rw [e, ← sq_id]
  exact fe_carry (sq_bd f2 hn)
theorem fe_add {X : vM} {h f g : Nat} {n m : Int} {v w : Fp} (hf : Fe X f n v) (hg : Fe X g m w) : fR X (LF_F_add X h f g) h (n + m) (v + w) := by
  obtain ⟨F, f1, f2, rfl⟩ := hf
  obtain ⟨G, g1, g2, rfl⟩ := hg
  refine fR.mk' (Z := fun i => F i + G i) ?_ (bd_add f2 g2) (by rw [fvI_add, iF_add])
  rw [LF_F_add_eq]
  exact svL_ext (fun i hi => by rw [f1 i hi, g1 i hi, ← Int64.ofInt_add])
theorem fe_sub {X : vM} {h f g : Nat} {n m : Int} {v w : Fp} (hf : Fe X f n v) (hg : Fe X g m w) : fR X (LF_F_subtract X h f g) h (n + m) (v - w) := by
  obtain ⟨F, f1, f2, rfl⟩ := hf
  obtain ⟨G, g1, g2, rfl⟩ := hg
  refine fR.mk' (Z := fun i => F i - G i) ?_ (bd_sub f2 g2) (by rw [fvI_sub, iF_sub])
  rw [LF_F_sub_eq]
  exact svL_ext (fun i hi => by rw [f1 i hi, g1 i hi, ← Int64.ofInt_sub])
theorem fe_neg {X : vM} {h f : Nat} {n : Int} {v : Fp} (hf : Fe X f n v) : fR X (LF_F_negate X h f) h n (-v) := by
  obtain ⟨F, f1, f2, rfl⟩ := hf
  refine fR.mk' (Z := fun i => -F i) ?_ (bd_neg f2) (by rw [fvI_neg, iF_neg])
  rw [LF_F_neg_eq]
  exact svL_ext (fun i hi => by rw [f1 i hi, ← Int64.ofInt_neg])
theorem fe_copy {X : vM} {h f : Nat} {n : Int} {v : Fp} (hf : Fe X f n v) : fR X (LF_F_copy X h f) h n v := by
  obtain ⟨F, f1, f2, rfl⟩ := hf
  refine fR.mk' (Z := F) ?_ f2 rfl
  rw [LF_F_copy_eq]
  exact svL_ext (fun i hi => f1 i hi)
theorem fe_set {X : vM} {h : Nat} (c : Int) (hc : 0 ≤ c ∧ c ≤ 100) : fR X (LF_F_set X h (Int64.ofInt c)) h 1 (iF c) := by
  refine fR.mk' (Z := fun i => if i = 0 then c else 0) ?_ (fun i hi => ?_) ?_
  · rw [LF_F_set_eq]
    refine svL_ext (fun i hi => ?_)
    by_cases h0 : i = 0
    · simp only [h0, if_pos]
    · simp only [h0, if_false]
      rfl
  · show -(1 * (wL i / 2 + 131072)) ≤ (if i = 0 then c else 0) ∧ (if i = 0 then c else 0) ≤ 1 * (wL i / 2 + 131072)
    rcases wL_or i with w | w <;> rw [w] <;> split <;> omega
  · congr 1
    show (if 0 = 0 then c else 0) * 1 + (if 1 = 0 then c else 0) * _ + (if 2 = 0 then c else 0) * _ + (if 3 = 0 then c else 0) * _ + (if 4 = 0 then c else 0) * _ + (if 5 = 0 then c else 0) * _ + (if 6 = 0 then c else 0) * _ + (if 7 = 0 then c else 0) * _ + (if 8 = 0 then c else 0) * _ + (if 9 = 0 then c else 0) * _ = c
    simp
theorem fe_scale {X : vM} {h f : Nat} {n : Int} {v : Fp} (hf : Fe X f n v) (hn : n ≤ 16) (hp : 0 ≤ n) : fR X (LF_F_scale X h f 121665) h 1 (v * iF 121665) := by
  obtain ⟨F, f1, f2, rfl⟩ := hf
  have f3 := bd_mono f2 hn
  have e : LF_F_scale X h f 121665 = LF_F_carry (svL X h 10 (fun i => Int64.ofInt (F i * 121665))) h := by
    show LF_F_carry (lpU 1 (LL_F_scale_3 h f 121665) 10 0 X) h = _
    congr 1
    rw [lp_sv h 10 _ X (fun i => X.1 f i * 121665) (fun i _ => by
      show stL _ h i ((svL X h i _).1 f i * 121665) = _
      rw [sv_rd]; exact st_sv X h i _)]
    refine svL_ext (fun i hi => ?_)
    rw [f1 i hi, Int64.ofInt_mul]
    rfl
  have e2 : fvI (fun i => F i * 121665) = fvI F * 121665 := by simp only [fvI]; omega
  rw [e, ← iF_mul, ← e2]
  refine fe_carry (fun i hi => ?_)
  have := f3 i hi
  rcases wL_or i with w | w <;> rw [w] at this <;> omega
