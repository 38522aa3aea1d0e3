/-! longs as integers; ten limbs as a number of the field -/
theorem i6_sm : ∀ n : Nat, n < 64 → ((nI n).toInt64 &&& 63).toBitVec.smod 64 = BitVec.ofNat 64 n := by decide +kernel
theorem i6_of (x : Int64) : x = Int64.ofInt x.toInt := (Int64.ofInt_toInt x).symm
theorem i6_to {z : Int} (h : -9223372036854775808 ≤ z ∧ z < 9223372036854775808) : (Int64.ofInt z).toInt = z := Int64.toInt_ofInt_of_le (by omega) (by omega)
theorem i6_shr {z : Int} {n : Nat} (hn : n < 64) (h : -9223372036854775808 ≤ z ∧ z < 9223372036854775808) : Int64.ofInt z >>> ((nI n).toInt64 &&& 63) = Int64.ofInt (z / 2 ^ n) := by
  apply Int64.toInt_inj.mp
  have e1 : (Int64.ofInt z >>> ((nI n).toInt64 &&& 63)).toInt = (Int64.ofInt z).toInt >>> n := by
    show ((Int64.ofInt z).toBitVec.sshiftRight' (((nI n).toInt64 &&& 63).toBitVec.smod 64)).toInt = _
    rw [i6_sm n hn, BitVec.sshiftRight', BitVec.toInt_sshiftRight, BitVec.toNat_ofNat, Nat.mod_eq_of_lt (by omega)]
    rfl
  have e2 : z >>> n = z / 2 ^ n := by rw [Int.shiftRight_eq_div_pow]; simp
  rw [e1, i6_to h, e2]
  have hp : (0 : Int) < 2 ^ n := Int.pow_pos (by decide)
  generalize (2 : Int) ^ n = w at hp
  refine (i6_to ⟨?_, ?_⟩).symm
  · exact (Int.le_ediv_iff_mul_le hp).mpr (by omega)
  · exact Int.ediv_lt_of_lt_mul hp (by omega)
theorem i6_shl {z : Int} {n : Nat} (hn : n < 64) : Int64.ofInt z <<< ((nI n).toInt64 &&& 63) = Int64.ofInt (z * 2 ^ n) := by
  have e0 : Int64.ofInt ((2 : Int) ^ n) = Int64.ofBitVec (BitVec.twoPow 64 n) := by
    apply Int64.toBitVec_inj.mp
    show BitVec.ofInt 64 ((2 : Int) ^ n) = BitVec.twoPow 64 n
    apply BitVec.eq_of_toNat_eq
    rw [BitVec.toNat_ofInt, BitVec.toNat_twoPow]
    have : ((2 : Int) ^ n) = ((2 ^ n : Nat) : Int) := by simp
    rw [this, ← Int.natCast_emod, Int.toNat_natCast]
  rw [Int64.ofInt_mul, e0]
  apply Int64.toBitVec_inj.mp
  show (Int64.ofInt z).toBitVec <<< (((nI n).toInt64 &&& 63).toBitVec.smod 64) = (Int64.ofInt z).toBitVec * BitVec.twoPow 64 n
  rw [i6_sm n hn, ← BitVec.shiftLeft_eq_mul_twoPow]
  show (Int64.ofInt z).toBitVec <<< (BitVec.ofNat 64 n).toNat = _
  rw [BitVec.toNat_ofNat, Nat.mod_eq_of_lt (by omega)]
/-- an array's first n numbers are set -/
def svL (X : vM) (a n : Nat) (f : Nat → Int64) : vM := (fun b k => if b = a ∧ k < n then f k else X.1 b k, X.2)
def svI (X : vM) (a n : Nat) (f : Nat → Int32) : vM := (X.1, fun b k => if b = a ∧ k < n then f k else X.2 b k)
theorem svL_at (X : vM) (a n : Nat) (f : Nat → Int64) {k : Nat} (h : k < n) : (svL X a n f).1 a k = f k := if_pos ⟨rfl, h⟩
theorem svL_ne (X : vM) (a n : Nat) (f : Nat → Int64) {b : Nat} (h : b ≠ a) (k : Nat) : (svL X a n f).1 b k = X.1 b k := if_neg (fun z => h z.1)
theorem stL_sv0 (X : vM) (a : Nat) (v : Int64) : stL X a 0 v = svL X a 1 (fun _ => v) := by
  refine Prod.ext (funext fun b => funext fun k => ?_) rfl
  show (if b = a ∧ k = 0 then v else X.1 b k) = if b = a ∧ k < 1 then v else X.1 b k
  by_cases h : b = a ∧ k = 0
  · rw [if_pos h, if_pos ⟨h.1, by omega⟩]
  · rw [if_neg h, if_neg (fun z => h ⟨z.1, by omega⟩)]
/-- a loop that writes f i at place i of a, whatever it reads there before it is written -/
theorem lp_sv (a n : Nat) (body : Nat → vM → vM) (X : vM) (f : Nat → Int64) (hb : ∀ i, i < n → body i (svL X a i f) = svL X a (i + 1) f) : lpU 1 body n 0 X = svL X a n f := by
  have key : ∀ k i, i + k = n → lpU 1 body k i (svL X a i f) = svL X a n f := by
    intro k
    induction k with
    | zero => intro i hi; rw [show i = n by omega]; rfl
    | succ k ih =>
      intro i hi
      show lpU 1 body k (i + 1) (body i (svL X a i f)) = _
      rw [hb i (by omega)]
      exact ih (i + 1) (by omega)
  have h0 : X = svL X a 0 f := by
    refine Prod.ext (funext fun b => funext fun k => ?_) rfl
    exact (if_neg (fun z => absurd z.2 (Nat.not_lt_zero k))).symm
  have := key n 0 (by omega)
  rwa [← h0] at this
theorem st_sv (X : vM) (a i : Nat) (f : Nat → Int64) : stL (svL X a i f) a i (f i) = svL X a (i + 1) f := by
  refine Prod.ext (funext fun b => funext fun k => ?_) rfl
  show (if b = a ∧ k = i then f i else if b = a ∧ k < i then f k else X.1 b k) = if b = a ∧ k < i + 1 then f k else X.1 b k
  by_cases hb : b = a
  · subst hb
    by_cases hk : k = i
    · subst hk
      rw [if_pos ⟨rfl, rfl⟩, if_pos ⟨rfl, by omega⟩]
    · rw [if_neg (fun z => hk z.2)]
      by_cases hl : k < i
      · rw [if_pos ⟨rfl, hl⟩, if_pos ⟨rfl, by omega⟩]
      · rw [if_neg (fun z => hl z.2), if_neg (fun z => by omega)]
  · rw [if_neg (fun z => hb z.1), if_neg (fun z => hb z.1), if_neg (fun z => hb z.1)]
theorem sv_rd (X : vM) (a b i : Nat) (f : Nat → Int64) : (svL X a i f).1 b i = X.1 b i := if_neg (fun z => absurd z.2 (Nat.lt_irrefl i))
theorem LF_F_add_eq (X : vM) (h f g : Nat) : LF_F_add X h f g = svL X h 10 (fun i => X.1 f i + X.1 g i) :=
  lp_sv h 10 _ X _ (fun i _ => by
    show stL _ h i ((svL X h i _).1 f i + (svL X h i _).1 g i) = _
    rw [sv_rd, sv_rd]; exact st_sv X h i _)
theorem LF_F_sub_eq (X : vM) (h f g : Nat) : LF_F_subtract X h f g = svL X h 10 (fun i => X.1 f i - X.1 g i) :=
  lp_sv h 10 _ X _ (fun i _ => by
    show stL _ h i ((svL X h i _).1 f i - (svL X h i _).1 g i) = _
    rw [sv_rd, sv_rd]; exact st_sv X h i _)
theorem LF_F_neg_eq (X : vM) (h f : Nat) : LF_F_negate X h f = svL X h 10 (fun i => -X.1 f i) :=
  lp_sv h 10 _ X _ (fun i _ => by
    show stL _ h i (-(svL X h i _).1 f i) = _
    rw [sv_rd]; exact st_sv X h i _)
theorem LF_F_copy_eq (X : vM) (h f : Nat) : LF_F_copy X h f = svL X h 10 (fun i => X.1 f i) := by
  refine Prod.ext (funext fun b => funext fun k => ?_) rfl
  show (if b = h ∧ 0 ≤ k ∧ k < 0 + 10 then X.1 f (0 + (k - 0)) else X.1 b k) = if b = h ∧ k < 10 then X.1 f k else X.1 b k
  by_cases hb : b = h ∧ k < 10
  · rw [if_pos hb, if_pos ⟨hb.1, by omega⟩, Nat.zero_add, Nat.sub_zero]
  · rw [if_neg hb, if_neg (fun z => hb ⟨z.1, by omega⟩)]
theorem LF_JA_fill_eq (X : vM) (h n : Nat) (v : Int64) : LF_JA_fill X h n v = svL X h n (fun _ => v) :=
  lp_sv h n _ X _ (fun i _ => st_sv X h i (fun _ => v))
theorem LF_F_set_eq (X : vM) (h : Nat) (v : Int64) : LF_F_set X h v = svL X h 10 (fun i => if i = 0 then v else 0) := by
  show stL (LF_JA_fill X h 10 0) h 0 v = _
  rw [LF_JA_fill_eq]
  refine Prod.ext (funext fun b => funext fun k => ?_) rfl
  show (if b = h ∧ k = 0 then v else if b = h ∧ k < 10 then 0 else X.1 b k) = if b = h ∧ k < 10 then (if k = 0 then v else 0) else X.1 b k
  by_cases hb : b = h
  · by_cases hk : k = 0
    · rw [if_pos ⟨hb, hk⟩, if_pos ⟨hb, by omega⟩, if_pos hk]
    · rw [if_neg (fun z => hk z.2)]
      by_cases hl : k < 10
      · rw [if_pos ⟨hb, hl⟩, if_pos ⟨hb, hl⟩, if_neg hk]
      · rw [if_neg (fun z => hl z.2), if_neg (fun z => hl z.2)]
  · rw [if_neg (fun z => hb z.1), if_neg (fun z => hb z.1), if_neg (fun z => hb z.1)]
