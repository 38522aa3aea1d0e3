/-! ten limbs: their number, their bounds; carry -/
def fvI (Z : Nat → Int) : Int := Z 0 * 1 + Z 1 * 67108864 + Z 2 * 2251799813685248 + Z 3 * 151115727451828646838272 + Z 4 * 5070602400912917605986812821504 + Z 5 * 340282366920938463463374607431768211456 + Z 6 * 11417981541647679048466287755595961091061972992 + Z 7 * 766247770432944429179173513575154591809369561091801088 + Z 8 * 25711008708143844408671393477458601640355247900524685364822016 + Z 9 * 1725436586697640946858688965569256363112777243042596638790631055949824
def wL (i : Nat) : Int := if i % 2 = 0 then 67108864 else 33554432
def cC (Z : Nat → Int) : Nat → Int
  | 0 => 0
  | i + 1 => (Z i + cC Z i + wL i / 2) / wL i
def oC (Z : Nat → Int) (i : Nat) : Int := Z i + cC Z i - wL i * cC Z (i + 1)
theorem wL_or (i : Nat) : wL i = 67108864 ∨ wL i = 33554432 := by
  unfold wL
  split
  · exact Or.inl rfl
  · exact Or.inr rfl
theorem cC_bd {Z : Nat → Int} (hZ : ∀ i, i < 10 → -4611686018427387904 ≤ Z i ∧ Z i ≤ 4611686018427387904) : ∀ i, i ≤ 10 → -274877906944 ≤ cC Z i ∧ cC Z i ≤ 274877906944
  | 0, _ => ⟨show -274877906944 ≤ (0 : Int) by decide, show (0 : Int) ≤ 274877906944 by decide⟩
  | i + 1, h => by
    have ih := cC_bd hZ i (by omega)
    have hz := hZ i (by omega)
    have e : cC Z (i + 1) = (Z i + cC Z i + wL i / 2) / wL i := rfl
    rw [e]
    rcases wL_or i with w | w <;> rw [w] <;> omega
/-- the result of a carry -/
def cO (Z : Nat → Int) (i : Nat) : Int := if i = 0 then oC Z 0 + 19 * cC Z 10 - 67108864 * ((oC Z 0 + 19 * cC Z 10 + 33554432) / 67108864) else if i = 1 then oC Z 1 + (oC Z 0 + 19 * cC Z 10 + 33554432) / 67108864 else oC Z i
/-- limbs that are at most n times those of a product -/
def bd (n : Int) (Z : Nat → Int) : Prop := ∀ i, i < 10 → -(n * (wL i / 2 + 131072)) ≤ Z i ∧ Z i ≤ n * (wL i / 2 + 131072)
theorem cO_bd {Z : Nat → Int} (hZ : ∀ i, i < 10 → -4611686018427387904 ≤ Z i ∧ Z i ≤ 4611686018427387904) : bd 1 (cO Z) := by
  intro i hi
  have hc := cC_bd hZ 10 (by omega)
  have ho : ∀ j, j < 10 → -(wL j / 2) ≤ oC Z j ∧ oC Z j < wL j / 2 := fun j hj => by
    have e : cC Z (j + 1) = (Z j + cC Z j + wL j / 2) / wL j := rfl
    unfold oC
    rw [e]
    rcases wL_or j with w | w <;> rw [w] <;> omega
  have h0 := ho 0 (by omega)
  have h1 := ho 1 (by omega)
  have hh := ho i hi
  have w0 : wL 0 = 67108864 := rfl
  have w1 : wL 1 = 33554432 := rfl
  rw [w0] at h0
  rw [w1] at h1
  unfold cO
  by_cases i0 : i = 0
  · subst i0
    rw [if_pos rfl, w0]
    omega
  · rw [if_neg i0]
    by_cases i1 : i = 1
    · subst i1
      rw [if_pos rfl, w1]
      omega
    · rw [if_neg i1]
      rcases wL_or i with w | w <;> rw [w] at hh ⊢ <;> omega
theorem cO_fv (Z : Nat → Int) : fvI (cO Z) = fvI Z - cC Z 10 * 57896044618658097711785492504343953926634992332820282019728792003956564819949 := by
  have e0 : ∀ j, oC Z j = Z j + cC Z j - wL j * cC Z (j + 1) := fun _ => rfl
  have e1 := e0 0
  rw [show wL 0 = 67108864 from rfl] at e1
  have e2 := e0 1
  rw [show wL 1 = 33554432 from rfl] at e2
  have e3 := e0 2
  rw [show wL 2 = 67108864 from rfl] at e3
  have e4 := e0 3
  rw [show wL 3 = 33554432 from rfl] at e4
  have e5 := e0 4
  rw [show wL 4 = 67108864 from rfl] at e5
  have e6 := e0 5
  rw [show wL 5 = 33554432 from rfl] at e6
  have e7 := e0 6
  rw [show wL 6 = 67108864 from rfl] at e7
  have e8 := e0 7
  rw [show wL 7 = 33554432 from rfl] at e8
  have e9 := e0 8
  rw [show wL 8 = 67108864 from rfl] at e9
  have e10 := e0 9
  rw [show wL 9 = 33554432 from rfl] at e10
  have c0 : cC Z 0 = 0 := rfl
  show (oC Z 0 + 19 * cC Z 10 - 67108864 * ((oC Z 0 + 19 * cC Z 10 + 33554432) / 67108864)) * 1 + (oC Z 1 + (oC Z 0 + 19 * cC Z 10 + 33554432) / 67108864) * 67108864 + oC Z 2 * 2251799813685248 + oC Z 3 * 151115727451828646838272 + oC Z 4 * 5070602400912917605986812821504 + oC Z 5 * 340282366920938463463374607431768211456 + oC Z 6 * 11417981541647679048466287755595961091061972992 + oC Z 7 * 766247770432944429179173513575154591809369561091801088 + oC Z 8 * 25711008708143844408671393477458601640355247900524685364822016 + oC Z 9 * 1725436586697640946858688965569256363112777243042596638790631055949824 = (Z 0 * 1) + (Z 1 * 67108864) + (Z 2 * 2251799813685248) + (Z 3 * 151115727451828646838272) + (Z 4 * 5070602400912917605986812821504) + (Z 5 * 340282366920938463463374607431768211456) + (Z 6 * 11417981541647679048466287755595961091061972992) + (Z 7 * 766247770432944429179173513575154591809369561091801088) + (Z 8 * 25711008708143844408671393477458601640355247900524685364822016) + (Z 9 * 1725436586697640946858688965569256363112777243042596638790631055949824) - _
  generalize (oC Z 0 + 19 * cC Z 10 + 33554432) / 67108864 = kk
  simp only [Nat.reduceAdd] at *
  omega
/-! the code of carry, place by place -/
def cyE (X : vM) (a i : Nat) (c : Int64) : vM × Int64 := (stL X a i ((X.1 a i + c) - ((((X.1 a i + c) + 33554432) >>> ((nI 26).toInt64 &&& 63)) <<< ((nI 26).toInt64 &&& 63))), ((X.1 a i + c) + 33554432) >>> ((nI 26).toInt64 &&& 63))
def cyO (X : vM) (a i : Nat) (c : Int64) : vM × Int64 := (stL X a i ((X.1 a i + c) - ((((X.1 a i + c) + 16777216) >>> ((nI 25).toInt64 &&& 63)) <<< ((nI 25).toInt64 &&& 63))), ((X.1 a i + c) + 16777216) >>> ((nI 25).toInt64 &&& 63))
theorem cyE_eq {X : vM} {a i : Nat} {c : Int64} {z k : Int} (hx : X.1 a i = Int64.ofInt z) (hc : c = Int64.ofInt k) (hb : -9223372036854775808 ≤ z + k + 33554432 ∧ z + k + 33554432 < 9223372036854775808) : cyE X a i c = (stL X a i (Int64.ofInt (z + k - 67108864 * ((z + k + 33554432) / 67108864))), Int64.ofInt ((z + k + 33554432) / 67108864)) := by
  unfold cyE
  rw [hx, hc, ← Int64.ofInt_add, show (33554432 : Int64) = Int64.ofInt 33554432 from rfl, ← Int64.ofInt_add, i6_shr (by decide) hb, i6_shl (by decide), ← Int64.ofInt_sub, show (2 : Int) ^ 26 = 67108864 from rfl, Int.mul_comm ((z + k + 33554432) / 67108864)]
theorem cyO_eq {X : vM} {a i : Nat} {c : Int64} {z k : Int} (hx : X.1 a i = Int64.ofInt z) (hc : c = Int64.ofInt k) (hb : -9223372036854775808 ≤ z + k + 16777216 ∧ z + k + 16777216 < 9223372036854775808) : cyO X a i c = (stL X a i (Int64.ofInt (z + k - 33554432 * ((z + k + 16777216) / 33554432))), Int64.ofInt ((z + k + 16777216) / 33554432)) := by
  unfold cyO
  rw [hx, hc, ← Int64.ofInt_add, show (16777216 : Int64) = Int64.ofInt 16777216 from rfl, ← Int64.ofInt_add, i6_shr (by decide) hb, i6_shl (by decide), ← Int64.ofInt_sub, show (2 : Int) ^ 25 = 33554432 from rfl, Int.mul_comm ((z + k + 16777216) / 33554432)]
def cyS (X : vM) (a : Nat) : Nat → vM × Int64
  | 0 => (X, 0)
  | i + 1 => if i % 2 = 0 then cyE (cyS X a i).1 a i (cyS X a i).2 else cyO (cyS X a i).1 a i (cyS X a i).2
theorem LF_F_carry_s (X : vM) (a : Nat) : LF_F_carry X a = (let p := cyS X a 10; let l : Int64 := (p.1.1 a 0) + ((19 : Int64) * p.2); let k : Int64 := (l + 33554432) >>> ((nI 26).toInt64 &&& 63); let Y : vM := stL p.1 a 0 (l - (k <<< ((nI 26).toInt64 &&& 63))); stL Y a 1 ((Y.1 a 1) + k)) := rfl
theorem cyS_eq {X : vM} {a : Nat} {Z : Nat → Int} (hX : ∀ i, i < 10 → X.1 a i = Int64.ofInt (Z i)) (hZ : ∀ i, i < 10 → -4611686018427387904 ≤ Z i ∧ Z i ≤ 4611686018427387904) : ∀ i, i ≤ 10 → cyS X a i = (svL X a i (fun j => Int64.ofInt (oC Z j)), Int64.ofInt (cC Z i))
  | 0, _ => by
    refine Prod.ext ?_ rfl
    refine Prod.ext (funext fun b => funext fun k => ?_) rfl
    exact (if_neg (fun z => absurd z.2 (Nat.not_lt_zero k))).symm
  | i + 1, h => by
    have ih := cyS_eq hX hZ i (by omega)
    have hc := cC_bd hZ i (by omega)
    have hz := hZ i (by omega)
    have hr : (svL X a i (fun j => Int64.ofInt (oC Z j))).1 a i = Int64.ofInt (Z i) := (sv_rd X a a i _).trans (hX i (by omega))
    show (if i % 2 = 0 then cyE (cyS X a i).1 a i (cyS X a i).2 else cyO (cyS X a i).1 a i (cyS X a i).2) = _
    rw [ih]
    have e1 : cC Z (i + 1) = (Z i + cC Z i + wL i / 2) / wL i := rfl
    have e2 : oC Z i = Z i + cC Z i - wL i * cC Z (i + 1) := rfl
    by_cases hp : i % 2 = 0
    · have w : wL i = 67108864 := if_pos hp
      rw [w] at e1 e2
      rw [if_pos hp, cyE_eq hr rfl (by omega)]
      refine Prod.ext ?_ ?_
      · rw [← st_sv X a i (fun j => Int64.ofInt (oC Z j))]
        show stL _ a i _ = stL _ a i (Int64.ofInt (oC Z i))
        rw [e2, e1]
        rfl
      · show Int64.ofInt _ = Int64.ofInt _
        rw [e1]
        rfl
    · have w : wL i = 33554432 := if_neg hp
      rw [w] at e1 e2
      rw [if_neg hp, cyO_eq hr rfl (by omega)]
      refine Prod.ext ?_ ?_
      · rw [← st_sv X a i (fun j => Int64.ofInt (oC Z j))]
        show stL _ a i _ = stL _ a i (Int64.ofInt (oC Z i))
        rw [e2, e1]
        rfl
      · show Int64.ofInt _ = Int64.ofInt _
        rw [e1]
        rfl
theorem sv_st_in {X : vM} {a j n : Nat} {f : Nat → Int64} {v : Int64} (h : j < n) : stL (svL X a n f) a j v = svL X a n (fun i => if i = j then v else f i) := by
  refine Prod.ext (funext fun b => funext fun k => ?_) rfl
  show (if b = a ∧ k = j then v else if b = a ∧ k < n then f k else X.1 b k) = if b = a ∧ k < n then (if k = j then v else f k) else X.1 b k
  by_cases hb : b = a
  · by_cases hk : k = j
    · rw [if_pos ⟨hb, hk⟩, if_pos ⟨hb, by omega⟩, if_pos hk]
    · rw [if_neg (fun z => hk z.2)]
      by_cases hl : k < n
      · rw [if_pos ⟨hb, hl⟩, if_pos ⟨hb, hl⟩, if_neg hk]
      · rw [if_neg (fun z => hl z.2), if_neg (fun z => hl z.2)]
  · rw [if_neg (fun z => hb z.1), if_neg (fun z => hb z.1), if_neg (fun z => hb z.1)]
theorem svL_ext {X : vM} {a n : Nat} {f g : Nat → Int64} (h : ∀ i, i < n → f i = g i) : svL X a n f = svL X a n g := by
  refine Prod.ext (funext fun b => funext fun k => ?_) rfl
  show (if b = a ∧ k < n then f k else X.1 b k) = if b = a ∧ k < n then g k else X.1 b k
  by_cases hb : b = a ∧ k < n
  · rw [if_pos hb, if_pos hb, h k hb.2]
  · rw [if_neg hb, if_neg hb]
theorem LF_F_carry_eq {X : vM} {a : Nat} {Z : Nat → Int} (hX : ∀ i, i < 10 → X.1 a i = Int64.ofInt (Z i)) (hZ : ∀ i, i < 10 → -4611686018427387904 ≤ Z i ∧ Z i ≤ 4611686018427387904) : LF_F_carry X a = svL X a 10 (fun i => Int64.ofInt (cO Z i)) := by
  rw [LF_F_carry_s, cyS_eq hX hZ 10 (by omega)]
  have hc := cC_bd hZ 10 (by omega)
  have h0 : -33554432 ≤ oC Z 0 ∧ oC Z 0 < 33554432 := by
    have e : cC Z 1 = (Z 0 + cC Z 0 + 33554432) / 67108864 := rfl
    have e2 : oC Z 0 = Z 0 + cC Z 0 - 67108864 * cC Z 1 := rfl
    have c0 : cC Z 0 = 0 := rfl
    omega
  simp only []
  rw [svL_at X a 10 _ (by decide), show (19 : Int64) = Int64.ofInt 19 from rfl, show (33554432 : Int64) = Int64.ofInt 33554432 from rfl, ← Int64.ofInt_mul, ← Int64.ofInt_add, ← Int64.ofInt_add, i6_shr (by decide) (by omega), i6_shl (by decide), ← Int64.ofInt_sub, sv_st_in (by decide), svL_at X a 10 _ (by decide), sv_st_in (by decide)]
  refine svL_ext (fun i hi => ?_)
  show (if i = 1 then (if 1 = 0 then _ else Int64.ofInt (oC Z 1)) + _ else if i = 0 then _ else Int64.ofInt (oC Z i)) = Int64.ofInt (cO Z i)
  unfold cO
  by_cases i0 : i = 0
  · subst i0
    rw [if_neg (by decide), if_pos rfl, if_pos rfl, show (2 : Int) ^ 26 = 67108864 from rfl, Int.mul_comm ((oC Z 0 + 19 * cC Z 10 + 33554432) / 67108864)]
  · by_cases i1 : i = 1
    · subst i1
      rw [if_pos rfl, if_neg (by decide), if_neg (by decide), if_pos rfl, ← Int64.ofInt_add]
      rfl
    · rw [if_neg i1, if_neg i0, if_neg i0, if_neg i1]
