/-! integers as numbers of the field -/
def iF (z : Int) : Fp := ⟨(z % (pP : Int)).toNat, by
  have h1 : 0 ≤ z % (pP : Int) := Int.emod_nonneg _ (by decide)
  have h2 : z % (pP : Int) < (pP : Int) := Int.emod_lt_of_pos _ (by decide)
  omega⟩
theorem iF_val (z : Int) : ((iF z).val : Int) = z % (pP : Int) := Int.toNat_of_nonneg (Int.emod_nonneg _ (by decide))
theorem iF_add (a b : Int) : iF (a + b) = iF a + iF b := by
  apply Fin.ext
  apply Int.ofNat_inj.mp
  rw [iF_val, Fin.val_add, Int.natCast_emod, Int.natCast_add, iF_val, iF_val]
  exact Int.add_emod a b pP
theorem iF_mul (a b : Int) : iF (a * b) = iF a * iF b := by
  apply Fin.ext
  apply Int.ofNat_inj.mp
  rw [iF_val, Fin.val_mul, Int.natCast_emod, Int.natCast_mul, iF_val, iF_val]
  exact Int.mul_emod a b pP
theorem iF_mod (a k : Int) : iF (a - k * (pP : Int)) = iF a := by
  apply Fin.ext
  apply Int.ofNat_inj.mp
  rw [iF_val, iF_val, Int.sub_mul_emod_self_right]
theorem iF_0 : iF 0 = 0 := by decide
theorem rg_an {R : Type} [Lean.Grind.CommRing R] (a b c : R) (h : c + b = a) : c = a - b := by grind
theorem iF_sub (a b : Int) : iF (a - b) = iF a - iF b := rg_an _ _ _ (by rw [← iF_add, Int.sub_add_cancel])
theorem rg_ng {R : Type} [Lean.Grind.CommRing R] (a c : R) (h : c + a = 0) : c = -a := by grind
theorem iF_neg (a : Int) : iF (-a) = -iF a := rg_ng _ _ (by rw [← iF_add, Int.add_left_neg, iF_0])
theorem iF_nat (v : Fp) : iF (v.val : Int) = v := by
  apply Fin.ext
  apply Int.ofNat_inj.mp
  rw [iF_val]
  exact Int.emod_eq_of_lt (by omega) (by have := v.isLt; omega)
/-! products of bounded integers -/
theorem mb {a b A B : Int} (ha : -A ≤ a ∧ a ≤ A) (hb : -B ≤ b ∧ b ≤ B) : -(A * B) ≤ a * b ∧ a * b ≤ A * B := by
  have h1 : 0 ≤ (A - a) * (B + b) := Int.mul_nonneg (by omega) (by omega)
  have h2 : 0 ≤ (A + a) * (B - b) := Int.mul_nonneg (by omega) (by omega)
  have h3 : 0 ≤ (A - a) * (B - b) := Int.mul_nonneg (by omega) (by omega)
  have h4 : 0 ≤ (A + a) * (B + b) := Int.mul_nonneg (by omega) (by omega)
  rw [Int.sub_mul, Int.mul_add, Int.mul_add] at h1
  rw [Int.add_mul, Int.mul_sub, Int.mul_sub] at h2
  rw [Int.sub_mul, Int.mul_sub, Int.mul_sub] at h3
  rw [Int.add_mul, Int.mul_add, Int.mul_add] at h4
  constructor <;> omega
theorem mb16 {a b n m A B : Int} (ha : -(n * A) ≤ a ∧ a ≤ n * A) (hb : -(m * B) ≤ b ∧ b ≤ m * B) (hn : n * m ≤ 16) (hA : 0 ≤ A * B) : -(16 * (A * B)) ≤ a * b ∧ a * b ≤ 16 * (A * B) := by
  have h := mb ha hb
  have e : n * A * (m * B) = (n * m) * (A * B) := by simp only [Int.mul_assoc, Int.mul_left_comm]
  rw [e] at h
  have h2 : n * m * (A * B) ≤ 16 * (A * B) := Int.mul_le_mul_of_nonneg_right hn hA
  constructor <;> omega
def tmI (F G : Nat → Int) : Nat → Int := fun i => match i with
  | 0 => ((F 0 * G 0) + (19 * ((((((((((2 * F 1) * G 9) + (F 2 * G 8)) + ((2 * F 3) * G 7)) + (F 4 * G 6)) + ((2 * F 5) * G 5)) + (F 6 * G 4)) + ((2 * F 7) * G 3)) + (F 8 * G 2)) + ((2 * F 9) * G 1))))
  | 1 => (((F 0 * G 1) + (F 1 * G 0)) + (19 * ((((((((F 2 * G 9) + (F 3 * G 8)) + (F 4 * G 7)) + (F 5 * G 6)) + (F 6 * G 5)) + (F 7 * G 4)) + (F 8 * G 3)) + (F 9 * G 2))))
  | 2 => ((((F 0 * G 2) + ((2 * F 1) * G 1)) + (F 2 * G 0)) + (19 * ((((((((2 * F 3) * G 9) + (F 4 * G 8)) + ((2 * F 5) * G 7)) + (F 6 * G 6)) + ((2 * F 7) * G 5)) + (F 8 * G 4)) + ((2 * F 9) * G 3))))
  | 3 => (((((F 0 * G 3) + (F 1 * G 2)) + (F 2 * G 1)) + (F 3 * G 0)) + (19 * ((((((F 4 * G 9) + (F 5 * G 8)) + (F 6 * G 7)) + (F 7 * G 6)) + (F 8 * G 5)) + (F 9 * G 4))))
  | 4 => ((((((F 0 * G 4) + ((2 * F 1) * G 3)) + (F 2 * G 2)) + ((2 * F 3) * G 1)) + (F 4 * G 0)) + (19 * ((((((2 * F 5) * G 9) + (F 6 * G 8)) + ((2 * F 7) * G 7)) + (F 8 * G 6)) + ((2 * F 9) * G 5))))
  | 5 => (((((((F 0 * G 5) + (F 1 * G 4)) + (F 2 * G 3)) + (F 3 * G 2)) + (F 4 * G 1)) + (F 5 * G 0)) + (19 * ((((F 6 * G 9) + (F 7 * G 8)) + (F 8 * G 7)) + (F 9 * G 6))))
  | 6 => ((((((((F 0 * G 6) + ((2 * F 1) * G 5)) + (F 2 * G 4)) + ((2 * F 3) * G 3)) + (F 4 * G 2)) + ((2 * F 5) * G 1)) + (F 6 * G 0)) + (19 * ((((2 * F 7) * G 9) + (F 8 * G 8)) + ((2 * F 9) * G 7))))
  | 7 => (((((((((F 0 * G 7) + (F 1 * G 6)) + (F 2 * G 5)) + (F 3 * G 4)) + (F 4 * G 3)) + (F 5 * G 2)) + (F 6 * G 1)) + (F 7 * G 0)) + (19 * ((F 8 * G 9) + (F 9 * G 8))))
  | 8 => ((((((((((F 0 * G 8) + ((2 * F 1) * G 7)) + (F 2 * G 6)) + ((2 * F 3) * G 5)) + (F 4 * G 4)) + ((2 * F 5) * G 3)) + (F 6 * G 2)) + ((2 * F 7) * G 1)) + (F 8 * G 0)) + (19 * ((2 * F 9) * G 9)))
  | _ => ((((((((((F 0 * G 9) + (F 1 * G 8)) + (F 2 * G 7)) + (F 3 * G 6)) + (F 4 * G 5)) + (F 5 * G 4)) + (F 6 * G 3)) + (F 7 * G 2)) + (F 8 * G 1)) + (F 9 * G 0))
def tmL (F G : Nat → Int64) : Nat → Int64 := fun i => match i with
  | 0 => ((F 0 * G 0) + (19 * ((((((((((2 * F 1) * G 9) + (F 2 * G 8)) + ((2 * F 3) * G 7)) + (F 4 * G 6)) + ((2 * F 5) * G 5)) + (F 6 * G 4)) + ((2 * F 7) * G 3)) + (F 8 * G 2)) + ((2 * F 9) * G 1))))
  | 1 => (((F 0 * G 1) + (F 1 * G 0)) + (19 * ((((((((F 2 * G 9) + (F 3 * G 8)) + (F 4 * G 7)) + (F 5 * G 6)) + (F 6 * G 5)) + (F 7 * G 4)) + (F 8 * G 3)) + (F 9 * G 2))))
  | 2 => ((((F 0 * G 2) + ((2 * F 1) * G 1)) + (F 2 * G 0)) + (19 * ((((((((2 * F 3) * G 9) + (F 4 * G 8)) + ((2 * F 5) * G 7)) + (F 6 * G 6)) + ((2 * F 7) * G 5)) + (F 8 * G 4)) + ((2 * F 9) * G 3))))
  | 3 => (((((F 0 * G 3) + (F 1 * G 2)) + (F 2 * G 1)) + (F 3 * G 0)) + (19 * ((((((F 4 * G 9) + (F 5 * G 8)) + (F 6 * G 7)) + (F 7 * G 6)) + (F 8 * G 5)) + (F 9 * G 4))))
  | 4 => ((((((F 0 * G 4) + ((2 * F 1) * G 3)) + (F 2 * G 2)) + ((2 * F 3) * G 1)) + (F 4 * G 0)) + (19 * ((((((2 * F 5) * G 9) + (F 6 * G 8)) + ((2 * F 7) * G 7)) + (F 8 * G 6)) + ((2 * F 9) * G 5))))
  | 5 => (((((((F 0 * G 5) + (F 1 * G 4)) + (F 2 * G 3)) + (F 3 * G 2)) + (F 4 * G 1)) + (F 5 * G 0)) + (19 * ((((F 6 * G 9) + (F 7 * G 8)) + (F 8 * G 7)) + (F 9 * G 6))))
  | 6 => ((((((((F 0 * G 6) + ((2 * F 1) * G 5)) + (F 2 * G 4)) + ((2 * F 3) * G 3)) + (F 4 * G 2)) + ((2 * F 5) * G 1)) + (F 6 * G 0)) + (19 * ((((2 * F 7) * G 9) + (F 8 * G 8)) + ((2 * F 9) * G 7))))
  | 7 => (((((((((F 0 * G 7) + (F 1 * G 6)) + (F 2 * G 5)) + (F 3 * G 4)) + (F 4 * G 3)) + (F 5 * G 2)) + (F 6 * G 1)) + (F 7 * G 0)) + (19 * ((F 8 * G 9) + (F 9 * G 8))))
  | 8 => ((((((((((F 0 * G 8) + ((2 * F 1) * G 7)) + (F 2 * G 6)) + ((2 * F 3) * G 5)) + (F 4 * G 4)) + ((2 * F 5) * G 3)) + (F 6 * G 2)) + ((2 * F 7) * G 1)) + (F 8 * G 0)) + (19 * ((2 * F 9) * G 9)))
  | _ => ((((((((((F 0 * G 9) + (F 1 * G 8)) + (F 2 * G 7)) + (F 3 * G 6)) + (F 4 * G 5)) + (F 5 * G 4)) + (F 6 * G 3)) + (F 7 * G 2)) + (F 8 * G 1)) + (F 9 * G 0))
def sqI (F : Nat → Int) : Nat → Int := fun i => match i with
  | 0 => ((F 0 * F 0) + (19 * ((((((2 * F 1) * (2 * F 9)) + ((2 * F 2) * F 8)) + ((2 * F 3) * (2 * F 7))) + ((2 * F 4) * F 6)) + (F 5 * (2 * F 5)))))
  | 1 => (((2 * F 0) * F 1) + (19 * (((((2 * F 2) * F 9) + ((2 * F 3) * F 8)) + ((2 * F 4) * F 7)) + ((2 * F 5) * F 6))))
  | 2 => ((((2 * F 0) * F 2) + ((2 * F 1) * F 1)) + (19 * (((((2 * F 3) * (2 * F 9)) + ((2 * F 4) * F 8)) + ((2 * F 5) * (2 * F 7))) + (F 6 * F 6))))
  | 3 => ((((2 * F 0) * F 3) + ((2 * F 1) * F 2)) + (19 * ((((2 * F 4) * F 9) + ((2 * F 5) * F 8)) + ((2 * F 6) * F 7))))
  | 4 => (((((2 * F 0) * F 4) + ((2 * F 1) * (2 * F 3))) + (F 2 * F 2)) + (19 * ((((2 * F 5) * (2 * F 9)) + ((2 * F 6) * F 8)) + (F 7 * (2 * F 7)))))
  | 5 => (((((2 * F 0) * F 5) + ((2 * F 1) * F 4)) + ((2 * F 2) * F 3)) + (19 * (((2 * F 6) * F 9) + ((2 * F 7) * F 8))))
  | 6 => ((((((2 * F 0) * F 6) + ((2 * F 1) * (2 * F 5))) + ((2 * F 2) * F 4)) + ((2 * F 3) * F 3)) + (19 * (((2 * F 7) * (2 * F 9)) + (F 8 * F 8))))
  | 7 => ((((((2 * F 0) * F 7) + ((2 * F 1) * F 6)) + ((2 * F 2) * F 5)) + ((2 * F 3) * F 4)) + (19 * ((2 * F 8) * F 9)))
  | 8 => (((((((2 * F 0) * F 8) + ((2 * F 1) * (2 * F 7))) + ((2 * F 2) * F 6)) + ((2 * F 3) * (2 * F 5))) + (F 4 * F 4)) + (19 * (F 9 * (2 * F 9))))
  | _ => ((((((2 * F 0) * F 9) + ((2 * F 1) * F 8)) + ((2 * F 2) * F 7)) + ((2 * F 3) * F 6)) + ((2 * F 4) * F 5))
def sqL (F : Nat → Int64) : Nat → Int64 := fun i => match i with
  | 0 => ((F 0 * F 0) + (19 * ((((((2 * F 1) * (2 * F 9)) + ((2 * F 2) * F 8)) + ((2 * F 3) * (2 * F 7))) + ((2 * F 4) * F 6)) + (F 5 * (2 * F 5)))))
  | 1 => (((2 * F 0) * F 1) + (19 * (((((2 * F 2) * F 9) + ((2 * F 3) * F 8)) + ((2 * F 4) * F 7)) + ((2 * F 5) * F 6))))
  | 2 => ((((2 * F 0) * F 2) + ((2 * F 1) * F 1)) + (19 * (((((2 * F 3) * (2 * F 9)) + ((2 * F 4) * F 8)) + ((2 * F 5) * (2 * F 7))) + (F 6 * F 6))))
  | 3 => ((((2 * F 0) * F 3) + ((2 * F 1) * F 2)) + (19 * ((((2 * F 4) * F 9) + ((2 * F 5) * F 8)) + ((2 * F 6) * F 7))))
  | 4 => (((((2 * F 0) * F 4) + ((2 * F 1) * (2 * F 3))) + (F 2 * F 2)) + (19 * ((((2 * F 5) * (2 * F 9)) + ((2 * F 6) * F 8)) + (F 7 * (2 * F 7)))))
  | 5 => (((((2 * F 0) * F 5) + ((2 * F 1) * F 4)) + ((2 * F 2) * F 3)) + (19 * (((2 * F 6) * F 9) + ((2 * F 7) * F 8))))
  | 6 => ((((((2 * F 0) * F 6) + ((2 * F 1) * (2 * F 5))) + ((2 * F 2) * F 4)) + ((2 * F 3) * F 3)) + (19 * (((2 * F 7) * (2 * F 9)) + (F 8 * F 8))))
  | 7 => ((((((2 * F 0) * F 7) + ((2 * F 1) * F 6)) + ((2 * F 2) * F 5)) + ((2 * F 3) * F 4)) + (19 * ((2 * F 8) * F 9)))
  | 8 => (((((((2 * F 0) * F 8) + ((2 * F 1) * (2 * F 7))) + ((2 * F 2) * F 6)) + ((2 * F 3) * (2 * F 5))) + (F 4 * F 4)) + (19 * (F 9 * (2 * F 9))))
  | _ => ((((((2 * F 0) * F 9) + ((2 * F 1) * F 8)) + ((2 * F 2) * F 7)) + ((2 * F 3) * F 6)) + ((2 * F 4) * F 5))
set_option maxRecDepth 100000 in
theorem tm_id0 (f0 f1 f2 f3 f4 f5 f6 f7 f8 f9 g0 g1 g2 g3 g4 g5 g6 g7 g8 g9 : Int) : ((f0 * g0) + (19 * ((((((((((2 * f1) * g9) + (f2 * g8)) + ((2 * f3) * g7)) + (f4 * g6)) + ((2 * f5) * g5)) + (f6 * g4)) + ((2 * f7) * g3)) + (f8 * g2)) + ((2 * f9) * g1)))) * 1 + (((f0 * g1) + (f1 * g0)) + (19 * ((((((((f2 * g9) + (f3 * g8)) + (f4 * g7)) + (f5 * g6)) + (f6 * g5)) + (f7 * g4)) + (f8 * g3)) + (f9 * g2)))) * 67108864 + ((((f0 * g2) + ((2 * f1) * g1)) + (f2 * g0)) + (19 * ((((((((2 * f3) * g9) + (f4 * g8)) + ((2 * f5) * g7)) + (f6 * g6)) + ((2 * f7) * g5)) + (f8 * g4)) + ((2 * f9) * g3)))) * 2251799813685248 + (((((f0 * g3) + (f1 * g2)) + (f2 * g1)) + (f3 * g0)) + (19 * ((((((f4 * g9) + (f5 * g8)) + (f6 * g7)) + (f7 * g6)) + (f8 * g5)) + (f9 * g4)))) * 151115727451828646838272 + ((((((f0 * g4) + ((2 * f1) * g3)) + (f2 * g2)) + ((2 * f3) * g1)) + (f4 * g0)) + (19 * ((((((2 * f5) * g9) + (f6 * g8)) + ((2 * f7) * g7)) + (f8 * g6)) + ((2 * f9) * g5)))) * 5070602400912917605986812821504 + (((((((f0 * g5) + (f1 * g4)) + (f2 * g3)) + (f3 * g2)) + (f4 * g1)) + (f5 * g0)) + (19 * ((((f6 * g9) + (f7 * g8)) + (f8 * g7)) + (f9 * g6)))) * 340282366920938463463374607431768211456 + ((((((((f0 * g6) + ((2 * f1) * g5)) + (f2 * g4)) + ((2 * f3) * g3)) + (f4 * g2)) + ((2 * f5) * g1)) + (f6 * g0)) + (19 * ((((2 * f7) * g9) + (f8 * g8)) + ((2 * f9) * g7)))) * 11417981541647679048466287755595961091061972992 + (((((((((f0 * g7) + (f1 * g6)) + (f2 * g5)) + (f3 * g4)) + (f4 * g3)) + (f5 * g2)) + (f6 * g1)) + (f7 * g0)) + (19 * ((f8 * g9) + (f9 * g8)))) * 766247770432944429179173513575154591809369561091801088 + ((((((((((f0 * g8) + ((2 * f1) * g7)) + (f2 * g6)) + ((2 * f3) * g5)) + (f4 * g4)) + ((2 * f5) * g3)) + (f6 * g2)) + ((2 * f7) * g1)) + (f8 * g0)) + (19 * ((2 * f9) * g9))) * 25711008708143844408671393477458601640355247900524685364822016 + ((((((((((f0 * g9) + (f1 * g8)) + (f2 * g7)) + (f3 * g6)) + (f4 * g5)) + (f5 * g4)) + (f6 * g3)) + (f7 * g2)) + (f8 * g1)) + (f9 * g0)) * 1725436586697640946858688965569256363112777243042596638790631055949824 = (f0 * 1 + f1 * 67108864 + f2 * 2251799813685248 + f3 * 151115727451828646838272 + f4 * 5070602400912917605986812821504 + f5 * 340282366920938463463374607431768211456 + f6 * 11417981541647679048466287755595961091061972992 + f7 * 766247770432944429179173513575154591809369561091801088 + f8 * 25711008708143844408671393477458601640355247900524685364822016 + f9 * 1725436586697640946858688965569256363112777243042596638790631055949824) * (g0 * 1 + g1 * 67108864 + g2 * 2251799813685248 + g3 * 151115727451828646838272 + g4 * 5070602400912917605986812821504 + g5 * 340282366920938463463374607431768211456 + g6 * 11417981541647679048466287755595961091061972992 + g7 * 766247770432944429179173513575154591809369561091801088 + g8 * 25711008708143844408671393477458601640355247900524685364822016 + g9 * 1725436586697640946858688965569256363112777243042596638790631055949824) - (2 * (f1 * g9) + 1 * (f2 * g8) + 67108864 * (f2 * g9) + 2 * (f3 * g7) + 67108864 * (f3 * g8) + 4503599627370496 * (f3 * g9) + 1 * (f4 * g6) + 67108864 * (f4 * g7) + 2251799813685248 * (f4 * g8) + 151115727451828646838272 * (f4 * g9) + 2 * (f5 * g5) + 67108864 * (f5 * g6) + 4503599627370496 * (f5 * g7) + 151115727451828646838272 * (f5 * g8) + 10141204801825835211973625643008 * (f5 * g9) + 1 * (f6 * g4) + 67108864 * (f6 * g5) + 2251799813685248 * (f6 * g6) + 151115727451828646838272 * (f6 * g7) + 5070602400912917605986812821504 * (f6 * g8) + 340282366920938463463374607431768211456 * (f6 * g9) + 2 * (f7 * g3) + 67108864 * (f7 * g4) + 4503599627370496 * (f7 * g5) + 151115727451828646838272 * (f7 * g6) + 10141204801825835211973625643008 * (f7 * g7) + 340282366920938463463374607431768211456 * (f7 * g8) + 22835963083295358096932575511191922182123945984 * (f7 * g9) + 1 * (f8 * g2) + 67108864 * (f8 * g3) + 2251799813685248 * (f8 * g4) + 151115727451828646838272 * (f8 * g5) + 5070602400912917605986812821504 * (f8 * g6) + 340282366920938463463374607431768211456 * (f8 * g7) + 11417981541647679048466287755595961091061972992 * (f8 * g8) + 766247770432944429179173513575154591809369561091801088 * (f8 * g9) + 2 * (f9 * g1) + 67108864 * (f9 * g2) + 4503599627370496 * (f9 * g3) + 151115727451828646838272 * (f9 * g4) + 10141204801825835211973625643008 * (f9 * g5) + 340282366920938463463374607431768211456 * (f9 * g6) + 22835963083295358096932575511191922182123945984 * (f9 * g7) + 766247770432944429179173513575154591809369561091801088 * (f9 * g8) + 51422017416287688817342786954917203280710495801049370729644032 * (f9 * g9)) * 57896044618658097711785492504343953926634992332820282019728792003956564819949 := by grind
theorem tm_id (F G : Nat → Int) : iF (fvI (tmI F G)) = iF (fvI F) * iF (fvI G) := by
  rw [← iF_mul]
  have h := tm_id0 (F 0) (F 1) (F 2) (F 3) (F 4) (F 5) (F 6) (F 7) (F 8) (F 9) (G 0) (G 1) (G 2) (G 3) (G 4) (G 5) (G 6) (G 7) (G 8) (G 9)
  exact (congrArg iF (show fvI (tmI F G) = fvI F * fvI G - _ * (pP : Int) from h)).trans (iF_mod _ _)
set_option maxRecDepth 100000 in
theorem sq_id0 (f0 f1 f2 f3 f4 f5 f6 f7 f8 f9 : Int) : ((f0 * f0) + (19 * ((((((2 * f1) * (2 * f9)) + ((2 * f2) * f8)) + ((2 * f3) * (2 * f7))) + ((2 * f4) * f6)) + (f5 * (2 * f5))))) * 1 + (((2 * f0) * f1) + (19 * (((((2 * f2) * f9) + ((2 * f3) * f8)) + ((2 * f4) * f7)) + ((2 * f5) * f6)))) * 67108864 + ((((2 * f0) * f2) + ((2 * f1) * f1)) + (19 * (((((2 * f3) * (2 * f9)) + ((2 * f4) * f8)) + ((2 * f5) * (2 * f7))) + (f6 * f6)))) * 2251799813685248 + ((((2 * f0) * f3) + ((2 * f1) * f2)) + (19 * ((((2 * f4) * f9) + ((2 * f5) * f8)) + ((2 * f6) * f7)))) * 151115727451828646838272 + (((((2 * f0) * f4) + ((2 * f1) * (2 * f3))) + (f2 * f2)) + (19 * ((((2 * f5) * (2 * f9)) + ((2 * f6) * f8)) + (f7 * (2 * f7))))) * 5070602400912917605986812821504 + (((((2 * f0) * f5) + ((2 * f1) * f4)) + ((2 * f2) * f3)) + (19 * (((2 * f6) * f9) + ((2 * f7) * f8)))) * 340282366920938463463374607431768211456 + ((((((2 * f0) * f6) + ((2 * f1) * (2 * f5))) + ((2 * f2) * f4)) + ((2 * f3) * f3)) + (19 * (((2 * f7) * (2 * f9)) + (f8 * f8)))) * 11417981541647679048466287755595961091061972992 + ((((((2 * f0) * f7) + ((2 * f1) * f6)) + ((2 * f2) * f5)) + ((2 * f3) * f4)) + (19 * ((2 * f8) * f9))) * 766247770432944429179173513575154591809369561091801088 + (((((((2 * f0) * f8) + ((2 * f1) * (2 * f7))) + ((2 * f2) * f6)) + ((2 * f3) * (2 * f5))) + (f4 * f4)) + (19 * (f9 * (2 * f9)))) * 25711008708143844408671393477458601640355247900524685364822016 + ((((((2 * f0) * f9) + ((2 * f1) * f8)) + ((2 * f2) * f7)) + ((2 * f3) * f6)) + ((2 * f4) * f5)) * 1725436586697640946858688965569256363112777243042596638790631055949824 = (f0 * 1 + f1 * 67108864 + f2 * 2251799813685248 + f3 * 151115727451828646838272 + f4 * 5070602400912917605986812821504 + f5 * 340282366920938463463374607431768211456 + f6 * 11417981541647679048466287755595961091061972992 + f7 * 766247770432944429179173513575154591809369561091801088 + f8 * 25711008708143844408671393477458601640355247900524685364822016 + f9 * 1725436586697640946858688965569256363112777243042596638790631055949824) * (f0 * 1 + f1 * 67108864 + f2 * 2251799813685248 + f3 * 151115727451828646838272 + f4 * 5070602400912917605986812821504 + f5 * 340282366920938463463374607431768211456 + f6 * 11417981541647679048466287755595961091061972992 + f7 * 766247770432944429179173513575154591809369561091801088 + f8 * 25711008708143844408671393477458601640355247900524685364822016 + f9 * 1725436586697640946858688965569256363112777243042596638790631055949824) - (2 * (f1 * f9) + 1 * (f2 * f8) + 67108864 * (f2 * f9) + 2 * (f3 * f7) + 67108864 * (f3 * f8) + 4503599627370496 * (f3 * f9) + 1 * (f4 * f6) + 67108864 * (f4 * f7) + 2251799813685248 * (f4 * f8) + 151115727451828646838272 * (f4 * f9) + 2 * (f5 * f5) + 67108864 * (f5 * f6) + 4503599627370496 * (f5 * f7) + 151115727451828646838272 * (f5 * f8) + 10141204801825835211973625643008 * (f5 * f9) + 1 * (f6 * f4) + 67108864 * (f6 * f5) + 2251799813685248 * (f6 * f6) + 151115727451828646838272 * (f6 * f7) + 5070602400912917605986812821504 * (f6 * f8) + 340282366920938463463374607431768211456 * (f6 * f9) + 2 * (f7 * f3) + 67108864 * (f7 * f4) + 4503599627370496 * (f7 * f5) + 151115727451828646838272 * (f7 * f6) + 10141204801825835211973625643008 * (f7 * f7) + 340282366920938463463374607431768211456 * (f7 * f8) + 22835963083295358096932575511191922182123945984 * (f7 * f9) + 1 * (f8 * f2) + 67108864 * (f8 * f3) + 2251799813685248 * (f8 * f4) + 151115727451828646838272 * (f8 * f5) + 5070602400912917605986812821504 * (f8 * f6) + 340282366920938463463374607431768211456 * (f8 * f7) + 11417981541647679048466287755595961091061972992 * (f8 * f8) + 766247770432944429179173513575154591809369561091801088 * (f8 * f9) + 2 * (f9 * f1) + 67108864 * (f9 * f2) + 4503599627370496 * (f9 * f3) + 151115727451828646838272 * (f9 * f4) + 10141204801825835211973625643008 * (f9 * f5) + 340282366920938463463374607431768211456 * (f9 * f6) + 22835963083295358096932575511191922182123945984 * (f9 * f7) + 766247770432944429179173513575154591809369561091801088 * (f9 * f8) + 51422017416287688817342786954917203280710495801049370729644032 * (f9 * f9)) * 57896044618658097711785492504343953926634992332820282019728792003956564819949 := by grind
theorem sq_id (F : Nat → Int) : iF (fvI (sqI F)) = iF (fvI F) * iF (fvI F) := by
  rw [← iF_mul]
  have h := sq_id0 (F 0) (F 1) (F 2) (F 3) (F 4) (F 5) (F 6) (F 7) (F 8) (F 9)
  exact (congrArg iF (show fvI (sqI F) = fvI F * fvI F - _ * (pP : Int) from h)).trans (iF_mod _ _)
theorem bd_at {n : Int} {Z : Nat → Int} (h : bd n Z) : (-(n * 33685504) ≤ Z 0 ∧ Z 0 ≤ n * 33685504) ∧ (-(n * 16908288) ≤ Z 1 ∧ Z 1 ≤ n * 16908288) ∧ (-(n * 33685504) ≤ Z 2 ∧ Z 2 ≤ n * 33685504) ∧ (-(n * 16908288) ≤ Z 3 ∧ Z 3 ≤ n * 16908288) ∧ (-(n * 33685504) ≤ Z 4 ∧ Z 4 ≤ n * 33685504) ∧ (-(n * 16908288) ≤ Z 5 ∧ Z 5 ≤ n * 16908288) ∧ (-(n * 33685504) ≤ Z 6 ∧ Z 6 ≤ n * 33685504) ∧ (-(n * 16908288) ≤ Z 7 ∧ Z 7 ≤ n * 16908288) ∧ (-(n * 33685504) ≤ Z 8 ∧ Z 8 ≤ n * 33685504) ∧ (-(n * 16908288) ≤ Z 9 ∧ Z 9 ≤ n * 16908288) := by
  exact ⟨h 0 (by decide), h 1 (by decide), h 2 (by decide), h 3 (by decide), h 4 (by decide), h 5 (by decide), h 6 (by decide), h 7 (by decide), h 8 (by decide), h 9 (by decide)⟩
set_option maxHeartbeats 4000000 in
theorem tm_bd {n m : Int} {F G : Nat → Int} (hF : bd n F) (hG : bd m G) (hn : n * m ≤ 16) : ∀ i, i < 10 → -4611686018427387904 ≤ tmI F G i ∧ tmI F G i ≤ 4611686018427387904 := by
  obtain ⟨a0, a1, a2, a3, a4, a5, a6, a7, a8, a9⟩ := bd_at hF
  obtain ⟨b0, b1, b2, b3, b4, b5, b6, b7, b8, b9⟩ := bd_at hG
  intro i hi
  rcases (show i = 0 ∨ i = 1 ∨ i = 2 ∨ i = 3 ∨ i = 4 ∨ i = 5 ∨ i = 6 ∨ i = 7 ∨ i = 8 ∨ i = 9 by omega) with rfl | rfl | rfl | rfl | rfl | rfl | rfl | rfl | rfl | rfl
  · have p00 := mb16 a0 b0 hn (by decide)
    have p19 := mb16 a1 b9 hn (by decide)
    have p28 := mb16 a2 b8 hn (by decide)
    have p37 := mb16 a3 b7 hn (by decide)
    have p46 := mb16 a4 b6 hn (by decide)
    have p55 := mb16 a5 b5 hn (by decide)
    have p64 := mb16 a6 b4 hn (by decide)
    have p73 := mb16 a7 b3 hn (by decide)
    have p82 := mb16 a8 b2 hn (by decide)
    have p91 := mb16 a9 b1 hn (by decide)
    show -4611686018427387904 ≤ ((F 0 * G 0) + (19 * ((((((((((2 * F 1) * G 9) + (F 2 * G 8)) + ((2 * F 3) * G 7)) + (F 4 * G 6)) + ((2 * F 5) * G 5)) + (F 6 * G 4)) + ((2 * F 7) * G 3)) + (F 8 * G 2)) + ((2 * F 9) * G 1)))) ∧ ((F 0 * G 0) + (19 * ((((((((((2 * F 1) * G 9) + (F 2 * G 8)) + ((2 * F 3) * G 7)) + (F 4 * G 6)) + ((2 * F 5) * G 5)) + (F 6 * G 4)) + ((2 * F 7) * G 3)) + (F 8 * G 2)) + ((2 * F 9) * G 1)))) ≤ 4611686018427387904
    rw [Int.mul_assoc 2 (F 1) (G 9)]
    rw [Int.mul_assoc 2 (F 3) (G 7)]
    rw [Int.mul_assoc 2 (F 5) (G 5)]
    rw [Int.mul_assoc 2 (F 7) (G 3)]
    rw [Int.mul_assoc 2 (F 9) (G 1)]
    omega
  · have p01 := mb16 a0 b1 hn (by decide)
    have p10 := mb16 a1 b0 hn (by decide)
    have p29 := mb16 a2 b9 hn (by decide)
    have p38 := mb16 a3 b8 hn (by decide)
    have p47 := mb16 a4 b7 hn (by decide)
    have p56 := mb16 a5 b6 hn (by decide)
    have p65 := mb16 a6 b5 hn (by decide)
    have p74 := mb16 a7 b4 hn (by decide)
    have p83 := mb16 a8 b3 hn (by decide)
    have p92 := mb16 a9 b2 hn (by decide)
    show -4611686018427387904 ≤ (((F 0 * G 1) + (F 1 * G 0)) + (19 * ((((((((F 2 * G 9) + (F 3 * G 8)) + (F 4 * G 7)) + (F 5 * G 6)) + (F 6 * G 5)) + (F 7 * G 4)) + (F 8 * G 3)) + (F 9 * G 2)))) ∧ (((F 0 * G 1) + (F 1 * G 0)) + (19 * ((((((((F 2 * G 9) + (F 3 * G 8)) + (F 4 * G 7)) + (F 5 * G 6)) + (F 6 * G 5)) + (F 7 * G 4)) + (F 8 * G 3)) + (F 9 * G 2)))) ≤ 4611686018427387904
    omega
  · have p02 := mb16 a0 b2 hn (by decide)
    have p11 := mb16 a1 b1 hn (by decide)
    have p20 := mb16 a2 b0 hn (by decide)
    have p39 := mb16 a3 b9 hn (by decide)
    have p48 := mb16 a4 b8 hn (by decide)
    have p57 := mb16 a5 b7 hn (by decide)
    have p66 := mb16 a6 b6 hn (by decide)
    have p75 := mb16 a7 b5 hn (by decide)
    have p84 := mb16 a8 b4 hn (by decide)
    have p93 := mb16 a9 b3 hn (by decide)
    show -4611686018427387904 ≤ ((((F 0 * G 2) + ((2 * F 1) * G 1)) + (F 2 * G 0)) + (19 * ((((((((2 * F 3) * G 9) + (F 4 * G 8)) + ((2 * F 5) * G 7)) + (F 6 * G 6)) + ((2 * F 7) * G 5)) + (F 8 * G 4)) + ((2 * F 9) * G 3)))) ∧ ((((F 0 * G 2) + ((2 * F 1) * G 1)) + (F 2 * G 0)) + (19 * ((((((((2 * F 3) * G 9) + (F 4 * G 8)) + ((2 * F 5) * G 7)) + (F 6 * G 6)) + ((2 * F 7) * G 5)) + (F 8 * G 4)) + ((2 * F 9) * G 3)))) ≤ 4611686018427387904
    rw [Int.mul_assoc 2 (F 1) (G 1)]
    rw [Int.mul_assoc 2 (F 3) (G 9)]
    rw [Int.mul_assoc 2 (F 5) (G 7)]
    rw [Int.mul_assoc 2 (F 7) (G 5)]
    rw [Int.mul_assoc 2 (F 9) (G 3)]
    omega
  · have p03 := mb16 a0 b3 hn (by decide)
    have p12 := mb16 a1 b2 hn (by decide)
    have p21 := mb16 a2 b1 hn (by decide)
    have p30 := mb16 a3 b0 hn (by decide)
    have p49 := mb16 a4 b9 hn (by decide)
    have p58 := mb16 a5 b8 hn (by decide)
    have p67 := mb16 a6 b7 hn (by decide)
    have p76 := mb16 a7 b6 hn (by decide)
    have p85 := mb16 a8 b5 hn (by decide)
    have p94 := mb16 a9 b4 hn (by decide)
    show -4611686018427387904 ≤ (((((F 0 * G 3) + (F 1 * G 2)) + (F 2 * G 1)) + (F 3 * G 0)) + (19 * ((((((F 4 * G 9) + (F 5 * G 8)) + (F 6 * G 7)) + (F 7 * G 6)) + (F 8 * G 5)) + (F 9 * G 4)))) ∧ (((((F 0 * G 3) + (F 1 * G 2)) + (F 2 * G 1)) + (F 3 * G 0)) + (19 * ((((((F 4 * G 9) + (F 5 * G 8)) + (F 6 * G 7)) + (F 7 * G 6)) + (F 8 * G 5)) + (F 9 * G 4)))) ≤ 4611686018427387904
    omega
  · have p04 := mb16 a0 b4 hn (by decide)
    have p13 := mb16 a1 b3 hn (by decide)
    have p22 := mb16 a2 b2 hn (by decide)
    have p31 := mb16 a3 b1 hn (by decide)
    have p40 := mb16 a4 b0 hn (by decide)
    have p59 := mb16 a5 b9 hn (by decide)
    have p68 := mb16 a6 b8 hn (by decide)
    have p77 := mb16 a7 b7 hn (by decide)
    have p86 := mb16 a8 b6 hn (by decide)
    have p95 := mb16 a9 b5 hn (by decide)
    show -4611686018427387904 ≤ ((((((F 0 * G 4) + ((2 * F 1) * G 3)) + (F 2 * G 2)) + ((2 * F 3) * G 1)) + (F 4 * G 0)) + (19 * ((((((2 * F 5) * G 9) + (F 6 * G 8)) + ((2 * F 7) * G 7)) + (F 8 * G 6)) + ((2 * F 9) * G 5)))) ∧ ((((((F 0 * G 4) + ((2 * F 1) * G 3)) + (F 2 * G 2)) + ((2 * F 3) * G 1)) + (F 4 * G 0)) + (19 * ((((((2 * F 5) * G 9) + (F 6 * G 8)) + ((2 * F 7) * G 7)) + (F 8 * G 6)) + ((2 * F 9) * G 5)))) ≤ 4611686018427387904
    rw [Int.mul_assoc 2 (F 1) (G 3)]
    rw [Int.mul_assoc 2 (F 3) (G 1)]
    rw [Int.mul_assoc 2 (F 5) (G 9)]
    rw [Int.mul_assoc 2 (F 7) (G 7)]
    rw [Int.mul_assoc 2 (F 9) (G 5)]
    omega
  · have p05 := mb16 a0 b5 hn (by decide)
    have p14 := mb16 a1 b4 hn (by decide)
    have p23 := mb16 a2 b3 hn (by decide)
    have p32 := mb16 a3 b2 hn (by decide)
    have p41 := mb16 a4 b1 hn (by decide)
    have p50 := mb16 a5 b0 hn (by decide)
    have p69 := mb16 a6 b9 hn (by decide)
    have p78 := mb16 a7 b8 hn (by decide)
    have p87 := mb16 a8 b7 hn (by decide)
    have p96 := mb16 a9 b6 hn (by decide)
    show -4611686018427387904 ≤ (((((((F 0 * G 5) + (F 1 * G 4)) + (F 2 * G 3)) + (F 3 * G 2)) + (F 4 * G 1)) + (F 5 * G 0)) + (19 * ((((F 6 * G 9) + (F 7 * G 8)) + (F 8 * G 7)) + (F 9 * G 6)))) ∧ (((((((F 0 * G 5) + (F 1 * G 4)) + (F 2 * G 3)) + (F 3 * G 2)) + (F 4 * G 1)) + (F 5 * G 0)) + (19 * ((((F 6 * G 9) + (F 7 * G 8)) + (F 8 * G 7)) + (F 9 * G 6)))) ≤ 4611686018427387904
    omega
  · have p06 := mb16 a0 b6 hn (by decide)
    have p15 := mb16 a1 b5 hn (by decide)
    have p24 := mb16 a2 b4 hn (by decide)
    have p33 := mb16 a3 b3 hn (by decide)
    have p42 := mb16 a4 b2 hn (by decide)
    have p51 := mb16 a5 b1 hn (by decide)
    have p60 := mb16 a6 b0 hn (by decide)
    have p79 := mb16 a7 b9 hn (by decide)
    have p88 := mb16 a8 b8 hn (by decide)
    have p97 := mb16 a9 b7 hn (by decide)
    show -4611686018427387904 ≤ ((((((((F 0 * G 6) + ((2 * F 1) * G 5)) + (F 2 * G 4)) + ((2 * F 3) * G 3)) + (F 4 * G 2)) + ((2 * F 5) * G 1)) + (F 6 * G 0)) + (19 * ((((2 * F 7) * G 9) + (F 8 * G 8)) + ((2 * F 9) * G 7)))) ∧ ((((((((F 0 * G 6) + ((2 * F 1) * G 5)) + (F 2 * G 4)) + ((2 * F 3) * G 3)) + (F 4 * G 2)) + ((2 * F 5) * G 1)) + (F 6 * G 0)) + (19 * ((((2 * F 7) * G 9) + (F 8 * G 8)) + ((2 * F 9) * G 7)))) ≤ 4611686018427387904
    rw [Int.mul_assoc 2 (F 1) (G 5)]
    rw [Int.mul_assoc 2 (F 3) (G 3)]
    rw [Int.mul_assoc 2 (F 5) (G 1)]
    rw [Int.mul_assoc 2 (F 7) (G 9)]
    rw [Int.mul_assoc 2 (F 9) (G 7)]
    omega
  · have p07 := mb16 a0 b7 hn (by decide)
    have p16 := mb16 a1 b6 hn (by decide)
    have p25 := mb16 a2 b5 hn (by decide)
    have p34 := mb16 a3 b4 hn (by decide)
    have p43 := mb16 a4 b3 hn (by decide)
    have p52 := mb16 a5 b2 hn (by decide)
    have p61 := mb16 a6 b1 hn (by decide)
    have p70 := mb16 a7 b0 hn (by decide)
    have p89 := mb16 a8 b9 hn (by decide)
    have p98 := mb16 a9 b8 hn (by decide)
    show -4611686018427387904 ≤ (((((((((F 0 * G 7) + (F 1 * G 6)) + (F 2 * G 5)) + (F 3 * G 4)) + (F 4 * G 3)) + (F 5 * G 2)) + (F 6 * G 1)) + (F 7 * G 0)) + (19 * ((F 8 * G 9) + (F 9 * G 8)))) ∧ (((((((((F 0 * G 7) + (F 1 * G 6)) + (F 2 * G 5)) + (F 3 * G 4)) + (F 4 * G 3)) + (F 5 * G 2)) + (F 6 * G 1)) + (F 7 * G 0)) + (19 * ((F 8 * G 9) + (F 9 * G 8)))) ≤ 4611686018427387904
    omega
  · have p08 := mb16 a0 b8 hn (by decide)
    have p17 := mb16 a1 b7 hn (by decide)
    have p26 := mb16 a2 b6 hn (by decide)
    have p35 := mb16 a3 b5 hn (by decide)
    have p44 := mb16 a4 b4 hn (by decide)
    have p53 := mb16 a5 b3 hn (by decide)
    have p62 := mb16 a6 b2 hn (by decide)
    have p71 := mb16 a7 b1 hn (by decide)
    have p80 := mb16 a8 b0 hn (by decide)
    have p99 := mb16 a9 b9 hn (by decide)
    show -4611686018427387904 ≤ ((((((((((F 0 * G 8) + ((2 * F 1) * G 7)) + (F 2 * G 6)) + ((2 * F 3) * G 5)) + (F 4 * G 4)) + ((2 * F 5) * G 3)) + (F 6 * G 2)) + ((2 * F 7) * G 1)) + (F 8 * G 0)) + (19 * ((2 * F 9) * G 9))) ∧ ((((((((((F 0 * G 8) + ((2 * F 1) * G 7)) + (F 2 * G 6)) + ((2 * F 3) * G 5)) + (F 4 * G 4)) + ((2 * F 5) * G 3)) + (F 6 * G 2)) + ((2 * F 7) * G 1)) + (F 8 * G 0)) + (19 * ((2 * F 9) * G 9))) ≤ 4611686018427387904
    rw [Int.mul_assoc 2 (F 1) (G 7)]
    rw [Int.mul_assoc 2 (F 3) (G 5)]
    rw [Int.mul_assoc 2 (F 5) (G 3)]
    rw [Int.mul_assoc 2 (F 7) (G 1)]
    rw [Int.mul_assoc 2 (F 9) (G 9)]
    omega
  · have p09 := mb16 a0 b9 hn (by decide)
    have p18 := mb16 a1 b8 hn (by decide)
    have p27 := mb16 a2 b7 hn (by decide)
    have p36 := mb16 a3 b6 hn (by decide)
    have p45 := mb16 a4 b5 hn (by decide)
    have p54 := mb16 a5 b4 hn (by decide)
    have p63 := mb16 a6 b3 hn (by decide)
    have p72 := mb16 a7 b2 hn (by decide)
    have p81 := mb16 a8 b1 hn (by decide)
    have p90 := mb16 a9 b0 hn (by decide)
    show -4611686018427387904 ≤ ((((((((((F 0 * G 9) + (F 1 * G 8)) + (F 2 * G 7)) + (F 3 * G 6)) + (F 4 * G 5)) + (F 5 * G 4)) + (F 6 * G 3)) + (F 7 * G 2)) + (F 8 * G 1)) + (F 9 * G 0)) ∧ ((((((((((F 0 * G 9) + (F 1 * G 8)) + (F 2 * G 7)) + (F 3 * G 6)) + (F 4 * G 5)) + (F 5 * G 4)) + (F 6 * G 3)) + (F 7 * G 2)) + (F 8 * G 1)) + (F 9 * G 0)) ≤ 4611686018427387904
    omega
set_option maxHeartbeats 4000000 in
theorem sq_bd {n : Int} {F : Nat → Int} (hF : bd n F) (hn : n * n ≤ 16) : ∀ i, i < 10 → -4611686018427387904 ≤ sqI F i ∧ sqI F i ≤ 4611686018427387904 := by
  obtain ⟨a0, a1, a2, a3, a4, a5, a6, a7, a8, a9⟩ := bd_at hF
  intro i hi
  rcases (show i = 0 ∨ i = 1 ∨ i = 2 ∨ i = 3 ∨ i = 4 ∨ i = 5 ∨ i = 6 ∨ i = 7 ∨ i = 8 ∨ i = 9 by omega) with rfl | rfl | rfl | rfl | rfl | rfl | rfl | rfl | rfl | rfl
  · have p00 := mb16 a0 a0 hn (by decide)
    have p19 := mb16 a1 a9 hn (by decide)
    have p28 := mb16 a2 a8 hn (by decide)
    have p37 := mb16 a3 a7 hn (by decide)
    have p46 := mb16 a4 a6 hn (by decide)
    have p55 := mb16 a5 a5 hn (by decide)
    show -4611686018427387904 ≤ ((F 0 * F 0) + (19 * ((((((2 * F 1) * (2 * F 9)) + ((2 * F 2) * F 8)) + ((2 * F 3) * (2 * F 7))) + ((2 * F 4) * F 6)) + (F 5 * (2 * F 5))))) ∧ ((F 0 * F 0) + (19 * ((((((2 * F 1) * (2 * F 9)) + ((2 * F 2) * F 8)) + ((2 * F 3) * (2 * F 7))) + ((2 * F 4) * F 6)) + (F 5 * (2 * F 5))))) ≤ 4611686018427387904
    rw [show (2 * F 1) * (2 * F 9) = 4 * (F 1 * F 9) from by rw [Int.mul_assoc, Int.mul_left_comm (F 1), ← Int.mul_assoc]; rfl, Int.mul_assoc 2 (F 2) (F 8), show (2 * F 3) * (2 * F 7) = 4 * (F 3 * F 7) from by rw [Int.mul_assoc, Int.mul_left_comm (F 3), ← Int.mul_assoc]; rfl, Int.mul_assoc 2 (F 4) (F 6), Int.mul_left_comm (F 5) 2 (F 5)]
    omega
  · have p01 := mb16 a0 a1 hn (by decide)
    have p29 := mb16 a2 a9 hn (by decide)
    have p38 := mb16 a3 a8 hn (by decide)
    have p47 := mb16 a4 a7 hn (by decide)
    have p56 := mb16 a5 a6 hn (by decide)
    show -4611686018427387904 ≤ (((2 * F 0) * F 1) + (19 * (((((2 * F 2) * F 9) + ((2 * F 3) * F 8)) + ((2 * F 4) * F 7)) + ((2 * F 5) * F 6)))) ∧ (((2 * F 0) * F 1) + (19 * (((((2 * F 2) * F 9) + ((2 * F 3) * F 8)) + ((2 * F 4) * F 7)) + ((2 * F 5) * F 6)))) ≤ 4611686018427387904
    rw [Int.mul_assoc 2 (F 0) (F 1), Int.mul_assoc 2 (F 2) (F 9), Int.mul_assoc 2 (F 3) (F 8), Int.mul_assoc 2 (F 4) (F 7), Int.mul_assoc 2 (F 5) (F 6)]
    omega
  · have p02 := mb16 a0 a2 hn (by decide)
    have p11 := mb16 a1 a1 hn (by decide)
    have p39 := mb16 a3 a9 hn (by decide)
    have p48 := mb16 a4 a8 hn (by decide)
    have p57 := mb16 a5 a7 hn (by decide)
    have p66 := mb16 a6 a6 hn (by decide)
    show -4611686018427387904 ≤ ((((2 * F 0) * F 2) + ((2 * F 1) * F 1)) + (19 * (((((2 * F 3) * (2 * F 9)) + ((2 * F 4) * F 8)) + ((2 * F 5) * (2 * F 7))) + (F 6 * F 6)))) ∧ ((((2 * F 0) * F 2) + ((2 * F 1) * F 1)) + (19 * (((((2 * F 3) * (2 * F 9)) + ((2 * F 4) * F 8)) + ((2 * F 5) * (2 * F 7))) + (F 6 * F 6)))) ≤ 4611686018427387904
    rw [Int.mul_assoc 2 (F 0) (F 2), Int.mul_assoc 2 (F 1) (F 1), show (2 * F 3) * (2 * F 9) = 4 * (F 3 * F 9) from by rw [Int.mul_assoc, Int.mul_left_comm (F 3), ← Int.mul_assoc]; rfl, Int.mul_assoc 2 (F 4) (F 8), show (2 * F 5) * (2 * F 7) = 4 * (F 5 * F 7) from by rw [Int.mul_assoc, Int.mul_left_comm (F 5), ← Int.mul_assoc]; rfl]
    omega
  · have p03 := mb16 a0 a3 hn (by decide)
    have p12 := mb16 a1 a2 hn (by decide)
    have p49 := mb16 a4 a9 hn (by decide)
    have p58 := mb16 a5 a8 hn (by decide)
    have p67 := mb16 a6 a7 hn (by decide)
    show -4611686018427387904 ≤ ((((2 * F 0) * F 3) + ((2 * F 1) * F 2)) + (19 * ((((2 * F 4) * F 9) + ((2 * F 5) * F 8)) + ((2 * F 6) * F 7)))) ∧ ((((2 * F 0) * F 3) + ((2 * F 1) * F 2)) + (19 * ((((2 * F 4) * F 9) + ((2 * F 5) * F 8)) + ((2 * F 6) * F 7)))) ≤ 4611686018427387904
    rw [Int.mul_assoc 2 (F 0) (F 3), Int.mul_assoc 2 (F 1) (F 2), Int.mul_assoc 2 (F 4) (F 9), Int.mul_assoc 2 (F 5) (F 8), Int.mul_assoc 2 (F 6) (F 7)]
    omega
  · have p04 := mb16 a0 a4 hn (by decide)
    have p13 := mb16 a1 a3 hn (by decide)
    have p22 := mb16 a2 a2 hn (by decide)
    have p59 := mb16 a5 a9 hn (by decide)
    have p68 := mb16 a6 a8 hn (by decide)
    have p77 := mb16 a7 a7 hn (by decide)
    show -4611686018427387904 ≤ (((((2 * F 0) * F 4) + ((2 * F 1) * (2 * F 3))) + (F 2 * F 2)) + (19 * ((((2 * F 5) * (2 * F 9)) + ((2 * F 6) * F 8)) + (F 7 * (2 * F 7))))) ∧ (((((2 * F 0) * F 4) + ((2 * F 1) * (2 * F 3))) + (F 2 * F 2)) + (19 * ((((2 * F 5) * (2 * F 9)) + ((2 * F 6) * F 8)) + (F 7 * (2 * F 7))))) ≤ 4611686018427387904
    rw [Int.mul_assoc 2 (F 0) (F 4), show (2 * F 1) * (2 * F 3) = 4 * (F 1 * F 3) from by rw [Int.mul_assoc, Int.mul_left_comm (F 1), ← Int.mul_assoc]; rfl, show (2 * F 5) * (2 * F 9) = 4 * (F 5 * F 9) from by rw [Int.mul_assoc, Int.mul_left_comm (F 5), ← Int.mul_assoc]; rfl, Int.mul_assoc 2 (F 6) (F 8), Int.mul_left_comm (F 7) 2 (F 7)]
    omega
  · have p05 := mb16 a0 a5 hn (by decide)
    have p14 := mb16 a1 a4 hn (by decide)
    have p23 := mb16 a2 a3 hn (by decide)
    have p69 := mb16 a6 a9 hn (by decide)
    have p78 := mb16 a7 a8 hn (by decide)
    show -4611686018427387904 ≤ (((((2 * F 0) * F 5) + ((2 * F 1) * F 4)) + ((2 * F 2) * F 3)) + (19 * (((2 * F 6) * F 9) + ((2 * F 7) * F 8)))) ∧ (((((2 * F 0) * F 5) + ((2 * F 1) * F 4)) + ((2 * F 2) * F 3)) + (19 * (((2 * F 6) * F 9) + ((2 * F 7) * F 8)))) ≤ 4611686018427387904
    rw [Int.mul_assoc 2 (F 0) (F 5), Int.mul_assoc 2 (F 1) (F 4), Int.mul_assoc 2 (F 2) (F 3), Int.mul_assoc 2 (F 6) (F 9), Int.mul_assoc 2 (F 7) (F 8)]
    omega
  · have p06 := mb16 a0 a6 hn (by decide)
    have p15 := mb16 a1 a5 hn (by decide)
    have p24 := mb16 a2 a4 hn (by decide)
    have p33 := mb16 a3 a3 hn (by decide)
    have p79 := mb16 a7 a9 hn (by decide)
    have p88 := mb16 a8 a8 hn (by decide)
    show -4611686018427387904 ≤ ((((((2 * F 0) * F 6) + ((2 * F 1) * (2 * F 5))) + ((2 * F 2) * F 4)) + ((2 * F 3) * F 3)) + (19 * (((2 * F 7) * (2 * F 9)) + (F 8 * F 8)))) ∧ ((((((2 * F 0) * F 6) + ((2 * F 1) * (2 * F 5))) + ((2 * F 2) * F 4)) + ((2 * F 3) * F 3)) + (19 * (((2 * F 7) * (2 * F 9)) + (F 8 * F 8)))) ≤ 4611686018427387904
    rw [Int.mul_assoc 2 (F 0) (F 6), show (2 * F 1) * (2 * F 5) = 4 * (F 1 * F 5) from by rw [Int.mul_assoc, Int.mul_left_comm (F 1), ← Int.mul_assoc]; rfl, Int.mul_assoc 2 (F 2) (F 4), Int.mul_assoc 2 (F 3) (F 3), show (2 * F 7) * (2 * F 9) = 4 * (F 7 * F 9) from by rw [Int.mul_assoc, Int.mul_left_comm (F 7), ← Int.mul_assoc]; rfl]
    omega
  · have p07 := mb16 a0 a7 hn (by decide)
    have p16 := mb16 a1 a6 hn (by decide)
    have p25 := mb16 a2 a5 hn (by decide)
    have p34 := mb16 a3 a4 hn (by decide)
    have p89 := mb16 a8 a9 hn (by decide)
    show -4611686018427387904 ≤ ((((((2 * F 0) * F 7) + ((2 * F 1) * F 6)) + ((2 * F 2) * F 5)) + ((2 * F 3) * F 4)) + (19 * ((2 * F 8) * F 9))) ∧ ((((((2 * F 0) * F 7) + ((2 * F 1) * F 6)) + ((2 * F 2) * F 5)) + ((2 * F 3) * F 4)) + (19 * ((2 * F 8) * F 9))) ≤ 4611686018427387904
    rw [Int.mul_assoc 2 (F 0) (F 7), Int.mul_assoc 2 (F 1) (F 6), Int.mul_assoc 2 (F 2) (F 5), Int.mul_assoc 2 (F 3) (F 4), Int.mul_assoc 2 (F 8) (F 9)]
    omega
  · have p08 := mb16 a0 a8 hn (by decide)
    have p17 := mb16 a1 a7 hn (by decide)
    have p26 := mb16 a2 a6 hn (by decide)
    have p35 := mb16 a3 a5 hn (by decide)
    have p44 := mb16 a4 a4 hn (by decide)
    have p99 := mb16 a9 a9 hn (by decide)
    show -4611686018427387904 ≤ (((((((2 * F 0) * F 8) + ((2 * F 1) * (2 * F 7))) + ((2 * F 2) * F 6)) + ((2 * F 3) * (2 * F 5))) + (F 4 * F 4)) + (19 * (F 9 * (2 * F 9)))) ∧ (((((((2 * F 0) * F 8) + ((2 * F 1) * (2 * F 7))) + ((2 * F 2) * F 6)) + ((2 * F 3) * (2 * F 5))) + (F 4 * F 4)) + (19 * (F 9 * (2 * F 9)))) ≤ 4611686018427387904
    rw [Int.mul_assoc 2 (F 0) (F 8), show (2 * F 1) * (2 * F 7) = 4 * (F 1 * F 7) from by rw [Int.mul_assoc, Int.mul_left_comm (F 1), ← Int.mul_assoc]; rfl, Int.mul_assoc 2 (F 2) (F 6), show (2 * F 3) * (2 * F 5) = 4 * (F 3 * F 5) from by rw [Int.mul_assoc, Int.mul_left_comm (F 3), ← Int.mul_assoc]; rfl, Int.mul_left_comm (F 9) 2 (F 9)]
    omega
  · have p09 := mb16 a0 a9 hn (by decide)
    have p18 := mb16 a1 a8 hn (by decide)
    have p27 := mb16 a2 a7 hn (by decide)
    have p36 := mb16 a3 a6 hn (by decide)
    have p45 := mb16 a4 a5 hn (by decide)
    show -4611686018427387904 ≤ ((((((2 * F 0) * F 9) + ((2 * F 1) * F 8)) + ((2 * F 2) * F 7)) + ((2 * F 3) * F 6)) + ((2 * F 4) * F 5)) ∧ ((((((2 * F 0) * F 9) + ((2 * F 1) * F 8)) + ((2 * F 2) * F 7)) + ((2 * F 3) * F 6)) + ((2 * F 4) * F 5)) ≤ 4611686018427387904
    rw [Int.mul_assoc 2 (F 0) (F 9), Int.mul_assoc 2 (F 1) (F 8), Int.mul_assoc 2 (F 2) (F 7), Int.mul_assoc 2 (F 3) (F 6), Int.mul_assoc 2 (F 4) (F 5)]
    omega
theorem times_s (X : vM) (h f g : Nat) : LF_F_times X h f g = LF_F_carry (svL X h 10 (tmL (X.1 f) (X.1 g))) h := by
  have e : LF_F_times X h f g = LF_F_carry (stL (stL (stL (stL (stL (stL (stL (stL (stL (stL X h 0 ((tmL (X.1 f) (X.1 g)) 0)) h 1 ((tmL (X.1 f) (X.1 g)) 1)) h 2 ((tmL (X.1 f) (X.1 g)) 2)) h 3 ((tmL (X.1 f) (X.1 g)) 3)) h 4 ((tmL (X.1 f) (X.1 g)) 4)) h 5 ((tmL (X.1 f) (X.1 g)) 5)) h 6 ((tmL (X.1 f) (X.1 g)) 6)) h 7 ((tmL (X.1 f) (X.1 g)) 7)) h 8 ((tmL (X.1 f) (X.1 g)) 8)) h 9 ((tmL (X.1 f) (X.1 g)) 9)) h := rfl
  rw [e]
  have z : X = svL X h 0 (tmL (X.1 f) (X.1 g)) := by
    refine Prod.ext (funext fun b => funext fun k => ?_) rfl
    exact (if_neg (fun z => absurd z.2 (Nat.not_lt_zero k))).symm
  generalize ht : (tmL (X.1 f) (X.1 g)) = t at z ⊢
  have e2 : (stL (stL (stL (stL (stL (stL (stL (stL (stL (stL X h 0 (t 0)) h 1 (t 1)) h 2 (t 2)) h 3 (t 3)) h 4 (t 4)) h 5 (t 5)) h 6 (t 6)) h 7 (t 7)) h 8 (t 8)) h 9 (t 9)) = svL X h 10 t := by
    conv => lhs; rw [z]
    rw [st_sv, st_sv, st_sv, st_sv, st_sv, st_sv, st_sv, st_sv, st_sv, st_sv]
  rw [e2]
theorem square_s (X : vM) (h f : Nat) : LF_F_square X h f = LF_F_carry (svL X h 10 (sqL (X.1 f))) h := by
  have e : LF_F_square X h f = LF_F_carry (stL (stL (stL (stL (stL (stL (stL (stL (stL (stL X h 0 ((sqL (X.1 f)) 0)) h 1 ((sqL (X.1 f)) 1)) h 2 ((sqL (X.1 f)) 2)) h 3 ((sqL (X.1 f)) 3)) h 4 ((sqL (X.1 f)) 4)) h 5 ((sqL (X.1 f)) 5)) h 6 ((sqL (X.1 f)) 6)) h 7 ((sqL (X.1 f)) 7)) h 8 ((sqL (X.1 f)) 8)) h 9 ((sqL (X.1 f)) 9)) h := rfl
  rw [e]
  have z : X = svL X h 0 (sqL (X.1 f)) := by
    refine Prod.ext (funext fun b => funext fun k => ?_) rfl
    exact (if_neg (fun z => absurd z.2 (Nat.not_lt_zero k))).symm
  generalize ht : (sqL (X.1 f)) = t at z ⊢
  have e2 : (stL (stL (stL (stL (stL (stL (stL (stL (stL (stL X h 0 (t 0)) h 1 (t 1)) h 2 (t 2)) h 3 (t 3)) h 4 (t 4)) h 5 (t 5)) h 6 (t 6)) h 7 (t 7)) h 8 (t 8)) h 9 (t 9)) = svL X h 10 t := by
    conv => lhs; rw [z]
    rw [st_sv, st_sv, st_sv, st_sv, st_sv, st_sv, st_sv, st_sv, st_sv, st_sv]
  rw [e2]
theorem tmL_of (F G : Nat → Int) : ∀ i, i < 10 → tmL (fun j => Int64.ofInt (F j)) (fun j => Int64.ofInt (G j)) i = Int64.ofInt (tmI F G i) := by
  intro i hi
  rcases (show i = 0 ∨ i = 1 ∨ i = 2 ∨ i = 3 ∨ i = 4 ∨ i = 5 ∨ i = 6 ∨ i = 7 ∨ i = 8 ∨ i = 9 by omega) with rfl | rfl | rfl | rfl | rfl | rfl | rfl | rfl | rfl | rfl
  · show ((Int64.ofInt (F 0) * Int64.ofInt (G 0)) + (19 * ((((((((((2 * Int64.ofInt (F 1)) * Int64.ofInt (G 9)) + (Int64.ofInt (F 2) * Int64.ofInt (G 8))) + ((2 * Int64.ofInt (F 3)) * Int64.ofInt (G 7))) + (Int64.ofInt (F 4) * Int64.ofInt (G 6))) + ((2 * Int64.ofInt (F 5)) * Int64.ofInt (G 5))) + (Int64.ofInt (F 6) * Int64.ofInt (G 4))) + ((2 * Int64.ofInt (F 7)) * Int64.ofInt (G 3))) + (Int64.ofInt (F 8) * Int64.ofInt (G 2))) + ((2 * Int64.ofInt (F 9)) * Int64.ofInt (G 1))))) = Int64.ofInt ((F 0 * G 0) + (19 * ((((((((((2 * F 1) * G 9) + (F 2 * G 8)) + ((2 * F 3) * G 7)) + (F 4 * G 6)) + ((2 * F 5) * G 5)) + (F 6 * G 4)) + ((2 * F 7) * G 3)) + (F 8 * G 2)) + ((2 * F 9) * G 1))))
    (simp only [Int64.ofInt_mul, Int64.ofInt_add]) <;> rfl
  · show (((Int64.ofInt (F 0) * Int64.ofInt (G 1)) + (Int64.ofInt (F 1) * Int64.ofInt (G 0))) + (19 * ((((((((Int64.ofInt (F 2) * Int64.ofInt (G 9)) + (Int64.ofInt (F 3) * Int64.ofInt (G 8))) + (Int64.ofInt (F 4) * Int64.ofInt (G 7))) + (Int64.ofInt (F 5) * Int64.ofInt (G 6))) + (Int64.ofInt (F 6) * Int64.ofInt (G 5))) + (Int64.ofInt (F 7) * Int64.ofInt (G 4))) + (Int64.ofInt (F 8) * Int64.ofInt (G 3))) + (Int64.ofInt (F 9) * Int64.ofInt (G 2))))) = Int64.ofInt (((F 0 * G 1) + (F 1 * G 0)) + (19 * ((((((((F 2 * G 9) + (F 3 * G 8)) + (F 4 * G 7)) + (F 5 * G 6)) + (F 6 * G 5)) + (F 7 * G 4)) + (F 8 * G 3)) + (F 9 * G 2))))
    (simp only [Int64.ofInt_mul, Int64.ofInt_add]) <;> rfl
  · show ((((Int64.ofInt (F 0) * Int64.ofInt (G 2)) + ((2 * Int64.ofInt (F 1)) * Int64.ofInt (G 1))) + (Int64.ofInt (F 2) * Int64.ofInt (G 0))) + (19 * ((((((((2 * Int64.ofInt (F 3)) * Int64.ofInt (G 9)) + (Int64.ofInt (F 4) * Int64.ofInt (G 8))) + ((2 * Int64.ofInt (F 5)) * Int64.ofInt (G 7))) + (Int64.ofInt (F 6) * Int64.ofInt (G 6))) + ((2 * Int64.ofInt (F 7)) * Int64.ofInt (G 5))) + (Int64.ofInt (F 8) * Int64.ofInt (G 4))) + ((2 * Int64.ofInt (F 9)) * Int64.ofInt (G 3))))) = Int64.ofInt ((((F 0 * G 2) + ((2 * F 1) * G 1)) + (F 2 * G 0)) + (19 * ((((((((2 * F 3) * G 9) + (F 4 * G 8)) + ((2 * F 5) * G 7)) + (F 6 * G 6)) + ((2 * F 7) * G 5)) + (F 8 * G 4)) + ((2 * F 9) * G 3))))
    (simp only [Int64.ofInt_mul, Int64.ofInt_add]) <;> rfl
  · show (((((Int64.ofInt (F 0) * Int64.ofInt (G 3)) + (Int64.ofInt (F 1) * Int64.ofInt (G 2))) + (Int64.ofInt (F 2) * Int64.ofInt (G 1))) + (Int64.ofInt (F 3) * Int64.ofInt (G 0))) + (19 * ((((((Int64.ofInt (F 4) * Int64.ofInt (G 9)) + (Int64.ofInt (F 5) * Int64.ofInt (G 8))) + (Int64.ofInt (F 6) * Int64.ofInt (G 7))) + (Int64.ofInt (F 7) * Int64.ofInt (G 6))) + (Int64.ofInt (F 8) * Int64.ofInt (G 5))) + (Int64.ofInt (F 9) * Int64.ofInt (G 4))))) = Int64.ofInt (((((F 0 * G 3) + (F 1 * G 2)) + (F 2 * G 1)) + (F 3 * G 0)) + (19 * ((((((F 4 * G 9) + (F 5 * G 8)) + (F 6 * G 7)) + (F 7 * G 6)) + (F 8 * G 5)) + (F 9 * G 4))))
    (simp only [Int64.ofInt_mul, Int64.ofInt_add]) <;> rfl
  · show ((((((Int64.ofInt (F 0) * Int64.ofInt (G 4)) + ((2 * Int64.ofInt (F 1)) * Int64.ofInt (G 3))) + (Int64.ofInt (F 2) * Int64.ofInt (G 2))) + ((2 * Int64.ofInt (F 3)) * Int64.ofInt (G 1))) + (Int64.ofInt (F 4) * Int64.ofInt (G 0))) + (19 * ((((((2 * Int64.ofInt (F 5)) * Int64.ofInt (G 9)) + (Int64.ofInt (F 6) * Int64.ofInt (G 8))) + ((2 * Int64.ofInt (F 7)) * Int64.ofInt (G 7))) + (Int64.ofInt (F 8) * Int64.ofInt (G 6))) + ((2 * Int64.ofInt (F 9)) * Int64.ofInt (G 5))))) = Int64.ofInt ((((((F 0 * G 4) + ((2 * F 1) * G 3)) + (F 2 * G 2)) + ((2 * F 3) * G 1)) + (F 4 * G 0)) + (19 * ((((((2 * F 5) * G 9) + (F 6 * G 8)) + ((2 * F 7) * G 7)) + (F 8 * G 6)) + ((2 * F 9) * G 5))))
    (simp only [Int64.ofInt_mul, Int64.ofInt_add]) <;> rfl
  · show (((((((Int64.ofInt (F 0) * Int64.ofInt (G 5)) + (Int64.ofInt (F 1) * Int64.ofInt (G 4))) + (Int64.ofInt (F 2) * Int64.ofInt (G 3))) + (Int64.ofInt (F 3) * Int64.ofInt (G 2))) + (Int64.ofInt (F 4) * Int64.ofInt (G 1))) + (Int64.ofInt (F 5) * Int64.ofInt (G 0))) + (19 * ((((Int64.ofInt (F 6) * Int64.ofInt (G 9)) + (Int64.ofInt (F 7) * Int64.ofInt (G 8))) + (Int64.ofInt (F 8) * Int64.ofInt (G 7))) + (Int64.ofInt (F 9) * Int64.ofInt (G 6))))) = Int64.ofInt (((((((F 0 * G 5) + (F 1 * G 4)) + (F 2 * G 3)) + (F 3 * G 2)) + (F 4 * G 1)) + (F 5 * G 0)) + (19 * ((((F 6 * G 9) + (F 7 * G 8)) + (F 8 * G 7)) + (F 9 * G 6))))
    (simp only [Int64.ofInt_mul, Int64.ofInt_add]) <;> rfl
  · show ((((((((Int64.ofInt (F 0) * Int64.ofInt (G 6)) + ((2 * Int64.ofInt (F 1)) * Int64.ofInt (G 5))) + (Int64.ofInt (F 2) * Int64.ofInt (G 4))) + ((2 * Int64.ofInt (F 3)) * Int64.ofInt (G 3))) + (Int64.ofInt (F 4) * Int64.ofInt (G 2))) + ((2 * Int64.ofInt (F 5)) * Int64.ofInt (G 1))) + (Int64.ofInt (F 6) * Int64.ofInt (G 0))) + (19 * ((((2 * Int64.ofInt (F 7)) * Int64.ofInt (G 9)) + (Int64.ofInt (F 8) * Int64.ofInt (G 8))) + ((2 * Int64.ofInt (F 9)) * Int64.ofInt (G 7))))) = Int64.ofInt ((((((((F 0 * G 6) + ((2 * F 1) * G 5)) + (F 2 * G 4)) + ((2 * F 3) * G 3)) + (F 4 * G 2)) + ((2 * F 5) * G 1)) + (F 6 * G 0)) + (19 * ((((2 * F 7) * G 9) + (F 8 * G 8)) + ((2 * F 9) * G 7))))
    (simp only [Int64.ofInt_mul, Int64.ofInt_add]) <;> rfl
  · show (((((((((Int64.ofInt (F 0) * Int64.ofInt (G 7)) + (Int64.ofInt (F 1) * Int64.ofInt (G 6))) + (Int64.ofInt (F 2) * Int64.ofInt (G 5))) + (Int64.ofInt (F 3) * Int64.ofInt (G 4))) + (Int64.ofInt (F 4) * Int64.ofInt (G 3))) + (Int64.ofInt (F 5) * Int64.ofInt (G 2))) + (Int64.ofInt (F 6) * Int64.ofInt (G 1))) + (Int64.ofInt (F 7) * Int64.ofInt (G 0))) + (19 * ((Int64.ofInt (F 8) * Int64.ofInt (G 9)) + (Int64.ofInt (F 9) * Int64.ofInt (G 8))))) = Int64.ofInt (((((((((F 0 * G 7) + (F 1 * G 6)) + (F 2 * G 5)) + (F 3 * G 4)) + (F 4 * G 3)) + (F 5 * G 2)) + (F 6 * G 1)) + (F 7 * G 0)) + (19 * ((F 8 * G 9) + (F 9 * G 8))))
    (simp only [Int64.ofInt_mul, Int64.ofInt_add]) <;> rfl
  · show ((((((((((Int64.ofInt (F 0) * Int64.ofInt (G 8)) + ((2 * Int64.ofInt (F 1)) * Int64.ofInt (G 7))) + (Int64.ofInt (F 2) * Int64.ofInt (G 6))) + ((2 * Int64.ofInt (F 3)) * Int64.ofInt (G 5))) + (Int64.ofInt (F 4) * Int64.ofInt (G 4))) + ((2 * Int64.ofInt (F 5)) * Int64.ofInt (G 3))) + (Int64.ofInt (F 6) * Int64.ofInt (G 2))) + ((2 * Int64.ofInt (F 7)) * Int64.ofInt (G 1))) + (Int64.ofInt (F 8) * Int64.ofInt (G 0))) + (19 * ((2 * Int64.ofInt (F 9)) * Int64.ofInt (G 9)))) = Int64.ofInt ((((((((((F 0 * G 8) + ((2 * F 1) * G 7)) + (F 2 * G 6)) + ((2 * F 3) * G 5)) + (F 4 * G 4)) + ((2 * F 5) * G 3)) + (F 6 * G 2)) + ((2 * F 7) * G 1)) + (F 8 * G 0)) + (19 * ((2 * F 9) * G 9)))
    (simp only [Int64.ofInt_mul, Int64.ofInt_add]) <;> rfl
  · show ((((((((((Int64.ofInt (F 0) * Int64.ofInt (G 9)) + (Int64.ofInt (F 1) * Int64.ofInt (G 8))) + (Int64.ofInt (F 2) * Int64.ofInt (G 7))) + (Int64.ofInt (F 3) * Int64.ofInt (G 6))) + (Int64.ofInt (F 4) * Int64.ofInt (G 5))) + (Int64.ofInt (F 5) * Int64.ofInt (G 4))) + (Int64.ofInt (F 6) * Int64.ofInt (G 3))) + (Int64.ofInt (F 7) * Int64.ofInt (G 2))) + (Int64.ofInt (F 8) * Int64.ofInt (G 1))) + (Int64.ofInt (F 9) * Int64.ofInt (G 0))) = Int64.ofInt ((((((((((F 0 * G 9) + (F 1 * G 8)) + (F 2 * G 7)) + (F 3 * G 6)) + (F 4 * G 5)) + (F 5 * G 4)) + (F 6 * G 3)) + (F 7 * G 2)) + (F 8 * G 1)) + (F 9 * G 0))
    (simp only [Int64.ofInt_mul, Int64.ofInt_add]) <;> rfl
theorem sqL_of (F : Nat → Int) : ∀ i, i < 10 → sqL (fun j => Int64.ofInt (F j)) i = Int64.ofInt (sqI F i) := by
  intro i hi
  rcases (show i = 0 ∨ i = 1 ∨ i = 2 ∨ i = 3 ∨ i = 4 ∨ i = 5 ∨ i = 6 ∨ i = 7 ∨ i = 8 ∨ i = 9 by omega) with rfl | rfl | rfl | rfl | rfl | rfl | rfl | rfl | rfl | rfl
  · show ((Int64.ofInt (F 0) * Int64.ofInt (F 0)) + (19 * ((((((2 * Int64.ofInt (F 1)) * (2 * Int64.ofInt (F 9))) + ((2 * Int64.ofInt (F 2)) * Int64.ofInt (F 8))) + ((2 * Int64.ofInt (F 3)) * (2 * Int64.ofInt (F 7)))) + ((2 * Int64.ofInt (F 4)) * Int64.ofInt (F 6))) + (Int64.ofInt (F 5) * (2 * Int64.ofInt (F 5)))))) = Int64.ofInt ((F 0 * F 0) + (19 * ((((((2 * F 1) * (2 * F 9)) + ((2 * F 2) * F 8)) + ((2 * F 3) * (2 * F 7))) + ((2 * F 4) * F 6)) + (F 5 * (2 * F 5)))))
    (simp only [Int64.ofInt_mul, Int64.ofInt_add]) <;> rfl
  · show (((2 * Int64.ofInt (F 0)) * Int64.ofInt (F 1)) + (19 * (((((2 * Int64.ofInt (F 2)) * Int64.ofInt (F 9)) + ((2 * Int64.ofInt (F 3)) * Int64.ofInt (F 8))) + ((2 * Int64.ofInt (F 4)) * Int64.ofInt (F 7))) + ((2 * Int64.ofInt (F 5)) * Int64.ofInt (F 6))))) = Int64.ofInt (((2 * F 0) * F 1) + (19 * (((((2 * F 2) * F 9) + ((2 * F 3) * F 8)) + ((2 * F 4) * F 7)) + ((2 * F 5) * F 6))))
    (simp only [Int64.ofInt_mul, Int64.ofInt_add]) <;> rfl
  · show ((((2 * Int64.ofInt (F 0)) * Int64.ofInt (F 2)) + ((2 * Int64.ofInt (F 1)) * Int64.ofInt (F 1))) + (19 * (((((2 * Int64.ofInt (F 3)) * (2 * Int64.ofInt (F 9))) + ((2 * Int64.ofInt (F 4)) * Int64.ofInt (F 8))) + ((2 * Int64.ofInt (F 5)) * (2 * Int64.ofInt (F 7)))) + (Int64.ofInt (F 6) * Int64.ofInt (F 6))))) = Int64.ofInt ((((2 * F 0) * F 2) + ((2 * F 1) * F 1)) + (19 * (((((2 * F 3) * (2 * F 9)) + ((2 * F 4) * F 8)) + ((2 * F 5) * (2 * F 7))) + (F 6 * F 6))))
    (simp only [Int64.ofInt_mul, Int64.ofInt_add]) <;> rfl
  · show ((((2 * Int64.ofInt (F 0)) * Int64.ofInt (F 3)) + ((2 * Int64.ofInt (F 1)) * Int64.ofInt (F 2))) + (19 * ((((2 * Int64.ofInt (F 4)) * Int64.ofInt (F 9)) + ((2 * Int64.ofInt (F 5)) * Int64.ofInt (F 8))) + ((2 * Int64.ofInt (F 6)) * Int64.ofInt (F 7))))) = Int64.ofInt ((((2 * F 0) * F 3) + ((2 * F 1) * F 2)) + (19 * ((((2 * F 4) * F 9) + ((2 * F 5) * F 8)) + ((2 * F 6) * F 7))))
    (simp only [Int64.ofInt_mul, Int64.ofInt_add]) <;> rfl
  · show (((((2 * Int64.ofInt (F 0)) * Int64.ofInt (F 4)) + ((2 * Int64.ofInt (F 1)) * (2 * Int64.ofInt (F 3)))) + (Int64.ofInt (F 2) * Int64.ofInt (F 2))) + (19 * ((((2 * Int64.ofInt (F 5)) * (2 * Int64.ofInt (F 9))) + ((2 * Int64.ofInt (F 6)) * Int64.ofInt (F 8))) + (Int64.ofInt (F 7) * (2 * Int64.ofInt (F 7)))))) = Int64.ofInt (((((2 * F 0) * F 4) + ((2 * F 1) * (2 * F 3))) + (F 2 * F 2)) + (19 * ((((2 * F 5) * (2 * F 9)) + ((2 * F 6) * F 8)) + (F 7 * (2 * F 7)))))
    (simp only [Int64.ofInt_mul, Int64.ofInt_add]) <;> rfl
  · show (((((2 * Int64.ofInt (F 0)) * Int64.ofInt (F 5)) + ((2 * Int64.ofInt (F 1)) * Int64.ofInt (F 4))) + ((2 * Int64.ofInt (F 2)) * Int64.ofInt (F 3))) + (19 * (((2 * Int64.ofInt (F 6)) * Int64.ofInt (F 9)) + ((2 * Int64.ofInt (F 7)) * Int64.ofInt (F 8))))) = Int64.ofInt (((((2 * F 0) * F 5) + ((2 * F 1) * F 4)) + ((2 * F 2) * F 3)) + (19 * (((2 * F 6) * F 9) + ((2 * F 7) * F 8))))
    (simp only [Int64.ofInt_mul, Int64.ofInt_add]) <;> rfl
  · show ((((((2 * Int64.ofInt (F 0)) * Int64.ofInt (F 6)) + ((2 * Int64.ofInt (F 1)) * (2 * Int64.ofInt (F 5)))) + ((2 * Int64.ofInt (F 2)) * Int64.ofInt (F 4))) + ((2 * Int64.ofInt (F 3)) * Int64.ofInt (F 3))) + (19 * (((2 * Int64.ofInt (F 7)) * (2 * Int64.ofInt (F 9))) + (Int64.ofInt (F 8) * Int64.ofInt (F 8))))) = Int64.ofInt ((((((2 * F 0) * F 6) + ((2 * F 1) * (2 * F 5))) + ((2 * F 2) * F 4)) + ((2 * F 3) * F 3)) + (19 * (((2 * F 7) * (2 * F 9)) + (F 8 * F 8))))
    (simp only [Int64.ofInt_mul, Int64.ofInt_add]) <;> rfl
  · show ((((((2 * Int64.ofInt (F 0)) * Int64.ofInt (F 7)) + ((2 * Int64.ofInt (F 1)) * Int64.ofInt (F 6))) + ((2 * Int64.ofInt (F 2)) * Int64.ofInt (F 5))) + ((2 * Int64.ofInt (F 3)) * Int64.ofInt (F 4))) + (19 * ((2 * Int64.ofInt (F 8)) * Int64.ofInt (F 9)))) = Int64.ofInt ((((((2 * F 0) * F 7) + ((2 * F 1) * F 6)) + ((2 * F 2) * F 5)) + ((2 * F 3) * F 4)) + (19 * ((2 * F 8) * F 9)))
    (simp only [Int64.ofInt_mul, Int64.ofInt_add]) <;> rfl
  · show (((((((2 * Int64.ofInt (F 0)) * Int64.ofInt (F 8)) + ((2 * Int64.ofInt (F 1)) * (2 * Int64.ofInt (F 7)))) + ((2 * Int64.ofInt (F 2)) * Int64.ofInt (F 6))) + ((2 * Int64.ofInt (F 3)) * (2 * Int64.ofInt (F 5)))) + (Int64.ofInt (F 4) * Int64.ofInt (F 4))) + (19 * (Int64.ofInt (F 9) * (2 * Int64.ofInt (F 9))))) = Int64.ofInt (((((((2 * F 0) * F 8) + ((2 * F 1) * (2 * F 7))) + ((2 * F 2) * F 6)) + ((2 * F 3) * (2 * F 5))) + (F 4 * F 4)) + (19 * (F 9 * (2 * F 9))))
    (simp only [Int64.ofInt_mul, Int64.ofInt_add]) <;> rfl
  · show ((((((2 * Int64.ofInt (F 0)) * Int64.ofInt (F 9)) + ((2 * Int64.ofInt (F 1)) * Int64.ofInt (F 8))) + ((2 * Int64.ofInt (F 2)) * Int64.ofInt (F 7))) + ((2 * Int64.ofInt (F 3)) * Int64.ofInt (F 6))) + ((2 * Int64.ofInt (F 4)) * Int64.ofInt (F 5))) = Int64.ofInt ((((((2 * F 0) * F 9) + ((2 * F 1) * F 8)) + ((2 * F 2) * F 7)) + ((2 * F 3) * F 6)) + ((2 * F 4) * F 5))
    (simp only [Int64.ofInt_mul, Int64.ofInt_add]) <;> rfl
