/-! bytes out of limbs -/
def by8 (n : Int) : Int32 := (Int8.ofInt n).toInt32
theorem by8_of (n : Int) : (Int64.ofInt n).toInt32.toInt8.toInt32.toInt8.toInt32 = by8 n := by
  rw [Int64.toInt8_toInt32, Int64.toInt8_ofInt, Int8.toInt8_toInt32]
  rfl
theorem by8_mod {m n : Int} (h : m % 256 = n % 256) : by8 m = by8 n := by
  have e : Int8.ofInt m = Int8.ofInt n := by
    apply Int8.toInt_inj.mp
    rw [Int8.toInt_ofInt, Int8.toInt_ofInt]
    show Int.bmod m 256 = Int.bmod n 256
    simp only [Int.bmod]
    show (if m % 256 < _ then m % 256 else m % 256 - _) = if n % 256 < _ then n % 256 else n % 256 - _
    rw [h]
  unfold by8
  rw [e]
theorem i6_or {A B h : Nat} (ha : A < 2 ^ h) (hs : A + B * 2 ^ h < 2 ^ 63) : Int64.ofInt (A : Int) ||| Int64.ofInt ((B * 2 ^ h : Nat) : Int) = Int64.ofInt ((A + B * 2 ^ h : Nat) : Int) := by
  apply Int64.toBitVec_inj.mp
  show BitVec.ofInt 64 (A : Int) ||| BitVec.ofInt 64 ((B * 2 ^ h : Nat) : Int) = BitVec.ofInt 64 ((A + B * 2 ^ h : Nat) : Int)
  rw [BitVec.ofInt_natCast, BitVec.ofInt_natCast, BitVec.ofInt_natCast]
  apply BitVec.eq_of_toNat_eq
  rw [BitVec.toNat_or, BitVec.toNat_ofNat, BitVec.toNat_ofNat, BitVec.toNat_ofNat, Nat.mod_eq_of_lt (by omega), Nat.mod_eq_of_lt (by omega), Nat.mod_eq_of_lt (by omega)]
  have := Nat.shiftLeft_add_eq_or_of_lt ha B
  rw [Nat.shiftLeft_eq] at this
  rw [Nat.or_comm, ← this, Nat.add_comm]
theorem wr_or {z y : Int64} {w d p q : Int} {h : Nat} (hz : z = Int64.ofInt (w / p)) (hy : y = Int64.ofInt d) (hp : 0 < p) (hq : q = 2 ^ h * p) (hW : 0 ≤ w ∧ w < q) (hd : 0 ≤ d ∧ d < 67108864) (hh : h < 8) : z ||| (y <<< ((nI h).toInt64 &&& 63)) = Int64.ofInt ((w + d * q) / p) := by
  have hp2 : (2 : Int) ^ h = ((2 ^ h : Nat) : Int) := by simp
  have hle : 2 ^ h ≤ 128 := by
    have := Nat.pow_le_pow_right (n := 2) (by decide) (show h ≤ 7 by omega)
    omega
  have e1 : (w + d * q) / p = w / p + d * 2 ^ h := by
    rw [hq, ← Int.mul_assoc, Int.add_mul_ediv_right _ _ (by omega)]
  have h0 : 0 ≤ w / p := Int.ediv_nonneg hW.1 (by omega)
  have h1 : w / p < 2 ^ h := Int.ediv_lt_of_lt_mul hp (by rw [← hq]; exact hW.2)
  rw [hz, hy, i6_shl (by omega), e1]
  obtain ⟨A, eA⟩ : ∃ A : Nat, w / p = (A : Int) := ⟨(w / p).toNat, by omega⟩
  obtain ⟨B, eB⟩ : ∃ B : Nat, d = (B : Int) := ⟨d.toNat, by omega⟩
  rw [eA] at h1 ⊢
  rw [eB] at hd ⊢
  rw [hp2] at h1 ⊢
  have hB : B < 67108864 := by omega
  have hA : A < 2 ^ h := by omega
  have hm : B * 2 ^ h ≤ 67108864 * 128 := Nat.mul_le_mul (by omega) hle
  have key := i6_or (A := A) (B := B) (h := h) hA (by omega)
  rw [Int.natCast_add, Int.natCast_mul] at key
  exact key
theorem wr_sh {z : Int64} {w p : Int} (hz : z = Int64.ofInt (w / p)) (hp : 0 < p) (hW : 0 ≤ w ∧ w < p * 1099511627776) : z >>> ((nI 8).toInt64 &&& 63) = Int64.ofInt (w / (p * 256)) := by
  have h0 : 0 ≤ w / p := Int.ediv_nonneg hW.1 (by omega)
  have h1 : w / p < 1099511627776 := Int.ediv_lt_of_lt_mul hp (by rw [Int.mul_comm]; exact hW.2)
  rw [hz, i6_shr (by decide) (by omega), show (2 : Int) ^ 8 = 256 from rfl, Int.ediv_ediv_of_nonneg (by omega)]
theorem wr_by {a b T p c : Int} (h : b = a + T * (c * 256 * p)) (hp : 0 < p) : by8 (a / p) = by8 (b / p) := by
  apply by8_mod
  rw [h, ← Int.mul_assoc, Int.add_mul_ediv_right _ _ (by omega), ← Int.mul_assoc, Int.add_mul_emod_self_right]
theorem st_svI (X : vM) (a i : Nat) (f : Nat → Int32) : stI (svI X a i f) a i (f i) = svI X a (i + 1) f := by
  refine Prod.ext rfl (funext fun b => funext fun k => ?_)
  show (if b = a ∧ k = i then f i else if b = a ∧ k < i then f k else X.2 b k) = if b = a ∧ k < i + 1 then f k else X.2 b k
  by_cases hb : b = a
  · subst hb
    by_cases hk : k = i
    · subst hk
      rw [if_pos ⟨rfl, rfl⟩, if_pos ⟨rfl, by omega⟩]
    · rw [if_neg (fun z => hk z.2)]
      by_cases hl : k < i
      · rw [if_pos ⟨rfl, hl⟩, if_pos ⟨rfl, by omega⟩]
      · rw [if_neg (fun z => hl z.2), if_neg (fun z => by omega)]
  · rw [if_neg (fun z => hb z.1), if_neg (fun z => hb z.1), if_neg (fun z => hb z.1)]
set_option maxHeartbeats 4000000 in
set_option maxRecDepth 100000 in
theorem fe_write {X : vM} {kq : Nat → Nat → Nat} {ts : Nat → Nat} {to f : Nat} {n : Int} {v : Fp} (hf : Fe X f n v) (hn : n ≤ 16) : ∃ t : Nat → Int64, LF_F_write X kq ts to f = svI (svL X (kq 0 6) 10 t) to 32 (fun j => by8 ((v.val : Int) / 256 ^ j)) := by
  obtain ⟨D, d1, d2, d3⟩ := fe_settle (kq := kq) (ts := ts) hf hn
  refine ⟨fun i => Int64.ofInt (D i), ?_⟩
  obtain ⟨Y, eY⟩ : ∃ Y, LF_F_settle X kq ts f = Y := ⟨_, rfl⟩
  have hY : ∀ i, i < 10 → Y.1 (kq 0 6) i = Int64.ofInt (D i) := fun i hi => by rw [← eY, d1]; exact svL_at X (kq 0 6) 10 _ hi
  rw [← d1, eY]
  have b0 := d2 0 (by decide)
  rw [show wL 0 = 67108864 from rfl] at b0
  have b1 := d2 1 (by decide)
  rw [show wL 1 = 33554432 from rfl] at b1
  have b2 := d2 2 (by decide)
  rw [show wL 2 = 67108864 from rfl] at b2
  have b3 := d2 3 (by decide)
  rw [show wL 3 = 33554432 from rfl] at b3
  have b4 := d2 4 (by decide)
  rw [show wL 4 = 67108864 from rfl] at b4
  have b5 := d2 5 (by decide)
  rw [show wL 5 = 33554432 from rfl] at b5
  have b6 := d2 6 (by decide)
  rw [show wL 6 = 67108864 from rfl] at b6
  have b7 := d2 7 (by decide)
  rw [show wL 7 = 33554432 from rfl] at b7
  have b8 := d2 8 (by decide)
  rw [show wL 8 = 67108864 from rfl] at b8
  have b9 := d2 9 (by decide)
  rw [show wL 9 = 33554432 from rfl] at b9
  obtain ⟨W0, w0⟩ : ∃ w : Int, (0 : Int) = w := ⟨_, rfl⟩
  obtain ⟨W1, w1⟩ : ∃ w : Int, W0 + D 0 * 1 = w := ⟨_, rfl⟩
  obtain ⟨W2, w2⟩ : ∃ w : Int, W1 + D 1 * 67108864 = w := ⟨_, rfl⟩
  obtain ⟨W3, w3⟩ : ∃ w : Int, W2 + D 2 * 2251799813685248 = w := ⟨_, rfl⟩
  obtain ⟨W4, w4⟩ : ∃ w : Int, W3 + D 3 * 151115727451828646838272 = w := ⟨_, rfl⟩
  obtain ⟨W5, w5⟩ : ∃ w : Int, W4 + D 4 * 5070602400912917605986812821504 = w := ⟨_, rfl⟩
  obtain ⟨W6, w6⟩ : ∃ w : Int, W5 + D 5 * 340282366920938463463374607431768211456 = w := ⟨_, rfl⟩
  obtain ⟨W7, w7⟩ : ∃ w : Int, W6 + D 6 * 11417981541647679048466287755595961091061972992 = w := ⟨_, rfl⟩
  obtain ⟨W8, w8⟩ : ∃ w : Int, W7 + D 7 * 766247770432944429179173513575154591809369561091801088 = w := ⟨_, rfl⟩
  obtain ⟨W9, w9⟩ : ∃ w : Int, W8 + D 8 * 25711008708143844408671393477458601640355247900524685364822016 = w := ⟨_, rfl⟩
  obtain ⟨W10, w10⟩ : ∃ w : Int, W9 + D 9 * 1725436586697640946858688965569256363112777243042596638790631055949824 = w := ⟨_, rfl⟩
  have r0 : 0 ≤ W0 ∧ W0 < 1 := by omega
  have r1 : 0 ≤ W1 ∧ W1 < 67108864 := by omega
  have r2 : 0 ≤ W2 ∧ W2 < 2251799813685248 := by omega
  have r3 : 0 ≤ W3 ∧ W3 < 151115727451828646838272 := by omega
  have r4 : 0 ≤ W4 ∧ W4 < 5070602400912917605986812821504 := by omega
  have r5 : 0 ≤ W5 ∧ W5 < 340282366920938463463374607431768211456 := by omega
  have r6 : 0 ≤ W6 ∧ W6 < 11417981541647679048466287755595961091061972992 := by omega
  have r7 : 0 ≤ W7 ∧ W7 < 766247770432944429179173513575154591809369561091801088 := by omega
  have r8 : 0 ≤ W8 ∧ W8 < 25711008708143844408671393477458601640355247900524685364822016 := by omega
  have r9 : 0 ≤ W9 ∧ W9 < 1725436586697640946858688965569256363112777243042596638790631055949824 := by omega
  have r10 : 0 ≤ W10 ∧ W10 < 57896044618658097711785492504343953926634992332820282019728792003956564819968 := by omega
  have hW : W10 = (v.val : Int) := by rw [← d3]; simp only [fvI]; omega
  obtain ⟨z1, e1⟩ : ∃ z, (0 : Int64) ||| ((Y.1 (kq 0 6) 0) <<< ((nI 0).toInt64 &&& 63)) = z := ⟨_, rfl⟩
  have h1 : z1 = Int64.ofInt (W1 / 1) := by
    rw [← e1, wr_or (w := W0) (d := D 0) (p := 1) (q := 1) (show (0 : Int64) = Int64.ofInt (W0 / 1) from by rw [← w0]; rfl) (hY 0 (by decide)) (by decide) (by decide) r0 (by omega) (by decide), w1]
  obtain ⟨z2, e2⟩ : ∃ z, z1 >>> ((nI 8).toInt64 &&& 63) = z := ⟨_, rfl⟩
  have h2 : z2 = Int64.ofInt (W1 / 256) := by
    rw [← e2, wr_sh (w := W1) (p := 1) h1 (by decide) (by omega)]
    rfl
  obtain ⟨z3, e3⟩ : ∃ z, z2 >>> ((nI 8).toInt64 &&& 63) = z := ⟨_, rfl⟩
  have h3 : z3 = Int64.ofInt (W1 / 65536) := by
    rw [← e3, wr_sh (w := W1) (p := 256) h2 (by decide) (by omega)]
    rfl
  obtain ⟨z4, e4⟩ : ∃ z, z3 >>> ((nI 8).toInt64 &&& 63) = z := ⟨_, rfl⟩
  have h4 : z4 = Int64.ofInt (W1 / 16777216) := by
    rw [← e4, wr_sh (w := W1) (p := 65536) h3 (by decide) (by omega)]
    rfl
  obtain ⟨z5, e5⟩ : ∃ z, z4 ||| ((Y.1 (kq 0 6) 1) <<< ((nI 2).toInt64 &&& 63)) = z := ⟨_, rfl⟩
  have h5 : z5 = Int64.ofInt (W2 / 16777216) := by
    rw [← e5, wr_or (w := W1) (d := D 1) (p := 16777216) (q := 67108864) h4 (hY 1 (by decide)) (by decide) (by decide) r1 (by omega) (by decide), w2]
  obtain ⟨z6, e6⟩ : ∃ z, z5 >>> ((nI 8).toInt64 &&& 63) = z := ⟨_, rfl⟩
  have h6 : z6 = Int64.ofInt (W2 / 4294967296) := by
    rw [← e6, wr_sh (w := W2) (p := 16777216) h5 (by decide) (by omega)]
    rfl
  obtain ⟨z7, e7⟩ : ∃ z, z6 >>> ((nI 8).toInt64 &&& 63) = z := ⟨_, rfl⟩
  have h7 : z7 = Int64.ofInt (W2 / 1099511627776) := by
    rw [← e7, wr_sh (w := W2) (p := 4294967296) h6 (by decide) (by omega)]
    rfl
  obtain ⟨z8, e8⟩ : ∃ z, z7 >>> ((nI 8).toInt64 &&& 63) = z := ⟨_, rfl⟩
  have h8 : z8 = Int64.ofInt (W2 / 281474976710656) := by
    rw [← e8, wr_sh (w := W2) (p := 1099511627776) h7 (by decide) (by omega)]
    rfl
  obtain ⟨z9, e9⟩ : ∃ z, z8 ||| ((Y.1 (kq 0 6) 2) <<< ((nI 3).toInt64 &&& 63)) = z := ⟨_, rfl⟩
  have h9 : z9 = Int64.ofInt (W3 / 281474976710656) := by
    rw [← e9, wr_or (w := W2) (d := D 2) (p := 281474976710656) (q := 2251799813685248) h8 (hY 2 (by decide)) (by decide) (by decide) r2 (by omega) (by decide), w3]
  obtain ⟨z10, e10⟩ : ∃ z, z9 >>> ((nI 8).toInt64 &&& 63) = z := ⟨_, rfl⟩
  have h10 : z10 = Int64.ofInt (W3 / 72057594037927936) := by
    rw [← e10, wr_sh (w := W3) (p := 281474976710656) h9 (by decide) (by omega)]
    rfl
  obtain ⟨z11, e11⟩ : ∃ z, z10 >>> ((nI 8).toInt64 &&& 63) = z := ⟨_, rfl⟩
  have h11 : z11 = Int64.ofInt (W3 / 18446744073709551616) := by
    rw [← e11, wr_sh (w := W3) (p := 72057594037927936) h10 (by decide) (by omega)]
    rfl
  obtain ⟨z12, e12⟩ : ∃ z, z11 >>> ((nI 8).toInt64 &&& 63) = z := ⟨_, rfl⟩
  have h12 : z12 = Int64.ofInt (W3 / 4722366482869645213696) := by
    rw [← e12, wr_sh (w := W3) (p := 18446744073709551616) h11 (by decide) (by omega)]
    rfl
  obtain ⟨z13, e13⟩ : ∃ z, z12 ||| ((Y.1 (kq 0 6) 3) <<< ((nI 5).toInt64 &&& 63)) = z := ⟨_, rfl⟩
  have h13 : z13 = Int64.ofInt (W4 / 4722366482869645213696) := by
    rw [← e13, wr_or (w := W3) (d := D 3) (p := 4722366482869645213696) (q := 151115727451828646838272) h12 (hY 3 (by decide)) (by decide) (by decide) r3 (by omega) (by decide), w4]
  obtain ⟨z14, e14⟩ : ∃ z, z13 >>> ((nI 8).toInt64 &&& 63) = z := ⟨_, rfl⟩
  have h14 : z14 = Int64.ofInt (W4 / 1208925819614629174706176) := by
    rw [← e14, wr_sh (w := W4) (p := 4722366482869645213696) h13 (by decide) (by omega)]
    rfl
  obtain ⟨z15, e15⟩ : ∃ z, z14 >>> ((nI 8).toInt64 &&& 63) = z := ⟨_, rfl⟩
  have h15 : z15 = Int64.ofInt (W4 / 309485009821345068724781056) := by
    rw [← e15, wr_sh (w := W4) (p := 1208925819614629174706176) h14 (by decide) (by omega)]
    rfl
  obtain ⟨z16, e16⟩ : ∃ z, z15 >>> ((nI 8).toInt64 &&& 63) = z := ⟨_, rfl⟩
  have h16 : z16 = Int64.ofInt (W4 / 79228162514264337593543950336) := by
    rw [← e16, wr_sh (w := W4) (p := 309485009821345068724781056) h15 (by decide) (by omega)]
    rfl
  obtain ⟨z17, e17⟩ : ∃ z, z16 ||| ((Y.1 (kq 0 6) 4) <<< ((nI 6).toInt64 &&& 63)) = z := ⟨_, rfl⟩
  have h17 : z17 = Int64.ofInt (W5 / 79228162514264337593543950336) := by
    rw [← e17, wr_or (w := W4) (d := D 4) (p := 79228162514264337593543950336) (q := 5070602400912917605986812821504) h16 (hY 4 (by decide)) (by decide) (by decide) r4 (by omega) (by decide), w5]
  obtain ⟨z18, e18⟩ : ∃ z, z17 >>> ((nI 8).toInt64 &&& 63) = z := ⟨_, rfl⟩
  have h18 : z18 = Int64.ofInt (W5 / 20282409603651670423947251286016) := by
    rw [← e18, wr_sh (w := W5) (p := 79228162514264337593543950336) h17 (by decide) (by omega)]
    rfl
  obtain ⟨z19, e19⟩ : ∃ z, z18 >>> ((nI 8).toInt64 &&& 63) = z := ⟨_, rfl⟩
  have h19 : z19 = Int64.ofInt (W5 / 5192296858534827628530496329220096) := by
    rw [← e19, wr_sh (w := W5) (p := 20282409603651670423947251286016) h18 (by decide) (by omega)]
    rfl
  obtain ⟨z20, e20⟩ : ∃ z, z19 >>> ((nI 8).toInt64 &&& 63) = z := ⟨_, rfl⟩
  have h20 : z20 = Int64.ofInt (W5 / 1329227995784915872903807060280344576) := by
    rw [← e20, wr_sh (w := W5) (p := 5192296858534827628530496329220096) h19 (by decide) (by omega)]
    rfl
  obtain ⟨z21, e21⟩ : ∃ z, z20 >>> ((nI 8).toInt64 &&& 63) = z := ⟨_, rfl⟩
  have h21 : z21 = Int64.ofInt (W5 / 340282366920938463463374607431768211456) := by
    rw [← e21, wr_sh (w := W5) (p := 1329227995784915872903807060280344576) h20 (by decide) (by omega)]
    rfl
  obtain ⟨z22, e22⟩ : ∃ z, z21 ||| ((Y.1 (kq 0 6) 5) <<< ((nI 0).toInt64 &&& 63)) = z := ⟨_, rfl⟩
  have h22 : z22 = Int64.ofInt (W6 / 340282366920938463463374607431768211456) := by
    rw [← e22, wr_or (w := W5) (d := D 5) (p := 340282366920938463463374607431768211456) (q := 340282366920938463463374607431768211456) h21 (hY 5 (by decide)) (by decide) (by decide) r5 (by omega) (by decide), w6]
  obtain ⟨z23, e23⟩ : ∃ z, z22 >>> ((nI 8).toInt64 &&& 63) = z := ⟨_, rfl⟩
  have h23 : z23 = Int64.ofInt (W6 / 87112285931760246646623899502532662132736) := by
    rw [← e23, wr_sh (w := W6) (p := 340282366920938463463374607431768211456) h22 (by decide) (by omega)]
    rfl
  obtain ⟨z24, e24⟩ : ∃ z, z23 >>> ((nI 8).toInt64 &&& 63) = z := ⟨_, rfl⟩
  have h24 : z24 = Int64.ofInt (W6 / 22300745198530623141535718272648361505980416) := by
    rw [← e24, wr_sh (w := W6) (p := 87112285931760246646623899502532662132736) h23 (by decide) (by omega)]
    rfl
  obtain ⟨z25, e25⟩ : ∃ z, z24 >>> ((nI 8).toInt64 &&& 63) = z := ⟨_, rfl⟩
  have h25 : z25 = Int64.ofInt (W6 / 5708990770823839524233143877797980545530986496) := by
    rw [← e25, wr_sh (w := W6) (p := 22300745198530623141535718272648361505980416) h24 (by decide) (by omega)]
    rfl
  obtain ⟨z26, e26⟩ : ∃ z, z25 ||| ((Y.1 (kq 0 6) 6) <<< ((nI 1).toInt64 &&& 63)) = z := ⟨_, rfl⟩
  have h26 : z26 = Int64.ofInt (W7 / 5708990770823839524233143877797980545530986496) := by
    rw [← e26, wr_or (w := W6) (d := D 6) (p := 5708990770823839524233143877797980545530986496) (q := 11417981541647679048466287755595961091061972992) h25 (hY 6 (by decide)) (by decide) (by decide) r6 (by omega) (by decide), w7]
  obtain ⟨z27, e27⟩ : ∃ z, z26 >>> ((nI 8).toInt64 &&& 63) = z := ⟨_, rfl⟩
  have h27 : z27 = Int64.ofInt (W7 / 1461501637330902918203684832716283019655932542976) := by
    rw [← e27, wr_sh (w := W7) (p := 5708990770823839524233143877797980545530986496) h26 (by decide) (by omega)]
    rfl
  obtain ⟨z28, e28⟩ : ∃ z, z27 >>> ((nI 8).toInt64 &&& 63) = z := ⟨_, rfl⟩
  have h28 : z28 = Int64.ofInt (W7 / 374144419156711147060143317175368453031918731001856) := by
    rw [← e28, wr_sh (w := W7) (p := 1461501637330902918203684832716283019655932542976) h27 (by decide) (by omega)]
    rfl
  obtain ⟨z29, e29⟩ : ∃ z, z28 >>> ((nI 8).toInt64 &&& 63) = z := ⟨_, rfl⟩
  have h29 : z29 = Int64.ofInt (W7 / 95780971304118053647396689196894323976171195136475136) := by
    rw [← e29, wr_sh (w := W7) (p := 374144419156711147060143317175368453031918731001856) h28 (by decide) (by omega)]
    rfl
  obtain ⟨z30, e30⟩ : ∃ z, z29 ||| ((Y.1 (kq 0 6) 7) <<< ((nI 3).toInt64 &&& 63)) = z := ⟨_, rfl⟩
  have h30 : z30 = Int64.ofInt (W8 / 95780971304118053647396689196894323976171195136475136) := by
    rw [← e30, wr_or (w := W7) (d := D 7) (p := 95780971304118053647396689196894323976171195136475136) (q := 766247770432944429179173513575154591809369561091801088) h29 (hY 7 (by decide)) (by decide) (by decide) r7 (by omega) (by decide), w8]
  obtain ⟨z31, e31⟩ : ∃ z, z30 >>> ((nI 8).toInt64 &&& 63) = z := ⟨_, rfl⟩
  have h31 : z31 = Int64.ofInt (W8 / 24519928653854221733733552434404946937899825954937634816) := by
    rw [← e31, wr_sh (w := W8) (p := 95780971304118053647396689196894323976171195136475136) h30 (by decide) (by omega)]
    rfl
  obtain ⟨z32, e32⟩ : ∃ z, z31 >>> ((nI 8).toInt64 &&& 63) = z := ⟨_, rfl⟩
  have h32 : z32 = Int64.ofInt (W8 / 6277101735386680763835789423207666416102355444464034512896) := by
    rw [← e32, wr_sh (w := W8) (p := 24519928653854221733733552434404946937899825954937634816) h31 (by decide) (by omega)]
    rfl
  obtain ⟨z33, e33⟩ : ∃ z, z32 >>> ((nI 8).toInt64 &&& 63) = z := ⟨_, rfl⟩
  have h33 : z33 = Int64.ofInt (W8 / 1606938044258990275541962092341162602522202993782792835301376) := by
    rw [← e33, wr_sh (w := W8) (p := 6277101735386680763835789423207666416102355444464034512896) h32 (by decide) (by omega)]
    rfl
  obtain ⟨z34, e34⟩ : ∃ z, z33 ||| ((Y.1 (kq 0 6) 8) <<< ((nI 4).toInt64 &&& 63)) = z := ⟨_, rfl⟩
  have h34 : z34 = Int64.ofInt (W9 / 1606938044258990275541962092341162602522202993782792835301376) := by
    rw [← e34, wr_or (w := W8) (d := D 8) (p := 1606938044258990275541962092341162602522202993782792835301376) (q := 25711008708143844408671393477458601640355247900524685364822016) h33 (hY 8 (by decide)) (by decide) (by decide) r8 (by omega) (by decide), w9]
  obtain ⟨z35, e35⟩ : ∃ z, z34 >>> ((nI 8).toInt64 &&& 63) = z := ⟨_, rfl⟩
  have h35 : z35 = Int64.ofInt (W9 / 411376139330301510538742295639337626245683966408394965837152256) := by
    rw [← e35, wr_sh (w := W9) (p := 1606938044258990275541962092341162602522202993782792835301376) h34 (by decide) (by omega)]
    rfl
  obtain ⟨z36, e36⟩ : ∃ z, z35 >>> ((nI 8).toInt64 &&& 63) = z := ⟨_, rfl⟩
  have h36 : z36 = Int64.ofInt (W9 / 105312291668557186697918027683670432318895095400549111254310977536) := by
    rw [← e36, wr_sh (w := W9) (p := 411376139330301510538742295639337626245683966408394965837152256) h35 (by decide) (by omega)]
    rfl
  obtain ⟨z37, e37⟩ : ∃ z, z36 >>> ((nI 8).toInt64 &&& 63) = z := ⟨_, rfl⟩
  have h37 : z37 = Int64.ofInt (W9 / 26959946667150639794667015087019630673637144422540572481103610249216) := by
    rw [← e37, wr_sh (w := W9) (p := 105312291668557186697918027683670432318895095400549111254310977536) h36 (by decide) (by omega)]
    rfl
  obtain ⟨z38, e38⟩ : ∃ z, z37 ||| ((Y.1 (kq 0 6) 9) <<< ((nI 6).toInt64 &&& 63)) = z := ⟨_, rfl⟩
  have h38 : z38 = Int64.ofInt (W10 / 26959946667150639794667015087019630673637144422540572481103610249216) := by
    rw [← e38, wr_or (w := W9) (d := D 9) (p := 26959946667150639794667015087019630673637144422540572481103610249216) (q := 1725436586697640946858688965569256363112777243042596638790631055949824) h37 (hY 9 (by decide)) (by decide) (by decide) r9 (by omega) (by decide), w10]
  obtain ⟨z39, e39⟩ : ∃ z, z38 >>> ((nI 8).toInt64 &&& 63) = z := ⟨_, rfl⟩
  have h39 : z39 = Int64.ofInt (W10 / 6901746346790563787434755862277025452451108972170386555162524223799296) := by
    rw [← e39, wr_sh (w := W10) (p := 26959946667150639794667015087019630673637144422540572481103610249216) h38 (by decide) (by omega)]
    rfl
  obtain ⟨z40, e40⟩ : ∃ z, z39 >>> ((nI 8).toInt64 &&& 63) = z := ⟨_, rfl⟩
  have h40 : z40 = Int64.ofInt (W10 / 1766847064778384329583297500742918515827483896875618958121606201292619776) := by
    rw [← e40, wr_sh (w := W10) (p := 6901746346790563787434755862277025452451108972170386555162524223799296) h39 (by decide) (by omega)]
    rfl
  obtain ⟨z41, e41⟩ : ∃ z, z40 >>> ((nI 8).toInt64 &&& 63) = z := ⟨_, rfl⟩
  have h41 : z41 = Int64.ofInt (W10 / 452312848583266388373324160190187140051835877600158453279131187530910662656) := by
    rw [← e41, wr_sh (w := W10) (p := 1766847064778384329583297500742918515827483896875618958121606201292619776) h40 (by decide) (by omega)]
    rfl
  have hX : LF_F_write X kq ts to f = (stI (stI (stI (stI (stI (stI (stI (stI (stI (stI (stI (stI (stI (stI (stI (stI (stI (stI (stI (stI (stI (stI (stI (stI (stI (stI (stI (stI (stI (stI (stI (stI Y to 0 (z1.toInt32.toInt8.toInt32.toInt8.toInt32)) to 1 (z2.toInt32.toInt8.toInt32.toInt8.toInt32)) to 2 (z3.toInt32.toInt8.toInt32.toInt8.toInt32)) to 3 (z5.toInt32.toInt8.toInt32.toInt8.toInt32)) to 4 (z6.toInt32.toInt8.toInt32.toInt8.toInt32)) to 5 (z7.toInt32.toInt8.toInt32.toInt8.toInt32)) to 6 (z9.toInt32.toInt8.toInt32.toInt8.toInt32)) to 7 (z10.toInt32.toInt8.toInt32.toInt8.toInt32)) to 8 (z11.toInt32.toInt8.toInt32.toInt8.toInt32)) to 9 (z13.toInt32.toInt8.toInt32.toInt8.toInt32)) to 10 (z14.toInt32.toInt8.toInt32.toInt8.toInt32)) to 11 (z15.toInt32.toInt8.toInt32.toInt8.toInt32)) to 12 (z17.toInt32.toInt8.toInt32.toInt8.toInt32)) to 13 (z18.toInt32.toInt8.toInt32.toInt8.toInt32)) to 14 (z19.toInt32.toInt8.toInt32.toInt8.toInt32)) to 15 (z20.toInt32.toInt8.toInt32.toInt8.toInt32)) to 16 (z22.toInt32.toInt8.toInt32.toInt8.toInt32)) to 17 (z23.toInt32.toInt8.toInt32.toInt8.toInt32)) to 18 (z24.toInt32.toInt8.toInt32.toInt8.toInt32)) to 19 (z26.toInt32.toInt8.toInt32.toInt8.toInt32)) to 20 (z27.toInt32.toInt8.toInt32.toInt8.toInt32)) to 21 (z28.toInt32.toInt8.toInt32.toInt8.toInt32)) to 22 (z30.toInt32.toInt8.toInt32.toInt8.toInt32)) to 23 (z31.toInt32.toInt8.toInt32.toInt8.toInt32)) to 24 (z32.toInt32.toInt8.toInt32.toInt8.toInt32)) to 25 (z34.toInt32.toInt8.toInt32.toInt8.toInt32)) to 26 (z35.toInt32.toInt8.toInt32.toInt8.toInt32)) to 27 (z36.toInt32.toInt8.toInt32.toInt8.toInt32)) to 28 (z38.toInt32.toInt8.toInt32.toInt8.toInt32)) to 29 (z39.toInt32.toInt8.toInt32.toInt8.toInt32)) to 30 (z40.toInt32.toInt8.toInt32.toInt8.toInt32)) to 31 (z41.toInt32.toInt8.toInt32.toInt8.toInt32)) := by
    subst eY e1 e2 e3 e4 e5 e6 e7 e8 e9 e10 e11 e12 e13 e14 e15 e16 e17 e18 e19 e20 e21 e22 e23 e24 e25 e26 e27 e28 e29 e30 e31 e32 e33 e34 e35 e36 e37 e38 e39 e40 e41
    rfl
  have hb : ∀ j, j < 32 → True := fun _ _ => trivial
  have y0 : z1.toInt32.toInt8.toInt32.toInt8.toInt32 = by8 ((v.val : Int) / 256 ^ 0) := by
    rw [h1, by8_of, ← hW, show (256 : Int) ^ 0 = 1 from by decide]
    exact wr_by (T := D 1 * 1 + D 2 * 33554432 + D 3 * 2251799813685248 + D 4 * 75557863725914323419136 + D 5 * 5070602400912917605986812821504 + D 6 * 170141183460469231731687303715884105728 + D 7 * 11417981541647679048466287755595961091061972992 + D 8 * 383123885216472214589586756787577295904684780545900544 + D 9 * 25711008708143844408671393477458601640355247900524685364822016) (c := 262144) (by omega) (by decide)
  have y1 : z2.toInt32.toInt8.toInt32.toInt8.toInt32 = by8 ((v.val : Int) / 256 ^ 1) := by
    rw [h2, by8_of, ← hW, show (256 : Int) ^ 1 = 256 from by decide]
    exact wr_by (T := D 1 * 1 + D 2 * 33554432 + D 3 * 2251799813685248 + D 4 * 75557863725914323419136 + D 5 * 5070602400912917605986812821504 + D 6 * 170141183460469231731687303715884105728 + D 7 * 11417981541647679048466287755595961091061972992 + D 8 * 383123885216472214589586756787577295904684780545900544 + D 9 * 25711008708143844408671393477458601640355247900524685364822016) (c := 1024) (by omega) (by decide)
  have y2 : z3.toInt32.toInt8.toInt32.toInt8.toInt32 = by8 ((v.val : Int) / 256 ^ 2) := by
    rw [h3, by8_of, ← hW, show (256 : Int) ^ 2 = 65536 from by decide]
    exact wr_by (T := D 1 * 1 + D 2 * 33554432 + D 3 * 2251799813685248 + D 4 * 75557863725914323419136 + D 5 * 5070602400912917605986812821504 + D 6 * 170141183460469231731687303715884105728 + D 7 * 11417981541647679048466287755595961091061972992 + D 8 * 383123885216472214589586756787577295904684780545900544 + D 9 * 25711008708143844408671393477458601640355247900524685364822016) (c := 4) (by omega) (by decide)
  have y3 : z5.toInt32.toInt8.toInt32.toInt8.toInt32 = by8 ((v.val : Int) / 256 ^ 3) := by
    rw [h5, by8_of, ← hW, show (256 : Int) ^ 3 = 16777216 from by decide]
    exact wr_by (T := D 2 * 1 + D 3 * 67108864 + D 4 * 2251799813685248 + D 5 * 151115727451828646838272 + D 6 * 5070602400912917605986812821504 + D 7 * 340282366920938463463374607431768211456 + D 8 * 11417981541647679048466287755595961091061972992 + D 9 * 766247770432944429179173513575154591809369561091801088) (c := 524288) (by omega) (by decide)
  have y4 : z6.toInt32.toInt8.toInt32.toInt8.toInt32 = by8 ((v.val : Int) / 256 ^ 4) := by
    rw [h6, by8_of, ← hW, show (256 : Int) ^ 4 = 4294967296 from by decide]
    exact wr_by (T := D 2 * 1 + D 3 * 67108864 + D 4 * 2251799813685248 + D 5 * 151115727451828646838272 + D 6 * 5070602400912917605986812821504 + D 7 * 340282366920938463463374607431768211456 + D 8 * 11417981541647679048466287755595961091061972992 + D 9 * 766247770432944429179173513575154591809369561091801088) (c := 2048) (by omega) (by decide)
  have y5 : z7.toInt32.toInt8.toInt32.toInt8.toInt32 = by8 ((v.val : Int) / 256 ^ 5) := by
    rw [h7, by8_of, ← hW, show (256 : Int) ^ 5 = 1099511627776 from by decide]
    exact wr_by (T := D 2 * 1 + D 3 * 67108864 + D 4 * 2251799813685248 + D 5 * 151115727451828646838272 + D 6 * 5070602400912917605986812821504 + D 7 * 340282366920938463463374607431768211456 + D 8 * 11417981541647679048466287755595961091061972992 + D 9 * 766247770432944429179173513575154591809369561091801088) (c := 8) (by omega) (by decide)
  have y6 : z9.toInt32.toInt8.toInt32.toInt8.toInt32 = by8 ((v.val : Int) / 256 ^ 6) := by
    rw [h9, by8_of, ← hW, show (256 : Int) ^ 6 = 281474976710656 from by decide]
    exact wr_by (T := D 3 * 1 + D 4 * 33554432 + D 5 * 2251799813685248 + D 6 * 75557863725914323419136 + D 7 * 5070602400912917605986812821504 + D 8 * 170141183460469231731687303715884105728 + D 9 * 11417981541647679048466287755595961091061972992) (c := 2097152) (by omega) (by decide)
  have y7 : z10.toInt32.toInt8.toInt32.toInt8.toInt32 = by8 ((v.val : Int) / 256 ^ 7) := by
    rw [h10, by8_of, ← hW, show (256 : Int) ^ 7 = 72057594037927936 from by decide]
    exact wr_by (T := D 3 * 1 + D 4 * 33554432 + D 5 * 2251799813685248 + D 6 * 75557863725914323419136 + D 7 * 5070602400912917605986812821504 + D 8 * 170141183460469231731687303715884105728 + D 9 * 11417981541647679048466287755595961091061972992) (c := 8192) (by omega) (by decide)
  have y8 : z11.toInt32.toInt8.toInt32.toInt8.toInt32 = by8 ((v.val : Int) / 256 ^ 8) := by
    rw [h11, by8_of, ← hW, show (256 : Int) ^ 8 = 18446744073709551616 from by decide]
    exact wr_by (T := D 3 * 1 + D 4 * 33554432 + D 5 * 2251799813685248 + D 6 * 75557863725914323419136 + D 7 * 5070602400912917605986812821504 + D 8 * 170141183460469231731687303715884105728 + D 9 * 11417981541647679048466287755595961091061972992) (c := 32) (by omega) (by decide)
  have y9 : z13.toInt32.toInt8.toInt32.toInt8.toInt32 = by8 ((v.val : Int) / 256 ^ 9) := by
    rw [h13, by8_of, ← hW, show (256 : Int) ^ 9 = 4722366482869645213696 from by decide]
    exact wr_by (T := D 4 * 1 + D 5 * 67108864 + D 6 * 2251799813685248 + D 7 * 151115727451828646838272 + D 8 * 5070602400912917605986812821504 + D 9 * 340282366920938463463374607431768211456) (c := 4194304) (by omega) (by decide)
  have y10 : z14.toInt32.toInt8.toInt32.toInt8.toInt32 = by8 ((v.val : Int) / 256 ^ 10) := by
    rw [h14, by8_of, ← hW, show (256 : Int) ^ 10 = 1208925819614629174706176 from by decide]
    exact wr_by (T := D 4 * 1 + D 5 * 67108864 + D 6 * 2251799813685248 + D 7 * 151115727451828646838272 + D 8 * 5070602400912917605986812821504 + D 9 * 340282366920938463463374607431768211456) (c := 16384) (by omega) (by decide)
  have y11 : z15.toInt32.toInt8.toInt32.toInt8.toInt32 = by8 ((v.val : Int) / 256 ^ 11) := by
    rw [h15, by8_of, ← hW, show (256 : Int) ^ 11 = 309485009821345068724781056 from by decide]
    exact wr_by (T := D 4 * 1 + D 5 * 67108864 + D 6 * 2251799813685248 + D 7 * 151115727451828646838272 + D 8 * 5070602400912917605986812821504 + D 9 * 340282366920938463463374607431768211456) (c := 64) (by omega) (by decide)
  have y12 : z17.toInt32.toInt8.toInt32.toInt8.toInt32 = by8 ((v.val : Int) / 256 ^ 12) := by
    rw [h17, by8_of, ← hW, show (256 : Int) ^ 12 = 79228162514264337593543950336 from by decide]
    exact wr_by (T := D 5 * 1 + D 6 * 33554432 + D 7 * 2251799813685248 + D 8 * 75557863725914323419136 + D 9 * 5070602400912917605986812821504) (c := 16777216) (by omega) (by decide)
  have y13 : z18.toInt32.toInt8.toInt32.toInt8.toInt32 = by8 ((v.val : Int) / 256 ^ 13) := by
    rw [h18, by8_of, ← hW, show (256 : Int) ^ 13 = 20282409603651670423947251286016 from by decide]
    exact wr_by (T := D 5 * 1 + D 6 * 33554432 + D 7 * 2251799813685248 + D 8 * 75557863725914323419136 + D 9 * 5070602400912917605986812821504) (c := 65536) (by omega) (by decide)
  have y14 : z19.toInt32.toInt8.toInt32.toInt8.toInt32 = by8 ((v.val : Int) / 256 ^ 14) := by
    rw [h19, by8_of, ← hW, show (256 : Int) ^ 14 = 5192296858534827628530496329220096 from by decide]
    exact wr_by (T := D 5 * 1 + D 6 * 33554432 + D 7 * 2251799813685248 + D 8 * 75557863725914323419136 + D 9 * 5070602400912917605986812821504) (c := 256) (by omega) (by decide)
  have y15 : z20.toInt32.toInt8.toInt32.toInt8.toInt32 = by8 ((v.val : Int) / 256 ^ 15) := by
    rw [h20, by8_of, ← hW, show (256 : Int) ^ 15 = 1329227995784915872903807060280344576 from by decide]
    exact wr_by (T := D 5 * 1 + D 6 * 33554432 + D 7 * 2251799813685248 + D 8 * 75557863725914323419136 + D 9 * 5070602400912917605986812821504) (c := 1) (by omega) (by decide)
  have y16 : z22.toInt32.toInt8.toInt32.toInt8.toInt32 = by8 ((v.val : Int) / 256 ^ 16) := by
    rw [h22, by8_of, ← hW, show (256 : Int) ^ 16 = 340282366920938463463374607431768211456 from by decide]
    exact wr_by (T := D 6 * 1 + D 7 * 67108864 + D 8 * 2251799813685248 + D 9 * 151115727451828646838272) (c := 131072) (by omega) (by decide)
  have y17 : z23.toInt32.toInt8.toInt32.toInt8.toInt32 = by8 ((v.val : Int) / 256 ^ 17) := by
    rw [h23, by8_of, ← hW, show (256 : Int) ^ 17 = 87112285931760246646623899502532662132736 from by decide]
    exact wr_by (T := D 6 * 1 + D 7 * 67108864 + D 8 * 2251799813685248 + D 9 * 151115727451828646838272) (c := 512) (by omega) (by decide)
  have y18 : z24.toInt32.toInt8.toInt32.toInt8.toInt32 = by8 ((v.val : Int) / 256 ^ 18) := by
    rw [h24, by8_of, ← hW, show (256 : Int) ^ 18 = 22300745198530623141535718272648361505980416 from by decide]
    exact wr_by (T := D 6 * 1 + D 7 * 67108864 + D 8 * 2251799813685248 + D 9 * 151115727451828646838272) (c := 2) (by omega) (by decide)
  have y19 : z26.toInt32.toInt8.toInt32.toInt8.toInt32 = by8 ((v.val : Int) / 256 ^ 19) := by
    rw [h26, by8_of, ← hW, show (256 : Int) ^ 19 = 5708990770823839524233143877797980545530986496 from by decide]
    exact wr_by (T := D 7 * 1 + D 8 * 33554432 + D 9 * 2251799813685248) (c := 524288) (by omega) (by decide)
  have y20 : z27.toInt32.toInt8.toInt32.toInt8.toInt32 = by8 ((v.val : Int) / 256 ^ 20) := by
    rw [h27, by8_of, ← hW, show (256 : Int) ^ 20 = 1461501637330902918203684832716283019655932542976 from by decide]
    exact wr_by (T := D 7 * 1 + D 8 * 33554432 + D 9 * 2251799813685248) (c := 2048) (by omega) (by decide)
  have y21 : z28.toInt32.toInt8.toInt32.toInt8.toInt32 = by8 ((v.val : Int) / 256 ^ 21) := by
    rw [h28, by8_of, ← hW, show (256 : Int) ^ 21 = 374144419156711147060143317175368453031918731001856 from by decide]
    exact wr_by (T := D 7 * 1 + D 8 * 33554432 + D 9 * 2251799813685248) (c := 8) (by omega) (by decide)
  have y22 : z30.toInt32.toInt8.toInt32.toInt8.toInt32 = by8 ((v.val : Int) / 256 ^ 22) := by
    rw [h30, by8_of, ← hW, show (256 : Int) ^ 22 = 95780971304118053647396689196894323976171195136475136 from by decide]
    exact wr_by (T := D 8 * 1 + D 9 * 67108864) (c := 1048576) (by omega) (by decide)
  have y23 : z31.toInt32.toInt8.toInt32.toInt8.toInt32 = by8 ((v.val : Int) / 256 ^ 23) := by
    rw [h31, by8_of, ← hW, show (256 : Int) ^ 23 = 24519928653854221733733552434404946937899825954937634816 from by decide]
    exact wr_by (T := D 8 * 1 + D 9 * 67108864) (c := 4096) (by omega) (by decide)
  have y24 : z32.toInt32.toInt8.toInt32.toInt8.toInt32 = by8 ((v.val : Int) / 256 ^ 24) := by
    rw [h32, by8_of, ← hW, show (256 : Int) ^ 24 = 6277101735386680763835789423207666416102355444464034512896 from by decide]
    exact wr_by (T := D 8 * 1 + D 9 * 67108864) (c := 16) (by omega) (by decide)
  have y25 : z34.toInt32.toInt8.toInt32.toInt8.toInt32 = by8 ((v.val : Int) / 256 ^ 25) := by
    rw [h34, by8_of, ← hW, show (256 : Int) ^ 25 = 1606938044258990275541962092341162602522202993782792835301376 from by decide]
    exact wr_by (T := D 9 * 1) (c := 4194304) (by omega) (by decide)
  have y26 : z35.toInt32.toInt8.toInt32.toInt8.toInt32 = by8 ((v.val : Int) / 256 ^ 26) := by
    rw [h35, by8_of, ← hW, show (256 : Int) ^ 26 = 411376139330301510538742295639337626245683966408394965837152256 from by decide]
    exact wr_by (T := D 9 * 1) (c := 16384) (by omega) (by decide)
  have y27 : z36.toInt32.toInt8.toInt32.toInt8.toInt32 = by8 ((v.val : Int) / 256 ^ 27) := by
    rw [h36, by8_of, ← hW, show (256 : Int) ^ 27 = 105312291668557186697918027683670432318895095400549111254310977536 from by decide]
    exact wr_by (T := D 9 * 1) (c := 64) (by omega) (by decide)
  have y28 : z38.toInt32.toInt8.toInt32.toInt8.toInt32 = by8 ((v.val : Int) / 256 ^ 28) := by
    rw [h38, by8_of, hW, show (256 : Int) ^ 28 = 26959946667150639794667015087019630673637144422540572481103610249216 from by decide]
  have y29 : z39.toInt32.toInt8.toInt32.toInt8.toInt32 = by8 ((v.val : Int) / 256 ^ 29) := by
    rw [h39, by8_of, hW, show (256 : Int) ^ 29 = 6901746346790563787434755862277025452451108972170386555162524223799296 from by decide]
  have y30 : z40.toInt32.toInt8.toInt32.toInt8.toInt32 = by8 ((v.val : Int) / 256 ^ 30) := by
    rw [h40, by8_of, hW, show (256 : Int) ^ 30 = 1766847064778384329583297500742918515827483896875618958121606201292619776 from by decide]
  have y31 : z41.toInt32.toInt8.toInt32.toInt8.toInt32 = by8 ((v.val : Int) / 256 ^ 31) := by
    rw [h41, by8_of, hW, show (256 : Int) ^ 31 = 452312848583266388373324160190187140051835877600158453279131187530910662656 from by decide]
  rw [hX, y0, y1, y2, y3, y4, y5, y6, y7, y8, y9, y10, y11, y12, y13, y14, y15, y16, y17, y18, y19, y20, y21, y22, y23, y24, y25, y26, y27, y28, y29, y30, y31]
  have z : Y = svI Y to 0 (fun j => by8 ((v.val : Int) / 256 ^ j)) := by
    refine Prod.ext rfl (funext fun b => funext fun k => ?_)
    exact (if_neg (fun z => absurd z.2 (Nat.not_lt_zero k))).symm
  generalize ht : (fun j => by8 ((v.val : Int) / 256 ^ j)) = t at z ⊢
  have ht2 : ∀ j, by8 ((v.val : Int) / 256 ^ j) = t j := fun j => by rw [← ht]
  simp only [ht2]
  have e2 : (stI (stI (stI (stI (stI (stI (stI (stI (stI (stI (stI (stI (stI (stI (stI (stI (stI (stI (stI (stI (stI (stI (stI (stI (stI (stI (stI (stI (stI (stI (stI (stI Y to 0 (t 0)) to 1 (t 1)) to 2 (t 2)) to 3 (t 3)) to 4 (t 4)) to 5 (t 5)) to 6 (t 6)) to 7 (t 7)) to 8 (t 8)) to 9 (t 9)) to 10 (t 10)) to 11 (t 11)) to 12 (t 12)) to 13 (t 13)) to 14 (t 14)) to 15 (t 15)) to 16 (t 16)) to 17 (t 17)) to 18 (t 18)) to 19 (t 19)) to 20 (t 20)) to 21 (t 21)) to 22 (t 22)) to 23 (t 23)) to 24 (t 24)) to 25 (t 25)) to 26 (t 26)) to 27 (t 27)) to 28 (t 28)) to 29 (t 29)) to 30 (t 30)) to 31 (t 31)) = svI Y to 32 t := by
    conv => lhs; rw [z]
    rw [st_svI, st_svI, st_svI, st_svI, st_svI, st_svI, st_svI, st_svI, st_svI, st_svI, st_svI, st_svI, st_svI, st_svI, st_svI, st_svI, st_svI, st_svI, st_svI, st_svI, st_svI, st_svI, st_svI, st_svI, st_svI, st_svI, st_svI, st_svI, st_svI, st_svI, st_svI, st_svI]
  exact e2
