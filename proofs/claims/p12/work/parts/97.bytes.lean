/-! digits of a row of bytes -/
def dsum (dig : Nat → Nat) : Nat → Nat
  | 0 => 0
  | k + 1 => dsum dig k + dig k * 16 ^ k
theorem hsum_eq (dig : Nat → Nat) : ∀ k n, hsum dig k n = n * 16 ^ k + dsum dig k
  | 0, n => by show n = n * 1 + 0; omega
  | k + 1, n => by
    show hsum dig k (16 * n + dig k) = n * 16 ^ (k + 1) + (dsum dig k + dig k * 16 ^ k)
    rw [hsum_eq dig k, Nat.add_mul, Nat.pow_succ, Nat.mul_comm 16 n, Nat.mul_assoc, Nat.mul_comm 16 (16 ^ k)]
    omega
theorem nI_cl : ∀ n : Nat, n < 16 → (nI n).toNatClampNeg = n := by decide +kernel
theorem dg_at (X : vM) (s i : Nat) : LF_Ed_digitAt X s i = ub (X.2 s (i / 2)) / 16 ^ (i % 2) % 16 := by
  show ((((X.2 s (i / 2)) >>> ((nI (4 * (i % 2))) &&& 31)) &&& (nI 15))).toNatClampNeg = _
  have h := i3_bits (X.2 s (i / 2)) (s := 4 * (i % 2)) (w := 4) (by omega)
  rw [show (2 : Nat) ^ 4 - 1 = 15 from rfl, show (2 : Nat) ^ 4 = 16 from rfl, Nat.pow_mul, show (2 : Nat) ^ 4 = 16 from rfl] at h
  rw [h, nI_cl _ (Nat.mod_lt _ (by decide))]
theorem dsum_le (X : vM) (s : Nat) : ∀ m, dsum (fun i => LF_Ed_digitAt X s i) (2 * m) = leN (X.2 s) m
  | 0 => rfl
  | m + 1 => by
    have ih := dsum_le X s m
    show dsum (fun i => LF_Ed_digitAt X s i) (2 * m) + LF_Ed_digitAt X s (2 * m) * 16 ^ (2 * m) + LF_Ed_digitAt X s (2 * m + 1) * 16 ^ (2 * m + 1) = leN (X.2 s) m + ub (X.2 s m) * 256 ^ m
    have p1 : 16 ^ (2 * m) = 256 ^ m := by rw [Nat.pow_mul]
    have p2 : 16 ^ (2 * m + 1) = 16 * 256 ^ m := by rw [Nat.pow_succ, p1, Nat.mul_comm]
    rw [ih, dg_at, dg_at, show 2 * m / 2 = m by omega, show (2 * m + 1) / 2 = m by omega, show 2 * m % 2 = 0 by omega, show (2 * m + 1) % 2 = 1 by omega, p1, p2, show (16 : Nat) ^ 0 = 1 from rfl, show (16 : Nat) ^ 1 = 16 from rfl, Nat.div_one, ← Nat.mul_assoc, Nat.add_assoc, ← Nat.add_mul]
    have hu := ub_lt (X.2 s m)
    rw [show ub (X.2 s m) % 16 + ub (X.2 s m) / 16 % 16 * 16 = ub (X.2 s m) by omega]
theorem dsum_32 (X : vM) (s : Nat) : hsum (fun i => LF_Ed_digitAt X s i) 64 0 = leN (X.2 s) 32 := by
  rw [hsum_eq, Nat.zero_mul, Nat.zero_add]
  exact dsum_le X s 32
theorem rg_00 {R : Type} [Lean.Grind.CommRing R] : (0 : R) = 0 * 1 ∧ (1 : R) = 1 * 1 ∧ (0 : R) = 0 * 1 * 1 := by grind
theorem c_neutral {X : vM} {kq : Nat → Nat → Nat} (B : Pt2) (hI : KInj kq) : onL (edW kq) X (LF_Pt_setNeutral X (kq 3)) ∧ Ex (LF_Pt_setNeutral X (kq 3)) (kq 3) 1 (emul B 0) := by
  have R1 := fe_set (X := X) (h := kq 3 0) 0 (by decide)
  rw [show Int64.ofInt 0 = (0 : Int64) from rfl] at R1
  obtain ⟨X1, eX1⟩ : ∃ Y, LF_F_set X (kq 3 0) (0 : Int64) = Y := ⟨_, rfl⟩
  rw [eX1] at R1
  have F1 : onK kq [(3, 0)] X X1 := onK.of (R1.on List.mem_cons_self)
  have g1 := R1.2
  have g1 := g1.ev iF_0
  have R2 := fe_set (X := X1) (h := kq 3 1) 1 (by decide)
  rw [show Int64.ofInt 1 = (1 : Int64) from rfl] at R2
  obtain ⟨X2, eX2⟩ : ∃ Y, LF_F_set X1 (kq 3 1) (1 : Int64) = Y := ⟨_, rfl⟩
  rw [eX2] at R2
  have F2 : onK kq [(3, 1)] X1 X2 := onK.of (R2.on List.mem_cons_self)
  have g1 := g1.k hI F2 rfl
  have g2 := R2.2
  have g2 := g2.ev (show iF 1 = 1 by decide +kernel)
  have R3 := fe_set (X := X2) (h := kq 3 2) 1 (by decide)
  rw [show Int64.ofInt 1 = (1 : Int64) from rfl] at R3
  obtain ⟨X3, eX3⟩ : ∃ Y, LF_F_set X2 (kq 3 2) (1 : Int64) = Y := ⟨_, rfl⟩
  rw [eX3] at R3
  have F3 : onK kq [(3, 2)] X2 X3 := onK.of (R3.on List.mem_cons_self)
  have g1 := g1.k hI F3 rfl
  have g2 := g2.k hI F3 rfl
  have g3 := R3.2
  have g3 := g3.ev (show iF 1 = 1 by decide +kernel)
  have R4 := fe_set (X := X3) (h := kq 3 3) 0 (by decide)
  rw [show Int64.ofInt 0 = (0 : Int64) from rfl] at R4
  obtain ⟨X4, eX4⟩ : ∃ Y, LF_F_set X3 (kq 3 3) (0 : Int64) = Y := ⟨_, rfl⟩
  rw [eX4] at R4
  have F4 : onK kq [(3, 3)] X3 X4 := onK.of (R4.on List.mem_cons_self)
  have g1 := g1.k hI F4 rfl
  have g2 := g2.k hI F4 rfl
  have g3 := g3.k hI F4 rfl
  have g4 := R4.2
  have g4 := g4.ev iF_0
  have hX : LF_Pt_setNeutral X (kq 3) = X4 := by
    unfold LF_Pt_setNeutral
    simp only []
    rw [eX1, eX2, eX3, eX4]
  rw [hX]
  refine ⟨(((R1.on (by simp)).tr (R2.on (by simp))).tr (R3.on (by simp))).tr (R4.on (by simp)), ?_⟩
  exact ⟨0, 1, 1, 0, g1, g2, g3, g4, by decide, rg_00.1, rg_00.2.1, rg_00.2.2⟩
theorem dg_0 {X : vM} {z0 : Nat} (h : ∀ j, j < 32 → X.2 z0 j = 0) (i : Nat) (hi : i < 64) : LF_Ed_digitAt X z0 i = 0 := by
  rw [dg_at, h (i / 2) (by omega), show ub 0 = 0 from by decide, Nat.zero_div]
theorem c_mulB {X : vM} {kq : Nat → Nat → Nat} {ts : Nat → Nat} {s : Nat} {B : Pt2} (hI : KInj kq) (oB : onC B.1 B.2) (hz : ∀ j, j < 32 → X.2 (kq 2 5) j = 0) (hT : ∀ j, 1 ≤ j → j < 16 → Ax X (kq (16 + j)) (emul B j)) : Ex (LF_Ed_multiplyBase X kq ts s) (kq 3) 1 (emul B (leN (X.2 s) 32)) ∧ onL (edW kq) X (LF_Ed_multiplyBase X kq ts s) := by
  obtain ⟨n1, n2⟩ := c_neutral (X := X) B hI
  obtain ⟨X1, e1⟩ : ∃ Y, LF_Pt_setNeutral X (kq 3) = Y := ⟨_, rfl⟩
  rw [e1] at n1 n2
  have q := ex_up0 (s := s) hI oB (dg_0 hz) hT 64 X1 0 (by decide) n2 n1
  rw [dsum_32] at q
  have e : LF_Ed_multiplyBase X kq ts s = lpD (LL_Ed_addUp_10 kq s (kq 2 5)) 64 X1 := by
    unfold LF_Ed_multiplyBase LF_Ed_addUp
    simp only []
    rw [e1]
  rw [e]
  exact q
/-- a point as 32 bytes -/
def encN (P : Pt2) : Nat := P.2.val + 57896044618658097711785492504343953926634992332820282019728792003956564819968 * (P.1.val % 2)
theorem rg_zz {R : Type} [Lean.Grind.CommRing R] (p z i : R) (h : z * i = 1) : p * z * i = p := by grind
theorem fe_val (v : Fp) : ((v.val : Int) / 256 ^ 0) = (v.val : Int) := by rw [show (256 : Int) ^ 0 = 1 from rfl, Int.ediv_one]
theorem enc_by (P : Pt2) {Y : vM} {to : Nat} (w : ∀ j, j < 32 → Y.2 to j = by8 ((P.2.val : Int) / 256 ^ j)) {x : Int32} (hx : x = by8 ((128 * (P.1.val % 2) : Nat) : Int)) : ∀ j, j < 32 → (stI Y to 31 ((((Y.2 to 31) ||| x).toInt8.toInt32).toInt8.toInt32)).2 to j = by8 ((encN P : Int) / 256 ^ j) := fun j hj => by
  exact top_by (pv_lt P.2) (Nat.mod_lt _ (by decide)) w hx j hj
def wsW : List (Nat × Nat) := [(0, 0), (0, 1), (0, 2), (0, 3), (0, 4), (0, 5), (0, 6), (2, 6), (2, 7), (2, 8), (2, 9)]
theorem c_wsum {X : vM} {kq : Nat → Nat → Nat} {ts : Nat → Nat} {to : Nat} {P : Pt2} (hI : KInj kq) (hto : to ≠ kq 2 6) (hP : Ex X (kq 3) 1 P) : onW (to :: wsW.map (fun q => kq q.1 q.2)) X (LF_Ed_writeSum X kq ts to) ∧ ∀ j, j < 32 → (LF_Ed_writeSum X kq ts to).2 to j = by8 ((encN P : Int) / 256 ^ j) := by
  obtain ⟨x, y, z, t, p0, p1, p2, -, hz, rfl, rfl, -⟩ := hP
  have R1 := fe_invert (ts := ts) (h := kq 2 7) (nd_of hI [(3, 2), (0, 0), (0, 1), (0, 2), (0, 3), (0, 4), (0, 5), (0, 6)] (by decide +kernel)) (p2.mono (by decide))
  obtain ⟨X1, eX1⟩ : ∃ Y, LF_F_invert X kq ts (kq 2 7) (kq 3 2) = Y := ⟨_, rfl⟩
  rw [eX1] at R1
  have F1 : onK kq [(2, 7), (0, 0), (0, 1), (0, 2), (0, 3), (0, 4), (0, 5), (0, 6)] X X1 := onK.of R1.1
  have p0 := p0.k hI F1 rfl
  have p1 := p1.k hI F1 rfl
  have g1 := R1.2
  have R2 := fe_times (h := kq 2 8) p0 g1 (by decide)
  obtain ⟨X2, eX2⟩ : ∃ Y, LF_F_times X1 (kq 2 8) (kq 3 0) (kq 2 7) = Y := ⟨_, rfl⟩
  rw [eX2] at R2
  have F2 : onK kq [(2, 8)] X1 X2 := onK.of (R2.on List.mem_cons_self)
  have p1 := p1.k hI F2 rfl
  have g1 := g1.k hI F2 rfl
  have g2 := R2.2
  have R3 := fe_times (h := kq 2 9) p1 g1 (by decide)
  obtain ⟨X3, eX3⟩ : ∃ Y, LF_F_times X2 (kq 2 9) (kq 3 1) (kq 2 7) = Y := ⟨_, rfl⟩
  rw [eX3] at R3
  have F3 : onK kq [(2, 9)] X2 X3 := onK.of (R3.on List.mem_cons_self)
  have g2 := g2.k hI F3 rfl
  have g3 := R3.2
  have hb := g2.ev (rg_zz P.1 z _ (fpi_mul hz))
  have hc := g3.ev (rg_zz P.2 z _ (fpi_mul hz))
  have oA : onK kq wsW X X3 := ((((onK.rf (l := [(0, 0), (0, 1), (0, 2), (0, 3), (0, 4), (0, 5), (0, 6), (2, 6), (2, 7), (2, 8), (2, 9)])).ad F1 rfl).ad F2 rfl).ad F3 rfl)
  obtain ⟨w1, -, w3⟩ := fe_wr (kq := kq) (ts := ts) (to := kq 2 6) hb (by decide)
  obtain ⟨Xa, ea⟩ : ∃ Y, LF_F_write X3 kq ts (kq 2 6) (kq 2 8) = Y := ⟨_, rfl⟩
  rw [ea] at w1 w3
  have oa : onK kq [(0, 6), (2, 6)] X3 Xa := w1
  have hc := hc.k hI oa rfl
  obtain ⟨v1, -, v3⟩ := fe_wr (kq := kq) (ts := ts) (to := to) hc (by decide)
  obtain ⟨Xb, eb⟩ : ∃ Y, LF_F_write Xa kq ts to (kq 2 9) = Y := ⟨_, rfl⟩
  rw [eb] at v1 v3
  have h6 : Xb.2 (kq 2 6) = Xa.2 (kq 2 6) := (v1 (kq 2 6) (ni2 (hI.ne (a := (2, 6)) (b := (0, 6)) rfl) (fun z => hto z.symm))).2
  have e : LF_Ed_writeSum X kq ts to = stI Xb to 31 ((((Xb.2 to 31) ||| (((Xb.2 (kq 2 6) 0) <<< ((nI 7) &&& 31)).toInt8.toInt32)).toInt8.toInt32).toInt8.toInt32) := by
    unfold LF_Ed_writeSum
    simp only []
    rw [eX1, eX2, eX3, ea, eb]
  rw [e]
  refine ⟨?_, enc_by P v3 ?_⟩
  · have o1 : onW (to :: wsW.map (fun q => kq q.1 q.2)) X Xa := onW.mono (oA.ad oa rfl) (fun x hx => List.mem_cons_of_mem _ hx)
    refine (o1.tr (v1.mono ?_)).tr (st_onI List.mem_cons_self)
    intro x hx
    rcases List.mem_cons.mp hx with h | h
    · exact List.mem_cons_of_mem _ (List.mem_map.mpr ⟨(0, 6), by decide, h.symm⟩)
    · rw [List.mem_singleton.mp h]
      exact List.mem_cons_self
  · rw [h6, w3 0 (by decide), fe_val, by8_256, show (P.1.val : Int) % 256 = ((P.1.val % 256 : Nat) : Int) from rfl, sh_top _ (Nat.mod_lt _ (by decide)), show P.1.val % 256 % 2 = P.1.val % 2 by omega]
/-! the reference writes a point -/
theorem m_sh7 : ∀ s : Nat, s < 2 → ((Int64.ofInt (s : Int) <<< ((nI 7).toInt64 &&& 63)).toInt32).toInt8.toInt32 = by8 ((128 * s : Nat) : Int) := by decide +kernel
theorem fm_enc {X : vM} {r : Nat → Nat} {to a1 a2 : Nat} {P : Pt2} (h1 : Fm X a1 P.1) (h2 : Fm X a2 P.2) : LF_M_encode X r to a1 a2 = svI X to 32 (fun j => by8 ((encN P : Int) / 256 ^ j)) := by
  have w := m_wr (to := to) h2 (LL_M_encode_3 to a2) (fun i Y _ => rfl)
  have e : LF_M_encode X r to a1 a2 = stI (svI X to 32 (fun j => by8 ((P.2.val : Int) / 256 ^ j))) to 31 (((((svI X to 32 (fun j => by8 ((P.2.val : Int) / 256 ^ j))).2 to 31) ||| (((((X.1 a1 0) &&& (1 : Int64)) <<< ((nI 7).toInt64 &&& 63)).toInt32).toInt8.toInt32)).toInt8.toInt32).toInt8.toInt32) := by
    unfold LF_M_encode
    simp only []
    rw [w]
    rfl
  rw [e]
  have hd := dgI_bd (P.1.val : Int) 0
  have h0 : dgI (P.1.val : Int) 0 % 2 = ((P.1.val % 2 : Nat) : Int) := by
    show (P.1.val : Int) / 65536 ^ 0 % 65536 % 2 = _
    rw [show (65536 : Int) ^ 0 = 1 from rfl, Int.ediv_one]
    omega
  rw [h1.2 0 (by decide), i6_and1 hd, h0, m_sh7 _ (Nat.mod_lt _ (by decide))]
  refine Prod.ext rfl (funext fun b => funext fun k => ?_)
  by_cases hb : b = to
  · subst hb
    by_cases hk : k < 32
    · rw [enc_by P (Y := svI X b 32 (fun j => by8 ((P.2.val : Int) / 256 ^ j))) (to := b) (fun j hj => if_pos ⟨rfl, hj⟩) rfl k hk]
      exact (if_pos ⟨rfl, hk⟩).symm
    · show (if b = b ∧ k = 31 then _ else (if b = b ∧ k < 32 then _ else X.2 b k)) = (if b = b ∧ k < 32 then _ else X.2 b k)
      rw [if_neg (fun z => by omega), if_neg (fun z => hk z.2), if_neg (fun z => hk z.2)]
  · show (if b = to ∧ k = 31 then _ else (if b = to ∧ k < 32 then _ else X.2 b k)) = (if b = to ∧ k < 32 then _ else X.2 b k)
    rw [if_neg (fun z => hb z.1), if_neg (fun z => hb z.1), if_neg (fun z => hb z.1)]
/-! clamping -/
def clN (N : Nat) : Nat := N / 8 * 8 % 28948022309329048855892746252171976963317496166410141009864396001978282409984 + 28948022309329048855892746252171976963317496166410141009864396001978282409984
theorem leN_cons (f : Nat → Int32) : ∀ n, leN f (n + 1) = ub (f 0) + 256 * leN (fun j => f (j + 1)) n
  | 0 => by
    show 0 + ub (f 0) * 1 = ub (f 0) + 256 * 0
    omega
  | n + 1 => by
    show leN f (n + 1) + ub (f (n + 1)) * 256 ^ (n + 1) = ub (f 0) + 256 * (leN (fun j => f (j + 1)) n + ub (f (n + 1)) * 256 ^ n)
    rw [leN_cons f n, Nat.mul_add, Nat.add_assoc, Nat.pow_succ, ← Nat.mul_assoc, Nat.mul_comm 256 (_ * _)]
theorem cl_0 : ∀ n : Nat, n < 256 → (((by8 (n : Int)) &&& (-8 : Int32)).toInt8.toInt32).toInt8.toInt32 = by8 ((n / 8 * 8 : Nat) : Int) := by decide +kernel
theorem cl_31 : ∀ n : Nat, n < 256 → ((((((by8 (n : Int)) &&& (nI 127)).toInt8.toInt32).toInt8.toInt32) ||| (nI 64)).toInt8.toInt32).toInt8.toInt32 = by8 ((n % 64 + 64 : Nat) : Int) := by decide +kernel
theorem k_clamp {X : vM} {a : Nat} (hb : ∀ j, j < 32 → isB (X.2 a j)) : (LF_K_clamp X a).1 = X.1 ∧ (∀ b, b ≠ a → (LF_K_clamp X a).2 b = X.2 b) ∧ leN ((LF_K_clamp X a).2 a) 32 = clN (leN (X.2 a) 32) ∧ (∀ j, j < 32 → isB ((LF_K_clamp X a).2 a j)) := by
  have e0 : (LF_K_clamp X a).2 a 0 = by8 ((ub (X.2 a 0) / 8 * 8 : Nat) : Int) := by
    rw [← cl_0 _ (ub_lt _), ← hb 0 (by decide)]
    show (if a = a ∧ 0 = 31 then _ else (if a = a ∧ 0 = 31 then _ else (if a = a ∧ 0 = 0 then (((X.2 a 0) &&& (-8 : Int32)).toInt8.toInt32).toInt8.toInt32 else X.2 a 0))) = _
    rw [if_neg (fun z => absurd z.2 (by decide)), if_neg (fun z => absurd z.2 (by decide)), if_pos ⟨rfl, rfl⟩]
  have e31 : (LF_K_clamp X a).2 a 31 = by8 ((ub (X.2 a 31) % 64 + 64 : Nat) : Int) := by
    rw [← cl_31 _ (ub_lt _), ← hb 31 (by decide)]
    show (if a = a ∧ 31 = 31 then (((((if a = a ∧ 31 = 31 then ((((if a = a ∧ 31 = 0 then _ else X.2 a 31) &&& (nI 127)).toInt8.toInt32).toInt8.toInt32) else _) ||| _).toInt8.toInt32).toInt8.toInt32)) else _) = _
    rw [if_pos ⟨rfl, rfl⟩, if_pos ⟨rfl, rfl⟩, if_neg (fun z => absurd z.2 (by decide))]
  have em : ∀ j, 0 < j → j < 31 → (LF_K_clamp X a).2 a j = X.2 a j := fun j h1 h2 => by
    show (if a = a ∧ j = 31 then _ else (if a = a ∧ j = 31 then _ else (if a = a ∧ j = 0 then _ else X.2 a j))) = X.2 a j
    rw [if_neg (fun z => by omega), if_neg (fun z => by omega), if_neg (fun z => by omega)]
  refine ⟨rfl, fun b hne => funext fun k => ?_, ?_, fun j hj => ?_⟩
  · show (if b = a ∧ k = 31 then _ else (if b = a ∧ k = 31 then _ else (if b = a ∧ k = 0 then _ else X.2 b k))) = X.2 b k
    rw [if_neg (fun z => hne z.1), if_neg (fun z => hne z.1), if_neg (fun z => hne z.1)]
  · have u0 : ub ((LF_K_clamp X a).2 a 0) = ub (X.2 a 0) / 8 * 8 := by
      rw [e0]
      exact ub_by8n _ (by have := ub_lt (X.2 a 0); omega)
    have u31 : ub ((LF_K_clamp X a).2 a 31) = ub (X.2 a 31) % 64 + 64 := by
      rw [e31]
      exact ub_by8n _ (by omega)
    generalize (LF_K_clamp X a).2 a = g at *
    generalize X.2 a = f at *
    have b0 := ub_lt (f 0)
    have b1 := ub_lt (f 31)
    have hm : leN (fun j => g (j + 1)) 30 = leN (fun j => f (j + 1)) 30 := leN_ext 30 (fun j hj => em (j + 1) (by omega) (by omega))
    have h30 := leN_lt (fun j => f (j + 1)) 30
    rw [leN_cons g 31, leN_cons f 31]
    show ub (g 0) + 256 * (leN (fun j => g (j + 1)) 30 + ub (g 31) * 256 ^ 30) = clN (ub (f 0) + 256 * (leN (fun j => f (j + 1)) 30 + ub (f 31) * 256 ^ 30))
    rw [hm, u0, u31]
    unfold clN
    generalize leN (fun j => f (j + 1)) 30 = L at *
    generalize ub (f 0) = a0 at *
    generalize ub (f 31) = a1 at *
    rw [show (256 : Nat) ^ 30 = 1766847064778384329583297500742918515827483896875618958121606201292619776 from by decide] at *
    omega
  · by_cases h0 : j = 0
    · rw [h0, e0]; exact isB_by8 _
    · by_cases h1 : j = 31
      · rw [h1, e31]; exact isB_by8 _
      · rw [em j (by omega) (by omega)]; exact hb j hj
theorem i6_ao (a b c : Int64) : (a ||| b) &&& c = (a &&& c) ||| (b &&& c) := Int64.toBitVec_inj.mp (BitVec.and_or_distrib_right (x := a.toBitVec) (y := b.toBitVec) (z := c.toBitVec))
theorem i6_shl3 (n : Nat) : Int64.ofInt (n : Int) <<< ((nI 3).toInt64 &&& 63) = Int64.ofInt ((n * 2 ^ 3 : Nat) : Int) := by
  rw [i6_shl (by decide)]
  rfl
theorem i6_shland (a b : Int64) : (a <<< ((nI 3).toInt64 &&& 63)) &&& (b <<< ((nI 3).toInt64 &&& 63)) = (a &&& b) <<< ((nI 3).toInt64 &&& 63) := by
  apply Int64.toBitVec_inj.mp
  show (a.toBitVec <<< (((nI 3).toInt64 &&& 63).toBitVec.smod 64)) &&& (b.toBitVec <<< (((nI 3).toInt64 &&& 63).toBitVec.smod 64)) = (a.toBitVec &&& b.toBitVec) <<< (((nI 3).toInt64 &&& 63).toBitVec.smod 64)
  exact (BitVec.shiftLeft_and_distrib _ _ _).symm
theorem i6_an8 {x : Int} (hx : 0 ≤ x ∧ x < 65536) : Int64.ofInt x &&& (65528 : Int64) = Int64.ofInt (x / 8 * 8) := by
  obtain ⟨n, rfl⟩ : ∃ n : Nat, x = (n : Int) := ⟨x.toNat, by omega⟩
  have h := rd_and (a := n) (w := 3) (by omega) (by decide)
  have e1 : Int64.ofInt (n : Int) = Int64.ofInt ((n % 8 : Nat) : Int) ||| Int64.ofInt ((n / 8 * 2 ^ 3 : Nat) : Int) := by
    rw [i6_or (A := n % 8) (B := n / 8) (h := 3) (by omega) (by omega)]
    congr 1
    omega
  have e2 : Int64.ofInt ((n % 8 : Nat) : Int) &&& (65528 : Int64) = 0 := (show ∀ k : Nat, k < 8 → Int64.ofInt (k : Int) &&& (65528 : Int64) = 0 by decide +kernel) (n % 8) (by omega)
  have e3 : Int64.ofInt ((n / 8 * 2 ^ 3 : Nat) : Int) &&& (65528 : Int64) = Int64.ofInt ((n / 8 * 2 ^ 3 : Nat) : Int) := by
    rw [← i6_shl3 (n / 8), show (65528 : Int64) = Int64.ofInt ((8191 : Nat) : Int) <<< ((nI 3).toInt64 &&& 63) from by decide +kernel]
    rw [i6_shland, show (8191 : Nat) = 2 ^ 13 - 1 from rfl, rd_and (by omega) (by decide), Nat.mod_eq_of_lt (by omega)]
  rw [e1, i6_ao, e2, e3, Int64.zero_or]
  congr 1
theorem i6_o14 {x : Int} (hx : 0 ≤ x ∧ x < 65536) : (Int64.ofInt x &&& (32767 : Int64)) ||| (16384 : Int64) = Int64.ofInt (x % 16384 + 16384) := by
  obtain ⟨n, rfl⟩ : ∃ n : Nat, x = (n : Int) := ⟨x.toNat, by omega⟩
  have h := rd_and (a := n) (w := 15) (by omega) (by decide)
  have e0 : (32767 : Int64) = Int64.ofInt ((2 ^ 15 - 1 : Nat) : Int) := by decide +kernel
  have e1 : (16384 : Int64) = Int64.ofInt ((1 * 2 ^ 14 : Nat) : Int) := by decide +kernel
  have h2 := i6_or (A := n % 16384) (B := 1) (h := 14) (by omega) (by omega)
  have e2 : Int64.ofInt ((n : Int) % 16384 + 16384) = Int64.ofInt ((n % 16384 + 1 * 2 ^ 14 : Nat) : Int) := by
    congr 1
  rw [e0, h, e2, ← h2, e1]
  by_cases hc : n % 2 ^ 15 < 16384
  · rw [show n % 2 ^ 15 = n % 16384 by omega]
  · have e3 : Int64.ofInt ((n % 2 ^ 15 : Nat) : Int) = Int64.ofInt ((n % 16384 : Nat) : Int) ||| Int64.ofInt ((1 * 2 ^ 14 : Nat) : Int) := by
      rw [h2]
      congr 1
      omega
    rw [e3, Int64.or_assoc, Int64.or_self]
theorem dg_cl (N : Nat) {i : Nat} (h : i < 16) : dgI ((clN N : Nat) : Int) i = if i = 15 then dgI (N : Int) 15 % 16384 + 16384 else if i = 0 then dgI (N : Int) 0 / 8 * 8 else dgI (N : Int) i := by
  unfold clN
  rcases (show i = 0 ∨ i = 1 ∨ i = 2 ∨ i = 3 ∨ i = 4 ∨ i = 5 ∨ i = 6 ∨ i = 7 ∨ i = 8 ∨ i = 9 ∨ i = 10 ∨ i = 11 ∨ i = 12 ∨ i = 13 ∨ i = 14 ∨ i = 15 by omega) with rfl | rfl | rfl | rfl | rfl | rfl | rfl | rfl | rfl | rfl | rfl | rfl | rfl | rfl | rfl | rfl
  all_goals
    simp only [dgI, reduceIte, Int.reducePow, Nat.reduceEqDiff]
    omega
theorem cl_lt (N : Nat) : clN N < 57896044618658097711785492504343953926634992332820282019728792003956564819968 := by
  unfold clN
  omega
theorem st_in (X : vM) {a n i : Nat} (f : Nat → Int64) (v : Int64) (hi : i < n) : stL (svL X a n f) a i v = svL X a n (fun k => if k = i then v else f k) := by
  refine Prod.ext (funext fun b => funext fun k => ?_) rfl
  show (if b = a ∧ k = i then v else if b = a ∧ k < n then f k else X.1 b k) = if b = a ∧ k < n then (if k = i then v else f k) else X.1 b k
  by_cases hb : b = a
  · by_cases hk : k = i
    · rw [if_pos ⟨hb, hk⟩, if_pos ⟨hb, by omega⟩, if_pos hk]
    · rw [if_neg (fun z => hk z.2)]
      by_cases hn : k < n
      · rw [if_pos ⟨hb, hn⟩, if_pos ⟨hb, hn⟩, if_neg hk]
      · rw [if_neg (fun z => hn z.2), if_neg (fun z => hn z.2)]
  · rw [if_neg (fun z => hb z.1), if_neg (fun z => hb z.1), if_neg (fun z => hb z.1)]
/-- thirty-two bytes into sixteen digits -/
theorem m_rd256 {X : vM} {to b v : Nat} (body : Nat → vM → vM) (hb : ∀ i Y, Y.2 = X.2 → body i Y = stL Y to i ((((Y.2 b (v + (2 * i))) &&& (nI 255)) ||| (((Y.2 b ((v + (2 * i)) + 1)) &&& (nI 255)) <<< ((nI 8) &&& 31))).toInt64)) : lpU 1 body 16 0 X = svL X to 16 (fun j => Int64.ofInt (dgI ((leN (fun j => X.2 b (v + j)) 32 : Nat) : Int) j)) := by
  refine lp_sv to 16 body X _ (fun i hi => ?_)
  rw [hb i (svL X to i _) rfl]
  show stL (svL X to i _) to i ((((X.2 b (v + (2 * i))) &&& (nI 255)) ||| (((X.2 b ((v + (2 * i)) + 1)) &&& (nI 255)) <<< ((nI 8) &&& 31))).toInt64) = _
  rw [← st_sv, rd_w, dg_le (fun j => X.2 b (v + j)) (i := i) (n := 32) (by omega)]
  rfl
theorem m_clamp {X : vM} {r : Nat → Nat} {to b v : Nat} : mR X (LF_M_clamped X r to b v) to ((clN (leN (fun j => X.2 b (v + j)) 32) : Nat) : Int) := by
  have w := m_rd256 (X := X) (to := to) (b := b) (v := v) (LL_M_clamped_3 to b v) (fun i Y _ => rfl)
  generalize leN (fun j => X.2 b (v + j)) 32 = N at *
  refine mR.mk' ?_ ⟨by omega, by have := cl_lt N; omega⟩
  unfold LF_M_clamped
  simp only []
  rw [w, st_in X _ _ (show 0 < 16 by decide), svL_at X to 16 _ (show 0 < 16 by decide), st_in X _ _ (show 15 < 16 by decide), svL_at X to 16 _ (show 15 < 16 by decide)]
  refine svL_ext (fun i hi => ?_)
  show (if i = 15 then ((if 15 = 0 then _ else Int64.ofInt (dgI (N : Int) 15)) &&& (32767 : Int64)) ||| (16384 : Int64) else if i = 0 then Int64.ofInt (dgI (N : Int) 0) &&& (65528 : Int64) else Int64.ofInt (dgI (N : Int) i)) = _
  rw [if_neg (show ¬ 15 = 0 by decide), i6_o14 (dgI_bd _ _), i6_an8 (dgI_bd _ _), dg_cl N hi]
  by_cases h15 : i = 15
  · rw [if_pos h15, if_pos h15]
  · rw [if_neg h15, if_neg h15]
    by_cases h0 : i = 0
    · rw [if_pos h0, if_pos h0]
    · rw [if_neg h0, if_neg h0]
/-! bits of a row of bytes -/
theorem le_bit (f : Nat → Int32) {i : Nat} (h : i < 256) : leN f 32 / 2 ^ i % 2 = ub (f (i / 8)) / 2 ^ (i % 8) % 2 := by
  obtain ⟨j, t, hj, ht, rfl⟩ : ∃ j t, j < 32 ∧ t < 8 ∧ i = 8 * j + t := ⟨i / 8, i % 8, by omega, by omega, by omega⟩
  have q := lim2 f (a := j) (c := 1) (k := 31 - j) (s := t) (w := 1) (r := 7 - t) (by
    rw [← Nat.pow_add, ← Nat.pow_add, show t + (1 + (7 - t)) = 8 by omega])
  have e1 : leN (fun k => f (j + k)) 1 = ub (f j) := by
    show 0 + ub (f (j + 0)) * 1 = ub (f j)
    rw [Nat.zero_add, Nat.mul_one, Nat.add_zero]
  rw [e1, Nat.pow_one, show j + (1 + (31 - j)) = 32 by omega] at q
  rw [show (8 * j + t) / 8 = j by omega, show (8 * j + t) % 8 = t by omega, Nat.pow_add, Nat.pow_mul, show (2 : Nat) ^ 8 = 256 from rfl]
  exact q
theorem sb_nb (X : vM) (a : Nat) {i : Nat} (h : i < 256) : sbit X a i = nbit (leN (X.2 a) 32) i := by
  have q := i3_bits (X.2 a (i / 8)) (s := i % 8) (w := 1) (by omega)
  rw [show (2 : Nat) ^ 1 - 1 = 1 from rfl, Nat.pow_one] at q
  unfold sbit nbit
  rw [q, le_bit (X.2 a) h]
  have hlt : ub (X.2 a (i / 8)) / 2 ^ (i % 8) % 2 < 2 := Nat.mod_lt _ (by decide)
  generalize ub (X.2 a (i / 8)) / 2 ^ (i % 8) % 2 = n at *
  rcases (show n = 0 ∨ n = 1 by omega) with rfl | rfl <;> decide +kernel
theorem lad_ext (u : Fp) {b c : Nat → Bool} : ∀ (k : Nat) (q : La4), (∀ i, i < k → b i = c i) → lad u b k q = lad u c k q
  | 0, q, _ => rfl
  | k + 1, q, h => by
    show lad u b k (if b k then _ else _) = lad u c k (if c k then _ else _)
    rw [h k (by omega)]
    exact lad_ext u k _ (fun i hi => h i (by omega))
theorem xL_ext {b c : Nat → Bool} (u : Fp) (h : ∀ i, i < 255 → b i = c i) : xL b u = xL c u := by
  unfold xL
  rw [lad_ext u 255 (1, 0, u, 1) h]
/-- X25519 of the class, from the numbers of the bytes -/
theorem x_class2 {X : vM} {kq : Nat → Nat → Nat} {ts : Nat → Nat} {to sec oth : Nat} (hI : KInj kq) (ho : oth ≠ kq 1 1) (hb : ∀ j, j < 32 → isB (X.2 sec j)) : ∃ Y : vM, LF_La_writeProduct X kq ts to sec oth = svI Y to 32 (fun j => by8 (((xL (nbit (clN (leN (X.2 sec) 32))) (iF ((leN (X.2 oth) 32 % 57896044618658097711785492504343953926634992332820282019728792003956564819968 : Nat) : Int))).val : Int) / 256 ^ j)) ∧ onL (flA kq) (xS X kq sec) Y := by
  obtain ⟨Y, e, h⟩ := x_class (X := X) (kq := kq) (ts := ts) (to := to) (sec := sec) hI ho
  refine ⟨Y, ?_, h⟩
  have ec : ∀ j, j < 32 → (cpI X sec 0 (kq 1 1) 0 32).2 (kq 1 1) j = X.2 sec j := fun j hj => by
    show (if kq 1 1 = kq 1 1 ∧ 0 ≤ j ∧ j < 0 + 32 then X.2 sec (0 + (j - 0)) else _) = _
    rw [if_pos ⟨rfl, by omega, by omega⟩, Nat.zero_add, Nat.sub_zero]
  have hc := (k_clamp (X := cpI X sec 0 (kq 1 1) 0 32) (a := kq 1 1) (fun j hj => by rw [ec j hj]; exact hb j hj)).2.2.1
  rw [leN_ext 32 ec] at hc
  have hx : ∀ u, xL (sbit (xS X kq sec) (kq 1 1)) u = xL (nbit (clN (leN (X.2 sec) 32))) u := fun u => xL_ext u (fun i hi => by
    rw [sb_nb _ _ (by omega)]
    unfold xS
    rw [hc])
  rw [e, hx]
