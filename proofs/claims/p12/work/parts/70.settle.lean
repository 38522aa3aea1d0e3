/-! the one form below p: settle -/
def cE (O : Nat → Int) (c : Int) : Nat → Int
  | 0 => c
  | i + 1 => (O i + cE O c i) / wL i
def dE (O : Nat → Int) (c : Int) (i : Nat) : Int := O i + cE O c i - wL i * cE O c (i + 1)
theorem dE_bd (O : Nat → Int) (c : Int) (i : Nat) : 0 ≤ dE O c i ∧ dE O c i < wL i := by
  have e : cE O c (i + 1) = (O i + cE O c i) / wL i := rfl
  unfold dE
  rw [e]
  rcases wL_or i with w | w <;> rw [w] <;> omega
theorem cE_bd {O : Nat → Int} {c : Int} (hO : bd 1 O) (hc : -100 ≤ c ∧ c ≤ 100) : ∀ i, i ≤ 10 → -100 ≤ cE O c i ∧ cE O c i ≤ 100
  | 0, _ => hc
  | i + 1, h => by
    have ih := cE_bd hO hc i (by omega)
    have hz := hO i (by omega)
    have e : cE O c (i + 1) = (O i + cE O c i) / wL i := rfl
    rw [e]
    rcases wL_or i with w | w <;> rw [w] at hz ⊢ <;> omega
theorem dE_fv (O : Nat → Int) (c : Int) : fvI (dE O c) = fvI O + c - cE O c 10 * 57896044618658097711785492504343953926634992332820282019728792003956564819968 := by
  have e0 : ∀ j, dE O c j = O j + cE O c j - wL j * cE O c (j + 1) := fun _ => rfl
  have e1 := e0 0
  rw [show wL 0 = 67108864 from rfl] at e1
  have e2 := e0 1
  rw [show wL 1 = 33554432 from rfl] at e2
  have e3 := e0 2
  rw [show wL 2 = 67108864 from rfl] at e3
  have e4 := e0 3
  rw [show wL 3 = 33554432 from rfl] at e4
  have e5 := e0 4
  rw [show wL 4 = 67108864 from rfl] at e5
  have e6 := e0 5
  rw [show wL 5 = 33554432 from rfl] at e6
  have e7 := e0 6
  rw [show wL 6 = 67108864 from rfl] at e7
  have e8 := e0 7
  rw [show wL 7 = 33554432 from rfl] at e8
  have e9 := e0 8
  rw [show wL 8 = 67108864 from rfl] at e9
  have e10 := e0 9
  rw [show wL 9 = 33554432 from rfl] at e10
  have c0 : cE O c 0 = c := rfl
  simp only [Nat.reduceAdd] at *
  simp only [fvI]
  omega
theorem dE_rng (O : Nat → Int) (c : Int) : 0 ≤ fvI (dE O c) ∧ fvI (dE O c) < 57896044618658097711785492504343953926634992332820282019728792003956564819968 := by
  have b0 := dE_bd O c 0
  rw [show wL 0 = 67108864 from rfl] at b0
  have b1 := dE_bd O c 1
  rw [show wL 1 = 33554432 from rfl] at b1
  have b2 := dE_bd O c 2
  rw [show wL 2 = 67108864 from rfl] at b2
  have b3 := dE_bd O c 3
  rw [show wL 3 = 33554432 from rfl] at b3
  have b4 := dE_bd O c 4
  rw [show wL 4 = 67108864 from rfl] at b4
  have b5 := dE_bd O c 5
  rw [show wL 5 = 33554432 from rfl] at b5
  have b6 := dE_bd O c 6
  rw [show wL 6 = 67108864 from rfl] at b6
  have b7 := dE_bd O c 7
  rw [show wL 7 = 33554432 from rfl] at b7
  have b8 := dE_bd O c 8
  rw [show wL 8 = 67108864 from rfl] at b8
  have b9 := dE_bd O c 9
  rw [show wL 9 = 33554432 from rfl] at b9
  simp only [fvI]
  omega
theorem bd1_fv {O : Nat → Int} (h : bd 1 O) : -57896044618658097711785492504343953926634992332820282019728792003956564819949 < fvI O ∧ fvI O < 57896044618658097711785492504343953926634992332820282019728792003956564819949 := by
  obtain ⟨a0, a1, a2, a3, a4, a5, a6, a7, a8, a9⟩ := bd_at h
  simp only [fvI]
  omega
/-- settle's digits -/
def sE (O : Nat → Int) (i : Nat) : Int := dE O (19 * cE O 0 10) i
theorem sE_fv {O : Nat → Int} (h : bd 1 O) : fvI (sE O) = fvI O % 57896044618658097711785492504343953926634992332820282019728792003956564819949 := by
  have h1 := bd1_fv h
  have e1 := dE_fv O 0
  have r1 := dE_rng O 0
  have e2 : fvI (sE O) = fvI O + 19 * cE O 0 10 - cE O (19 * cE O 0 10) 10 * 57896044618658097711785492504343953926634992332820282019728792003956564819968 := dE_fv O (19 * cE O 0 10)
  have r2 : 0 ≤ fvI (sE O) ∧ fvI (sE O) < 57896044618658097711785492504343953926634992332820282019728792003956564819968 := dE_rng O _
  generalize cE O 0 10 = s at e1 e2
  generalize cE O (19 * s) 10 = t at e2
  generalize fvI (dE O 0) = R at e1 r1
  generalize fvI (sE O) = D at e2 r2 ⊢
  generalize fvI O = V at *
  have hs : s = 0 ∨ s = -1 := by omega
  rcases hs with rfl | rfl
  · have ht : t = 0 := by omega
    subst ht
    omega
  · have ht : t = -1 := by omega
    subst ht
    omega
/-! the code of settle, place by place -/
def sgS (X : vM) (a : Nat) : Nat → Int64
  | 0 => 0
  | i + 1 => if i % 2 = 0 then (X.1 a i + sgS X a i) >>> ((nI 26).toInt64 &&& 63) else (X.1 a i + sgS X a i) >>> ((nI 25).toInt64 &&& 63)
def nmS (X : vM) (a : Nat) (c : Int64) : Nat → vM × Int64
  | 0 => (X, c)
  | i + 1 => if i % 2 = 0 then (stL (nmS X a c i).1 a i (((nmS X a c i).1.1 a i + (nmS X a c i).2) - ((((nmS X a c i).1.1 a i + (nmS X a c i).2) >>> ((nI 26).toInt64 &&& 63)) <<< ((nI 26).toInt64 &&& 63))), ((nmS X a c i).1.1 a i + (nmS X a c i).2) >>> ((nI 26).toInt64 &&& 63)) else (stL (nmS X a c i).1 a i (((nmS X a c i).1.1 a i + (nmS X a c i).2) - ((((nmS X a c i).1.1 a i + (nmS X a c i).2) >>> ((nI 25).toInt64 &&& 63)) <<< ((nI 25).toInt64 &&& 63))), ((nmS X a c i).1.1 a i + (nmS X a c i).2) >>> ((nI 25).toInt64 &&& 63))
theorem settle_s (X : vM) (kq : Nat → Nat → Nat) (ts : Nat → Nat) (f : Nat) : LF_F_settle X kq ts f = (let Y := LF_F_carry (cpL X f 0 (kq 0 6) 0 10) (kq 0 6); (nmS Y (kq 0 6) ((19 : Int64) * sgS Y (kq 0 6) 10) 10).1) := rfl
theorem sg_eq {X : vM} {a : Nat} {O : Nat → Int} (hX : ∀ i, i < 10 → X.1 a i = Int64.ofInt (O i)) (hO : bd 1 O) : ∀ i, i ≤ 10 → sgS X a i = Int64.ofInt (cE O 0 i)
  | 0, _ => rfl
  | i + 1, h => by
    have ih := sg_eq hX hO i (by omega)
    have hc := cE_bd hO (c := 0) (by decide) i (by omega)
    have hz := hO i (by omega)
    have e : cE O 0 (i + 1) = (O i + cE O 0 i) / wL i := rfl
    show (if i % 2 = 0 then (X.1 a i + sgS X a i) >>> ((nI 26).toInt64 &&& 63) else (X.1 a i + sgS X a i) >>> ((nI 25).toInt64 &&& 63)) = _
    rw [ih, hX i (by omega), ← Int64.ofInt_add, e]
    by_cases hp : i % 2 = 0
    · have w : wL i = 67108864 := if_pos hp
      rw [w] at hz ⊢
      rw [if_pos hp, i6_shr (by decide) (by omega)]
      rfl
    · have w : wL i = 33554432 := if_neg hp
      rw [w] at hz ⊢
      rw [if_neg hp, i6_shr (by decide) (by omega)]
      rfl
theorem nm_eq {X : vM} {a : Nat} {O : Nat → Int} {c : Int} (hX : ∀ i, i < 10 → X.1 a i = Int64.ofInt (O i)) (hO : bd 1 O) (hc0 : -100 ≤ c ∧ c ≤ 100) : ∀ i, i ≤ 10 → nmS X a (Int64.ofInt c) i = (svL X a i (fun j => Int64.ofInt (dE O c j)), Int64.ofInt (cE O c i))
  | 0, _ => by
    refine Prod.ext ?_ rfl
    refine Prod.ext (funext fun b => funext fun k => ?_) rfl
    exact (if_neg (fun z => absurd z.2 (Nat.not_lt_zero k))).symm
  | i + 1, h => by
    have ih := nm_eq hX hO hc0 i (by omega)
    have hc := cE_bd hO hc0 i (by omega)
    have hz := hO i (by omega)
    have hr : (svL X a i (fun j => Int64.ofInt (dE O c j))).1 a i = Int64.ofInt (O i) := (sv_rd X a a i _).trans (hX i (by omega))
    have e1 : cE O c (i + 1) = (O i + cE O c i) / wL i := rfl
    have e2 : dE O c i = O i + cE O c i - wL i * cE O c (i + 1) := rfl
    unfold nmS
    rw [ih]
    simp only []
    rw [hr, ← Int64.ofInt_add]
    by_cases hp : i % 2 = 0
    · have w : wL i = 67108864 := if_pos hp
      rw [w] at e1 e2 hz
      rw [if_pos hp, i6_shr (by decide) (by omega), i6_shl (by decide), ← Int64.ofInt_sub, show (2 : Int) ^ 26 = 67108864 from rfl, ← e1, Int.mul_comm (cE O c (i + 1)), ← e2, st_sv X a i (fun j => Int64.ofInt (dE O c j))]
    · have w : wL i = 33554432 := if_neg hp
      rw [w] at e1 e2 hz
      rw [if_neg hp, i6_shr (by decide) (by omega), i6_shl (by decide), ← Int64.ofInt_sub, show (2 : Int) ^ 25 = 33554432 from rfl, ← e1, Int.mul_comm (cE O c (i + 1)), ← e2, st_sv X a i (fun j => Int64.ofInt (dE O c j))]
theorem cp_sv (X : vM) (h f : Nat) : cpL X f 0 h 0 10 = svL X h 10 (fun i => X.1 f i) := LF_F_copy_eq X h f
/-- settle leaves the digits of the number below p -/
theorem fe_settle {X : vM} {kq : Nat → Nat → Nat} {ts : Nat → Nat} {f : Nat} {n : Int} {v : Fp} (hf : Fe X f n v) (hn : n ≤ 16) : ∃ D : Nat → Int, LF_F_settle X kq ts f = svL X (kq 0 6) 10 (fun i => Int64.ofInt (D i)) ∧ (∀ i, i < 10 → 0 ≤ D i ∧ D i < wL i) ∧ fvI D = (v.val : Int) := by
  obtain ⟨Z, z1, z2, z3⟩ := hf
  have z4 := bd_mono z2 hn
  have hZ : ∀ i, i < 10 → -4611686018427387904 ≤ Z i ∧ Z i ≤ 4611686018427387904 := fun i hi => by
    have := z4 i hi
    rcases wL_or i with w | w <;> rw [w] at this <;> omega
  have hb := cO_bd hZ
  have e1 : LF_F_carry (cpL X f 0 (kq 0 6) 0 10) (kq 0 6) = svL X (kq 0 6) 10 (fun i => Int64.ofInt (cO Z i)) := by
    rw [cp_sv, svL_ext (g := fun i => Int64.ofInt (Z i)) (fun i hi => z1 i hi), LF_F_carry_eq (Z := Z) (fun i hi => svL_at X (kq 0 6) 10 _ hi) hZ, sv_sv]
  have hY : ∀ i, i < 10 → (svL X (kq 0 6) 10 (fun i => Int64.ofInt (cO Z i))).1 (kq 0 6) i = Int64.ofInt (cO Z i) := fun i hi => svL_at X (kq 0 6) 10 _ hi
  have hs := cE_bd hb (c := 0) (by decide) 10 (by omega)
  refine ⟨sE (cO Z), ?_, fun i _ => dE_bd _ _ i, ?_⟩
  · rw [settle_s, e1]
    simp only []
    rw [sg_eq hY hb 10 (by omega), show (19 : Int64) = Int64.ofInt 19 from rfl, ← Int64.ofInt_mul]
    have hs2 : -1 ≤ cE (cO Z) 0 10 ∧ cE (cO Z) 0 10 ≤ 0 := by
      have a1 := dE_fv (cO Z) 0
      have a2 := dE_rng (cO Z) 0
      have a3 := bd1_fv hb
      generalize cE (cO Z) 0 10 = s at *
      generalize fvI (dE (cO Z) 0) = R at *
      generalize fvI (cO Z) = V at *
      omega
    rw [nm_eq hY hb (c := 19 * cE (cO Z) 0 10) (by omega) 10 (by omega)]
    simp only []
    rw [sv_sv]
    rfl
  · rw [sE_fv hb, ← z3, iF_val, cO_fv]
    exact Int.sub_mul_emod_self_right _ _ _
