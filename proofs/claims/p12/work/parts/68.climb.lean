/-! the arrays of the class are different ones -/
def kc_ix : List (Nat × Nat) := [(0, 0), (0, 1), (0, 2), (0, 3), (0, 4), (0, 5), (0, 6), (1, 1), (1, 2), (1, 3), (1, 4), (1, 5), (1, 6), (1, 7), (1, 8), (1, 9), (1, 10), (1, 11), (2, 5), (2, 6), (2, 7), (2, 8), (2, 9), (2, 10), (2, 11), (2, 12), (2, 13), (2, 14), (3, 0), (3, 1), (3, 2), (3, 3), (4, 0), (4, 1), (4, 2), (4, 3), (5, 0), (5, 1), (5, 2), (6, 0), (7, 3), (7, 4), (7, 5), (7, 6), (7, 7), (7, 8), (16, 0), (16, 1), (16, 2), (16, 3), (17, 0), (17, 1), (17, 2), (17, 3), (18, 0), (18, 1), (18, 2), (18, 3), (19, 0), (19, 1), (19, 2), (19, 3), (20, 0), (20, 1), (20, 2), (20, 3), (21, 0), (21, 1), (21, 2), (21, 3), (22, 0), (22, 1), (22, 2), (22, 3), (23, 0), (23, 1), (23, 2), (23, 3), (24, 0), (24, 1), (24, 2), (24, 3), (25, 0), (25, 1), (25, 2), (25, 3), (26, 0), (26, 1), (26, 2), (26, 3), (27, 0), (27, 1), (27, 2), (27, 3), (28, 0), (28, 1), (28, 2), (28, 3), (29, 0), (29, 1), (29, 2), (29, 3), (30, 0), (30, 1), (30, 2), (30, 3), (31, 0), (31, 1), (31, 2), (31, 3), (32, 0), (32, 1), (32, 2), (32, 3), (33, 0), (33, 1), (33, 2), (33, 3), (34, 0), (34, 1), (34, 2), (34, 3), (35, 0), (35, 1), (35, 2), (35, 3), (36, 0), (36, 1), (36, 2), (36, 3), (37, 0), (37, 1), (37, 2), (37, 3), (38, 0), (38, 1), (38, 2), (38, 3), (39, 0), (39, 1), (39, 2), (39, 3), (40, 0), (40, 1), (40, 2), (40, 3), (41, 0), (41, 1), (41, 2), (41, 3), (42, 0), (42, 1), (42, 2), (42, 3), (43, 0), (43, 1), (43, 2), (43, 3), (44, 0), (44, 1), (44, 2), (44, 3), (45, 0), (45, 1), (45, 2), (45, 3), (46, 0), (46, 1), (46, 2), (46, 3), (47, 0), (47, 1), (47, 2), (47, 3)]
def KInj (kq : Nat → Nat → Nat) : Prop := ∀ a ∈ kc_ix, ∀ b ∈ kc_ix, kq a.1 a.2 = kq b.1 b.2 → a = b
def ndp (ps : List (Nat × Nat)) : Bool := ps.all (fun q => kc_ix.contains q) && (List.range ps.length).all fun i => (List.range ps.length).all fun j => i == j || !(ps.getD i (0, 0) == ps.getD j (0, 0))
theorem gd_ {α : Type} (l : List α) {i : Nat} (d : α) (h : i < l.length) : l.getD i d = l[i] := by
  rw [List.getD_eq_getElem?_getD, List.getElem?_eq_getElem h]
  rfl
theorem nd_of {kq : Nat → Nat → Nat} (hI : KInj kq) (ps : List (Nat × Nat)) (h : ndp ps = true) : nd (ps.map (fun q => kq q.1 q.2)) := by
  obtain ⟨h1, h2⟩ := (Bool.and_eq_true _ _).mp h
  intro i j hi hj hij e
  have hi' : i < ps.length := by simpa using hi
  have hj' : j < ps.length := by simpa using hj
  rw [gd_ _ _ hi, gd_ _ _ hj, List.getElem_map, List.getElem_map] at e
  have m : ∀ k (hk : k < ps.length), ps[k] ∈ kc_ix := fun k hk => by
    have := List.all_eq_true.mp h1 ps[k] (List.getElem_mem hk)
    simpa using this
  have e2 := hI _ (m i hi') _ (m j hj') e
  have h3 := List.all_eq_true.mp (List.all_eq_true.mp h2 i (List.mem_range.mpr hi')) j (List.mem_range.mpr hj')
  rw [gd_ _ _ hi', gd_ _ _ hj', e2] at h3
  simp [hij] at h3
/-! the ladder, in the field -/
abbrev La4 : Type := Fp × Fp × Fp × Fp
def lstep (u : Fp) (q : La4) : La4 :=
  ((((q.1 + q.2.1) * (q.1 + q.2.1)) * ((q.1 - q.2.1) * (q.1 - q.2.1))), ((((((q.1 + q.2.1) * (q.1 + q.2.1)) - ((q.1 - q.2.1) * (q.1 - q.2.1))) * iF 121665) + ((q.1 + q.2.1) * (q.1 + q.2.1))) * (((q.1 + q.2.1) * (q.1 + q.2.1)) - ((q.1 - q.2.1) * (q.1 - q.2.1)))), ((((q.2.2.1 - q.2.2.2) * (q.1 + q.2.1)) + ((q.2.2.1 + q.2.2.2) * (q.1 - q.2.1))) * (((q.2.2.1 - q.2.2.2) * (q.1 + q.2.1)) + ((q.2.2.1 + q.2.2.2) * (q.1 - q.2.1)))), (((((q.2.2.1 - q.2.2.2) * (q.1 + q.2.1)) - ((q.2.2.1 + q.2.2.2) * (q.1 - q.2.1))) * (((q.2.2.1 - q.2.2.2) * (q.1 + q.2.1)) - ((q.2.2.1 + q.2.2.2) * (q.1 - q.2.1)))) * u))
def lswap (q : La4) : La4 := (q.2.2.1, q.2.2.2, q.1, q.2.1)
def lad (u : Fp) (bit : Nat → Bool) : Nat → La4 → La4
  | 0, q => q
  | k + 1, q => lad u bit k (if bit k then lswap (lstep u (lswap q)) else lstep u q)
/-- bit i of a row of bytes -/
def sbit (X : vM) (a i : Nat) : Bool := !decide ((((X.2 a (i / 8)) >>> ((nI (i % 8)) &&& 31)) &&& (nI 1)) = (0 : Int32))
def laS : List (Nat × Nat) := [(1, 4), (1, 5), (1, 6), (1, 7), (1, 8), (1, 9), (1, 10), (1, 11)]
abbrev laA (kq : Nat → Nat → Nat) : List Nat := [kq 1 4, kq 1 5, kq 1 6, kq 1 7, kq 1 8, kq 1 9, kq 1 10, kq 1 11]
def laI (kq : Nat → Nat → Nat) (X : vM) (u : Fp) (q : La4) : Prop := Fe X (kq 1 4) 2 q.1 ∧ Fe X (kq 1 5) 2 q.2.1 ∧ Fe X (kq 1 6) 2 q.2.2.1 ∧ Fe X (kq 1 7) 2 q.2.2.2 ∧ Fe X (kq 1 3) 2 u
theorem fe_climb0 {kq : Nat → Nat → Nat} {ts : Nat → Nat} {X : vM} {u : Fp} (hI : KInj kq) : ∀ (k : Nat) (Y : vM) (q : La4), laI kq Y u q → onL (laA kq) X Y → laI kq (lpD (LL_La_climb_39 kq ts) k Y) u (lad u (sbit X (kq 1 1)) k q) ∧ onL (laA kq) X (lpD (LL_La_climb_39 kq ts) k Y)
  | 0, Y, q, h, ho => ⟨h, ho⟩
  | k + 1, Y, q, h, ho => by
    obtain ⟨h0, h1, h2, h3, h4⟩ := h
    have hbit : ((((Y.2 (kq 1 1) (k / 8)) >>> ((nI (k % 8)) &&& 31)) &&& (nI 1)) = (0 : Int32)) ↔ sbit X (kq 1 1) k = false := by
      unfold sbit
      rw [ho.1]
      simp
    show laI kq (lpD (LL_La_climb_39 kq ts) k (if (((Y.2 (kq 1 1) (k / 8)) >>> ((nI (k % 8)) &&& 31)) &&& (nI 1)) = (0 : Int32) then LF_La_step Y kq ts (kq 1 4) (kq 1 5) (kq 1 6) (kq 1 7) else LF_La_step Y kq ts (kq 1 6) (kq 1 7) (kq 1 4) (kq 1 5))) u (lad u (sbit X (kq 1 1)) k (if sbit X (kq 1 1) k then lswap (lstep u (lswap q)) else lstep u q)) ∧ onL (laA kq) X (lpD (LL_La_climb_39 kq ts) k (if (((Y.2 (kq 1 1) (k / 8)) >>> ((nI (k % 8)) &&& 31)) &&& (nI 1)) = (0 : Int32) then LF_La_step Y kq ts (kq 1 4) (kq 1 5) (kq 1 6) (kq 1 7) else LF_La_step Y kq ts (kq 1 6) (kq 1 7) (kq 1 4) (kq 1 5)))
    by_cases hb : sbit X (kq 1 1) k = false
    · rw [if_pos (hbit.mpr hb), hb]
      obtain ⟨s0, s1, s2, s3, s4, s5⟩ := fe_step (ts := ts) (nd_of hI [(1, 4), (1, 5), (1, 6), (1, 7), (1, 3), (1, 8), (1, 9), (1, 10), (1, 11)] (by decide +kernel)) h0 h1 h2 h3 h4
      exact fe_climb0 hI k _ (lstep u q) ⟨s1.mono (by decide), s2.mono (by decide), s3.mono (by decide), s4.mono (by decide), s5⟩ (ho.tr (s0.mono (by simp)))
    · have hb1 : sbit X (kq 1 1) k = true := by simpa using hb
      rw [if_neg (fun z => hb (hbit.mp z)), hb1]
      obtain ⟨s0, s1, s2, s3, s4, s5⟩ := fe_step (ts := ts) (nd_of hI [(1, 6), (1, 7), (1, 4), (1, 5), (1, 3), (1, 8), (1, 9), (1, 10), (1, 11)] (by decide +kernel)) h2 h3 h0 h1 h4
      exact fe_climb0 hI k _ (lswap (lstep u (lswap q))) ⟨s3.mono (by decide), s4.mono (by decide), s1.mono (by decide), s2.mono (by decide), s5⟩ (ho.tr (s0.mono (by simp)))
theorem fe_climb {kq : Nat → Nat → Nat} {ts : Nat → Nat} {X : vM} {u : Fp} (hI : KInj kq) (hu : Fe X (kq 1 3) 2 u) : laI kq (LF_La_climb X kq ts) u (lad u (sbit X (kq 1 1)) 255 (1, 0, u, 1)) ∧ onL (laA kq) X (LF_La_climb X kq ts) := by
  have hd := nd_of hI [(1, 4), (1, 5), (1, 6), (1, 7), (1, 3)] (by decide +kernel)
  have n01 : kq 1 4 ≠ kq 1 5 := hd 0 1 (Nat.le_of_ble_eq_true rfl) (Nat.le_of_ble_eq_true rfl) (by decide)
  have n02 : kq 1 4 ≠ kq 1 6 := hd 0 2 (Nat.le_of_ble_eq_true rfl) (Nat.le_of_ble_eq_true rfl) (by decide)
  have n03 : kq 1 4 ≠ kq 1 7 := hd 0 3 (Nat.le_of_ble_eq_true rfl) (Nat.le_of_ble_eq_true rfl) (by decide)
  have n12 : kq 1 5 ≠ kq 1 6 := hd 1 2 (Nat.le_of_ble_eq_true rfl) (Nat.le_of_ble_eq_true rfl) (by decide)
  have n13 : kq 1 5 ≠ kq 1 7 := hd 1 3 (Nat.le_of_ble_eq_true rfl) (Nat.le_of_ble_eq_true rfl) (by decide)
  have n23 : kq 1 6 ≠ kq 1 7 := hd 2 3 (Nat.le_of_ble_eq_true rfl) (Nat.le_of_ble_eq_true rfl) (by decide)
  have u0 : kq 1 3 ≠ kq 1 4 := hd 4 0 (Nat.le_of_ble_eq_true rfl) (Nat.le_of_ble_eq_true rfl) (by decide)
  have u1 : kq 1 3 ≠ kq 1 5 := hd 4 1 (Nat.le_of_ble_eq_true rfl) (Nat.le_of_ble_eq_true rfl) (by decide)
  have u2 : kq 1 3 ≠ kq 1 6 := hd 4 2 (Nat.le_of_ble_eq_true rfl) (Nat.le_of_ble_eq_true rfl) (by decide)
  have u3 : kq 1 3 ≠ kq 1 7 := hd 4 3 (Nat.le_of_ble_eq_true rfl) (Nat.le_of_ble_eq_true rfl) (by decide)
  have R1 := fe_set (X := X) (h := kq 1 4) 1 (by decide)
  rw [show Int64.ofInt 1 = (1 : Int64) from rfl] at R1
  obtain ⟨X1, e1⟩ : ∃ Y, LF_F_set X (kq 1 4) (1 : Int64) = Y := ⟨_, rfl⟩
  rw [e1] at R1
  have R2 := fe_set (X := X1) (h := kq 1 5) 0 (by decide)
  rw [show Int64.ofInt 0 = (0 : Int64) from rfl] at R2
  obtain ⟨X2, e2⟩ : ∃ Y, LF_F_set X1 (kq 1 5) (0 : Int64) = Y := ⟨_, rfl⟩
  rw [e2] at R2
  have R3 := fe_copy (h := kq 1 6) (R2.fe u1 (R1.fe u0 hu))
  obtain ⟨X3, e3⟩ : ∃ Y, LF_F_copy X2 (kq 1 6) (kq 1 3) = Y := ⟨_, rfl⟩
  rw [e3] at R3
  have R4 := fe_set (X := X3) (h := kq 1 7) 1 (by decide)
  rw [show Int64.ofInt 1 = (1 : Int64) from rfl] at R4
  obtain ⟨X4, e4⟩ : ∃ Y, LF_F_set X3 (kq 1 7) (1 : Int64) = Y := ⟨_, rfl⟩
  rw [e4] at R4
  have hX : LF_La_climb X kq ts = lpD (LL_La_climb_39 kq ts) 255 X4 := by
    subst e1 e2 e3 e4
    rfl
  rw [hX]
  have g0 := ((R4.fe n03 (R3.fe n02 (R2.fe n01 R1.2))).mono (show (1 : Int) ≤ 2 by decide)).ev (show iF 1 = 1 by decide +kernel)
  have g1 := ((R4.fe n13 (R3.fe n12 R2.2)).mono (show (1 : Int) ≤ 2 by decide)).ev (show iF 0 = 0 by decide +kernel)
  have g2 := R4.fe n23 R3.2
  have g3 := (R4.2.mono (show (1 : Int) ≤ 2 by decide)).ev (show iF 1 = 1 by decide +kernel)
  have g4 := R4.fe u3 (R3.fe u2 (R2.fe u1 (R1.fe u0 hu)))
  have ho : onL (laA kq) X X4 := (((onL.rf.tr (R1.on (by simp))).tr (R2.on (by simp))).tr (R3.on (by simp))).tr (R4.on (by simp))
  generalize 255 = K
  exact fe_climb0 (ts := ts) hI K X4 (1, 0, u, 1) ⟨g0, g1, g2, g3, g4⟩ ho
