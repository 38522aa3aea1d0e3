/-! runs of operations on arrays of limbs -/
/-- Y is X but for the arrays of S -/
def onL (S : List Nat) (X Y : vM) : Prop := Y.2 = X.2 ∧ ∀ b, b ∉ S → Y.1 b = X.1 b
theorem onL.rf {S : List Nat} {X : vM} : onL S X X := ⟨rfl, fun _ _ => rfl⟩
theorem onL.tr {S : List Nat} {X Y Z : vM} (h : onL S X Y) (k : onL S Y Z) : onL S X Z := ⟨k.1.trans h.1, fun b hb => (k.2 b hb).trans (h.2 b hb)⟩
theorem onL.mono {S T : List Nat} {X Y : vM} (h : onL S X Y) (hs : ∀ x ∈ S, x ∈ T) : onL T X Y := ⟨h.1, fun b hb => h.2 b (fun z => hb (hs b z))⟩
theorem fR.on {X Y : vM} {a : Nat} {n : Int} {v : Fp} (h : fR X Y a n v) {S : List Nat} (hs : a ∈ S) : onL S X Y := by
  obtain ⟨⟨t, rfl⟩, -⟩ := h
  exact ⟨rfl, fun b hb => funext fun k => svL_ne X a 10 t (fun z => hb (by rw [z]; exact hs)) k⟩
theorem Fe.on {S : List Nat} {X Y : vM} {b : Nat} {n : Int} {v : Fp} (h : onL S X Y) (hb : b ∉ S) (k : Fe X b n v) : Fe Y b n v := by
  obtain ⟨Z, h1, h2⟩ := k
  exact ⟨Z, fun i hi => (congrFun (h.2 b hb) i).trans (h1 i hi), h2⟩
theorem Fe.ev {X : vM} {b : Nat} {n : Int} {v w : Fp} (k : Fe X b n v) (e : v = w) : Fe X b n w := e ▸ k
/-- different addresses -/
def nd (l : List Nat) : Prop := ∀ i j, i < l.length → j < l.length → i ≠ j → l.getD i 0 ≠ l.getD j 0
theorem ni2 {b x y : Nat} (h1 : b ≠ x) (h2 : b ≠ y) : b ∉ [x, y] := fun h => by
  rcases List.mem_cons.mp h with h | h
  · exact h1 h
  · exact h2 (List.mem_singleton.mp h)
theorem fe_stretch {X : vM} {kq : Nat → Nat → Nat} {ts : Nat → Nat} {h f g n : Nat} {v w : Fp} (hf : Fe X f 1 v) (hg : Fe X g 4 w) (hgs : g ≠ kq 0 6) : onL [kq 0 6, h] X (LF_F_stretch X kq ts h f n g) ∧ Fe (LF_F_stretch X kq ts h f n g) h 1 (fpw v (2 ^ n) * w) := by
  have key : ∀ k i Y u, Fe Y (kq 0 6) 1 u → onL [kq 0 6, h] X Y → Fe Y g 4 w → Fe (lpU 1 (LL_F_stretch_11 kq) k i Y) (kq 0 6) 1 (fpw u (2 ^ k)) ∧ onL [kq 0 6, h] X (lpU 1 (LL_F_stretch_11 kq) k i Y) ∧ Fe (lpU 1 (LL_F_stretch_11 kq) k i Y) g 4 w := by
    intro k
    induction k with
    | zero =>
      intro i Y u h1 h2 h3
      exact ⟨h1.ev (fpw_1 u).symm, h2, h3⟩
    | succ k ih =>
      intro i Y u h1 h2 h3
      have R := fe_square (h := kq 0 6) h1 (by decide)
      have q := ih (i + 1) (LF_F_square Y (kq 0 6) (kq 0 6)) (u * u) R.2 (h2.tr (R.on List.mem_cons_self)) (R.fe hgs h3)
      rw [← fpw_2, ← fpw_mul, show 2 * 2 ^ k = 2 ^ (k + 1) from by rw [Nat.pow_succ, Nat.mul_comm]] at q
      exact q
  have R1 := fe_copy (h := kq 0 6) hf
  obtain ⟨q1, q2, q3⟩ := key (n - 0) 0 _ v R1.2 (R1.on List.mem_cons_self) (R1.fe hgs hg)
  have R2 := fe_times (h := h) q1 q3 (by decide)
  exact ⟨q2.tr (R2.on (List.mem_cons_of_mem _ List.mem_cons_self)), R2.2⟩
theorem pw_st (v : Fp) (a n b c : Nat) (h : c = a * 2 ^ n + b) : fpw (fpw v a) (2 ^ n) * fpw v b = fpw v c := by rw [h, fpw_add, fpw_mul]
theorem pw_ml (v : Fp) (a b c : Nat) (h : c = a + b) : fpw v a * fpw v b = fpw v c := by rw [h, fpw_add]
set_option maxHeartbeats 4000000 in
theorem fe_ones {X : vM} {kq : Nat → Nat → Nat} {ts : Nat → Nat} {f : Nat} {v : Fp} (hd : nd [f, kq 0 0, kq 0 1, kq 0 2, kq 0 3, kq 0 4, kq 0 5, kq 0 6]) (hf : Fe X f 4 v) : onL [kq 0 0, kq 0 1, kq 0 2, kq 0 3, kq 0 4, kq 0 5, kq 0 6] X (LF_F_raiseToOnes X kq ts f) ∧ Fe (LF_F_raiseToOnes X kq ts f) (kq 0 3) 1 (fpw v 1809251394333065553493296640760748560207343510400633813116524750123642650623) ∧ Fe (LF_F_raiseToOnes X kq ts f) (kq 0 0) 1 (fpw v 11) ∧ Fe (LF_F_raiseToOnes X kq ts f) f 4 v := by
  have R1 := fe_square (h := kq 0 4) hf (by decide)
  obtain ⟨X1, eX1⟩ : ∃ Y, LF_F_square X (kq 0 4) f = Y := ⟨_, rfl⟩
  rw [eX1] at R1
  have hf := R1.fe (show f ≠ kq 0 4 from hd 0 5 (Nat.le_of_ble_eq_true rfl) (Nat.le_of_ble_eq_true rfl) (by decide)) hf
  have g1 := R1.2
  have g1 := g1.ev (fpw_2 v).symm
  have hf1 := hf.ev (fpw_1 v).symm
  have R2 := fe_stretch (kq := kq) (ts := ts) (h := kq 0 5) (n := 2) g1 (hf1.mono (by decide)) (show f ≠ kq 0 6 from hd 0 7 (Nat.le_of_ble_eq_true rfl) (Nat.le_of_ble_eq_true rfl) (by decide))
  obtain ⟨X2, eX2⟩ : ∃ Y, LF_F_stretch X1 kq ts (kq 0 5) (kq 0 4) 2 f = Y := ⟨_, rfl⟩
  rw [eX2] at R2
  have hf1 := Fe.on R2.1 (ni2 (show f ≠ kq 0 6 from hd 0 7 (Nat.le_of_ble_eq_true rfl) (Nat.le_of_ble_eq_true rfl) (by decide)) (show f ≠ kq 0 5 from hd 0 6 (Nat.le_of_ble_eq_true rfl) (Nat.le_of_ble_eq_true rfl) (by decide))) hf1
  have g1 := Fe.on R2.1 (ni2 (show kq 0 4 ≠ kq 0 6 from hd 5 7 (Nat.le_of_ble_eq_true rfl) (Nat.le_of_ble_eq_true rfl) (by decide)) (show kq 0 4 ≠ kq 0 5 from hd 5 6 (Nat.le_of_ble_eq_true rfl) (Nat.le_of_ble_eq_true rfl) (by decide))) g1
  have g2 := R2.2
  have g2 := g2.ev (pw_st v 2 2 1 9 (by decide))
  have R3 := fe_times (h := kq 0 0) g2 g1 (by decide)
  obtain ⟨X3, eX3⟩ : ∃ Y, LF_F_times X2 (kq 0 0) (kq 0 5) (kq 0 4) = Y := ⟨_, rfl⟩
  rw [eX3] at R3
  have hf1 := R3.fe (show f ≠ kq 0 0 from hd 0 1 (Nat.le_of_ble_eq_true rfl) (Nat.le_of_ble_eq_true rfl) (by decide)) hf1
  have g1 := R3.fe (show kq 0 4 ≠ kq 0 0 from hd 5 1 (Nat.le_of_ble_eq_true rfl) (Nat.le_of_ble_eq_true rfl) (by decide)) g1
  have g2 := R3.fe (show kq 0 5 ≠ kq 0 0 from hd 6 1 (Nat.le_of_ble_eq_true rfl) (Nat.le_of_ble_eq_true rfl) (by decide)) g2
  have g3 := R3.2
  have g3 := g3.ev (pw_ml v 9 2 11 rfl)
  have R4 := fe_stretch (kq := kq) (ts := ts) (h := kq 0 4) (n := 1) g3 (g2.mono (by decide)) (show kq 0 5 ≠ kq 0 6 from hd 6 7 (Nat.le_of_ble_eq_true rfl) (Nat.le_of_ble_eq_true rfl) (by decide))
  obtain ⟨X4, eX4⟩ : ∃ Y, LF_F_stretch X3 kq ts (kq 0 4) (kq 0 0) 1 (kq 0 5) = Y := ⟨_, rfl⟩
  rw [eX4] at R4
  have hf1 := Fe.on R4.1 (ni2 (show f ≠ kq 0 6 from hd 0 7 (Nat.le_of_ble_eq_true rfl) (Nat.le_of_ble_eq_true rfl) (by decide)) (show f ≠ kq 0 4 from hd 0 5 (Nat.le_of_ble_eq_true rfl) (Nat.le_of_ble_eq_true rfl) (by decide))) hf1
  have g2 := Fe.on R4.1 (ni2 (show kq 0 5 ≠ kq 0 6 from hd 6 7 (Nat.le_of_ble_eq_true rfl) (Nat.le_of_ble_eq_true rfl) (by decide)) (show kq 0 5 ≠ kq 0 4 from hd 6 5 (Nat.le_of_ble_eq_true rfl) (Nat.le_of_ble_eq_true rfl) (by decide))) g2
  have g3 := Fe.on R4.1 (ni2 (show kq 0 0 ≠ kq 0 6 from hd 1 7 (Nat.le_of_ble_eq_true rfl) (Nat.le_of_ble_eq_true rfl) (by decide)) (show kq 0 0 ≠ kq 0 4 from hd 1 5 (Nat.le_of_ble_eq_true rfl) (Nat.le_of_ble_eq_true rfl) (by decide))) g3
  have g4 := R4.2
  have g4 := g4.ev (pw_st v 11 1 9 31 (by decide))
  have R5 := fe_stretch (kq := kq) (ts := ts) (h := kq 0 1) (n := 5) g4 (g4.mono (by decide)) (show kq 0 4 ≠ kq 0 6 from hd 5 7 (Nat.le_of_ble_eq_true rfl) (Nat.le_of_ble_eq_true rfl) (by decide))
  obtain ⟨X5, eX5⟩ : ∃ Y, LF_F_stretch X4 kq ts (kq 0 1) (kq 0 4) 5 (kq 0 4) = Y := ⟨_, rfl⟩
  rw [eX5] at R5
  have hf1 := Fe.on R5.1 (ni2 (show f ≠ kq 0 6 from hd 0 7 (Nat.le_of_ble_eq_true rfl) (Nat.le_of_ble_eq_true rfl) (by decide)) (show f ≠ kq 0 1 from hd 0 2 (Nat.le_of_ble_eq_true rfl) (Nat.le_of_ble_eq_true rfl) (by decide))) hf1
  have g4 := Fe.on R5.1 (ni2 (show kq 0 4 ≠ kq 0 6 from hd 5 7 (Nat.le_of_ble_eq_true rfl) (Nat.le_of_ble_eq_true rfl) (by decide)) (show kq 0 4 ≠ kq 0 1 from hd 5 2 (Nat.le_of_ble_eq_true rfl) (Nat.le_of_ble_eq_true rfl) (by decide))) g4
  have g2 := Fe.on R5.1 (ni2 (show kq 0 5 ≠ kq 0 6 from hd 6 7 (Nat.le_of_ble_eq_true rfl) (Nat.le_of_ble_eq_true rfl) (by decide)) (show kq 0 5 ≠ kq 0 1 from hd 6 2 (Nat.le_of_ble_eq_true rfl) (Nat.le_of_ble_eq_true rfl) (by decide))) g2
  have g3 := Fe.on R5.1 (ni2 (show kq 0 0 ≠ kq 0 6 from hd 1 7 (Nat.le_of_ble_eq_true rfl) (Nat.le_of_ble_eq_true rfl) (by decide)) (show kq 0 0 ≠ kq 0 1 from hd 1 2 (Nat.le_of_ble_eq_true rfl) (Nat.le_of_ble_eq_true rfl) (by decide))) g3
  have g5 := R5.2
  have g5 := g5.ev (pw_st v 31 5 31 1023 (by decide))
  have R6 := fe_stretch (kq := kq) (ts := ts) (h := kq 0 4) (n := 10) g5 (g5.mono (by decide)) (show kq 0 1 ≠ kq 0 6 from hd 2 7 (Nat.le_of_ble_eq_true rfl) (Nat.le_of_ble_eq_true rfl) (by decide))
  obtain ⟨X6, eX6⟩ : ∃ Y, LF_F_stretch X5 kq ts (kq 0 4) (kq 0 1) 10 (kq 0 1) = Y := ⟨_, rfl⟩
  rw [eX6] at R6
  have hf1 := Fe.on R6.1 (ni2 (show f ≠ kq 0 6 from hd 0 7 (Nat.le_of_ble_eq_true rfl) (Nat.le_of_ble_eq_true rfl) (by decide)) (show f ≠ kq 0 4 from hd 0 5 (Nat.le_of_ble_eq_true rfl) (Nat.le_of_ble_eq_true rfl) (by decide))) hf1
  have g2 := Fe.on R6.1 (ni2 (show kq 0 5 ≠ kq 0 6 from hd 6 7 (Nat.le_of_ble_eq_true rfl) (Nat.le_of_ble_eq_true rfl) (by decide)) (show kq 0 5 ≠ kq 0 4 from hd 6 5 (Nat.le_of_ble_eq_true rfl) (Nat.le_of_ble_eq_true rfl) (by decide))) g2
  have g3 := Fe.on R6.1 (ni2 (show kq 0 0 ≠ kq 0 6 from hd 1 7 (Nat.le_of_ble_eq_true rfl) (Nat.le_of_ble_eq_true rfl) (by decide)) (show kq 0 0 ≠ kq 0 4 from hd 1 5 (Nat.le_of_ble_eq_true rfl) (Nat.le_of_ble_eq_true rfl) (by decide))) g3
  have g5 := Fe.on R6.1 (ni2 (show kq 0 1 ≠ kq 0 6 from hd 2 7 (Nat.le_of_ble_eq_true rfl) (Nat.le_of_ble_eq_true rfl) (by decide)) (show kq 0 1 ≠ kq 0 4 from hd 2 5 (Nat.le_of_ble_eq_true rfl) (Nat.le_of_ble_eq_true rfl) (by decide))) g5
  have g6 := R6.2
  have g6 := g6.ev (pw_st v 1023 10 1023 1048575 (by decide))
  have R7 := fe_stretch (kq := kq) (ts := ts) (h := kq 0 5) (n := 20) g6 (g6.mono (by decide)) (show kq 0 4 ≠ kq 0 6 from hd 5 7 (Nat.le_of_ble_eq_true rfl) (Nat.le_of_ble_eq_true rfl) (by decide))
  obtain ⟨X7, eX7⟩ : ∃ Y, LF_F_stretch X6 kq ts (kq 0 5) (kq 0 4) 20 (kq 0 4) = Y := ⟨_, rfl⟩
  rw [eX7] at R7
  have hf1 := Fe.on R7.1 (ni2 (show f ≠ kq 0 6 from hd 0 7 (Nat.le_of_ble_eq_true rfl) (Nat.le_of_ble_eq_true rfl) (by decide)) (show f ≠ kq 0 5 from hd 0 6 (Nat.le_of_ble_eq_true rfl) (Nat.le_of_ble_eq_true rfl) (by decide))) hf1
  have g6 := Fe.on R7.1 (ni2 (show kq 0 4 ≠ kq 0 6 from hd 5 7 (Nat.le_of_ble_eq_true rfl) (Nat.le_of_ble_eq_true rfl) (by decide)) (show kq 0 4 ≠ kq 0 5 from hd 5 6 (Nat.le_of_ble_eq_true rfl) (Nat.le_of_ble_eq_true rfl) (by decide))) g6
  have g3 := Fe.on R7.1 (ni2 (show kq 0 0 ≠ kq 0 6 from hd 1 7 (Nat.le_of_ble_eq_true rfl) (Nat.le_of_ble_eq_true rfl) (by decide)) (show kq 0 0 ≠ kq 0 5 from hd 1 6 (Nat.le_of_ble_eq_true rfl) (Nat.le_of_ble_eq_true rfl) (by decide))) g3
  have g5 := Fe.on R7.1 (ni2 (show kq 0 1 ≠ kq 0 6 from hd 2 7 (Nat.le_of_ble_eq_true rfl) (Nat.le_of_ble_eq_true rfl) (by decide)) (show kq 0 1 ≠ kq 0 5 from hd 2 6 (Nat.le_of_ble_eq_true rfl) (Nat.le_of_ble_eq_true rfl) (by decide))) g5
  have g7 := R7.2
  have g7 := g7.ev (pw_st v 1048575 20 1048575 1099511627775 (by decide))
  have R8 := fe_stretch (kq := kq) (ts := ts) (h := kq 0 2) (n := 10) g7 (g5.mono (by decide)) (show kq 0 1 ≠ kq 0 6 from hd 2 7 (Nat.le_of_ble_eq_true rfl) (Nat.le_of_ble_eq_true rfl) (by decide))
  obtain ⟨X8, eX8⟩ : ∃ Y, LF_F_stretch X7 kq ts (kq 0 2) (kq 0 5) 10 (kq 0 1) = Y := ⟨_, rfl⟩
  rw [eX8] at R8
  have hf1 := Fe.on R8.1 (ni2 (show f ≠ kq 0 6 from hd 0 7 (Nat.le_of_ble_eq_true rfl) (Nat.le_of_ble_eq_true rfl) (by decide)) (show f ≠ kq 0 2 from hd 0 3 (Nat.le_of_ble_eq_true rfl) (Nat.le_of_ble_eq_true rfl) (by decide))) hf1
  have g6 := Fe.on R8.1 (ni2 (show kq 0 4 ≠ kq 0 6 from hd 5 7 (Nat.le_of_ble_eq_true rfl) (Nat.le_of_ble_eq_true rfl) (by decide)) (show kq 0 4 ≠ kq 0 2 from hd 5 3 (Nat.le_of_ble_eq_true rfl) (Nat.le_of_ble_eq_true rfl) (by decide))) g6
  have g7 := Fe.on R8.1 (ni2 (show kq 0 5 ≠ kq 0 6 from hd 6 7 (Nat.le_of_ble_eq_true rfl) (Nat.le_of_ble_eq_true rfl) (by decide)) (show kq 0 5 ≠ kq 0 2 from hd 6 3 (Nat.le_of_ble_eq_true rfl) (Nat.le_of_ble_eq_true rfl) (by decide))) g7
  have g3 := Fe.on R8.1 (ni2 (show kq 0 0 ≠ kq 0 6 from hd 1 7 (Nat.le_of_ble_eq_true rfl) (Nat.le_of_ble_eq_true rfl) (by decide)) (show kq 0 0 ≠ kq 0 2 from hd 1 3 (Nat.le_of_ble_eq_true rfl) (Nat.le_of_ble_eq_true rfl) (by decide))) g3
  have g5 := Fe.on R8.1 (ni2 (show kq 0 1 ≠ kq 0 6 from hd 2 7 (Nat.le_of_ble_eq_true rfl) (Nat.le_of_ble_eq_true rfl) (by decide)) (show kq 0 1 ≠ kq 0 2 from hd 2 3 (Nat.le_of_ble_eq_true rfl) (Nat.le_of_ble_eq_true rfl) (by decide))) g5
  have g8 := R8.2
  have g8 := g8.ev (pw_st v 1099511627775 10 1023 1125899906842623 (by decide))
  have R9 := fe_stretch (kq := kq) (ts := ts) (h := kq 0 4) (n := 50) g8 (g8.mono (by decide)) (show kq 0 2 ≠ kq 0 6 from hd 3 7 (Nat.le_of_ble_eq_true rfl) (Nat.le_of_ble_eq_true rfl) (by decide))
  obtain ⟨X9, eX9⟩ : ∃ Y, LF_F_stretch X8 kq ts (kq 0 4) (kq 0 2) 50 (kq 0 2) = Y := ⟨_, rfl⟩
  rw [eX9] at R9
  have hf1 := Fe.on R9.1 (ni2 (show f ≠ kq 0 6 from hd 0 7 (Nat.le_of_ble_eq_true rfl) (Nat.le_of_ble_eq_true rfl) (by decide)) (show f ≠ kq 0 4 from hd 0 5 (Nat.le_of_ble_eq_true rfl) (Nat.le_of_ble_eq_true rfl) (by decide))) hf1
  have g7 := Fe.on R9.1 (ni2 (show kq 0 5 ≠ kq 0 6 from hd 6 7 (Nat.le_of_ble_eq_true rfl) (Nat.le_of_ble_eq_true rfl) (by decide)) (show kq 0 5 ≠ kq 0 4 from hd 6 5 (Nat.le_of_ble_eq_true rfl) (Nat.le_of_ble_eq_true rfl) (by decide))) g7
  have g3 := Fe.on R9.1 (ni2 (show kq 0 0 ≠ kq 0 6 from hd 1 7 (Nat.le_of_ble_eq_true rfl) (Nat.le_of_ble_eq_true rfl) (by decide)) (show kq 0 0 ≠ kq 0 4 from hd 1 5 (Nat.le_of_ble_eq_true rfl) (Nat.le_of_ble_eq_true rfl) (by decide))) g3
  have g5 := Fe.on R9.1 (ni2 (show kq 0 1 ≠ kq 0 6 from hd 2 7 (Nat.le_of_ble_eq_true rfl) (Nat.le_of_ble_eq_true rfl) (by decide)) (show kq 0 1 ≠ kq 0 4 from hd 2 5 (Nat.le_of_ble_eq_true rfl) (Nat.le_of_ble_eq_true rfl) (by decide))) g5
  have g8 := Fe.on R9.1 (ni2 (show kq 0 2 ≠ kq 0 6 from hd 3 7 (Nat.le_of_ble_eq_true rfl) (Nat.le_of_ble_eq_true rfl) (by decide)) (show kq 0 2 ≠ kq 0 4 from hd 3 5 (Nat.le_of_ble_eq_true rfl) (Nat.le_of_ble_eq_true rfl) (by decide))) g8
  have g9 := R9.2
  have g9 := g9.ev (pw_st v 1125899906842623 50 1125899906842623 1267650600228229401496703205375 (by decide))
  have R10 := fe_stretch (kq := kq) (ts := ts) (h := kq 0 5) (n := 100) g9 (g9.mono (by decide)) (show kq 0 4 ≠ kq 0 6 from hd 5 7 (Nat.le_of_ble_eq_true rfl) (Nat.le_of_ble_eq_true rfl) (by decide))
  obtain ⟨X10, eX10⟩ : ∃ Y, LF_F_stretch X9 kq ts (kq 0 5) (kq 0 4) 100 (kq 0 4) = Y := ⟨_, rfl⟩
  rw [eX10] at R10
  have hf1 := Fe.on R10.1 (ni2 (show f ≠ kq 0 6 from hd 0 7 (Nat.le_of_ble_eq_true rfl) (Nat.le_of_ble_eq_true rfl) (by decide)) (show f ≠ kq 0 5 from hd 0 6 (Nat.le_of_ble_eq_true rfl) (Nat.le_of_ble_eq_true rfl) (by decide))) hf1
  have g9 := Fe.on R10.1 (ni2 (show kq 0 4 ≠ kq 0 6 from hd 5 7 (Nat.le_of_ble_eq_true rfl) (Nat.le_of_ble_eq_true rfl) (by decide)) (show kq 0 4 ≠ kq 0 5 from hd 5 6 (Nat.le_of_ble_eq_true rfl) (Nat.le_of_ble_eq_true rfl) (by decide))) g9
  have g3 := Fe.on R10.1 (ni2 (show kq 0 0 ≠ kq 0 6 from hd 1 7 (Nat.le_of_ble_eq_true rfl) (Nat.le_of_ble_eq_true rfl) (by decide)) (show kq 0 0 ≠ kq 0 5 from hd 1 6 (Nat.le_of_ble_eq_true rfl) (Nat.le_of_ble_eq_true rfl) (by decide))) g3
  have g5 := Fe.on R10.1 (ni2 (show kq 0 1 ≠ kq 0 6 from hd 2 7 (Nat.le_of_ble_eq_true rfl) (Nat.le_of_ble_eq_true rfl) (by decide)) (show kq 0 1 ≠ kq 0 5 from hd 2 6 (Nat.le_of_ble_eq_true rfl) (Nat.le_of_ble_eq_true rfl) (by decide))) g5
  have g8 := Fe.on R10.1 (ni2 (show kq 0 2 ≠ kq 0 6 from hd 3 7 (Nat.le_of_ble_eq_true rfl) (Nat.le_of_ble_eq_true rfl) (by decide)) (show kq 0 2 ≠ kq 0 5 from hd 3 6 (Nat.le_of_ble_eq_true rfl) (Nat.le_of_ble_eq_true rfl) (by decide))) g8
  have g10 := R10.2
  have g10 := g10.ev (pw_st v 1267650600228229401496703205375 100 1267650600228229401496703205375 1606938044258990275541962092341162602522202993782792835301375 (by decide))
  have R11 := fe_stretch (kq := kq) (ts := ts) (h := kq 0 3) (n := 50) g10 (g8.mono (by decide)) (show kq 0 2 ≠ kq 0 6 from hd 3 7 (Nat.le_of_ble_eq_true rfl) (Nat.le_of_ble_eq_true rfl) (by decide))
  obtain ⟨X11, eX11⟩ : ∃ Y, LF_F_stretch X10 kq ts (kq 0 3) (kq 0 5) 50 (kq 0 2) = Y := ⟨_, rfl⟩
  rw [eX11] at R11
  have hf1 := Fe.on R11.1 (ni2 (show f ≠ kq 0 6 from hd 0 7 (Nat.le_of_ble_eq_true rfl) (Nat.le_of_ble_eq_true rfl) (by decide)) (show f ≠ kq 0 3 from hd 0 4 (Nat.le_of_ble_eq_true rfl) (Nat.le_of_ble_eq_true rfl) (by decide))) hf1
  have g9 := Fe.on R11.1 (ni2 (show kq 0 4 ≠ kq 0 6 from hd 5 7 (Nat.le_of_ble_eq_true rfl) (Nat.le_of_ble_eq_true rfl) (by decide)) (show kq 0 4 ≠ kq 0 3 from hd 5 4 (Nat.le_of_ble_eq_true rfl) (Nat.le_of_ble_eq_true rfl) (by decide))) g9
  have g10 := Fe.on R11.1 (ni2 (show kq 0 5 ≠ kq 0 6 from hd 6 7 (Nat.le_of_ble_eq_true rfl) (Nat.le_of_ble_eq_true rfl) (by decide)) (show kq 0 5 ≠ kq 0 3 from hd 6 4 (Nat.le_of_ble_eq_true rfl) (Nat.le_of_ble_eq_true rfl) (by decide))) g10
  have g3 := Fe.on R11.1 (ni2 (show kq 0 0 ≠ kq 0 6 from hd 1 7 (Nat.le_of_ble_eq_true rfl) (Nat.le_of_ble_eq_true rfl) (by decide)) (show kq 0 0 ≠ kq 0 3 from hd 1 4 (Nat.le_of_ble_eq_true rfl) (Nat.le_of_ble_eq_true rfl) (by decide))) g3
  have g5 := Fe.on R11.1 (ni2 (show kq 0 1 ≠ kq 0 6 from hd 2 7 (Nat.le_of_ble_eq_true rfl) (Nat.le_of_ble_eq_true rfl) (by decide)) (show kq 0 1 ≠ kq 0 3 from hd 2 4 (Nat.le_of_ble_eq_true rfl) (Nat.le_of_ble_eq_true rfl) (by decide))) g5
  have g8 := Fe.on R11.1 (ni2 (show kq 0 2 ≠ kq 0 6 from hd 3 7 (Nat.le_of_ble_eq_true rfl) (Nat.le_of_ble_eq_true rfl) (by decide)) (show kq 0 2 ≠ kq 0 3 from hd 3 4 (Nat.le_of_ble_eq_true rfl) (Nat.le_of_ble_eq_true rfl) (by decide))) g8
  have g11 := R11.2
  have g11 := g11.ev (pw_st v 1606938044258990275541962092341162602522202993782792835301375 50 1125899906842623 1809251394333065553493296640760748560207343510400633813116524750123642650623 (by decide))
  have hX : LF_F_raiseToOnes X kq ts f = X11 := by subst eX1 eX2 eX3 eX4 eX5 eX6 eX7 eX8 eX9 eX10 eX11; rfl
  rw [hX]
  exact ⟨(((((((((((onL.rf.tr (R1.on (S := [kq 0 0, kq 0 1, kq 0 2, kq 0 3, kq 0 4, kq 0 5, kq 0 6]) (by simp))).tr (R2.1.mono (T := [kq 0 0, kq 0 1, kq 0 2, kq 0 3, kq 0 4, kq 0 5, kq 0 6]) (by simp))).tr (R3.on (S := [kq 0 0, kq 0 1, kq 0 2, kq 0 3, kq 0 4, kq 0 5, kq 0 6]) (by simp))).tr (R4.1.mono (T := [kq 0 0, kq 0 1, kq 0 2, kq 0 3, kq 0 4, kq 0 5, kq 0 6]) (by simp))).tr (R5.1.mono (T := [kq 0 0, kq 0 1, kq 0 2, kq 0 3, kq 0 4, kq 0 5, kq 0 6]) (by simp))).tr (R6.1.mono (T := [kq 0 0, kq 0 1, kq 0 2, kq 0 3, kq 0 4, kq 0 5, kq 0 6]) (by simp))).tr (R7.1.mono (T := [kq 0 0, kq 0 1, kq 0 2, kq 0 3, kq 0 4, kq 0 5, kq 0 6]) (by simp))).tr (R8.1.mono (T := [kq 0 0, kq 0 1, kq 0 2, kq 0 3, kq 0 4, kq 0 5, kq 0 6]) (by simp))).tr (R9.1.mono (T := [kq 0 0, kq 0 1, kq 0 2, kq 0 3, kq 0 4, kq 0 5, kq 0 6]) (by simp))).tr (R10.1.mono (T := [kq 0 0, kq 0 1, kq 0 2, kq 0 3, kq 0 4, kq 0 5, kq 0 6]) (by simp))).tr (R11.1.mono (T := [kq 0 0, kq 0 1, kq 0 2, kq 0 3, kq 0 4, kq 0 5, kq 0 6]) (by simp))), g11, g3, hf1.ev (fpw_1 v)⟩
theorem fe_invert {X : vM} {kq : Nat → Nat → Nat} {ts : Nat → Nat} {f h : Nat} {v : Fp} (hd : nd [f, kq 0 0, kq 0 1, kq 0 2, kq 0 3, kq 0 4, kq 0 5, kq 0 6]) (hf : Fe X f 4 v) : onL [h, kq 0 0, kq 0 1, kq 0 2, kq 0 3, kq 0 4, kq 0 5, kq 0 6] X (LF_F_invert X kq ts h f) ∧ Fe (LF_F_invert X kq ts h f) h 1 (fpi v) := by
  obtain ⟨h1, h2, h3, -⟩ := fe_ones (ts := ts) hd hf
  obtain ⟨q1, q2⟩ := fe_stretch (kq := kq) (ts := ts) (h := h) (n := 5) h2 (h3.mono (by decide)) (show kq 0 0 ≠ kq 0 6 from hd 1 7 (Nat.le_of_ble_eq_true rfl) (Nat.le_of_ble_eq_true rfl) (by decide))
  exact ⟨(h1.mono (by simp)).tr (q1.mono (by simp)), q2.ev (pw_st v 1809251394333065553493296640760748560207343510400633813116524750123642650623 5 11 (pP - 2) (by decide))⟩
theorem fe_root {X : vM} {kq : Nat → Nat → Nat} {ts : Nat → Nat} {f h : Nat} {v : Fp} (hd : nd [f, kq 0 0, kq 0 1, kq 0 2, kq 0 3, kq 0 4, kq 0 5, kq 0 6]) (hf : Fe X f 4 v) : onL [h, kq 0 0, kq 0 1, kq 0 2, kq 0 3, kq 0 4, kq 0 5, kq 0 6] X (LF_F_raiseForRoot X kq ts h f) ∧ Fe (LF_F_raiseForRoot X kq ts h f) h 1 (fpw v 7237005577332262213973186563042994240829374041602535252466099000494570602493) := by
  obtain ⟨h1, h2, -, h4⟩ := fe_ones (ts := ts) hd hf
  obtain ⟨q1, q2⟩ := fe_stretch (kq := kq) (ts := ts) (h := h) (n := 2) h2 h4 (show f ≠ kq 0 6 from hd 0 7 (Nat.le_of_ble_eq_true rfl) (Nat.le_of_ble_eq_true rfl) (by decide))
  exact ⟨(h1.mono (by simp)).tr (q1.mono (by simp)), q2.ev (by have e := pw_st v 1809251394333065553493296640760748560207343510400633813116524750123642650623 2 1 7237005577332262213973186563042994240829374041602535252466099000494570602493 (by decide); rwa [fpw_1] at e)⟩
set_option maxHeartbeats 4000000 in
theorem fe_step {X : vM} {kq : Nat → Nat → Nat} {ts : Nat → Nat} {a0 a1 a2 a3 : Nat} {x z s t u : Fp} (hd : nd [a0, a1, a2, a3, kq 1 3, kq 1 8, kq 1 9, kq 1 10, kq 1 11]) (h0 : Fe X a0 2 x) (h1 : Fe X a1 2 z) (h2 : Fe X a2 2 s) (h3 : Fe X a3 2 t) (hu : Fe X (kq 1 3) 2 u) : onL [a0, a1, a2, a3, kq 1 8, kq 1 9, kq 1 10, kq 1 11] X (LF_La_step X kq ts a0 a1 a2 a3) ∧ Fe (LF_La_step X kq ts a0 a1 a2 a3) a0 1 (((x + z) * (x + z)) * ((x - z) * (x - z))) ∧ Fe (LF_La_step X kq ts a0 a1 a2 a3) a1 1 ((((((x + z) * (x + z)) - ((x - z) * (x - z))) * iF 121665) + ((x + z) * (x + z))) * (((x + z) * (x + z)) - ((x - z) * (x - z)))) ∧ Fe (LF_La_step X kq ts a0 a1 a2 a3) a2 1 ((((s - t) * (x + z)) + ((s + t) * (x - z))) * (((s - t) * (x + z)) + ((s + t) * (x - z)))) ∧ Fe (LF_La_step X kq ts a0 a1 a2 a3) a3 1 (((((s - t) * (x + z)) - ((s + t) * (x - z))) * (((s - t) * (x + z)) - ((s + t) * (x - z)))) * u) ∧ Fe (LF_La_step X kq ts a0 a1 a2 a3) (kq 1 3) 2 u := by
  have R1 := fe_add (h := kq 1 8) h0 h1
  obtain ⟨X1, eX1⟩ : ∃ Y, LF_F_add X (kq 1 8) a0 a1 = Y := ⟨_, rfl⟩
  rw [eX1] at R1
  have h0 := R1.fe (show a0 ≠ kq 1 8 from hd 0 5 (Nat.le_of_ble_eq_true rfl) (Nat.le_of_ble_eq_true rfl) (by decide)) h0
  have h1 := R1.fe (show a1 ≠ kq 1 8 from hd 1 5 (Nat.le_of_ble_eq_true rfl) (Nat.le_of_ble_eq_true rfl) (by decide)) h1
  have h2 := R1.fe (show a2 ≠ kq 1 8 from hd 2 5 (Nat.le_of_ble_eq_true rfl) (Nat.le_of_ble_eq_true rfl) (by decide)) h2
  have h3 := R1.fe (show a3 ≠ kq 1 8 from hd 3 5 (Nat.le_of_ble_eq_true rfl) (Nat.le_of_ble_eq_true rfl) (by decide)) h3
  have hu := R1.fe (show kq 1 3 ≠ kq 1 8 from hd 4 5 (Nat.le_of_ble_eq_true rfl) (Nat.le_of_ble_eq_true rfl) (by decide)) hu
  have g1 := R1.2
  have R2 := fe_sub (h := kq 1 9) h0 h1
  obtain ⟨X2, eX2⟩ : ∃ Y, LF_F_subtract X1 (kq 1 9) a0 a1 = Y := ⟨_, rfl⟩
  rw [eX2] at R2
  have h0 := R2.fe (show a0 ≠ kq 1 9 from hd 0 6 (Nat.le_of_ble_eq_true rfl) (Nat.le_of_ble_eq_true rfl) (by decide)) h0
  have h1 := R2.fe (show a1 ≠ kq 1 9 from hd 1 6 (Nat.le_of_ble_eq_true rfl) (Nat.le_of_ble_eq_true rfl) (by decide)) h1
  have h2 := R2.fe (show a2 ≠ kq 1 9 from hd 2 6 (Nat.le_of_ble_eq_true rfl) (Nat.le_of_ble_eq_true rfl) (by decide)) h2
  have h3 := R2.fe (show a3 ≠ kq 1 9 from hd 3 6 (Nat.le_of_ble_eq_true rfl) (Nat.le_of_ble_eq_true rfl) (by decide)) h3
  have hu := R2.fe (show kq 1 3 ≠ kq 1 9 from hd 4 6 (Nat.le_of_ble_eq_true rfl) (Nat.le_of_ble_eq_true rfl) (by decide)) hu
  have g1 := R2.fe (show kq 1 8 ≠ kq 1 9 from hd 5 6 (Nat.le_of_ble_eq_true rfl) (Nat.le_of_ble_eq_true rfl) (by decide)) g1
  have g2 := R2.2
  have R3 := fe_add (h := kq 1 10) h2 h3
  obtain ⟨X3, eX3⟩ : ∃ Y, LF_F_add X2 (kq 1 10) a2 a3 = Y := ⟨_, rfl⟩
  rw [eX3] at R3
  have h0 := R3.fe (show a0 ≠ kq 1 10 from hd 0 7 (Nat.le_of_ble_eq_true rfl) (Nat.le_of_ble_eq_true rfl) (by decide)) h0
  have h1 := R3.fe (show a1 ≠ kq 1 10 from hd 1 7 (Nat.le_of_ble_eq_true rfl) (Nat.le_of_ble_eq_true rfl) (by decide)) h1
  have h2 := R3.fe (show a2 ≠ kq 1 10 from hd 2 7 (Nat.le_of_ble_eq_true rfl) (Nat.le_of_ble_eq_true rfl) (by decide)) h2
  have h3 := R3.fe (show a3 ≠ kq 1 10 from hd 3 7 (Nat.le_of_ble_eq_true rfl) (Nat.le_of_ble_eq_true rfl) (by decide)) h3
  have hu := R3.fe (show kq 1 3 ≠ kq 1 10 from hd 4 7 (Nat.le_of_ble_eq_true rfl) (Nat.le_of_ble_eq_true rfl) (by decide)) hu
  have g1 := R3.fe (show kq 1 8 ≠ kq 1 10 from hd 5 7 (Nat.le_of_ble_eq_true rfl) (Nat.le_of_ble_eq_true rfl) (by decide)) g1
  have g2 := R3.fe (show kq 1 9 ≠ kq 1 10 from hd 6 7 (Nat.le_of_ble_eq_true rfl) (Nat.le_of_ble_eq_true rfl) (by decide)) g2
  have g3 := R3.2
  have R4 := fe_sub (h := kq 1 11) h2 h3
  obtain ⟨X4, eX4⟩ : ∃ Y, LF_F_subtract X3 (kq 1 11) a2 a3 = Y := ⟨_, rfl⟩
  rw [eX4] at R4
  have h0 := R4.fe (show a0 ≠ kq 1 11 from hd 0 8 (Nat.le_of_ble_eq_true rfl) (Nat.le_of_ble_eq_true rfl) (by decide)) h0
  have h1 := R4.fe (show a1 ≠ kq 1 11 from hd 1 8 (Nat.le_of_ble_eq_true rfl) (Nat.le_of_ble_eq_true rfl) (by decide)) h1
  have h2 := R4.fe (show a2 ≠ kq 1 11 from hd 2 8 (Nat.le_of_ble_eq_true rfl) (Nat.le_of_ble_eq_true rfl) (by decide)) h2
  have h3 := R4.fe (show a3 ≠ kq 1 11 from hd 3 8 (Nat.le_of_ble_eq_true rfl) (Nat.le_of_ble_eq_true rfl) (by decide)) h3
  have hu := R4.fe (show kq 1 3 ≠ kq 1 11 from hd 4 8 (Nat.le_of_ble_eq_true rfl) (Nat.le_of_ble_eq_true rfl) (by decide)) hu
  have g1 := R4.fe (show kq 1 8 ≠ kq 1 11 from hd 5 8 (Nat.le_of_ble_eq_true rfl) (Nat.le_of_ble_eq_true rfl) (by decide)) g1
  have g2 := R4.fe (show kq 1 9 ≠ kq 1 11 from hd 6 8 (Nat.le_of_ble_eq_true rfl) (Nat.le_of_ble_eq_true rfl) (by decide)) g2
  have g3 := R4.fe (show kq 1 10 ≠ kq 1 11 from hd 7 8 (Nat.le_of_ble_eq_true rfl) (Nat.le_of_ble_eq_true rfl) (by decide)) g3
  have g4 := R4.2
  have R5 := fe_times (h := kq 1 11) g4 g1 (by decide)
  obtain ⟨X5, eX5⟩ : ∃ Y, LF_F_times X4 (kq 1 11) (kq 1 11) (kq 1 8) = Y := ⟨_, rfl⟩
  rw [eX5] at R5
  have h0 := R5.fe (show a0 ≠ kq 1 11 from hd 0 8 (Nat.le_of_ble_eq_true rfl) (Nat.le_of_ble_eq_true rfl) (by decide)) h0
  have h1 := R5.fe (show a1 ≠ kq 1 11 from hd 1 8 (Nat.le_of_ble_eq_true rfl) (Nat.le_of_ble_eq_true rfl) (by decide)) h1
  have h2 := R5.fe (show a2 ≠ kq 1 11 from hd 2 8 (Nat.le_of_ble_eq_true rfl) (Nat.le_of_ble_eq_true rfl) (by decide)) h2
  have h3 := R5.fe (show a3 ≠ kq 1 11 from hd 3 8 (Nat.le_of_ble_eq_true rfl) (Nat.le_of_ble_eq_true rfl) (by decide)) h3
  have hu := R5.fe (show kq 1 3 ≠ kq 1 11 from hd 4 8 (Nat.le_of_ble_eq_true rfl) (Nat.le_of_ble_eq_true rfl) (by decide)) hu
  have g1 := R5.fe (show kq 1 8 ≠ kq 1 11 from hd 5 8 (Nat.le_of_ble_eq_true rfl) (Nat.le_of_ble_eq_true rfl) (by decide)) g1
  have g2 := R5.fe (show kq 1 9 ≠ kq 1 11 from hd 6 8 (Nat.le_of_ble_eq_true rfl) (Nat.le_of_ble_eq_true rfl) (by decide)) g2
  have g3 := R5.fe (show kq 1 10 ≠ kq 1 11 from hd 7 8 (Nat.le_of_ble_eq_true rfl) (Nat.le_of_ble_eq_true rfl) (by decide)) g3
  have g5 := R5.2
  have R6 := fe_times (h := kq 1 10) g3 g2 (by decide)
  obtain ⟨X6, eX6⟩ : ∃ Y, LF_F_times X5 (kq 1 10) (kq 1 10) (kq 1 9) = Y := ⟨_, rfl⟩
  rw [eX6] at R6
  have h0 := R6.fe (show a0 ≠ kq 1 10 from hd 0 7 (Nat.le_of_ble_eq_true rfl) (Nat.le_of_ble_eq_true rfl) (by decide)) h0
  have h1 := R6.fe (show a1 ≠ kq 1 10 from hd 1 7 (Nat.le_of_ble_eq_true rfl) (Nat.le_of_ble_eq_true rfl) (by decide)) h1
  have h2 := R6.fe (show a2 ≠ kq 1 10 from hd 2 7 (Nat.le_of_ble_eq_true rfl) (Nat.le_of_ble_eq_true rfl) (by decide)) h2
  have h3 := R6.fe (show a3 ≠ kq 1 10 from hd 3 7 (Nat.le_of_ble_eq_true rfl) (Nat.le_of_ble_eq_true rfl) (by decide)) h3
  have hu := R6.fe (show kq 1 3 ≠ kq 1 10 from hd 4 7 (Nat.le_of_ble_eq_true rfl) (Nat.le_of_ble_eq_true rfl) (by decide)) hu
  have g1 := R6.fe (show kq 1 8 ≠ kq 1 10 from hd 5 7 (Nat.le_of_ble_eq_true rfl) (Nat.le_of_ble_eq_true rfl) (by decide)) g1
  have g2 := R6.fe (show kq 1 9 ≠ kq 1 10 from hd 6 7 (Nat.le_of_ble_eq_true rfl) (Nat.le_of_ble_eq_true rfl) (by decide)) g2
  have g5 := R6.fe (show kq 1 11 ≠ kq 1 10 from hd 8 7 (Nat.le_of_ble_eq_true rfl) (Nat.le_of_ble_eq_true rfl) (by decide)) g5
  have g6 := R6.2
  have R7 := fe_add (h := a2) g5 g6
  obtain ⟨X7, eX7⟩ : ∃ Y, LF_F_add X6 a2 (kq 1 11) (kq 1 10) = Y := ⟨_, rfl⟩
  rw [eX7] at R7
  have h0 := R7.fe (show a0 ≠ a2 from hd 0 2 (Nat.le_of_ble_eq_true rfl) (Nat.le_of_ble_eq_true rfl) (by decide)) h0
  have h1 := R7.fe (show a1 ≠ a2 from hd 1 2 (Nat.le_of_ble_eq_true rfl) (Nat.le_of_ble_eq_true rfl) (by decide)) h1
  have h3 := R7.fe (show a3 ≠ a2 from hd 3 2 (Nat.le_of_ble_eq_true rfl) (Nat.le_of_ble_eq_true rfl) (by decide)) h3
  have hu := R7.fe (show kq 1 3 ≠ a2 from hd 4 2 (Nat.le_of_ble_eq_true rfl) (Nat.le_of_ble_eq_true rfl) (by decide)) hu
  have g1 := R7.fe (show kq 1 8 ≠ a2 from hd 5 2 (Nat.le_of_ble_eq_true rfl) (Nat.le_of_ble_eq_true rfl) (by decide)) g1
  have g2 := R7.fe (show kq 1 9 ≠ a2 from hd 6 2 (Nat.le_of_ble_eq_true rfl) (Nat.le_of_ble_eq_true rfl) (by decide)) g2
  have g6 := R7.fe (show kq 1 10 ≠ a2 from hd 7 2 (Nat.le_of_ble_eq_true rfl) (Nat.le_of_ble_eq_true rfl) (by decide)) g6
  have g5 := R7.fe (show kq 1 11 ≠ a2 from hd 8 2 (Nat.le_of_ble_eq_true rfl) (Nat.le_of_ble_eq_true rfl) (by decide)) g5
  have g7 := R7.2
  have R8 := fe_square (h := a2) g7 (by decide)
  obtain ⟨X8, eX8⟩ : ∃ Y, LF_F_square X7 a2 a2 = Y := ⟨_, rfl⟩
  rw [eX8] at R8
  have h0 := R8.fe (show a0 ≠ a2 from hd 0 2 (Nat.le_of_ble_eq_true rfl) (Nat.le_of_ble_eq_true rfl) (by decide)) h0
  have h1 := R8.fe (show a1 ≠ a2 from hd 1 2 (Nat.le_of_ble_eq_true rfl) (Nat.le_of_ble_eq_true rfl) (by decide)) h1
  have h3 := R8.fe (show a3 ≠ a2 from hd 3 2 (Nat.le_of_ble_eq_true rfl) (Nat.le_of_ble_eq_true rfl) (by decide)) h3
  have hu := R8.fe (show kq 1 3 ≠ a2 from hd 4 2 (Nat.le_of_ble_eq_true rfl) (Nat.le_of_ble_eq_true rfl) (by decide)) hu
  have g1 := R8.fe (show kq 1 8 ≠ a2 from hd 5 2 (Nat.le_of_ble_eq_true rfl) (Nat.le_of_ble_eq_true rfl) (by decide)) g1
  have g2 := R8.fe (show kq 1 9 ≠ a2 from hd 6 2 (Nat.le_of_ble_eq_true rfl) (Nat.le_of_ble_eq_true rfl) (by decide)) g2
  have g6 := R8.fe (show kq 1 10 ≠ a2 from hd 7 2 (Nat.le_of_ble_eq_true rfl) (Nat.le_of_ble_eq_true rfl) (by decide)) g6
  have g5 := R8.fe (show kq 1 11 ≠ a2 from hd 8 2 (Nat.le_of_ble_eq_true rfl) (Nat.le_of_ble_eq_true rfl) (by decide)) g5
  have g8 := R8.2
  have R9 := fe_sub (h := a3) g5 g6
  obtain ⟨X9, eX9⟩ : ∃ Y, LF_F_subtract X8 a3 (kq 1 11) (kq 1 10) = Y := ⟨_, rfl⟩
  rw [eX9] at R9
  have h0 := R9.fe (show a0 ≠ a3 from hd 0 3 (Nat.le_of_ble_eq_true rfl) (Nat.le_of_ble_eq_true rfl) (by decide)) h0
  have h1 := R9.fe (show a1 ≠ a3 from hd 1 3 (Nat.le_of_ble_eq_true rfl) (Nat.le_of_ble_eq_true rfl) (by decide)) h1
  have g8 := R9.fe (show a2 ≠ a3 from hd 2 3 (Nat.le_of_ble_eq_true rfl) (Nat.le_of_ble_eq_true rfl) (by decide)) g8
  have hu := R9.fe (show kq 1 3 ≠ a3 from hd 4 3 (Nat.le_of_ble_eq_true rfl) (Nat.le_of_ble_eq_true rfl) (by decide)) hu
  have g1 := R9.fe (show kq 1 8 ≠ a3 from hd 5 3 (Nat.le_of_ble_eq_true rfl) (Nat.le_of_ble_eq_true rfl) (by decide)) g1
  have g2 := R9.fe (show kq 1 9 ≠ a3 from hd 6 3 (Nat.le_of_ble_eq_true rfl) (Nat.le_of_ble_eq_true rfl) (by decide)) g2
  have g6 := R9.fe (show kq 1 10 ≠ a3 from hd 7 3 (Nat.le_of_ble_eq_true rfl) (Nat.le_of_ble_eq_true rfl) (by decide)) g6
  have g5 := R9.fe (show kq 1 11 ≠ a3 from hd 8 3 (Nat.le_of_ble_eq_true rfl) (Nat.le_of_ble_eq_true rfl) (by decide)) g5
  have g9 := R9.2
  have R10 := fe_square (h := a3) g9 (by decide)
  obtain ⟨X10, eX10⟩ : ∃ Y, LF_F_square X9 a3 a3 = Y := ⟨_, rfl⟩
  rw [eX10] at R10
  have h0 := R10.fe (show a0 ≠ a3 from hd 0 3 (Nat.le_of_ble_eq_true rfl) (Nat.le_of_ble_eq_true rfl) (by decide)) h0
  have h1 := R10.fe (show a1 ≠ a3 from hd 1 3 (Nat.le_of_ble_eq_true rfl) (Nat.le_of_ble_eq_true rfl) (by decide)) h1
  have g8 := R10.fe (show a2 ≠ a3 from hd 2 3 (Nat.le_of_ble_eq_true rfl) (Nat.le_of_ble_eq_true rfl) (by decide)) g8
  have hu := R10.fe (show kq 1 3 ≠ a3 from hd 4 3 (Nat.le_of_ble_eq_true rfl) (Nat.le_of_ble_eq_true rfl) (by decide)) hu
  have g1 := R10.fe (show kq 1 8 ≠ a3 from hd 5 3 (Nat.le_of_ble_eq_true rfl) (Nat.le_of_ble_eq_true rfl) (by decide)) g1
  have g2 := R10.fe (show kq 1 9 ≠ a3 from hd 6 3 (Nat.le_of_ble_eq_true rfl) (Nat.le_of_ble_eq_true rfl) (by decide)) g2
  have g6 := R10.fe (show kq 1 10 ≠ a3 from hd 7 3 (Nat.le_of_ble_eq_true rfl) (Nat.le_of_ble_eq_true rfl) (by decide)) g6
  have g5 := R10.fe (show kq 1 11 ≠ a3 from hd 8 3 (Nat.le_of_ble_eq_true rfl) (Nat.le_of_ble_eq_true rfl) (by decide)) g5
  have g10 := R10.2
  have R11 := fe_times (h := a3) g10 hu (by decide)
  obtain ⟨X11, eX11⟩ : ∃ Y, LF_F_times X10 a3 a3 (kq 1 3) = Y := ⟨_, rfl⟩
  rw [eX11] at R11
  have h0 := R11.fe (show a0 ≠ a3 from hd 0 3 (Nat.le_of_ble_eq_true rfl) (Nat.le_of_ble_eq_true rfl) (by decide)) h0
  have h1 := R11.fe (show a1 ≠ a3 from hd 1 3 (Nat.le_of_ble_eq_true rfl) (Nat.le_of_ble_eq_true rfl) (by decide)) h1
  have g8 := R11.fe (show a2 ≠ a3 from hd 2 3 (Nat.le_of_ble_eq_true rfl) (Nat.le_of_ble_eq_true rfl) (by decide)) g8
  have hu := R11.fe (show kq 1 3 ≠ a3 from hd 4 3 (Nat.le_of_ble_eq_true rfl) (Nat.le_of_ble_eq_true rfl) (by decide)) hu
  have g1 := R11.fe (show kq 1 8 ≠ a3 from hd 5 3 (Nat.le_of_ble_eq_true rfl) (Nat.le_of_ble_eq_true rfl) (by decide)) g1
  have g2 := R11.fe (show kq 1 9 ≠ a3 from hd 6 3 (Nat.le_of_ble_eq_true rfl) (Nat.le_of_ble_eq_true rfl) (by decide)) g2
  have g6 := R11.fe (show kq 1 10 ≠ a3 from hd 7 3 (Nat.le_of_ble_eq_true rfl) (Nat.le_of_ble_eq_true rfl) (by decide)) g6
  have g5 := R11.fe (show kq 1 11 ≠ a3 from hd 8 3 (Nat.le_of_ble_eq_true rfl) (Nat.le_of_ble_eq_true rfl) (by decide)) g5
  have g11 := R11.2
  have R12 := fe_square (h := kq 1 8) g1 (by decide)
  obtain ⟨X12, eX12⟩ : ∃ Y, LF_F_square X11 (kq 1 8) (kq 1 8) = Y := ⟨_, rfl⟩
  rw [eX12] at R12
  have h0 := R12.fe (show a0 ≠ kq 1 8 from hd 0 5 (Nat.le_of_ble_eq_true rfl) (Nat.le_of_ble_eq_true rfl) (by decide)) h0
  have h1 := R12.fe (show a1 ≠ kq 1 8 from hd 1 5 (Nat.le_of_ble_eq_true rfl) (Nat.le_of_ble_eq_true rfl) (by decide)) h1
  have g8 := R12.fe (show a2 ≠ kq 1 8 from hd 2 5 (Nat.le_of_ble_eq_true rfl) (Nat.le_of_ble_eq_true rfl) (by decide)) g8
  have g11 := R12.fe (show a3 ≠ kq 1 8 from hd 3 5 (Nat.le_of_ble_eq_true rfl) (Nat.le_of_ble_eq_true rfl) (by decide)) g11
  have hu := R12.fe (show kq 1 3 ≠ kq 1 8 from hd 4 5 (Nat.le_of_ble_eq_true rfl) (Nat.le_of_ble_eq_true rfl) (by decide)) hu
  have g2 := R12.fe (show kq 1 9 ≠ kq 1 8 from hd 6 5 (Nat.le_of_ble_eq_true rfl) (Nat.le_of_ble_eq_true rfl) (by decide)) g2
  have g6 := R12.fe (show kq 1 10 ≠ kq 1 8 from hd 7 5 (Nat.le_of_ble_eq_true rfl) (Nat.le_of_ble_eq_true rfl) (by decide)) g6
  have g5 := R12.fe (show kq 1 11 ≠ kq 1 8 from hd 8 5 (Nat.le_of_ble_eq_true rfl) (Nat.le_of_ble_eq_true rfl) (by decide)) g5
  have g12 := R12.2
  have R13 := fe_square (h := kq 1 9) g2 (by decide)
  obtain ⟨X13, eX13⟩ : ∃ Y, LF_F_square X12 (kq 1 9) (kq 1 9) = Y := ⟨_, rfl⟩
  rw [eX13] at R13
  have h0 := R13.fe (show a0 ≠ kq 1 9 from hd 0 6 (Nat.le_of_ble_eq_true rfl) (Nat.le_of_ble_eq_true rfl) (by decide)) h0
  have h1 := R13.fe (show a1 ≠ kq 1 9 from hd 1 6 (Nat.le_of_ble_eq_true rfl) (Nat.le_of_ble_eq_true rfl) (by decide)) h1
  have g8 := R13.fe (show a2 ≠ kq 1 9 from hd 2 6 (Nat.le_of_ble_eq_true rfl) (Nat.le_of_ble_eq_true rfl) (by decide)) g8
  have g11 := R13.fe (show a3 ≠ kq 1 9 from hd 3 6 (Nat.le_of_ble_eq_true rfl) (Nat.le_of_ble_eq_true rfl) (by decide)) g11
  have hu := R13.fe (show kq 1 3 ≠ kq 1 9 from hd 4 6 (Nat.le_of_ble_eq_true rfl) (Nat.le_of_ble_eq_true rfl) (by decide)) hu
  have g12 := R13.fe (show kq 1 8 ≠ kq 1 9 from hd 5 6 (Nat.le_of_ble_eq_true rfl) (Nat.le_of_ble_eq_true rfl) (by decide)) g12
  have g6 := R13.fe (show kq 1 10 ≠ kq 1 9 from hd 7 6 (Nat.le_of_ble_eq_true rfl) (Nat.le_of_ble_eq_true rfl) (by decide)) g6
  have g5 := R13.fe (show kq 1 11 ≠ kq 1 9 from hd 8 6 (Nat.le_of_ble_eq_true rfl) (Nat.le_of_ble_eq_true rfl) (by decide)) g5
  have g13 := R13.2
  have R14 := fe_times (h := a0) g12 g13 (by decide)
  obtain ⟨X14, eX14⟩ : ∃ Y, LF_F_times X13 a0 (kq 1 8) (kq 1 9) = Y := ⟨_, rfl⟩
  rw [eX14] at R14
  have h1 := R14.fe (show a1 ≠ a0 from hd 1 0 (Nat.le_of_ble_eq_true rfl) (Nat.le_of_ble_eq_true rfl) (by decide)) h1
  have g8 := R14.fe (show a2 ≠ a0 from hd 2 0 (Nat.le_of_ble_eq_true rfl) (Nat.le_of_ble_eq_true rfl) (by decide)) g8
  have g11 := R14.fe (show a3 ≠ a0 from hd 3 0 (Nat.le_of_ble_eq_true rfl) (Nat.le_of_ble_eq_true rfl) (by decide)) g11
  have hu := R14.fe (show kq 1 3 ≠ a0 from hd 4 0 (Nat.le_of_ble_eq_true rfl) (Nat.le_of_ble_eq_true rfl) (by decide)) hu
  have g12 := R14.fe (show kq 1 8 ≠ a0 from hd 5 0 (Nat.le_of_ble_eq_true rfl) (Nat.le_of_ble_eq_true rfl) (by decide)) g12
  have g13 := R14.fe (show kq 1 9 ≠ a0 from hd 6 0 (Nat.le_of_ble_eq_true rfl) (Nat.le_of_ble_eq_true rfl) (by decide)) g13
  have g6 := R14.fe (show kq 1 10 ≠ a0 from hd 7 0 (Nat.le_of_ble_eq_true rfl) (Nat.le_of_ble_eq_true rfl) (by decide)) g6
  have g5 := R14.fe (show kq 1 11 ≠ a0 from hd 8 0 (Nat.le_of_ble_eq_true rfl) (Nat.le_of_ble_eq_true rfl) (by decide)) g5
  have g14 := R14.2
  have R15 := fe_sub (h := kq 1 9) g12 g13
  obtain ⟨X15, eX15⟩ : ∃ Y, LF_F_subtract X14 (kq 1 9) (kq 1 8) (kq 1 9) = Y := ⟨_, rfl⟩
  rw [eX15] at R15
  have g14 := R15.fe (show a0 ≠ kq 1 9 from hd 0 6 (Nat.le_of_ble_eq_true rfl) (Nat.le_of_ble_eq_true rfl) (by decide)) g14
  have h1 := R15.fe (show a1 ≠ kq 1 9 from hd 1 6 (Nat.le_of_ble_eq_true rfl) (Nat.le_of_ble_eq_true rfl) (by decide)) h1
  have g8 := R15.fe (show a2 ≠ kq 1 9 from hd 2 6 (Nat.le_of_ble_eq_true rfl) (Nat.le_of_ble_eq_true rfl) (by decide)) g8
  have g11 := R15.fe (show a3 ≠ kq 1 9 from hd 3 6 (Nat.le_of_ble_eq_true rfl) (Nat.le_of_ble_eq_true rfl) (by decide)) g11
  have hu := R15.fe (show kq 1 3 ≠ kq 1 9 from hd 4 6 (Nat.le_of_ble_eq_true rfl) (Nat.le_of_ble_eq_true rfl) (by decide)) hu
  have g12 := R15.fe (show kq 1 8 ≠ kq 1 9 from hd 5 6 (Nat.le_of_ble_eq_true rfl) (Nat.le_of_ble_eq_true rfl) (by decide)) g12
  have g6 := R15.fe (show kq 1 10 ≠ kq 1 9 from hd 7 6 (Nat.le_of_ble_eq_true rfl) (Nat.le_of_ble_eq_true rfl) (by decide)) g6
  have g5 := R15.fe (show kq 1 11 ≠ kq 1 9 from hd 8 6 (Nat.le_of_ble_eq_true rfl) (Nat.le_of_ble_eq_true rfl) (by decide)) g5
  have g15 := R15.2
  have R16 := fe_scale (h := a1) g15 (by decide) (by decide)
  obtain ⟨X16, eX16⟩ : ∃ Y, LF_F_scale X15 a1 (kq 1 9) 121665 = Y := ⟨_, rfl⟩
  rw [eX16] at R16
  have g14 := R16.fe (show a0 ≠ a1 from hd 0 1 (Nat.le_of_ble_eq_true rfl) (Nat.le_of_ble_eq_true rfl) (by decide)) g14
  have g8 := R16.fe (show a2 ≠ a1 from hd 2 1 (Nat.le_of_ble_eq_true rfl) (Nat.le_of_ble_eq_true rfl) (by decide)) g8
  have g11 := R16.fe (show a3 ≠ a1 from hd 3 1 (Nat.le_of_ble_eq_true rfl) (Nat.le_of_ble_eq_true rfl) (by decide)) g11
  have hu := R16.fe (show kq 1 3 ≠ a1 from hd 4 1 (Nat.le_of_ble_eq_true rfl) (Nat.le_of_ble_eq_true rfl) (by decide)) hu
  have g12 := R16.fe (show kq 1 8 ≠ a1 from hd 5 1 (Nat.le_of_ble_eq_true rfl) (Nat.le_of_ble_eq_true rfl) (by decide)) g12
  have g15 := R16.fe (show kq 1 9 ≠ a1 from hd 6 1 (Nat.le_of_ble_eq_true rfl) (Nat.le_of_ble_eq_true rfl) (by decide)) g15
  have g6 := R16.fe (show kq 1 10 ≠ a1 from hd 7 1 (Nat.le_of_ble_eq_true rfl) (Nat.le_of_ble_eq_true rfl) (by decide)) g6
  have g5 := R16.fe (show kq 1 11 ≠ a1 from hd 8 1 (Nat.le_of_ble_eq_true rfl) (Nat.le_of_ble_eq_true rfl) (by decide)) g5
  have g16 := R16.2
  have R17 := fe_add (h := a1) g16 g12
  obtain ⟨X17, eX17⟩ : ∃ Y, LF_F_add X16 a1 a1 (kq 1 8) = Y := ⟨_, rfl⟩
  rw [eX17] at R17
  have g14 := R17.fe (show a0 ≠ a1 from hd 0 1 (Nat.le_of_ble_eq_true rfl) (Nat.le_of_ble_eq_true rfl) (by decide)) g14
  have g8 := R17.fe (show a2 ≠ a1 from hd 2 1 (Nat.le_of_ble_eq_true rfl) (Nat.le_of_ble_eq_true rfl) (by decide)) g8
  have g11 := R17.fe (show a3 ≠ a1 from hd 3 1 (Nat.le_of_ble_eq_true rfl) (Nat.le_of_ble_eq_true rfl) (by decide)) g11
  have hu := R17.fe (show kq 1 3 ≠ a1 from hd 4 1 (Nat.le_of_ble_eq_true rfl) (Nat.le_of_ble_eq_true rfl) (by decide)) hu
  have g12 := R17.fe (show kq 1 8 ≠ a1 from hd 5 1 (Nat.le_of_ble_eq_true rfl) (Nat.le_of_ble_eq_true rfl) (by decide)) g12
  have g15 := R17.fe (show kq 1 9 ≠ a1 from hd 6 1 (Nat.le_of_ble_eq_true rfl) (Nat.le_of_ble_eq_true rfl) (by decide)) g15
  have g6 := R17.fe (show kq 1 10 ≠ a1 from hd 7 1 (Nat.le_of_ble_eq_true rfl) (Nat.le_of_ble_eq_true rfl) (by decide)) g6
  have g5 := R17.fe (show kq 1 11 ≠ a1 from hd 8 1 (Nat.le_of_ble_eq_true rfl) (Nat.le_of_ble_eq_true rfl) (by decide)) g5
  have g17 := R17.2
  have R18 := fe_times (h := a1) g17 g15 (by decide)
  obtain ⟨X18, eX18⟩ : ∃ Y, LF_F_times X17 a1 a1 (kq 1 9) = Y := ⟨_, rfl⟩
  rw [eX18] at R18
  have g14 := R18.fe (show a0 ≠ a1 from hd 0 1 (Nat.le_of_ble_eq_true rfl) (Nat.le_of_ble_eq_true rfl) (by decide)) g14
  have g8 := R18.fe (show a2 ≠ a1 from hd 2 1 (Nat.le_of_ble_eq_true rfl) (Nat.le_of_ble_eq_true rfl) (by decide)) g8
  have g11 := R18.fe (show a3 ≠ a1 from hd 3 1 (Nat.le_of_ble_eq_true rfl) (Nat.le_of_ble_eq_true rfl) (by decide)) g11
  have hu := R18.fe (show kq 1 3 ≠ a1 from hd 4 1 (Nat.le_of_ble_eq_true rfl) (Nat.le_of_ble_eq_true rfl) (by decide)) hu
  have g12 := R18.fe (show kq 1 8 ≠ a1 from hd 5 1 (Nat.le_of_ble_eq_true rfl) (Nat.le_of_ble_eq_true rfl) (by decide)) g12
  have g15 := R18.fe (show kq 1 9 ≠ a1 from hd 6 1 (Nat.le_of_ble_eq_true rfl) (Nat.le_of_ble_eq_true rfl) (by decide)) g15
  have g6 := R18.fe (show kq 1 10 ≠ a1 from hd 7 1 (Nat.le_of_ble_eq_true rfl) (Nat.le_of_ble_eq_true rfl) (by decide)) g6
  have g5 := R18.fe (show kq 1 11 ≠ a1 from hd 8 1 (Nat.le_of_ble_eq_true rfl) (Nat.le_of_ble_eq_true rfl) (by decide)) g5
  have g18 := R18.2
  have hX : LF_La_step X kq ts a0 a1 a2 a3 = X18 := by subst eX1 eX2 eX3 eX4 eX5 eX6 eX7 eX8 eX9 eX10 eX11 eX12 eX13 eX14 eX15 eX16 eX17 eX18; rfl
  rw [hX]
  exact ⟨((((((((((((((((((onL.rf.tr (R1.on (S := [a0, a1, a2, a3, kq 1 8, kq 1 9, kq 1 10, kq 1 11]) (by simp))).tr (R2.on (S := [a0, a1, a2, a3, kq 1 8, kq 1 9, kq 1 10, kq 1 11]) (by simp))).tr (R3.on (S := [a0, a1, a2, a3, kq 1 8, kq 1 9, kq 1 10, kq 1 11]) (by simp))).tr (R4.on (S := [a0, a1, a2, a3, kq 1 8, kq 1 9, kq 1 10, kq 1 11]) (by simp))).tr (R5.on (S := [a0, a1, a2, a3, kq 1 8, kq 1 9, kq 1 10, kq 1 11]) (by simp))).tr (R6.on (S := [a0, a1, a2, a3, kq 1 8, kq 1 9, kq 1 10, kq 1 11]) (by simp))).tr (R7.on (S := [a0, a1, a2, a3, kq 1 8, kq 1 9, kq 1 10, kq 1 11]) (by simp))).tr (R8.on (S := [a0, a1, a2, a3, kq 1 8, kq 1 9, kq 1 10, kq 1 11]) (by simp))).tr (R9.on (S := [a0, a1, a2, a3, kq 1 8, kq 1 9, kq 1 10, kq 1 11]) (by simp))).tr (R10.on (S := [a0, a1, a2, a3, kq 1 8, kq 1 9, kq 1 10, kq 1 11]) (by simp))).tr (R11.on (S := [a0, a1, a2, a3, kq 1 8, kq 1 9, kq 1 10, kq 1 11]) (by simp))).tr (R12.on (S := [a0, a1, a2, a3, kq 1 8, kq 1 9, kq 1 10, kq 1 11]) (by simp))).tr (R13.on (S := [a0, a1, a2, a3, kq 1 8, kq 1 9, kq 1 10, kq 1 11]) (by simp))).tr (R14.on (S := [a0, a1, a2, a3, kq 1 8, kq 1 9, kq 1 10, kq 1 11]) (by simp))).tr (R15.on (S := [a0, a1, a2, a3, kq 1 8, kq 1 9, kq 1 10, kq 1 11]) (by simp))).tr (R16.on (S := [a0, a1, a2, a3, kq 1 8, kq 1 9, kq 1 10, kq 1 11]) (by simp))).tr (R17.on (S := [a0, a1, a2, a3, kq 1 8, kq 1 9, kq 1 10, kq 1 11]) (by simp))).tr (R18.on (S := [a0, a1, a2, a3, kq 1 8, kq 1 9, kq 1 10, kq 1 11]) (by simp))), g14, g18, g8, g11, hu⟩
set_option maxHeartbeats 4000000 in
theorem fe_eadd {X : vM} {r r0 r1 : Nat → Nat} {x y z t l m k d : Fp} (hd : nd [r0 0, r0 1, r0 2, r0 3, r 7, r 8, r 9, r 10, r 11, r 12, r 13, r 14, r1 0, r1 1, r1 2, r1 3]) (p0 : Fe X (r0 0) 2 x) (p1 : Fe X (r0 1) 2 y) (p2 : Fe X (r0 2) 1 z) (p3 : Fe X (r0 3) 1 t) (q0 : Fe X (r1 0) 4 l) (q1 : Fe X (r1 1) 4 m) (q2 : Fe X (r1 2) 2 k) (q3 : Fe X (r1 3) 1 d) : onL [r0 0, r0 1, r0 2, r0 3, r 7, r 8, r 9, r 10, r 11, r 12, r 13, r 14] X (LF_Ed_add X r r0 r1) ∧ Fe (LF_Ed_add X r r0 r1) (r0 0) 1 ((((y + x) * m) - ((y - x) * l)) * ((z * k) - (t * d))) ∧ Fe (LF_Ed_add X r r0 r1) (r0 1) 1 (((z * k) + (t * d)) * (((y + x) * m) + ((y - x) * l))) ∧ Fe (LF_Ed_add X r r0 r1) (r0 2) 1 (((z * k) - (t * d)) * ((z * k) + (t * d))) ∧ Fe (LF_Ed_add X r r0 r1) (r0 3) 1 ((((y + x) * m) - ((y - x) * l)) * (((y + x) * m) + ((y - x) * l))) := by
  have R1 := fe_sub (h := r 7) p1 p0
  obtain ⟨X1, eX1⟩ : ∃ Y, LF_F_subtract X (r 7) (r0 1) (r0 0) = Y := ⟨_, rfl⟩
  rw [eX1] at R1
  have p0 := R1.fe (show r0 0 ≠ r 7 from hd 0 4 (Nat.le_of_ble_eq_true rfl) (Nat.le_of_ble_eq_true rfl) (by decide)) p0
  have p1 := R1.fe (show r0 1 ≠ r 7 from hd 1 4 (Nat.le_of_ble_eq_true rfl) (Nat.le_of_ble_eq_true rfl) (by decide)) p1
  have p2 := R1.fe (show r0 2 ≠ r 7 from hd 2 4 (Nat.le_of_ble_eq_true rfl) (Nat.le_of_ble_eq_true rfl) (by decide)) p2
  have p3 := R1.fe (show r0 3 ≠ r 7 from hd 3 4 (Nat.le_of_ble_eq_true rfl) (Nat.le_of_ble_eq_true rfl) (by decide)) p3
  have q0 := R1.fe (show r1 0 ≠ r 7 from hd 12 4 (Nat.le_of_ble_eq_true rfl) (Nat.le_of_ble_eq_true rfl) (by decide)) q0
  have q1 := R1.fe (show r1 1 ≠ r 7 from hd 13 4 (Nat.le_of_ble_eq_true rfl) (Nat.le_of_ble_eq_true rfl) (by decide)) q1
  have q2 := R1.fe (show r1 2 ≠ r 7 from hd 14 4 (Nat.le_of_ble_eq_true rfl) (Nat.le_of_ble_eq_true rfl) (by decide)) q2
  have q3 := R1.fe (show r1 3 ≠ r 7 from hd 15 4 (Nat.le_of_ble_eq_true rfl) (Nat.le_of_ble_eq_true rfl) (by decide)) q3
  have g1 := R1.2
  have R2 := fe_times (h := r 7) g1 q0 (by decide)
  obtain ⟨X2, eX2⟩ : ∃ Y, LF_F_times X1 (r 7) (r 7) (r1 0) = Y := ⟨_, rfl⟩
  rw [eX2] at R2
  have p0 := R2.fe (show r0 0 ≠ r 7 from hd 0 4 (Nat.le_of_ble_eq_true rfl) (Nat.le_of_ble_eq_true rfl) (by decide)) p0
  have p1 := R2.fe (show r0 1 ≠ r 7 from hd 1 4 (Nat.le_of_ble_eq_true rfl) (Nat.le_of_ble_eq_true rfl) (by decide)) p1
  have p2 := R2.fe (show r0 2 ≠ r 7 from hd 2 4 (Nat.le_of_ble_eq_true rfl) (Nat.le_of_ble_eq_true rfl) (by decide)) p2
  have p3 := R2.fe (show r0 3 ≠ r 7 from hd 3 4 (Nat.le_of_ble_eq_true rfl) (Nat.le_of_ble_eq_true rfl) (by decide)) p3
  have q0 := R2.fe (show r1 0 ≠ r 7 from hd 12 4 (Nat.le_of_ble_eq_true rfl) (Nat.le_of_ble_eq_true rfl) (by decide)) q0
  have q1 := R2.fe (show r1 1 ≠ r 7 from hd 13 4 (Nat.le_of_ble_eq_true rfl) (Nat.le_of_ble_eq_true rfl) (by decide)) q1
  have q2 := R2.fe (show r1 2 ≠ r 7 from hd 14 4 (Nat.le_of_ble_eq_true rfl) (Nat.le_of_ble_eq_true rfl) (by decide)) q2
  have q3 := R2.fe (show r1 3 ≠ r 7 from hd 15 4 (Nat.le_of_ble_eq_true rfl) (Nat.le_of_ble_eq_true rfl) (by decide)) q3
  have g2 := R2.2
  have R3 := fe_add (h := r 8) p1 p0
  obtain ⟨X3, eX3⟩ : ∃ Y, LF_F_add X2 (r 8) (r0 1) (r0 0) = Y := ⟨_, rfl⟩
  rw [eX3] at R3
  have p0 := R3.fe (show r0 0 ≠ r 8 from hd 0 5 (Nat.le_of_ble_eq_true rfl) (Nat.le_of_ble_eq_true rfl) (by decide)) p0
  have p1 := R3.fe (show r0 1 ≠ r 8 from hd 1 5 (Nat.le_of_ble_eq_true rfl) (Nat.le_of_ble_eq_true rfl) (by decide)) p1
  have p2 := R3.fe (show r0 2 ≠ r 8 from hd 2 5 (Nat.le_of_ble_eq_true rfl) (Nat.le_of_ble_eq_true rfl) (by decide)) p2
  have p3 := R3.fe (show r0 3 ≠ r 8 from hd 3 5 (Nat.le_of_ble_eq_true rfl) (Nat.le_of_ble_eq_true rfl) (by decide)) p3
  have q0 := R3.fe (show r1 0 ≠ r 8 from hd 12 5 (Nat.le_of_ble_eq_true rfl) (Nat.le_of_ble_eq_true rfl) (by decide)) q0
  have q1 := R3.fe (show r1 1 ≠ r 8 from hd 13 5 (Nat.le_of_ble_eq_true rfl) (Nat.le_of_ble_eq_true rfl) (by decide)) q1
  have q2 := R3.fe (show r1 2 ≠ r 8 from hd 14 5 (Nat.le_of_ble_eq_true rfl) (Nat.le_of_ble_eq_true rfl) (by decide)) q2
  have q3 := R3.fe (show r1 3 ≠ r 8 from hd 15 5 (Nat.le_of_ble_eq_true rfl) (Nat.le_of_ble_eq_true rfl) (by decide)) q3
  have g2 := R3.fe (show r 7 ≠ r 8 from hd 4 5 (Nat.le_of_ble_eq_true rfl) (Nat.le_of_ble_eq_true rfl) (by decide)) g2
  have g3 := R3.2
  have R4 := fe_times (h := r 8) g3 q1 (by decide)
  obtain ⟨X4, eX4⟩ : ∃ Y, LF_F_times X3 (r 8) (r 8) (r1 1) = Y := ⟨_, rfl⟩
  rw [eX4] at R4
  have p0 := R4.fe (show r0 0 ≠ r 8 from hd 0 5 (Nat.le_of_ble_eq_true rfl) (Nat.le_of_ble_eq_true rfl) (by decide)) p0
  have p1 := R4.fe (show r0 1 ≠ r 8 from hd 1 5 (Nat.le_of_ble_eq_true rfl) (Nat.le_of_ble_eq_true rfl) (by decide)) p1
  have p2 := R4.fe (show r0 2 ≠ r 8 from hd 2 5 (Nat.le_of_ble_eq_true rfl) (Nat.le_of_ble_eq_true rfl) (by decide)) p2
  have p3 := R4.fe (show r0 3 ≠ r 8 from hd 3 5 (Nat.le_of_ble_eq_true rfl) (Nat.le_of_ble_eq_true rfl) (by decide)) p3
  have q0 := R4.fe (show r1 0 ≠ r 8 from hd 12 5 (Nat.le_of_ble_eq_true rfl) (Nat.le_of_ble_eq_true rfl) (by decide)) q0
  have q1 := R4.fe (show r1 1 ≠ r 8 from hd 13 5 (Nat.le_of_ble_eq_true rfl) (Nat.le_of_ble_eq_true rfl) (by decide)) q1
  have q2 := R4.fe (show r1 2 ≠ r 8 from hd 14 5 (Nat.le_of_ble_eq_true rfl) (Nat.le_of_ble_eq_true rfl) (by decide)) q2
  have q3 := R4.fe (show r1 3 ≠ r 8 from hd 15 5 (Nat.le_of_ble_eq_true rfl) (Nat.le_of_ble_eq_true rfl) (by decide)) q3
  have g2 := R4.fe (show r 7 ≠ r 8 from hd 4 5 (Nat.le_of_ble_eq_true rfl) (Nat.le_of_ble_eq_true rfl) (by decide)) g2
  have g4 := R4.2
  have R5 := fe_times (h := r 9) p3 q3 (by decide)
  obtain ⟨X5, eX5⟩ : ∃ Y, LF_F_times X4 (r 9) (r0 3) (r1 3) = Y := ⟨_, rfl⟩
  rw [eX5] at R5
  have p0 := R5.fe (show r0 0 ≠ r 9 from hd 0 6 (Nat.le_of_ble_eq_true rfl) (Nat.le_of_ble_eq_true rfl) (by decide)) p0
  have p1 := R5.fe (show r0 1 ≠ r 9 from hd 1 6 (Nat.le_of_ble_eq_true rfl) (Nat.le_of_ble_eq_true rfl) (by decide)) p1
  have p2 := R5.fe (show r0 2 ≠ r 9 from hd 2 6 (Nat.le_of_ble_eq_true rfl) (Nat.le_of_ble_eq_true rfl) (by decide)) p2
  have p3 := R5.fe (show r0 3 ≠ r 9 from hd 3 6 (Nat.le_of_ble_eq_true rfl) (Nat.le_of_ble_eq_true rfl) (by decide)) p3
  have q0 := R5.fe (show r1 0 ≠ r 9 from hd 12 6 (Nat.le_of_ble_eq_true rfl) (Nat.le_of_ble_eq_true rfl) (by decide)) q0
  have q1 := R5.fe (show r1 1 ≠ r 9 from hd 13 6 (Nat.le_of_ble_eq_true rfl) (Nat.le_of_ble_eq_true rfl) (by decide)) q1
  have q2 := R5.fe (show r1 2 ≠ r 9 from hd 14 6 (Nat.le_of_ble_eq_true rfl) (Nat.le_of_ble_eq_true rfl) (by decide)) q2
  have q3 := R5.fe (show r1 3 ≠ r 9 from hd 15 6 (Nat.le_of_ble_eq_true rfl) (Nat.le_of_ble_eq_true rfl) (by decide)) q3
  have g2 := R5.fe (show r 7 ≠ r 9 from hd 4 6 (Nat.le_of_ble_eq_true rfl) (Nat.le_of_ble_eq_true rfl) (by decide)) g2
  have g4 := R5.fe (show r 8 ≠ r 9 from hd 5 6 (Nat.le_of_ble_eq_true rfl) (Nat.le_of_ble_eq_true rfl) (by decide)) g4
  have g5 := R5.2
  have R6 := fe_times (h := r 10) p2 q2 (by decide)
  obtain ⟨X6, eX6⟩ : ∃ Y, LF_F_times X5 (r 10) (r0 2) (r1 2) = Y := ⟨_, rfl⟩
  rw [eX6] at R6
  have p0 := R6.fe (show r0 0 ≠ r 10 from hd 0 7 (Nat.le_of_ble_eq_true rfl) (Nat.le_of_ble_eq_true rfl) (by decide)) p0
  have p1 := R6.fe (show r0 1 ≠ r 10 from hd 1 7 (Nat.le_of_ble_eq_true rfl) (Nat.le_of_ble_eq_true rfl) (by decide)) p1
  have p2 := R6.fe (show r0 2 ≠ r 10 from hd 2 7 (Nat.le_of_ble_eq_true rfl) (Nat.le_of_ble_eq_true rfl) (by decide)) p2
  have p3 := R6.fe (show r0 3 ≠ r 10 from hd 3 7 (Nat.le_of_ble_eq_true rfl) (Nat.le_of_ble_eq_true rfl) (by decide)) p3
  have q0 := R6.fe (show r1 0 ≠ r 10 from hd 12 7 (Nat.le_of_ble_eq_true rfl) (Nat.le_of_ble_eq_true rfl) (by decide)) q0
  have q1 := R6.fe (show r1 1 ≠ r 10 from hd 13 7 (Nat.le_of_ble_eq_true rfl) (Nat.le_of_ble_eq_true rfl) (by decide)) q1
  have q2 := R6.fe (show r1 2 ≠ r 10 from hd 14 7 (Nat.le_of_ble_eq_true rfl) (Nat.le_of_ble_eq_true rfl) (by decide)) q2
  have q3 := R6.fe (show r1 3 ≠ r 10 from hd 15 7 (Nat.le_of_ble_eq_true rfl) (Nat.le_of_ble_eq_true rfl) (by decide)) q3
  have g2 := R6.fe (show r 7 ≠ r 10 from hd 4 7 (Nat.le_of_ble_eq_true rfl) (Nat.le_of_ble_eq_true rfl) (by decide)) g2
  have g4 := R6.fe (show r 8 ≠ r 10 from hd 5 7 (Nat.le_of_ble_eq_true rfl) (Nat.le_of_ble_eq_true rfl) (by decide)) g4
  have g5 := R6.fe (show r 9 ≠ r 10 from hd 6 7 (Nat.le_of_ble_eq_true rfl) (Nat.le_of_ble_eq_true rfl) (by decide)) g5
  have g6 := R6.2
  have R7 := fe_sub (h := r 11) g4 g2
  obtain ⟨X7, eX7⟩ : ∃ Y, LF_F_subtract X6 (r 11) (r 8) (r 7) = Y := ⟨_, rfl⟩
  rw [eX7] at R7
  have p0 := R7.fe (show r0 0 ≠ r 11 from hd 0 8 (Nat.le_of_ble_eq_true rfl) (Nat.le_of_ble_eq_true rfl) (by decide)) p0
  have p1 := R7.fe (show r0 1 ≠ r 11 from hd 1 8 (Nat.le_of_ble_eq_true rfl) (Nat.le_of_ble_eq_true rfl) (by decide)) p1
  have p2 := R7.fe (show r0 2 ≠ r 11 from hd 2 8 (Nat.le_of_ble_eq_true rfl) (Nat.le_of_ble_eq_true rfl) (by decide)) p2
  have p3 := R7.fe (show r0 3 ≠ r 11 from hd 3 8 (Nat.le_of_ble_eq_true rfl) (Nat.le_of_ble_eq_true rfl) (by decide)) p3
  have q0 := R7.fe (show r1 0 ≠ r 11 from hd 12 8 (Nat.le_of_ble_eq_true rfl) (Nat.le_of_ble_eq_true rfl) (by decide)) q0
  have q1 := R7.fe (show r1 1 ≠ r 11 from hd 13 8 (Nat.le_of_ble_eq_true rfl) (Nat.le_of_ble_eq_true rfl) (by decide)) q1
  have q2 := R7.fe (show r1 2 ≠ r 11 from hd 14 8 (Nat.le_of_ble_eq_true rfl) (Nat.le_of_ble_eq_true rfl) (by decide)) q2
  have q3 := R7.fe (show r1 3 ≠ r 11 from hd 15 8 (Nat.le_of_ble_eq_true rfl) (Nat.le_of_ble_eq_true rfl) (by decide)) q3
  have g2 := R7.fe (show r 7 ≠ r 11 from hd 4 8 (Nat.le_of_ble_eq_true rfl) (Nat.le_of_ble_eq_true rfl) (by decide)) g2
  have g4 := R7.fe (show r 8 ≠ r 11 from hd 5 8 (Nat.le_of_ble_eq_true rfl) (Nat.le_of_ble_eq_true rfl) (by decide)) g4
  have g5 := R7.fe (show r 9 ≠ r 11 from hd 6 8 (Nat.le_of_ble_eq_true rfl) (Nat.le_of_ble_eq_true rfl) (by decide)) g5
  have g6 := R7.fe (show r 10 ≠ r 11 from hd 7 8 (Nat.le_of_ble_eq_true rfl) (Nat.le_of_ble_eq_true rfl) (by decide)) g6
  have g7 := R7.2
  have R8 := fe_sub (h := r 12) g6 g5
  obtain ⟨X8, eX8⟩ : ∃ Y, LF_F_subtract X7 (r 12) (r 10) (r 9) = Y := ⟨_, rfl⟩
  rw [eX8] at R8
  have p0 := R8.fe (show r0 0 ≠ r 12 from hd 0 9 (Nat.le_of_ble_eq_true rfl) (Nat.le_of_ble_eq_true rfl) (by decide)) p0
  have p1 := R8.fe (show r0 1 ≠ r 12 from hd 1 9 (Nat.le_of_ble_eq_true rfl) (Nat.le_of_ble_eq_true rfl) (by decide)) p1
  have p2 := R8.fe (show r0 2 ≠ r 12 from hd 2 9 (Nat.le_of_ble_eq_true rfl) (Nat.le_of_ble_eq_true rfl) (by decide)) p2
  have p3 := R8.fe (show r0 3 ≠ r 12 from hd 3 9 (Nat.le_of_ble_eq_true rfl) (Nat.le_of_ble_eq_true rfl) (by decide)) p3
  have q0 := R8.fe (show r1 0 ≠ r 12 from hd 12 9 (Nat.le_of_ble_eq_true rfl) (Nat.le_of_ble_eq_true rfl) (by decide)) q0
  have q1 := R8.fe (show r1 1 ≠ r 12 from hd 13 9 (Nat.le_of_ble_eq_true rfl) (Nat.le_of_ble_eq_true rfl) (by decide)) q1
  have q2 := R8.fe (show r1 2 ≠ r 12 from hd 14 9 (Nat.le_of_ble_eq_true rfl) (Nat.le_of_ble_eq_true rfl) (by decide)) q2
  have q3 := R8.fe (show r1 3 ≠ r 12 from hd 15 9 (Nat.le_of_ble_eq_true rfl) (Nat.le_of_ble_eq_true rfl) (by decide)) q3
  have g2 := R8.fe (show r 7 ≠ r 12 from hd 4 9 (Nat.le_of_ble_eq_true rfl) (Nat.le_of_ble_eq_true rfl) (by decide)) g2
  have g4 := R8.fe (show r 8 ≠ r 12 from hd 5 9 (Nat.le_of_ble_eq_true rfl) (Nat.le_of_ble_eq_true rfl) (by decide)) g4
  have g5 := R8.fe (show r 9 ≠ r 12 from hd 6 9 (Nat.le_of_ble_eq_true rfl) (Nat.le_of_ble_eq_true rfl) (by decide)) g5
  have g6 := R8.fe (show r 10 ≠ r 12 from hd 7 9 (Nat.le_of_ble_eq_true rfl) (Nat.le_of_ble_eq_true rfl) (by decide)) g6
  have g7 := R8.fe (show r 11 ≠ r 12 from hd 8 9 (Nat.le_of_ble_eq_true rfl) (Nat.le_of_ble_eq_true rfl) (by decide)) g7
  have g8 := R8.2
  have R9 := fe_add (h := r 13) g6 g5
  obtain ⟨X9, eX9⟩ : ∃ Y, LF_F_add X8 (r 13) (r 10) (r 9) = Y := ⟨_, rfl⟩
  rw [eX9] at R9
  have p0 := R9.fe (show r0 0 ≠ r 13 from hd 0 10 (Nat.le_of_ble_eq_true rfl) (Nat.le_of_ble_eq_true rfl) (by decide)) p0
  have p1 := R9.fe (show r0 1 ≠ r 13 from hd 1 10 (Nat.le_of_ble_eq_true rfl) (Nat.le_of_ble_eq_true rfl) (by decide)) p1
  have p2 := R9.fe (show r0 2 ≠ r 13 from hd 2 10 (Nat.le_of_ble_eq_true rfl) (Nat.le_of_ble_eq_true rfl) (by decide)) p2
  have p3 := R9.fe (show r0 3 ≠ r 13 from hd 3 10 (Nat.le_of_ble_eq_true rfl) (Nat.le_of_ble_eq_true rfl) (by decide)) p3
  have q0 := R9.fe (show r1 0 ≠ r 13 from hd 12 10 (Nat.le_of_ble_eq_true rfl) (Nat.le_of_ble_eq_true rfl) (by decide)) q0
  have q1 := R9.fe (show r1 1 ≠ r 13 from hd 13 10 (Nat.le_of_ble_eq_true rfl) (Nat.le_of_ble_eq_true rfl) (by decide)) q1
  have q2 := R9.fe (show r1 2 ≠ r 13 from hd 14 10 (Nat.le_of_ble_eq_true rfl) (Nat.le_of_ble_eq_true rfl) (by decide)) q2
  have q3 := R9.fe (show r1 3 ≠ r 13 from hd 15 10 (Nat.le_of_ble_eq_true rfl) (Nat.le_of_ble_eq_true rfl) (by decide)) q3
  have g2 := R9.fe (show r 7 ≠ r 13 from hd 4 10 (Nat.le_of_ble_eq_true rfl) (Nat.le_of_ble_eq_true rfl) (by decide)) g2
  have g4 := R9.fe (show r 8 ≠ r 13 from hd 5 10 (Nat.le_of_ble_eq_true rfl) (Nat.le_of_ble_eq_true rfl) (by decide)) g4
  have g5 := R9.fe (show r 9 ≠ r 13 from hd 6 10 (Nat.le_of_ble_eq_true rfl) (Nat.le_of_ble_eq_true rfl) (by decide)) g5
  have g6 := R9.fe (show r 10 ≠ r 13 from hd 7 10 (Nat.le_of_ble_eq_true rfl) (Nat.le_of_ble_eq_true rfl) (by decide)) g6
  have g7 := R9.fe (show r 11 ≠ r 13 from hd 8 10 (Nat.le_of_ble_eq_true rfl) (Nat.le_of_ble_eq_true rfl) (by decide)) g7
  have g8 := R9.fe (show r 12 ≠ r 13 from hd 9 10 (Nat.le_of_ble_eq_true rfl) (Nat.le_of_ble_eq_true rfl) (by decide)) g8
  have g9 := R9.2
  have R10 := fe_add (h := r 14) g4 g2
  obtain ⟨X10, eX10⟩ : ∃ Y, LF_F_add X9 (r 14) (r 8) (r 7) = Y := ⟨_, rfl⟩
  rw [eX10] at R10
  have p0 := R10.fe (show r0 0 ≠ r 14 from hd 0 11 (Nat.le_of_ble_eq_true rfl) (Nat.le_of_ble_eq_true rfl) (by decide)) p0
  have p1 := R10.fe (show r0 1 ≠ r 14 from hd 1 11 (Nat.le_of_ble_eq_true rfl) (Nat.le_of_ble_eq_true rfl) (by decide)) p1
  have p2 := R10.fe (show r0 2 ≠ r 14 from hd 2 11 (Nat.le_of_ble_eq_true rfl) (Nat.le_of_ble_eq_true rfl) (by decide)) p2
  have p3 := R10.fe (show r0 3 ≠ r 14 from hd 3 11 (Nat.le_of_ble_eq_true rfl) (Nat.le_of_ble_eq_true rfl) (by decide)) p3
  have q0 := R10.fe (show r1 0 ≠ r 14 from hd 12 11 (Nat.le_of_ble_eq_true rfl) (Nat.le_of_ble_eq_true rfl) (by decide)) q0
  have q1 := R10.fe (show r1 1 ≠ r 14 from hd 13 11 (Nat.le_of_ble_eq_true rfl) (Nat.le_of_ble_eq_true rfl) (by decide)) q1
  have q2 := R10.fe (show r1 2 ≠ r 14 from hd 14 11 (Nat.le_of_ble_eq_true rfl) (Nat.le_of_ble_eq_true rfl) (by decide)) q2
  have q3 := R10.fe (show r1 3 ≠ r 14 from hd 15 11 (Nat.le_of_ble_eq_true rfl) (Nat.le_of_ble_eq_true rfl) (by decide)) q3
  have g2 := R10.fe (show r 7 ≠ r 14 from hd 4 11 (Nat.le_of_ble_eq_true rfl) (Nat.le_of_ble_eq_true rfl) (by decide)) g2
  have g4 := R10.fe (show r 8 ≠ r 14 from hd 5 11 (Nat.le_of_ble_eq_true rfl) (Nat.le_of_ble_eq_true rfl) (by decide)) g4
  have g5 := R10.fe (show r 9 ≠ r 14 from hd 6 11 (Nat.le_of_ble_eq_true rfl) (Nat.le_of_ble_eq_true rfl) (by decide)) g5
  have g6 := R10.fe (show r 10 ≠ r 14 from hd 7 11 (Nat.le_of_ble_eq_true rfl) (Nat.le_of_ble_eq_true rfl) (by decide)) g6
  have g7 := R10.fe (show r 11 ≠ r 14 from hd 8 11 (Nat.le_of_ble_eq_true rfl) (Nat.le_of_ble_eq_true rfl) (by decide)) g7
  have g8 := R10.fe (show r 12 ≠ r 14 from hd 9 11 (Nat.le_of_ble_eq_true rfl) (Nat.le_of_ble_eq_true rfl) (by decide)) g8
  have g9 := R10.fe (show r 13 ≠ r 14 from hd 10 11 (Nat.le_of_ble_eq_true rfl) (Nat.le_of_ble_eq_true rfl) (by decide)) g9
  have g10 := R10.2
  have R11 := fe_times (h := r0 0) g7 g8 (by decide)
  obtain ⟨X11, eX11⟩ : ∃ Y, LF_F_times X10 (r0 0) (r 11) (r 12) = Y := ⟨_, rfl⟩
  rw [eX11] at R11
  have p1 := R11.fe (show r0 1 ≠ r0 0 from hd 1 0 (Nat.le_of_ble_eq_true rfl) (Nat.le_of_ble_eq_true rfl) (by decide)) p1
  have p2 := R11.fe (show r0 2 ≠ r0 0 from hd 2 0 (Nat.le_of_ble_eq_true rfl) (Nat.le_of_ble_eq_true rfl) (by decide)) p2
  have p3 := R11.fe (show r0 3 ≠ r0 0 from hd 3 0 (Nat.le_of_ble_eq_true rfl) (Nat.le_of_ble_eq_true rfl) (by decide)) p3
  have q0 := R11.fe (show r1 0 ≠ r0 0 from hd 12 0 (Nat.le_of_ble_eq_true rfl) (Nat.le_of_ble_eq_true rfl) (by decide)) q0
  have q1 := R11.fe (show r1 1 ≠ r0 0 from hd 13 0 (Nat.le_of_ble_eq_true rfl) (Nat.le_of_ble_eq_true rfl) (by decide)) q1
  have q2 := R11.fe (show r1 2 ≠ r0 0 from hd 14 0 (Nat.le_of_ble_eq_true rfl) (Nat.le_of_ble_eq_true rfl) (by decide)) q2
  have q3 := R11.fe (show r1 3 ≠ r0 0 from hd 15 0 (Nat.le_of_ble_eq_true rfl) (Nat.le_of_ble_eq_true rfl) (by decide)) q3
  have g2 := R11.fe (show r 7 ≠ r0 0 from hd 4 0 (Nat.le_of_ble_eq_true rfl) (Nat.le_of_ble_eq_true rfl) (by decide)) g2
  have g4 := R11.fe (show r 8 ≠ r0 0 from hd 5 0 (Nat.le_of_ble_eq_true rfl) (Nat.le_of_ble_eq_true rfl) (by decide)) g4
  have g5 := R11.fe (show r 9 ≠ r0 0 from hd 6 0 (Nat.le_of_ble_eq_true rfl) (Nat.le_of_ble_eq_true rfl) (by decide)) g5
  have g6 := R11.fe (show r 10 ≠ r0 0 from hd 7 0 (Nat.le_of_ble_eq_true rfl) (Nat.le_of_ble_eq_true rfl) (by decide)) g6
  have g7 := R11.fe (show r 11 ≠ r0 0 from hd 8 0 (Nat.le_of_ble_eq_true rfl) (Nat.le_of_ble_eq_true rfl) (by decide)) g7
  have g8 := R11.fe (show r 12 ≠ r0 0 from hd 9 0 (Nat.le_of_ble_eq_true rfl) (Nat.le_of_ble_eq_true rfl) (by decide)) g8
  have g9 := R11.fe (show r 13 ≠ r0 0 from hd 10 0 (Nat.le_of_ble_eq_true rfl) (Nat.le_of_ble_eq_true rfl) (by decide)) g9
  have g10 := R11.fe (show r 14 ≠ r0 0 from hd 11 0 (Nat.le_of_ble_eq_true rfl) (Nat.le_of_ble_eq_true rfl) (by decide)) g10
  have g11 := R11.2
  have R12 := fe_times (h := r0 1) g9 g10 (by decide)
  obtain ⟨X12, eX12⟩ : ∃ Y, LF_F_times X11 (r0 1) (r 13) (r 14) = Y := ⟨_, rfl⟩
  rw [eX12] at R12
  have g11 := R12.fe (show r0 0 ≠ r0 1 from hd 0 1 (Nat.le_of_ble_eq_true rfl) (Nat.le_of_ble_eq_true rfl) (by decide)) g11
  have p2 := R12.fe (show r0 2 ≠ r0 1 from hd 2 1 (Nat.le_of_ble_eq_true rfl) (Nat.le_of_ble_eq_true rfl) (by decide)) p2
  have p3 := R12.fe (show r0 3 ≠ r0 1 from hd 3 1 (Nat.le_of_ble_eq_true rfl) (Nat.le_of_ble_eq_true rfl) (by decide)) p3
  have q0 := R12.fe (show r1 0 ≠ r0 1 from hd 12 1 (Nat.le_of_ble_eq_true rfl) (Nat.le_of_ble_eq_true rfl) (by decide)) q0
  have q1 := R12.fe (show r1 1 ≠ r0 1 from hd 13 1 (Nat.le_of_ble_eq_true rfl) (Nat.le_of_ble_eq_true rfl) (by decide)) q1
  have q2 := R12.fe (show r1 2 ≠ r0 1 from hd 14 1 (Nat.le_of_ble_eq_true rfl) (Nat.le_of_ble_eq_true rfl) (by decide)) q2
  have q3 := R12.fe (show r1 3 ≠ r0 1 from hd 15 1 (Nat.le_of_ble_eq_true rfl) (Nat.le_of_ble_eq_true rfl) (by decide)) q3
  have g2 := R12.fe (show r 7 ≠ r0 1 from hd 4 1 (Nat.le_of_ble_eq_true rfl) (Nat.le_of_ble_eq_true rfl) (by decide)) g2
  have g4 := R12.fe (show r 8 ≠ r0 1 from hd 5 1 (Nat.le_of_ble_eq_true rfl) (Nat.le_of_ble_eq_true rfl) (by decide)) g4
  have g5 := R12.fe (show r 9 ≠ r0 1 from hd 6 1 (Nat.le_of_ble_eq_true rfl) (Nat.le_of_ble_eq_true rfl) (by decide)) g5
  have g6 := R12.fe (show r 10 ≠ r0 1 from hd 7 1 (Nat.le_of_ble_eq_true rfl) (Nat.le_of_ble_eq_true rfl) (by decide)) g6
  have g7 := R12.fe (show r 11 ≠ r0 1 from hd 8 1 (Nat.le_of_ble_eq_true rfl) (Nat.le_of_ble_eq_true rfl) (by decide)) g7
  have g8 := R12.fe (show r 12 ≠ r0 1 from hd 9 1 (Nat.le_of_ble_eq_true rfl) (Nat.le_of_ble_eq_true rfl) (by decide)) g8
  have g9 := R12.fe (show r 13 ≠ r0 1 from hd 10 1 (Nat.le_of_ble_eq_true rfl) (Nat.le_of_ble_eq_true rfl) (by decide)) g9
  have g10 := R12.fe (show r 14 ≠ r0 1 from hd 11 1 (Nat.le_of_ble_eq_true rfl) (Nat.le_of_ble_eq_true rfl) (by decide)) g10
  have g12 := R12.2
  have R13 := fe_times (h := r0 3) g7 g10 (by decide)
  obtain ⟨X13, eX13⟩ : ∃ Y, LF_F_times X12 (r0 3) (r 11) (r 14) = Y := ⟨_, rfl⟩
  rw [eX13] at R13
  have g11 := R13.fe (show r0 0 ≠ r0 3 from hd 0 3 (Nat.le_of_ble_eq_true rfl) (Nat.le_of_ble_eq_true rfl) (by decide)) g11
  have g12 := R13.fe (show r0 1 ≠ r0 3 from hd 1 3 (Nat.le_of_ble_eq_true rfl) (Nat.le_of_ble_eq_true rfl) (by decide)) g12
  have p2 := R13.fe (show r0 2 ≠ r0 3 from hd 2 3 (Nat.le_of_ble_eq_true rfl) (Nat.le_of_ble_eq_true rfl) (by decide)) p2
  have q0 := R13.fe (show r1 0 ≠ r0 3 from hd 12 3 (Nat.le_of_ble_eq_true rfl) (Nat.le_of_ble_eq_true rfl) (by decide)) q0
  have q1 := R13.fe (show r1 1 ≠ r0 3 from hd 13 3 (Nat.le_of_ble_eq_true rfl) (Nat.le_of_ble_eq_true rfl) (by decide)) q1
  have q2 := R13.fe (show r1 2 ≠ r0 3 from hd 14 3 (Nat.le_of_ble_eq_true rfl) (Nat.le_of_ble_eq_true rfl) (by decide)) q2
  have q3 := R13.fe (show r1 3 ≠ r0 3 from hd 15 3 (Nat.le_of_ble_eq_true rfl) (Nat.le_of_ble_eq_true rfl) (by decide)) q3
  have g2 := R13.fe (show r 7 ≠ r0 3 from hd 4 3 (Nat.le_of_ble_eq_true rfl) (Nat.le_of_ble_eq_true rfl) (by decide)) g2
  have g4 := R13.fe (show r 8 ≠ r0 3 from hd 5 3 (Nat.le_of_ble_eq_true rfl) (Nat.le_of_ble_eq_true rfl) (by decide)) g4
  have g5 := R13.fe (show r 9 ≠ r0 3 from hd 6 3 (Nat.le_of_ble_eq_true rfl) (Nat.le_of_ble_eq_true rfl) (by decide)) g5
  have g6 := R13.fe (show r 10 ≠ r0 3 from hd 7 3 (Nat.le_of_ble_eq_true rfl) (Nat.le_of_ble_eq_true rfl) (by decide)) g6
  have g7 := R13.fe (show r 11 ≠ r0 3 from hd 8 3 (Nat.le_of_ble_eq_true rfl) (Nat.le_of_ble_eq_true rfl) (by decide)) g7
  have g8 := R13.fe (show r 12 ≠ r0 3 from hd 9 3 (Nat.le_of_ble_eq_true rfl) (Nat.le_of_ble_eq_true rfl) (by decide)) g8
  have g9 := R13.fe (show r 13 ≠ r0 3 from hd 10 3 (Nat.le_of_ble_eq_true rfl) (Nat.le_of_ble_eq_true rfl) (by decide)) g9
  have g10 := R13.fe (show r 14 ≠ r0 3 from hd 11 3 (Nat.le_of_ble_eq_true rfl) (Nat.le_of_ble_eq_true rfl) (by decide)) g10
  have g13 := R13.2
  have R14 := fe_times (h := r0 2) g8 g9 (by decide)
  obtain ⟨X14, eX14⟩ : ∃ Y, LF_F_times X13 (r0 2) (r 12) (r 13) = Y := ⟨_, rfl⟩
  rw [eX14] at R14
  have g11 := R14.fe (show r0 0 ≠ r0 2 from hd 0 2 (Nat.le_of_ble_eq_true rfl) (Nat.le_of_ble_eq_true rfl) (by decide)) g11
  have g12 := R14.fe (show r0 1 ≠ r0 2 from hd 1 2 (Nat.le_of_ble_eq_true rfl) (Nat.le_of_ble_eq_true rfl) (by decide)) g12
  have g13 := R14.fe (show r0 3 ≠ r0 2 from hd 3 2 (Nat.le_of_ble_eq_true rfl) (Nat.le_of_ble_eq_true rfl) (by decide)) g13
  have q0 := R14.fe (show r1 0 ≠ r0 2 from hd 12 2 (Nat.le_of_ble_eq_true rfl) (Nat.le_of_ble_eq_true rfl) (by decide)) q0
  have q1 := R14.fe (show r1 1 ≠ r0 2 from hd 13 2 (Nat.le_of_ble_eq_true rfl) (Nat.le_of_ble_eq_true rfl) (by decide)) q1
  have q2 := R14.fe (show r1 2 ≠ r0 2 from hd 14 2 (Nat.le_of_ble_eq_true rfl) (Nat.le_of_ble_eq_true rfl) (by decide)) q2
  have q3 := R14.fe (show r1 3 ≠ r0 2 from hd 15 2 (Nat.le_of_ble_eq_true rfl) (Nat.le_of_ble_eq_true rfl) (by decide)) q3
  have g2 := R14.fe (show r 7 ≠ r0 2 from hd 4 2 (Nat.le_of_ble_eq_true rfl) (Nat.le_of_ble_eq_true rfl) (by decide)) g2
  have g4 := R14.fe (show r 8 ≠ r0 2 from hd 5 2 (Nat.le_of_ble_eq_true rfl) (Nat.le_of_ble_eq_true rfl) (by decide)) g4
  have g5 := R14.fe (show r 9 ≠ r0 2 from hd 6 2 (Nat.le_of_ble_eq_true rfl) (Nat.le_of_ble_eq_true rfl) (by decide)) g5
  have g6 := R14.fe (show r 10 ≠ r0 2 from hd 7 2 (Nat.le_of_ble_eq_true rfl) (Nat.le_of_ble_eq_true rfl) (by decide)) g6
  have g7 := R14.fe (show r 11 ≠ r0 2 from hd 8 2 (Nat.le_of_ble_eq_true rfl) (Nat.le_of_ble_eq_true rfl) (by decide)) g7
  have g8 := R14.fe (show r 12 ≠ r0 2 from hd 9 2 (Nat.le_of_ble_eq_true rfl) (Nat.le_of_ble_eq_true rfl) (by decide)) g8
  have g9 := R14.fe (show r 13 ≠ r0 2 from hd 10 2 (Nat.le_of_ble_eq_true rfl) (Nat.le_of_ble_eq_true rfl) (by decide)) g9
  have g10 := R14.fe (show r 14 ≠ r0 2 from hd 11 2 (Nat.le_of_ble_eq_true rfl) (Nat.le_of_ble_eq_true rfl) (by decide)) g10
  have g14 := R14.2
  have hX : LF_Ed_add X r r0 r1 = X14 := by subst eX1 eX2 eX3 eX4 eX5 eX6 eX7 eX8 eX9 eX10 eX11 eX12 eX13 eX14; rfl
  rw [hX]
  exact ⟨((((((((((((((onL.rf.tr (R1.on (S := [r0 0, r0 1, r0 2, r0 3, r 7, r 8, r 9, r 10, r 11, r 12, r 13, r 14]) (by simp))).tr (R2.on (S := [r0 0, r0 1, r0 2, r0 3, r 7, r 8, r 9, r 10, r 11, r 12, r 13, r 14]) (by simp))).tr (R3.on (S := [r0 0, r0 1, r0 2, r0 3, r 7, r 8, r 9, r 10, r 11, r 12, r 13, r 14]) (by simp))).tr (R4.on (S := [r0 0, r0 1, r0 2, r0 3, r 7, r 8, r 9, r 10, r 11, r 12, r 13, r 14]) (by simp))).tr (R5.on (S := [r0 0, r0 1, r0 2, r0 3, r 7, r 8, r 9, r 10, r 11, r 12, r 13, r 14]) (by simp))).tr (R6.on (S := [r0 0, r0 1, r0 2, r0 3, r 7, r 8, r 9, r 10, r 11, r 12, r 13, r 14]) (by simp))).tr (R7.on (S := [r0 0, r0 1, r0 2, r0 3, r 7, r 8, r 9, r 10, r 11, r 12, r 13, r 14]) (by simp))).tr (R8.on (S := [r0 0, r0 1, r0 2, r0 3, r 7, r 8, r 9, r 10, r 11, r 12, r 13, r 14]) (by simp))).tr (R9.on (S := [r0 0, r0 1, r0 2, r0 3, r 7, r 8, r 9, r 10, r 11, r 12, r 13, r 14]) (by simp))).tr (R10.on (S := [r0 0, r0 1, r0 2, r0 3, r 7, r 8, r 9, r 10, r 11, r 12, r 13, r 14]) (by simp))).tr (R11.on (S := [r0 0, r0 1, r0 2, r0 3, r 7, r 8, r 9, r 10, r 11, r 12, r 13, r 14]) (by simp))).tr (R12.on (S := [r0 0, r0 1, r0 2, r0 3, r 7, r 8, r 9, r 10, r 11, r 12, r 13, r 14]) (by simp))).tr (R13.on (S := [r0 0, r0 1, r0 2, r0 3, r 7, r 8, r 9, r 10, r 11, r 12, r 13, r 14]) (by simp))).tr (R14.on (S := [r0 0, r0 1, r0 2, r0 3, r 7, r 8, r 9, r 10, r 11, r 12, r 13, r 14]) (by simp))), g11, g12, g14, g13⟩
set_option maxHeartbeats 4000000 in
theorem fe_edbl {X : vM} {r r0 : Nat → Nat} {x y z t : Fp} (hd : nd [r0 0, r0 1, r0 2, r0 3, r 7, r 8, r 9, r 10, r 11, r 12, r 13, r 14]) (p0 : Fe X (r0 0) 1 x) (p1 : Fe X (r0 1) 1 y) (p2 : Fe X (r0 2) 1 z) (p3 : Fe X (r0 3) 1 t) : onL [r0 0, r0 1, r0 2, r0 3, r 7, r 8, r 9, r 10, r 11, r 12, r 13, r 14] X (LF_Ed_twice X r r0) ∧ Fe (LF_Ed_twice X r r0) (r0 0) 1 ((((x * x) + (y * y)) - ((x + y) * (x + y))) * (((z * z) + (z * z)) + ((x * x) - (y * y)))) ∧ Fe (LF_Ed_twice X r r0) (r0 1) 1 (((x * x) - (y * y)) * ((x * x) + (y * y))) ∧ Fe (LF_Ed_twice X r r0) (r0 2) 1 ((((z * z) + (z * z)) + ((x * x) - (y * y))) * ((x * x) - (y * y))) ∧ Fe (LF_Ed_twice X r r0) (r0 3) 1 ((((x * x) + (y * y)) - ((x + y) * (x + y))) * ((x * x) + (y * y))) := by
  have R1 := fe_square (h := r 7) p0 (by decide)
  obtain ⟨X1, eX1⟩ : ∃ Y, LF_F_square X (r 7) (r0 0) = Y := ⟨_, rfl⟩
  rw [eX1] at R1
  have p0 := R1.fe (show r0 0 ≠ r 7 from hd 0 4 (Nat.le_of_ble_eq_true rfl) (Nat.le_of_ble_eq_true rfl) (by decide)) p0
  have p1 := R1.fe (show r0 1 ≠ r 7 from hd 1 4 (Nat.le_of_ble_eq_true rfl) (Nat.le_of_ble_eq_true rfl) (by decide)) p1
  have p2 := R1.fe (show r0 2 ≠ r 7 from hd 2 4 (Nat.le_of_ble_eq_true rfl) (Nat.le_of_ble_eq_true rfl) (by decide)) p2
  have p3 := R1.fe (show r0 3 ≠ r 7 from hd 3 4 (Nat.le_of_ble_eq_true rfl) (Nat.le_of_ble_eq_true rfl) (by decide)) p3
  have g1 := R1.2
  have R2 := fe_square (h := r 8) p1 (by decide)
  obtain ⟨X2, eX2⟩ : ∃ Y, LF_F_square X1 (r 8) (r0 1) = Y := ⟨_, rfl⟩
  rw [eX2] at R2
  have p0 := R2.fe (show r0 0 ≠ r 8 from hd 0 5 (Nat.le_of_ble_eq_true rfl) (Nat.le_of_ble_eq_true rfl) (by decide)) p0
  have p1 := R2.fe (show r0 1 ≠ r 8 from hd 1 5 (Nat.le_of_ble_eq_true rfl) (Nat.le_of_ble_eq_true rfl) (by decide)) p1
  have p2 := R2.fe (show r0 2 ≠ r 8 from hd 2 5 (Nat.le_of_ble_eq_true rfl) (Nat.le_of_ble_eq_true rfl) (by decide)) p2
  have p3 := R2.fe (show r0 3 ≠ r 8 from hd 3 5 (Nat.le_of_ble_eq_true rfl) (Nat.le_of_ble_eq_true rfl) (by decide)) p3
  have g1 := R2.fe (show r 7 ≠ r 8 from hd 4 5 (Nat.le_of_ble_eq_true rfl) (Nat.le_of_ble_eq_true rfl) (by decide)) g1
  have g2 := R2.2
  have R3 := fe_square (h := r 9) p2 (by decide)
  obtain ⟨X3, eX3⟩ : ∃ Y, LF_F_square X2 (r 9) (r0 2) = Y := ⟨_, rfl⟩
  rw [eX3] at R3
  have p0 := R3.fe (show r0 0 ≠ r 9 from hd 0 6 (Nat.le_of_ble_eq_true rfl) (Nat.le_of_ble_eq_true rfl) (by decide)) p0
  have p1 := R3.fe (show r0 1 ≠ r 9 from hd 1 6 (Nat.le_of_ble_eq_true rfl) (Nat.le_of_ble_eq_true rfl) (by decide)) p1
  have p2 := R3.fe (show r0 2 ≠ r 9 from hd 2 6 (Nat.le_of_ble_eq_true rfl) (Nat.le_of_ble_eq_true rfl) (by decide)) p2
  have p3 := R3.fe (show r0 3 ≠ r 9 from hd 3 6 (Nat.le_of_ble_eq_true rfl) (Nat.le_of_ble_eq_true rfl) (by decide)) p3
  have g1 := R3.fe (show r 7 ≠ r 9 from hd 4 6 (Nat.le_of_ble_eq_true rfl) (Nat.le_of_ble_eq_true rfl) (by decide)) g1
  have g2 := R3.fe (show r 8 ≠ r 9 from hd 5 6 (Nat.le_of_ble_eq_true rfl) (Nat.le_of_ble_eq_true rfl) (by decide)) g2
  have g3 := R3.2
  have R4 := fe_add (h := r 9) g3 g3
  obtain ⟨X4, eX4⟩ : ∃ Y, LF_F_add X3 (r 9) (r 9) (r 9) = Y := ⟨_, rfl⟩
  rw [eX4] at R4
  have p0 := R4.fe (show r0 0 ≠ r 9 from hd 0 6 (Nat.le_of_ble_eq_true rfl) (Nat.le_of_ble_eq_true rfl) (by decide)) p0
  have p1 := R4.fe (show r0 1 ≠ r 9 from hd 1 6 (Nat.le_of_ble_eq_true rfl) (Nat.le_of_ble_eq_true rfl) (by decide)) p1
  have p2 := R4.fe (show r0 2 ≠ r 9 from hd 2 6 (Nat.le_of_ble_eq_true rfl) (Nat.le_of_ble_eq_true rfl) (by decide)) p2
  have p3 := R4.fe (show r0 3 ≠ r 9 from hd 3 6 (Nat.le_of_ble_eq_true rfl) (Nat.le_of_ble_eq_true rfl) (by decide)) p3
  have g1 := R4.fe (show r 7 ≠ r 9 from hd 4 6 (Nat.le_of_ble_eq_true rfl) (Nat.le_of_ble_eq_true rfl) (by decide)) g1
  have g2 := R4.fe (show r 8 ≠ r 9 from hd 5 6 (Nat.le_of_ble_eq_true rfl) (Nat.le_of_ble_eq_true rfl) (by decide)) g2
  have g4 := R4.2
  have R5 := fe_add (h := r 14) g1 g2
  obtain ⟨X5, eX5⟩ : ∃ Y, LF_F_add X4 (r 14) (r 7) (r 8) = Y := ⟨_, rfl⟩
  rw [eX5] at R5
  have p0 := R5.fe (show r0 0 ≠ r 14 from hd 0 11 (Nat.le_of_ble_eq_true rfl) (Nat.le_of_ble_eq_true rfl) (by decide)) p0
  have p1 := R5.fe (show r0 1 ≠ r 14 from hd 1 11 (Nat.le_of_ble_eq_true rfl) (Nat.le_of_ble_eq_true rfl) (by decide)) p1
  have p2 := R5.fe (show r0 2 ≠ r 14 from hd 2 11 (Nat.le_of_ble_eq_true rfl) (Nat.le_of_ble_eq_true rfl) (by decide)) p2
  have p3 := R5.fe (show r0 3 ≠ r 14 from hd 3 11 (Nat.le_of_ble_eq_true rfl) (Nat.le_of_ble_eq_true rfl) (by decide)) p3
  have g1 := R5.fe (show r 7 ≠ r 14 from hd 4 11 (Nat.le_of_ble_eq_true rfl) (Nat.le_of_ble_eq_true rfl) (by decide)) g1
  have g2 := R5.fe (show r 8 ≠ r 14 from hd 5 11 (Nat.le_of_ble_eq_true rfl) (Nat.le_of_ble_eq_true rfl) (by decide)) g2
  have g4 := R5.fe (show r 9 ≠ r 14 from hd 6 11 (Nat.le_of_ble_eq_true rfl) (Nat.le_of_ble_eq_true rfl) (by decide)) g4
  have g5 := R5.2
  have R6 := fe_add (h := r 11) p0 p1
  obtain ⟨X6, eX6⟩ : ∃ Y, LF_F_add X5 (r 11) (r0 0) (r0 1) = Y := ⟨_, rfl⟩
  rw [eX6] at R6
  have p0 := R6.fe (show r0 0 ≠ r 11 from hd 0 8 (Nat.le_of_ble_eq_true rfl) (Nat.le_of_ble_eq_true rfl) (by decide)) p0
  have p1 := R6.fe (show r0 1 ≠ r 11 from hd 1 8 (Nat.le_of_ble_eq_true rfl) (Nat.le_of_ble_eq_true rfl) (by decide)) p1
  have p2 := R6.fe (show r0 2 ≠ r 11 from hd 2 8 (Nat.le_of_ble_eq_true rfl) (Nat.le_of_ble_eq_true rfl) (by decide)) p2
  have p3 := R6.fe (show r0 3 ≠ r 11 from hd 3 8 (Nat.le_of_ble_eq_true rfl) (Nat.le_of_ble_eq_true rfl) (by decide)) p3
  have g1 := R6.fe (show r 7 ≠ r 11 from hd 4 8 (Nat.le_of_ble_eq_true rfl) (Nat.le_of_ble_eq_true rfl) (by decide)) g1
  have g2 := R6.fe (show r 8 ≠ r 11 from hd 5 8 (Nat.le_of_ble_eq_true rfl) (Nat.le_of_ble_eq_true rfl) (by decide)) g2
  have g4 := R6.fe (show r 9 ≠ r 11 from hd 6 8 (Nat.le_of_ble_eq_true rfl) (Nat.le_of_ble_eq_true rfl) (by decide)) g4
  have g5 := R6.fe (show r 14 ≠ r 11 from hd 11 8 (Nat.le_of_ble_eq_true rfl) (Nat.le_of_ble_eq_true rfl) (by decide)) g5
  have g6 := R6.2
  have R7 := fe_square (h := r 11) g6 (by decide)
  obtain ⟨X7, eX7⟩ : ∃ Y, LF_F_square X6 (r 11) (r 11) = Y := ⟨_, rfl⟩
  rw [eX7] at R7
  have p0 := R7.fe (show r0 0 ≠ r 11 from hd 0 8 (Nat.le_of_ble_eq_true rfl) (Nat.le_of_ble_eq_true rfl) (by decide)) p0
  have p1 := R7.fe (show r0 1 ≠ r 11 from hd 1 8 (Nat.le_of_ble_eq_true rfl) (Nat.le_of_ble_eq_true rfl) (by decide)) p1
  have p2 := R7.fe (show r0 2 ≠ r 11 from hd 2 8 (Nat.le_of_ble_eq_true rfl) (Nat.le_of_ble_eq_true rfl) (by decide)) p2
  have p3 := R7.fe (show r0 3 ≠ r 11 from hd 3 8 (Nat.le_of_ble_eq_true rfl) (Nat.le_of_ble_eq_true rfl) (by decide)) p3
  have g1 := R7.fe (show r 7 ≠ r 11 from hd 4 8 (Nat.le_of_ble_eq_true rfl) (Nat.le_of_ble_eq_true rfl) (by decide)) g1
  have g2 := R7.fe (show r 8 ≠ r 11 from hd 5 8 (Nat.le_of_ble_eq_true rfl) (Nat.le_of_ble_eq_true rfl) (by decide)) g2
  have g4 := R7.fe (show r 9 ≠ r 11 from hd 6 8 (Nat.le_of_ble_eq_true rfl) (Nat.le_of_ble_eq_true rfl) (by decide)) g4
  have g5 := R7.fe (show r 14 ≠ r 11 from hd 11 8 (Nat.le_of_ble_eq_true rfl) (Nat.le_of_ble_eq_true rfl) (by decide)) g5
  have g7 := R7.2
  have R8 := fe_sub (h := r 11) g5 g7
  obtain ⟨X8, eX8⟩ : ∃ Y, LF_F_subtract X7 (r 11) (r 14) (r 11) = Y := ⟨_, rfl⟩
  rw [eX8] at R8
  have p0 := R8.fe (show r0 0 ≠ r 11 from hd 0 8 (Nat.le_of_ble_eq_true rfl) (Nat.le_of_ble_eq_true rfl) (by decide)) p0
  have p1 := R8.fe (show r0 1 ≠ r 11 from hd 1 8 (Nat.le_of_ble_eq_true rfl) (Nat.le_of_ble_eq_true rfl) (by decide)) p1
  have p2 := R8.fe (show r0 2 ≠ r 11 from hd 2 8 (Nat.le_of_ble_eq_true rfl) (Nat.le_of_ble_eq_true rfl) (by decide)) p2
  have p3 := R8.fe (show r0 3 ≠ r 11 from hd 3 8 (Nat.le_of_ble_eq_true rfl) (Nat.le_of_ble_eq_true rfl) (by decide)) p3
  have g1 := R8.fe (show r 7 ≠ r 11 from hd 4 8 (Nat.le_of_ble_eq_true rfl) (Nat.le_of_ble_eq_true rfl) (by decide)) g1
  have g2 := R8.fe (show r 8 ≠ r 11 from hd 5 8 (Nat.le_of_ble_eq_true rfl) (Nat.le_of_ble_eq_true rfl) (by decide)) g2
  have g4 := R8.fe (show r 9 ≠ r 11 from hd 6 8 (Nat.le_of_ble_eq_true rfl) (Nat.le_of_ble_eq_true rfl) (by decide)) g4
  have g5 := R8.fe (show r 14 ≠ r 11 from hd 11 8 (Nat.le_of_ble_eq_true rfl) (Nat.le_of_ble_eq_true rfl) (by decide)) g5
  have g8 := R8.2
  have R9 := fe_sub (h := r 13) g1 g2
  obtain ⟨X9, eX9⟩ : ∃ Y, LF_F_subtract X8 (r 13) (r 7) (r 8) = Y := ⟨_, rfl⟩
  rw [eX9] at R9
  have p0 := R9.fe (show r0 0 ≠ r 13 from hd 0 10 (Nat.le_of_ble_eq_true rfl) (Nat.le_of_ble_eq_true rfl) (by decide)) p0
  have p1 := R9.fe (show r0 1 ≠ r 13 from hd 1 10 (Nat.le_of_ble_eq_true rfl) (Nat.le_of_ble_eq_true rfl) (by decide)) p1
  have p2 := R9.fe (show r0 2 ≠ r 13 from hd 2 10 (Nat.le_of_ble_eq_true rfl) (Nat.le_of_ble_eq_true rfl) (by decide)) p2
  have p3 := R9.fe (show r0 3 ≠ r 13 from hd 3 10 (Nat.le_of_ble_eq_true rfl) (Nat.le_of_ble_eq_true rfl) (by decide)) p3
  have g1 := R9.fe (show r 7 ≠ r 13 from hd 4 10 (Nat.le_of_ble_eq_true rfl) (Nat.le_of_ble_eq_true rfl) (by decide)) g1
  have g2 := R9.fe (show r 8 ≠ r 13 from hd 5 10 (Nat.le_of_ble_eq_true rfl) (Nat.le_of_ble_eq_true rfl) (by decide)) g2
  have g4 := R9.fe (show r 9 ≠ r 13 from hd 6 10 (Nat.le_of_ble_eq_true rfl) (Nat.le_of_ble_eq_true rfl) (by decide)) g4
  have g5 := R9.fe (show r 14 ≠ r 13 from hd 11 10 (Nat.le_of_ble_eq_true rfl) (Nat.le_of_ble_eq_true rfl) (by decide)) g5
  have g8 := R9.fe (show r 11 ≠ r 13 from hd 8 10 (Nat.le_of_ble_eq_true rfl) (Nat.le_of_ble_eq_true rfl) (by decide)) g8
  have g9 := R9.2
  have R10 := fe_add (h := r 12) g4 g9
  obtain ⟨X10, eX10⟩ : ∃ Y, LF_F_add X9 (r 12) (r 9) (r 13) = Y := ⟨_, rfl⟩
  rw [eX10] at R10
  have p0 := R10.fe (show r0 0 ≠ r 12 from hd 0 9 (Nat.le_of_ble_eq_true rfl) (Nat.le_of_ble_eq_true rfl) (by decide)) p0
  have p1 := R10.fe (show r0 1 ≠ r 12 from hd 1 9 (Nat.le_of_ble_eq_true rfl) (Nat.le_of_ble_eq_true rfl) (by decide)) p1
  have p2 := R10.fe (show r0 2 ≠ r 12 from hd 2 9 (Nat.le_of_ble_eq_true rfl) (Nat.le_of_ble_eq_true rfl) (by decide)) p2
  have p3 := R10.fe (show r0 3 ≠ r 12 from hd 3 9 (Nat.le_of_ble_eq_true rfl) (Nat.le_of_ble_eq_true rfl) (by decide)) p3
  have g1 := R10.fe (show r 7 ≠ r 12 from hd 4 9 (Nat.le_of_ble_eq_true rfl) (Nat.le_of_ble_eq_true rfl) (by decide)) g1
  have g2 := R10.fe (show r 8 ≠ r 12 from hd 5 9 (Nat.le_of_ble_eq_true rfl) (Nat.le_of_ble_eq_true rfl) (by decide)) g2
  have g4 := R10.fe (show r 9 ≠ r 12 from hd 6 9 (Nat.le_of_ble_eq_true rfl) (Nat.le_of_ble_eq_true rfl) (by decide)) g4
  have g5 := R10.fe (show r 14 ≠ r 12 from hd 11 9 (Nat.le_of_ble_eq_true rfl) (Nat.le_of_ble_eq_true rfl) (by decide)) g5
  have g8 := R10.fe (show r 11 ≠ r 12 from hd 8 9 (Nat.le_of_ble_eq_true rfl) (Nat.le_of_ble_eq_true rfl) (by decide)) g8
  have g9 := R10.fe (show r 13 ≠ r 12 from hd 10 9 (Nat.le_of_ble_eq_true rfl) (Nat.le_of_ble_eq_true rfl) (by decide)) g9
  have g10 := R10.2
  have R11 := fe_times (h := r0 0) g8 g10 (by decide)
  obtain ⟨X11, eX11⟩ : ∃ Y, LF_F_times X10 (r0 0) (r 11) (r 12) = Y := ⟨_, rfl⟩
  rw [eX11] at R11
  have p1 := R11.fe (show r0 1 ≠ r0 0 from hd 1 0 (Nat.le_of_ble_eq_true rfl) (Nat.le_of_ble_eq_true rfl) (by decide)) p1
  have p2 := R11.fe (show r0 2 ≠ r0 0 from hd 2 0 (Nat.le_of_ble_eq_true rfl) (Nat.le_of_ble_eq_true rfl) (by decide)) p2
  have p3 := R11.fe (show r0 3 ≠ r0 0 from hd 3 0 (Nat.le_of_ble_eq_true rfl) (Nat.le_of_ble_eq_true rfl) (by decide)) p3
  have g1 := R11.fe (show r 7 ≠ r0 0 from hd 4 0 (Nat.le_of_ble_eq_true rfl) (Nat.le_of_ble_eq_true rfl) (by decide)) g1
  have g2 := R11.fe (show r 8 ≠ r0 0 from hd 5 0 (Nat.le_of_ble_eq_true rfl) (Nat.le_of_ble_eq_true rfl) (by decide)) g2
  have g4 := R11.fe (show r 9 ≠ r0 0 from hd 6 0 (Nat.le_of_ble_eq_true rfl) (Nat.le_of_ble_eq_true rfl) (by decide)) g4
  have g5 := R11.fe (show r 14 ≠ r0 0 from hd 11 0 (Nat.le_of_ble_eq_true rfl) (Nat.le_of_ble_eq_true rfl) (by decide)) g5
  have g8 := R11.fe (show r 11 ≠ r0 0 from hd 8 0 (Nat.le_of_ble_eq_true rfl) (Nat.le_of_ble_eq_true rfl) (by decide)) g8
  have g9 := R11.fe (show r 13 ≠ r0 0 from hd 10 0 (Nat.le_of_ble_eq_true rfl) (Nat.le_of_ble_eq_true rfl) (by decide)) g9
  have g10 := R11.fe (show r 12 ≠ r0 0 from hd 9 0 (Nat.le_of_ble_eq_true rfl) (Nat.le_of_ble_eq_true rfl) (by decide)) g10
  have g11 := R11.2
  have R12 := fe_times (h := r0 1) g9 g5 (by decide)
  obtain ⟨X12, eX12⟩ : ∃ Y, LF_F_times X11 (r0 1) (r 13) (r 14) = Y := ⟨_, rfl⟩
  rw [eX12] at R12
  have g11 := R12.fe (show r0 0 ≠ r0 1 from hd 0 1 (Nat.le_of_ble_eq_true rfl) (Nat.le_of_ble_eq_true rfl) (by decide)) g11
  have p2 := R12.fe (show r0 2 ≠ r0 1 from hd 2 1 (Nat.le_of_ble_eq_true rfl) (Nat.le_of_ble_eq_true rfl) (by decide)) p2
  have p3 := R12.fe (show r0 3 ≠ r0 1 from hd 3 1 (Nat.le_of_ble_eq_true rfl) (Nat.le_of_ble_eq_true rfl) (by decide)) p3
  have g1 := R12.fe (show r 7 ≠ r0 1 from hd 4 1 (Nat.le_of_ble_eq_true rfl) (Nat.le_of_ble_eq_true rfl) (by decide)) g1
  have g2 := R12.fe (show r 8 ≠ r0 1 from hd 5 1 (Nat.le_of_ble_eq_true rfl) (Nat.le_of_ble_eq_true rfl) (by decide)) g2
  have g4 := R12.fe (show r 9 ≠ r0 1 from hd 6 1 (Nat.le_of_ble_eq_true rfl) (Nat.le_of_ble_eq_true rfl) (by decide)) g4
  have g5 := R12.fe (show r 14 ≠ r0 1 from hd 11 1 (Nat.le_of_ble_eq_true rfl) (Nat.le_of_ble_eq_true rfl) (by decide)) g5
  have g8 := R12.fe (show r 11 ≠ r0 1 from hd 8 1 (Nat.le_of_ble_eq_true rfl) (Nat.le_of_ble_eq_true rfl) (by decide)) g8
  have g9 := R12.fe (show r 13 ≠ r0 1 from hd 10 1 (Nat.le_of_ble_eq_true rfl) (Nat.le_of_ble_eq_true rfl) (by decide)) g9
  have g10 := R12.fe (show r 12 ≠ r0 1 from hd 9 1 (Nat.le_of_ble_eq_true rfl) (Nat.le_of_ble_eq_true rfl) (by decide)) g10
  have g12 := R12.2
  have R13 := fe_times (h := r0 3) g8 g5 (by decide)
  obtain ⟨X13, eX13⟩ : ∃ Y, LF_F_times X12 (r0 3) (r 11) (r 14) = Y := ⟨_, rfl⟩
  rw [eX13] at R13
  have g11 := R13.fe (show r0 0 ≠ r0 3 from hd 0 3 (Nat.le_of_ble_eq_true rfl) (Nat.le_of_ble_eq_true rfl) (by decide)) g11
  have g12 := R13.fe (show r0 1 ≠ r0 3 from hd 1 3 (Nat.le_of_ble_eq_true rfl) (Nat.le_of_ble_eq_true rfl) (by decide)) g12
  have p2 := R13.fe (show r0 2 ≠ r0 3 from hd 2 3 (Nat.le_of_ble_eq_true rfl) (Nat.le_of_ble_eq_true rfl) (by decide)) p2
  have g1 := R13.fe (show r 7 ≠ r0 3 from hd 4 3 (Nat.le_of_ble_eq_true rfl) (Nat.le_of_ble_eq_true rfl) (by decide)) g1
  have g2 := R13.fe (show r 8 ≠ r0 3 from hd 5 3 (Nat.le_of_ble_eq_true rfl) (Nat.le_of_ble_eq_true rfl) (by decide)) g2
  have g4 := R13.fe (show r 9 ≠ r0 3 from hd 6 3 (Nat.le_of_ble_eq_true rfl) (Nat.le_of_ble_eq_true rfl) (by decide)) g4
  have g5 := R13.fe (show r 14 ≠ r0 3 from hd 11 3 (Nat.le_of_ble_eq_true rfl) (Nat.le_of_ble_eq_true rfl) (by decide)) g5
  have g8 := R13.fe (show r 11 ≠ r0 3 from hd 8 3 (Nat.le_of_ble_eq_true rfl) (Nat.le_of_ble_eq_true rfl) (by decide)) g8
  have g9 := R13.fe (show r 13 ≠ r0 3 from hd 10 3 (Nat.le_of_ble_eq_true rfl) (Nat.le_of_ble_eq_true rfl) (by decide)) g9
  have g10 := R13.fe (show r 12 ≠ r0 3 from hd 9 3 (Nat.le_of_ble_eq_true rfl) (Nat.le_of_ble_eq_true rfl) (by decide)) g10
  have g13 := R13.2
  have R14 := fe_times (h := r0 2) g10 g9 (by decide)
  obtain ⟨X14, eX14⟩ : ∃ Y, LF_F_times X13 (r0 2) (r 12) (r 13) = Y := ⟨_, rfl⟩
  rw [eX14] at R14
  have g11 := R14.fe (show r0 0 ≠ r0 2 from hd 0 2 (Nat.le_of_ble_eq_true rfl) (Nat.le_of_ble_eq_true rfl) (by decide)) g11
  have g12 := R14.fe (show r0 1 ≠ r0 2 from hd 1 2 (Nat.le_of_ble_eq_true rfl) (Nat.le_of_ble_eq_true rfl) (by decide)) g12
  have g13 := R14.fe (show r0 3 ≠ r0 2 from hd 3 2 (Nat.le_of_ble_eq_true rfl) (Nat.le_of_ble_eq_true rfl) (by decide)) g13
  have g1 := R14.fe (show r 7 ≠ r0 2 from hd 4 2 (Nat.le_of_ble_eq_true rfl) (Nat.le_of_ble_eq_true rfl) (by decide)) g1
  have g2 := R14.fe (show r 8 ≠ r0 2 from hd 5 2 (Nat.le_of_ble_eq_true rfl) (Nat.le_of_ble_eq_true rfl) (by decide)) g2
  have g4 := R14.fe (show r 9 ≠ r0 2 from hd 6 2 (Nat.le_of_ble_eq_true rfl) (Nat.le_of_ble_eq_true rfl) (by decide)) g4
  have g5 := R14.fe (show r 14 ≠ r0 2 from hd 11 2 (Nat.le_of_ble_eq_true rfl) (Nat.le_of_ble_eq_true rfl) (by decide)) g5
  have g8 := R14.fe (show r 11 ≠ r0 2 from hd 8 2 (Nat.le_of_ble_eq_true rfl) (Nat.le_of_ble_eq_true rfl) (by decide)) g8
  have g9 := R14.fe (show r 13 ≠ r0 2 from hd 10 2 (Nat.le_of_ble_eq_true rfl) (Nat.le_of_ble_eq_true rfl) (by decide)) g9
  have g10 := R14.fe (show r 12 ≠ r0 2 from hd 9 2 (Nat.le_of_ble_eq_true rfl) (Nat.le_of_ble_eq_true rfl) (by decide)) g10
  have g14 := R14.2
  have hX : LF_Ed_twice X r r0 = X14 := by subst eX1 eX2 eX3 eX4 eX5 eX6 eX7 eX8 eX9 eX10 eX11 eX12 eX13 eX14; rfl
  rw [hX]
  exact ⟨((((((((((((((onL.rf.tr (R1.on (S := [r0 0, r0 1, r0 2, r0 3, r 7, r 8, r 9, r 10, r 11, r 12, r 13, r 14]) (by simp))).tr (R2.on (S := [r0 0, r0 1, r0 2, r0 3, r 7, r 8, r 9, r 10, r 11, r 12, r 13, r 14]) (by simp))).tr (R3.on (S := [r0 0, r0 1, r0 2, r0 3, r 7, r 8, r 9, r 10, r 11, r 12, r 13, r 14]) (by simp))).tr (R4.on (S := [r0 0, r0 1, r0 2, r0 3, r 7, r 8, r 9, r 10, r 11, r 12, r 13, r 14]) (by simp))).tr (R5.on (S := [r0 0, r0 1, r0 2, r0 3, r 7, r 8, r 9, r 10, r 11, r 12, r 13, r 14]) (by simp))).tr (R6.on (S := [r0 0, r0 1, r0 2, r0 3, r 7, r 8, r 9, r 10, r 11, r 12, r 13, r 14]) (by simp))).tr (R7.on (S := [r0 0, r0 1, r0 2, r0 3, r 7, r 8, r 9, r 10, r 11, r 12, r 13, r 14]) (by simp))).tr (R8.on (S := [r0 0, r0 1, r0 2, r0 3, r 7, r 8, r 9, r 10, r 11, r 12, r 13, r 14]) (by simp))).tr (R9.on (S := [r0 0, r0 1, r0 2, r0 3, r 7, r 8, r 9, r 10, r 11, r 12, r 13, r 14]) (by simp))).tr (R10.on (S := [r0 0, r0 1, r0 2, r0 3, r 7, r 8, r 9, r 10, r 11, r 12, r 13, r 14]) (by simp))).tr (R11.on (S := [r0 0, r0 1, r0 2, r0 3, r 7, r 8, r 9, r 10, r 11, r 12, r 13, r 14]) (by simp))).tr (R12.on (S := [r0 0, r0 1, r0 2, r0 3, r 7, r 8, r 9, r 10, r 11, r 12, r 13, r 14]) (by simp))).tr (R13.on (S := [r0 0, r0 1, r0 2, r0 3, r 7, r 8, r 9, r 10, r 11, r 12, r 13, r 14]) (by simp))).tr (R14.on (S := [r0 0, r0 1, r0 2, r0 3, r 7, r 8, r 9, r 10, r 11, r 12, r 13, r 14]) (by simp))), g11, g12, g14, g13⟩
