/-! the class as it is made -/
def kL : List (Nat × Nat) := kc_ix ++ ((5, 99) :: kobc)
def kcC (i : Nat) : Bool := i == 5 || i == 6 || i == 7
theorem kq_off (b c i k : Nat) : kqF b c i k = (if kcC i = true then c else b) + kqF 0 0 i k := by
  by_cases h5 : i = 5
  · subst h5
    show (if k = 99 then c + 1 else c + 2 + k) = c + (if k = 99 then 0 + 1 else 0 + 2 + k)
    split <;> omega
  by_cases h6 : i = 6
  · subst h6
    show (if k = 99 then c + 5 else c + 6 + k) = c + (if k = 99 then 0 + 5 else 0 + 6 + k)
    split <;> omega
  by_cases h7 : i = 7
  · subst h7
    show (if k = 99 then c + 0 else c + 4 + k) = c + (if k = 99 then 0 + 0 else 0 + 4 + k)
    split <;> omega
  have hC : kcC i = false := by simp [kcC, h5, h6, h7]
  have e : ∀ b c, kqF b c i k = kqE b i k := fun b c => by
    unfold kqF
    rw [if_neg h5, if_neg h6, if_neg h7]
  rw [e, e, hC]
  show kqE b i k = b + kqE 0 i k
  unfold kqE
  by_cases h0 : i = 0
  · rw [if_pos h0, if_pos h0]; split <;> omega
  rw [if_neg h0, if_neg h0]
  by_cases h1 : i = 1
  · rw [if_pos h1, if_pos h1]; split <;> omega
  rw [if_neg h1, if_neg h1]
  by_cases h2 : i = 2
  · rw [if_pos h2, if_pos h2]; split <;> omega
  rw [if_neg h2, if_neg h2]
  by_cases h3 : i = 3
  · rw [if_pos h3, if_pos h3]; split <;> omega
  rw [if_neg h3, if_neg h3]
  by_cases h4 : i = 4
  · rw [if_pos h4, if_pos h4]; split <;> omega
  rw [if_neg h4, if_neg h4]
  by_cases h8 : i < 32
  · rw [if_pos h8, if_pos h8]; split <;> omega
  rw [if_neg h8, if_neg h8]
  split <;> omega
theorem kd1 : ∀ p ∈ kL, ∀ q ∈ kL, kcC p.1 = kcC q.1 → kqF 0 0 p.1 p.2 = kqF 0 0 q.1 q.2 → p = q := by decide +kernel
theorem kd2 : ∀ p ∈ kL, (kcC p.1 = true → kqF 0 0 p.1 p.2 < 13) ∧ (kcC p.1 = false → kqF 0 0 p.1 p.2 < 206 ∧ kqF 0 0 p.1 p.2 ≠ 8 ∧ kqF 0 0 p.1 p.2 ≠ 9 ∧ kqF 0 0 p.1 p.2 ≠ 10) := by decide +kernel
theorem kd3 : ∀ p ∈ ((5, 99) :: kobc), p ∉ kc_ix := by decide +kernel
theorem kd4 : ((5, 99) : Nat × Nat) ∉ kc_ix ++ kobc := by decide +kernel
theorem kd5 : ∀ p ∈ kc_ix ++ kobc, p ∈ kL := fun p hp => (List.mem_append.mp hp).elim (fun h => List.mem_append_left _ h) (fun h => List.mem_append_right _ (List.mem_cons_of_mem _ h))
section FRS
variable {b c o : Nat}
theorem kq_inj (hbc : b + 206 ≤ c) : ∀ p ∈ kL, ∀ q ∈ kL, kqF b c p.1 p.2 = kqF b c q.1 q.2 → p = q := by
  intro p hp q hq e
  rw [kq_off b c p.1, kq_off b c q.1] at e
  have hp2 := kd2 p hp
  have hq2 := kd2 q hq
  cases h1 : kcC p.1 <;> cases h2 : kcC q.1
  · rw [h1, h2] at e
    exact kd1 p hp q hq (h1.trans h2.symm) (Nat.add_left_cancel e)
  · rw [h1, h2] at e
    have e : b + kqF 0 0 p.1 p.2 = c + kqF 0 0 q.1 q.2 := e
    have := (hp2.2 h1).1
    omega
  · rw [h1, h2] at e
    have e : c + kqF 0 0 p.1 p.2 = b + kqF 0 0 q.1 q.2 := e
    have := (hq2.2 h2).1
    omega
  · rw [h1, h2] at e
    exact kd1 p hp q hq (h1.trans h2.symm) (Nat.add_left_cancel e)
theorem kq_rng (hbc : b + 206 ≤ c) : ∀ p ∈ kL, b ≤ kqF b c p.1 p.2 ∧ kqF b c p.1 p.2 < c + 17 := by
  intro p hp
  have hp2 := kd2 p hp
  rw [kq_off b c p.1]
  cases h1 : kcC p.1
  · show b ≤ b + _ ∧ b + _ < _
    have := (hp2.2 h1).1
    omega
  · show b ≤ c + _ ∧ c + _ < _
    have := hp2.1 h1
    omega
theorem kq_far (hbc : b + 206 ≤ c) {z : Nat} (h : z < b ∨ z = b + 8 ∨ z = b + 9 ∨ z = b + 10 ∨ (c + 13 ≤ z)) : ∀ p ∈ kL, z ≠ kqF b c p.1 p.2 := by
  intro p hp e
  have hp2 := kd2 p hp
  rw [kq_off b c p.1] at e
  cases h1 : kcC p.1
  · rw [h1] at e
    have e : z = b + kqF 0 0 p.1 p.2 := e
    have := hp2.2 h1
    omega
  · rw [h1] at e
    have e : z = c + kqF 0 0 p.1 p.2 := e
    have := hp2.1 h1
    omega
theorem kI_F (hbc : b + 206 ≤ c) : KInj (kqF b c) := fun p hp q hq e => kq_inj hbc p (List.mem_append_left _ hp) q (List.mem_append_left _ hq) e
theorem nKE (hbc : b + 206 ≤ c) : ∀ p ∈ ((5, 99) :: kobc), ¬ KE (kqF b c) (kqF b c p.1 p.2) := fun p hp ⟨q, hq, e⟩ => kd3 p hp (kq_inj hbc p (List.mem_append_right _ hp) q (List.mem_append_left _ hq) e ▸ hq)
theorem kad_new (ho : o + 1 = b) (hbc : b + 206 ≤ c) (ko : Nat → Nat) (q : Nat → Nat → Nat) : ∀ i j, i < 8 → j < 8 → kad o (b + 8) (b + 9) (b + 10) (c + 13) (c + 15) (c + 14) (c + 16) ko q i = kad o (b + 8) (b + 9) (b + 10) (c + 13) (c + 15) (c + 14) (c + 16) ko q j → i = j := by
  intro i j hi hj e
  rcases (show i = 0 ∨ i = 1 ∨ i = 2 ∨ i = 3 ∨ i = 4 ∨ i = 5 ∨ i = 6 ∨ i = 7 by omega) with rfl | rfl | rfl | rfl | rfl | rfl | rfl | rfl <;> rcases (show j = 0 ∨ j = 1 ∨ j = 2 ∨ j = 3 ∨ j = 4 ∨ j = 5 ∨ j = 6 ∨ j = 7 by omega) with rfl | rfl | rfl | rfl | rfl | rfl | rfl | rfl <;> first | rfl | (exfalso; simp only [kad] at e; omega)
theorem kad_is (ho : o + 1 = b) (hbc : b + 206 ≤ c) (ko : Nat → Nat) (q : Nat → Nat → Nat) : ∀ i, i < 8 → (kad o (b + 8) (b + 9) (b + 10) (c + 13) (c + 15) (c + 14) (c + 16) ko q i < b ∨ kad o (b + 8) (b + 9) (b + 10) (c + 13) (c + 15) (c + 14) (c + 16) ko q i = b + 8 ∨ kad o (b + 8) (b + 9) (b + 10) (c + 13) (c + 15) (c + 14) (c + 16) ko q i = b + 9 ∨ kad o (b + 8) (b + 9) (b + 10) (c + 13) (c + 15) (c + 14) (c + 16) ko q i = b + 10 ∨ c + 13 ≤ kad o (b + 8) (b + 9) (b + 10) (c + 13) (c + 15) (c + 14) (c + 16) ko q i) ∧ o ≤ kad o (b + 8) (b + 9) (b + 10) (c + 13) (c + 15) (c + 14) (c + 16) ko q i ∧ kad o (b + 8) (b + 9) (b + 10) (c + 13) (c + 15) (c + 14) (c + 16) ko q i < c + 17 := by
  intro i hi
  have key : ∀ z, (z = o ∨ z = b + 8 ∨ z = b + 9 ∨ z = b + 10 ∨ z = c + 13 ∨ z = c + 14 ∨ z = c + 15 ∨ z = c + 16) → (z < b ∨ z = b + 8 ∨ z = b + 9 ∨ z = b + 10 ∨ c + 13 ≤ z) ∧ o ≤ z ∧ z < c + 17 := fun z h => by omega
  refine key _ ?_
  rcases (show i = 0 ∨ i = 1 ∨ i = 2 ∨ i = 3 ∨ i = 4 ∨ i = 5 ∨ i = 6 ∨ i = 7 by omega) with rfl | rfl | rfl | rfl | rfl | rfl | rfl | rfl
  · exact Or.inl rfl
  · exact Or.inr (Or.inr (Or.inr (Or.inr (Or.inl rfl))))
  · exact Or.inr (Or.inr (Or.inr (Or.inr (Or.inr (Or.inr (Or.inl rfl))))))
  · exact Or.inr (Or.inl rfl)
  · exact Or.inr (Or.inr (Or.inl rfl))
  · exact Or.inr (Or.inr (Or.inr (Or.inl rfl)))
  · exact Or.inr (Or.inr (Or.inr (Or.inr (Or.inr (Or.inl rfl)))))
  · exact Or.inr (Or.inr (Or.inr (Or.inr (Or.inr (Or.inr (Or.inr (rfl)))))))
theorem kF_16 (j : Nat) : kqF b c (16 + j) = kqE b (16 + j) := funext fun k => by
  unfold kqF
  rw [if_neg (by omega), if_neg (by omega), if_neg (by omega)]
theorem kF_32 (j : Nat) : kqF b c (32 + j) = kqE b (32 + j) := funext fun k => by
  unfold kqF
  rw [if_neg (by omega), if_neg (by omega), if_neg (by omega)]
theorem kF_4 : kqF b c 4 = kqE b 4 := rfl
theorem kF_e : edr (kqF b c) = edr (kqE b) := funext fun k => by
  match k with
  | 0 => rfl
  | 1 => rfl
  | 2 => rfl
  | k + 3 => rfl
end FRS
/-- what the fill writes -/
def fiK (kq : Nat → Nat → Nat) (z : Nat) : Prop := (∃ q ∈ edL, z = kq q.1 q.2) ∨ ∃ j k, j < 16 ∧ k < 4 ∧ z = kq (16 + j) k
theorem fiK_o {kq : Nat → Nat → Nat} {a : Nat} (h : Out kq a) : ¬ fiK kq a := by
  rintro (⟨q, hq, e⟩ | ⟨j, k, hj, hk, e⟩)
  · exact h q (edL_in q hq).1 e
  · exact h (16 + j, k) (ix_b j hj k hk) e
theorem fiK_n {kq : Nat → Nat → Nat} (hI : KInj kq) {p : Nat × Nat} (hp : p ∈ kc_ix) (h16 : p.1 < 16) (hn : p ∉ edL) : ¬ fiK kq (kq p.1 p.2) := by
  rintro (⟨q, hq, e⟩ | ⟨j, k, hj, hk, e⟩)
  · exact hn (hI p hp q (edL_in q hq).1 e ▸ hq)
  · have := hI p hp (16 + j, k) (ix_b j hj k hk) e
    rw [this] at h16
    simp only at h16
    omega
theorem k_nine : leN (fun i => if i = 0 then (nI 9).toInt8.toInt32 else 0) 32 = 9 := by decide +kernel
/-- the class's values as it is made -/
theorem cx_new {X : vM} {b c : Nat} {ts : Nat → Nat} (hbc : b + 206 ≤ c) (hts : ∀ k, k < 9 → ts k < b) (hv : ∀ k, k < 9 → ∀ j, j < st_l k → X.1 (ts k) j = st_v k j) (h0 : ∀ z j, b ≤ z → X.2 z j = 0) : Cx (LF_Ed_fillMultiples (LF_Pt_setAffine (stI X (b + 13) 0 (nI 9).toInt8.toInt32) ((kqE b) 4) (ts 1) (ts 2)) (edr (kqE b)) (fun j => (kqE b) (16 + j)) ((kqE b) 4) ts) (kqF b c) ts := by
  have hI := kI_F hbc
  have e16 : (fun j => kqE b (16 + j)) = (fun j => kqF b c (16 + j)) := funext fun j => (kF_16 j).symm
  rw [e16, ← kF_4 (c := c), ← kF_e (c := c)]
  have hO : ∀ k, k < 9 → Out (kqF b c) (ts k) := fun k hk p hp => kq_far hbc (Or.inl (hts k hk)) p (List.mem_append_left _ hp)
  obtain ⟨X9, e9⟩ : ∃ Y, stI X (b + 13) 0 (nI 9).toInt8.toInt32 = Y := ⟨_, rfl⟩
  rw [e9]
  have v9 : ∀ k, k < 9 → ∀ j, j < st_l k → X9.1 (ts k) j = st_v k j := fun k hk j hj => by rw [← e9]; exact hv k hk j hj
  obtain ⟨hE, wA⟩ := fi_aff (X := X9) hI (hO 1 (by decide)) (hO 2 (by decide)) (fe_st1 (v9 1 (by decide))) (fe_st2 (v9 2 (by decide)))
  obtain ⟨XA, eA⟩ : ∃ Y, LF_Pt_setAffine X9 (kqF b c 4) (ts 1) (ts 2) = Y := ⟨_, rfl⟩
  rw [eA] at hE wA ⊢
  have wA' : onP (fiK (kqF b c)) X9 XA := onP.l wA (fun x hx => Or.inl (by
    simp only [List.mem_cons, List.not_mem_nil, or_false] at hx
    rcases hx with rfl | rfl | rfl | rfl
    · exact ⟨(4, 0), by decide, rfl⟩
    · exact ⟨(4, 1), by decide, rfl⟩
    · exact ⟨(4, 2), by decide, rfl⟩
    · exact ⟨(4, 3), by decide, rfl⟩))
  have tA : ∀ k, k < 9 → XA.1 (ts k) = X9.1 (ts k) := fun k hk => (wA' _ (fiK_o (hO k hk))).1
  have hF := fi_fill (X := XA) hI (hO 0 (by decide)) (fe_st0 (fun j hj => by rw [tA 0 (by decide)]; exact v9 0 (by decide) j hj)) hE
  have wF : onP (fiK (kqF b c)) XA (LF_Ed_fillMultiples XA (edr (kqF b c)) (fun j => kqF b c (16 + j)) (kqF b c 4) ts) := on_fill (fun j hj k hk => Or.inr ⟨j, k, hj, hk, rfl⟩) (fun k hk => Or.inl ⟨(4, k), by
    rcases (show k = 0 ∨ k = 1 ∨ k = 2 ∨ k = 3 by omega) with rfl | rfl | rfl | rfl <;> decide, rfl⟩) (fun k h1 h2 => Or.inl ⟨(2, k), by
    rcases (show k = 7 ∨ k = 8 ∨ k = 9 ∨ k = 10 ∨ k = 11 ∨ k = 12 ∨ k = 13 ∨ k = 14 by omega) with rfl | rfl | rfl | rfl | rfl | rfl | rfl | rfl <;> decide, by
    obtain ⟨m, rfl⟩ : ∃ m, k = m + 3 := ⟨k - 3, by omega⟩
    rfl⟩)
  obtain ⟨XF, eF⟩ : ∃ Y, LF_Ed_fillMultiples XA (edr (kqF b c)) (fun j => kqF b c (16 + j)) (kqF b c 4) ts = Y := ⟨_, rfl⟩
  rw [eF] at hF wF ⊢
  have tF : ∀ k, k < 9 → XF.1 (ts k) = X9.1 (ts k) := fun k hk => ((wF _ (fiK_o (hO k hk))).1).trans (tA k hk)
  have b25 : XF.2 (kqF b c 2 5) = X9.2 (kqF b c 2 5) := ((wF _ (fiK_n hI (p := (2, 5)) (by decide +kernel) (by decide) (by decide))).2).trans (wA' _ (fiK_n hI (p := (2, 5)) (by decide +kernel) (by decide) (by decide))).2
  have b12 : XF.2 (kqF b c 1 2) = X9.2 (kqF b c 1 2) := ((wF _ (fiK_n hI (p := (1, 2)) (by decide +kernel) (by decide) (by decide))).2).trans (wA' _ (fiK_n hI (p := (1, 2)) (by decide +kernel) (by decide) (by decide))).2
  refine ⟨hO, fe_st3 (fun j hj => by rw [tF 3 (by decide)]; exact v9 3 (by decide) j hj), fe_st4 (fun j hj => by rw [tF 4 (by decide)]; exact v9 4 (by decide) j hj), fun j hj => by rw [tF 6 (by decide)]; exact v9 6 (by decide) j hj, fun j hj => ?_, fun j h1 h2 => hF.2.1 j h1 h2, ?_⟩
  · rw [b25, ← e9]
    show (if b + 31 + 5 = b + 13 ∧ j = 0 then _ else X.2 (b + 31 + 5) j) = 0
    rw [if_neg (by omega)]
    exact h0 _ j (by omega)
  · rw [b12, ← e9]
    refine (leN_ext 32 (fun i hi => ?_)).trans k_nine
    show (if b + 11 + 2 = b + 13 ∧ i = 0 then _ else X.2 (b + 11 + 2) i) = if i = 0 then _ else _
    by_cases hi0 : i = 0
    · rw [if_pos ⟨rfl, hi0⟩, if_pos hi0]
    · rw [if_neg (fun z => hi0 z.2), if_neg hi0]
      exact h0 _ i (by omega)

set_option maxHeartbeats 4000000 in
set_option maxRecDepth 100000 in
theorem kc_new {D : va_G} {g : ClassId → FieldType → Prop} {H : Heap} {ts : Nat → Nat} {b c_ : Nat} (hbc : b + 206 ≤ c_) (hB : obs_ D H b [((c_ + 15), 9, [.ref (c_ + 16), .int 0]), ((c_ + 13), 9, [.ref (c_ + 14), .int 0]), ((c_ + 0), 11, [.ref (b + 23), .ref (c_ + 1), .ref (c_ + 5), .ref (c_ + 7), .ref (c_ + 8), .ref (c_ + 9), .ref (c_ + 10), .ref (c_ + 11), .ref (c_ + 12)]), ((c_ + 5), 8, [.ref (c_ + 6)]), ((c_ + 1), 7, [.ref (c_ + 2), .ref (c_ + 3), .ref (c_ + 4), .int 0, .int 0]), ((b + 23), 6, [.ref (b + 0), .ref (b + 24), .ref (b + 29), .ref (b + 34), .ref (b + 35), .ref (b + 36), .ref (b + 37), .ref (b + 38), .ref (b + 39), .ref (b + 40), .ref (b + 41), .ref (b + 42), .ref (b + 43), .ref (b + 44), .ref (b + 45)]), ((b + 29), 4, [.ref (b + 30), .ref (b + 31), .ref (b + 32), .ref (b + 33)]), ((b + 24), 4, [.ref (b + 25), .ref (b + 26), .ref (b + 27), .ref (b + 28)]), ((b + 11), 3, [.ref (b + 0), .ref (b + 12), .ref (b + 13), .ref (b + 14), .ref (b + 15), .ref (b + 16), .ref (b + 17), .ref (b + 18), .ref (b + 19), .ref (b + 20), .ref (b + 21), .ref (b + 22)]), ((b + 0), 2, [.ref (b + 1), .ref (b + 2), .ref (b + 3), .ref (b + 4), .ref (b + 5), .ref (b + 6), .ref (b + 7)])]) (hA : sx_AR g H [((c_ + 16), .byte, 1024), ((c_ + 14), .byte, 1024), ((c_ + 12), .byte, 32), ((c_ + 11), .byte, 32), ((c_ + 10), .byte, 32), ((c_ + 9), .byte, 32), ((c_ + 8), .byte, 32), ((c_ + 7), .byte, 64), ((c_ + 6), .long, 64), ((c_ + 4), .byte, 128), ((c_ + 3), .long, 80), ((c_ + 2), .long, 8), ((b + 45), .long, 10), ((b + 44), .long, 10), ((b + 43), .long, 10), ((b + 42), .long, 10), ((b + 41), .long, 10), ((b + 40), .long, 10), ((b + 39), .long, 10), ((b + 38), .long, 10), ((b + 37), .byte, 32), ((b + 36), .byte, 32), ((b + 33), .long, 10), ((b + 32), .long, 10), ((b + 31), .long, 10), ((b + 30), .long, 10), ((b + 28), .long, 10), ((b + 27), .long, 10), ((b + 26), .long, 10), ((b + 25), .long, 10), ((b + 22), .long, 10), ((b + 21), .long, 10), ((b + 20), .long, 10), ((b + 19), .long, 10), ((b + 18), .long, 10), ((b + 17), .long, 10), ((b + 16), .long, 10), ((b + 15), .long, 10), ((b + 14), .long, 10), ((b + 13), .byte, 32), ((b + 12), .byte, 32), ((b + 10), .int, 4), ((b + 9), .byte, 64), ((b + 7), .long, 10), ((b + 6), .long, 10), ((b + 5), .long, 10), ((b + 4), .long, 10), ((b + 3), .long, 10), ((b + 2), .long, 10), ((b + 1), .long, 10)]) (y3 : rx_ g R_Ad H (b + 34) 16 (fun j => (b + 24) + 22 + 10 * j)) (y4 : rx_ g R_Ad H (b + 35) 16 (fun j => (b + 24) + 22 + 10 * j + 5)) (h4 : ∀ j, j < 16 → o4_ D g H 5 ((b + 24) + 22 + 10 * j) (fun k => (b + 24) + 22 + 10 * j + 1 + k) ∧ o4_ D g H 5 ((b + 24) + 22 + 10 * j + 5) (fun k => (b + 24) + 22 + 10 * j + 5 + 1 + k)) (hst : st_H D g (KE (kqF b c_)) H ts) : kc_ D g (KE (kqF b c_)) H (kqF b c_) ts := by
  refine ⟨fun x hx => ?_, fun y hy => ?_, ?_, ?_, hst⟩
  · simp only [kc_ob, List.mem_cons, List.not_mem_nil, or_false] at hx
    rcases hx with rfl | rfl | rfl | rfl | rfl | rfl | rfl
    · exact ⟨(hB ((b + 0), 2, [.ref (b + 1), .ref (b + 2), .ref (b + 3), .ref (b + 4), .ref (b + 5), .ref (b + 6), .ref (b + 7)]) (List.mem_of_getElem? (i := 9) rfl)).2, nKE hbc (0, 99) (List.mem_of_getElem? (i := 1) rfl)⟩
    · exact ⟨(hB ((b + 11), 3, [.ref (b + 0), .ref (b + 12), .ref (b + 13), .ref (b + 14), .ref (b + 15), .ref (b + 16), .ref (b + 17), .ref (b + 18), .ref (b + 19), .ref (b + 20), .ref (b + 21), .ref (b + 22)]) (List.mem_of_getElem? (i := 8) rfl)).2, nKE hbc (1, 99) (List.mem_of_getElem? (i := 2) rfl)⟩
    · exact ⟨(hB ((b + 23), 6, [.ref (b + 0), .ref (b + 24), .ref (b + 29), .ref (b + 34), .ref (b + 35), .ref (b + 36), .ref (b + 37), .ref (b + 38), .ref (b + 39), .ref (b + 40), .ref (b + 41), .ref (b + 42), .ref (b + 43), .ref (b + 44), .ref (b + 45)]) (List.mem_of_getElem? (i := 5) rfl)).2, nKE hbc (2, 99) (List.mem_of_getElem? (i := 3) rfl)⟩
    · exact ⟨(hB ((b + 24), 4, [.ref (b + 25), .ref (b + 26), .ref (b + 27), .ref (b + 28)]) (List.mem_of_getElem? (i := 7) rfl)).2, nKE hbc (3, 99) (List.mem_of_getElem? (i := 4) rfl)⟩
    · exact ⟨(hB ((b + 29), 4, [.ref (b + 30), .ref (b + 31), .ref (b + 32), .ref (b + 33)]) (List.mem_of_getElem? (i := 6) rfl)).2, nKE hbc (4, 99) (List.mem_of_getElem? (i := 5) rfl)⟩
    · exact ⟨(hB ((c_ + 5), 8, [.ref (c_ + 6)]) (List.mem_of_getElem? (i := 3) rfl)).2, nKE hbc (6, 99) (List.mem_of_getElem? (i := 6) rfl)⟩
    · exact ⟨(hB ((c_ + 0), 11, [.ref (b + 23), .ref (c_ + 1), .ref (c_ + 5), .ref (c_ + 7), .ref (c_ + 8), .ref (c_ + 9), .ref (c_ + 10), .ref (c_ + 11), .ref (c_ + 12)]) (List.mem_of_getElem? (i := 2) rfl)).2, nKE hbc (7, 99) (List.mem_of_getElem? (i := 7) rfl)⟩
  · simp only [kc_arr, List.mem_cons, List.not_mem_nil, or_false] at hy
    rcases hy with rfl | rfl | rfl | rfl | rfl | rfl | rfl | rfl | rfl | rfl | rfl | rfl | rfl | rfl | rfl | rfl | rfl | rfl | rfl | rfl | rfl | rfl | rfl | rfl | rfl | rfl | rfl | rfl | rfl | rfl | rfl | rfl | rfl | rfl | rfl | rfl | rfl | rfl | rfl | rfl | rfl | rfl | rfl | rfl | rfl | rfl
    · exact ⟨(hA ((b + 1), .long, 10) (List.mem_of_getElem? (i := 49) rfl)).1, (hA ((b + 1), .long, 10) (List.mem_of_getElem? (i := 49) rfl)).2, (0, 0), by decide +kernel, rfl⟩
    · exact ⟨(hA ((b + 2), .long, 10) (List.mem_of_getElem? (i := 48) rfl)).1, (hA ((b + 2), .long, 10) (List.mem_of_getElem? (i := 48) rfl)).2, (0, 1), by decide +kernel, rfl⟩
    · exact ⟨(hA ((b + 3), .long, 10) (List.mem_of_getElem? (i := 47) rfl)).1, (hA ((b + 3), .long, 10) (List.mem_of_getElem? (i := 47) rfl)).2, (0, 2), by decide +kernel, rfl⟩
    · exact ⟨(hA ((b + 4), .long, 10) (List.mem_of_getElem? (i := 46) rfl)).1, (hA ((b + 4), .long, 10) (List.mem_of_getElem? (i := 46) rfl)).2, (0, 3), by decide +kernel, rfl⟩
    · exact ⟨(hA ((b + 5), .long, 10) (List.mem_of_getElem? (i := 45) rfl)).1, (hA ((b + 5), .long, 10) (List.mem_of_getElem? (i := 45) rfl)).2, (0, 4), by decide +kernel, rfl⟩
    · exact ⟨(hA ((b + 6), .long, 10) (List.mem_of_getElem? (i := 44) rfl)).1, (hA ((b + 6), .long, 10) (List.mem_of_getElem? (i := 44) rfl)).2, (0, 5), by decide +kernel, rfl⟩
    · exact ⟨(hA ((b + 7), .long, 10) (List.mem_of_getElem? (i := 43) rfl)).1, (hA ((b + 7), .long, 10) (List.mem_of_getElem? (i := 43) rfl)).2, (0, 6), by decide +kernel, rfl⟩
    · exact ⟨(hA ((b + 12), .byte, 32) (List.mem_of_getElem? (i := 40) rfl)).1, (hA ((b + 12), .byte, 32) (List.mem_of_getElem? (i := 40) rfl)).2, (1, 1), by decide +kernel, rfl⟩
    · exact ⟨(hA ((b + 13), .byte, 32) (List.mem_of_getElem? (i := 39) rfl)).1, (hA ((b + 13), .byte, 32) (List.mem_of_getElem? (i := 39) rfl)).2, (1, 2), by decide +kernel, rfl⟩
    · exact ⟨(hA ((b + 14), .long, 10) (List.mem_of_getElem? (i := 38) rfl)).1, (hA ((b + 14), .long, 10) (List.mem_of_getElem? (i := 38) rfl)).2, (1, 3), by decide +kernel, rfl⟩
    · exact ⟨(hA ((b + 15), .long, 10) (List.mem_of_getElem? (i := 37) rfl)).1, (hA ((b + 15), .long, 10) (List.mem_of_getElem? (i := 37) rfl)).2, (1, 4), by decide +kernel, rfl⟩
    · exact ⟨(hA ((b + 16), .long, 10) (List.mem_of_getElem? (i := 36) rfl)).1, (hA ((b + 16), .long, 10) (List.mem_of_getElem? (i := 36) rfl)).2, (1, 5), by decide +kernel, rfl⟩
    · exact ⟨(hA ((b + 17), .long, 10) (List.mem_of_getElem? (i := 35) rfl)).1, (hA ((b + 17), .long, 10) (List.mem_of_getElem? (i := 35) rfl)).2, (1, 6), by decide +kernel, rfl⟩
    · exact ⟨(hA ((b + 18), .long, 10) (List.mem_of_getElem? (i := 34) rfl)).1, (hA ((b + 18), .long, 10) (List.mem_of_getElem? (i := 34) rfl)).2, (1, 7), by decide +kernel, rfl⟩
    · exact ⟨(hA ((b + 19), .long, 10) (List.mem_of_getElem? (i := 33) rfl)).1, (hA ((b + 19), .long, 10) (List.mem_of_getElem? (i := 33) rfl)).2, (1, 8), by decide +kernel, rfl⟩
    · exact ⟨(hA ((b + 20), .long, 10) (List.mem_of_getElem? (i := 32) rfl)).1, (hA ((b + 20), .long, 10) (List.mem_of_getElem? (i := 32) rfl)).2, (1, 9), by decide +kernel, rfl⟩
    · exact ⟨(hA ((b + 21), .long, 10) (List.mem_of_getElem? (i := 31) rfl)).1, (hA ((b + 21), .long, 10) (List.mem_of_getElem? (i := 31) rfl)).2, (1, 10), by decide +kernel, rfl⟩
    · exact ⟨(hA ((b + 22), .long, 10) (List.mem_of_getElem? (i := 30) rfl)).1, (hA ((b + 22), .long, 10) (List.mem_of_getElem? (i := 30) rfl)).2, (1, 11), by decide +kernel, rfl⟩
    · exact ⟨(hA ((b + 36), .byte, 32) (List.mem_of_getElem? (i := 21) rfl)).1, (hA ((b + 36), .byte, 32) (List.mem_of_getElem? (i := 21) rfl)).2, (2, 5), by decide +kernel, rfl⟩
    · exact ⟨(hA ((b + 37), .byte, 32) (List.mem_of_getElem? (i := 20) rfl)).1, (hA ((b + 37), .byte, 32) (List.mem_of_getElem? (i := 20) rfl)).2, (2, 6), by decide +kernel, rfl⟩
    · exact ⟨(hA ((b + 38), .long, 10) (List.mem_of_getElem? (i := 19) rfl)).1, (hA ((b + 38), .long, 10) (List.mem_of_getElem? (i := 19) rfl)).2, (2, 7), by decide +kernel, rfl⟩
    · exact ⟨(hA ((b + 39), .long, 10) (List.mem_of_getElem? (i := 18) rfl)).1, (hA ((b + 39), .long, 10) (List.mem_of_getElem? (i := 18) rfl)).2, (2, 8), by decide +kernel, rfl⟩
    · exact ⟨(hA ((b + 40), .long, 10) (List.mem_of_getElem? (i := 17) rfl)).1, (hA ((b + 40), .long, 10) (List.mem_of_getElem? (i := 17) rfl)).2, (2, 9), by decide +kernel, rfl⟩
    · exact ⟨(hA ((b + 41), .long, 10) (List.mem_of_getElem? (i := 16) rfl)).1, (hA ((b + 41), .long, 10) (List.mem_of_getElem? (i := 16) rfl)).2, (2, 10), by decide +kernel, rfl⟩
    · exact ⟨(hA ((b + 42), .long, 10) (List.mem_of_getElem? (i := 15) rfl)).1, (hA ((b + 42), .long, 10) (List.mem_of_getElem? (i := 15) rfl)).2, (2, 11), by decide +kernel, rfl⟩
    · exact ⟨(hA ((b + 43), .long, 10) (List.mem_of_getElem? (i := 14) rfl)).1, (hA ((b + 43), .long, 10) (List.mem_of_getElem? (i := 14) rfl)).2, (2, 12), by decide +kernel, rfl⟩
    · exact ⟨(hA ((b + 44), .long, 10) (List.mem_of_getElem? (i := 13) rfl)).1, (hA ((b + 44), .long, 10) (List.mem_of_getElem? (i := 13) rfl)).2, (2, 13), by decide +kernel, rfl⟩
    · exact ⟨(hA ((b + 45), .long, 10) (List.mem_of_getElem? (i := 12) rfl)).1, (hA ((b + 45), .long, 10) (List.mem_of_getElem? (i := 12) rfl)).2, (2, 14), by decide +kernel, rfl⟩
    · exact ⟨(hA ((b + 25), .long, 10) (List.mem_of_getElem? (i := 29) rfl)).1, (hA ((b + 25), .long, 10) (List.mem_of_getElem? (i := 29) rfl)).2, (3, 0), by decide +kernel, rfl⟩
    · exact ⟨(hA ((b + 26), .long, 10) (List.mem_of_getElem? (i := 28) rfl)).1, (hA ((b + 26), .long, 10) (List.mem_of_getElem? (i := 28) rfl)).2, (3, 1), by decide +kernel, rfl⟩
    · exact ⟨(hA ((b + 27), .long, 10) (List.mem_of_getElem? (i := 27) rfl)).1, (hA ((b + 27), .long, 10) (List.mem_of_getElem? (i := 27) rfl)).2, (3, 2), by decide +kernel, rfl⟩
    · exact ⟨(hA ((b + 28), .long, 10) (List.mem_of_getElem? (i := 26) rfl)).1, (hA ((b + 28), .long, 10) (List.mem_of_getElem? (i := 26) rfl)).2, (3, 3), by decide +kernel, rfl⟩
    · exact ⟨(hA ((b + 30), .long, 10) (List.mem_of_getElem? (i := 25) rfl)).1, (hA ((b + 30), .long, 10) (List.mem_of_getElem? (i := 25) rfl)).2, (4, 0), by decide +kernel, rfl⟩
    · exact ⟨(hA ((b + 31), .long, 10) (List.mem_of_getElem? (i := 24) rfl)).1, (hA ((b + 31), .long, 10) (List.mem_of_getElem? (i := 24) rfl)).2, (4, 1), by decide +kernel, rfl⟩
    · exact ⟨(hA ((b + 32), .long, 10) (List.mem_of_getElem? (i := 23) rfl)).1, (hA ((b + 32), .long, 10) (List.mem_of_getElem? (i := 23) rfl)).2, (4, 2), by decide +kernel, rfl⟩
    · exact ⟨(hA ((b + 33), .long, 10) (List.mem_of_getElem? (i := 22) rfl)).1, (hA ((b + 33), .long, 10) (List.mem_of_getElem? (i := 22) rfl)).2, (4, 3), by decide +kernel, rfl⟩
    · exact ⟨(hA ((c_ + 2), .long, 8) (List.mem_of_getElem? (i := 11) rfl)).1, (hA ((c_ + 2), .long, 8) (List.mem_of_getElem? (i := 11) rfl)).2, (5, 0), by decide +kernel, rfl⟩
    · exact ⟨(hA ((c_ + 3), .long, 80) (List.mem_of_getElem? (i := 10) rfl)).1, (hA ((c_ + 3), .long, 80) (List.mem_of_getElem? (i := 10) rfl)).2, (5, 1), by decide +kernel, rfl⟩
    · exact ⟨(hA ((c_ + 4), .byte, 128) (List.mem_of_getElem? (i := 9) rfl)).1, (hA ((c_ + 4), .byte, 128) (List.mem_of_getElem? (i := 9) rfl)).2, (5, 2), by decide +kernel, rfl⟩
    · exact ⟨(hA ((c_ + 6), .long, 64) (List.mem_of_getElem? (i := 8) rfl)).1, (hA ((c_ + 6), .long, 64) (List.mem_of_getElem? (i := 8) rfl)).2, (6, 0), by decide +kernel, rfl⟩
    · exact ⟨(hA ((c_ + 7), .byte, 64) (List.mem_of_getElem? (i := 7) rfl)).1, (hA ((c_ + 7), .byte, 64) (List.mem_of_getElem? (i := 7) rfl)).2, (7, 3), by decide +kernel, rfl⟩
    · exact ⟨(hA ((c_ + 8), .byte, 32) (List.mem_of_getElem? (i := 6) rfl)).1, (hA ((c_ + 8), .byte, 32) (List.mem_of_getElem? (i := 6) rfl)).2, (7, 4), by decide +kernel, rfl⟩
    · exact ⟨(hA ((c_ + 9), .byte, 32) (List.mem_of_getElem? (i := 5) rfl)).1, (hA ((c_ + 9), .byte, 32) (List.mem_of_getElem? (i := 5) rfl)).2, (7, 5), by decide +kernel, rfl⟩
    · exact ⟨(hA ((c_ + 10), .byte, 32) (List.mem_of_getElem? (i := 4) rfl)).1, (hA ((c_ + 10), .byte, 32) (List.mem_of_getElem? (i := 4) rfl)).2, (7, 6), by decide +kernel, rfl⟩
    · exact ⟨(hA ((c_ + 11), .byte, 32) (List.mem_of_getElem? (i := 3) rfl)).1, (hA ((c_ + 11), .byte, 32) (List.mem_of_getElem? (i := 3) rfl)).2, (7, 7), by decide +kernel, rfl⟩
    · exact ⟨(hA ((c_ + 12), .byte, 32) (List.mem_of_getElem? (i := 2) rfl)).1, (hA ((c_ + 12), .byte, 32) (List.mem_of_getElem? (i := 2) rfl)).2, (7, 8), by decide +kernel, rfl⟩
  · exact (y3.ext (w' := fun j => kqF b c_ (16 + j) 99) (fun j hj => by rw [kF_16, (kqE_16 b j 0 hj (by decide)).2])).rb (w := fun j => kqF b c_ (16 + j)) (nKE hbc (2, 3) (List.mem_of_getElem? (i := 8) rfl)) (fun j hj => ⟨(h4 j hj).1.ext (by rw [kF_16, (kqE_16 b j 0 hj (by decide)).2]) (fun k hk => by rw [kF_16, (kqE_16 b j k hj (by omega)).1]), nKE hbc (16 + j, 99) (List.mem_cons_of_mem _ (kob_16 j hj).1), fun k hk => ⟨(16 + j, k), ix_b j hj k hk, rfl⟩⟩)
  · exact (y4.ext (w' := fun j => kqF b c_ (32 + j) 99) (fun j hj => by rw [kF_32, (kqE_32 b j 0 (by decide)).2])).rb (w := fun j => kqF b c_ (32 + j)) (nKE hbc (2, 4) (List.mem_of_getElem? (i := 9) rfl)) (fun j hj => ⟨(h4 j hj).2.ext (by rw [kF_32, (kqE_32 b j 0 (by decide)).2]) (fun k hk => by rw [kF_32, (kqE_32 b j k (by omega)).1]), nKE hbc (32 + j, 99) (List.mem_cons_of_mem _ (kob_16 j hj).2), fun k hk => ⟨(32 + j, k), ix_32 j hj k hk, rfl⟩⟩)
set_option maxHeartbeats 4000000 in
set_option maxRecDepth 100000 in
theorem ks_new {D : va_G} {g : ClassId → FieldType → Prop} {H0 H1 H3 : Heap} {ts : Nat → Nat} {b o : Nat} {X : vM} {tp ms rs : Nat → Int32} {ks : Nat → Nat → Int32} (hP : up_K D g b o X ts H1) (ho : o + 1 = b) (h0 : H0.size = o) (hst : st_H D g (fun q => H0.size ≤ q) H0 ts) (hJ : sx_J g (fun q => H0.size ≤ q) H0 H3) (hk : ∀ z : Nat, z < H1.size → H3[z]? = H1[z]?) (hz : H1.size ≤ H3.size) (hv : ∀ k, k < 9 → ∀ j, j < st_l k → X.1 (ts k) j = st_v k j) (hx0 : ∀ z j, b ≤ z → X.2 z j = 0) : ∃ c_ : Nat, b + 206 ≤ c_ ∧ H1.size = c_ + 17 ∧ KC0 D (kqF b c_) ts o (c_ + 17) H3.size ∧ KS D g (kqF b c_) ts o (b + 8) (b + 9) (b + 10) o (c_ + 17) H3.size 2048 0 0 0 0 tp ms rs ks H3 := by
  obtain ⟨c_, hbc, hsz, hO, hB, hA, hV, hKA, y3, y4, h4⟩ := hP
  have hts : ∀ k, k < 9 → D.2 (st_i k) 0 < o ∧ ts k < o := fun k hk => ⟨Nat.not_le.mp (h0 ▸ (hst k hk).1), Nat.not_le.mp (h0 ▸ (hst k hk).2.2.2.1)⟩
  have hJ1 : sx_J g (fun _ => False) H1 H3 := sx_J.grow hz hk
  have hB3 := hB.grown hk
  have hA3 := hA.kept hJ1
  have hC0 : KC0 D (kqF b c_) ts o (c_ + 17) H3.size := ⟨kI_F hbc, fun p hp => ⟨by have := (kq_rng hbc p hp).1; omega, (kq_rng hbc p hp).2⟩, hts, by omega, fun p hp e => kd4 (kq_inj hbc (5, 99) (List.mem_append_right _ List.mem_cons_self) p (kd5 p hp) e ▸ hp)⟩
  have hS3 : st_H D g (KE (kqF b c_)) H3 ts := hst.news hJ (fun z hz => by
    obtain ⟨p, hp, rfl⟩ := hz
    have := (kq_rng hbc p (List.mem_append_left _ hp)).1
    omega)
  have hC : kc_ D g (KE (kqF b c_)) H3 (kqF b c_) ts := kc_new hbc hB3 hA3 (y3.kept (hk _ y3.lt)) (y4.kept (hk _ y4.lt)) (fun j hj => ⟨(h4 j hj).1.grown hz hk, (h4 j hj).2.grown hz hk⟩) hS3
  have hcx := cx_new (c := c_) hbc (fun k hk => by have := (hts k hk).2; omega) hv hx0
  rw [← hV] at hcx
  have same : ∀ z, z < c_ + 17 → (mm g H3).1 z = (mm g H1).1 z ∧ (mm g H3).2 z = (mm g H1).2 z := fun z hz => ⟨funext fun j => mml_same (hk z (by omega)) j, funext fun j => mmi_same (hk z (by omega)) j⟩
  have hcx3 : Cx (mm g H3) (kqF b c_) ts := hcx.mv (fun k hk => (same _ (by have := (hts k hk).2; omega)).1) (fun p hp => same _ (kq_rng hbc p (List.mem_append_left _ hp)).2)
  refine ⟨c_, hbc, hsz, hC0, c_ + 13, c_ + 15, c_ + 14, 1024, c_ + 16, 1024, fun _ => 0, fun _ _ => 0, fun _ => false, 0, 0, rfl, Nat.le_refl _, hO.grown hk, ?_, ?_, ⟨fun _ => .null, hKA.kept (hk _ hKA.lt), fun k hk => absurd hk (Nat.not_lt_zero k)⟩, ?_, ?_, hC, ?_, ?_, ?_⟩
  · exact ⟨(hB3 ((c_ + 13), 9, [.ref (c_ + 14), .int 0]) (List.mem_of_getElem? (i := 1) rfl)).2, (hA3 ((c_ + 14), .byte, 1024) (List.mem_of_getElem? (i := 1) rfl)).1, (hA3 ((c_ + 14), .byte, 1024) (List.mem_of_getElem? (i := 1) rfl)).2, by decide, 0, by decide, by decide⟩
  · exact ⟨(hB3 ((c_ + 15), 9, [.ref (c_ + 16), .int 0]) (List.mem_of_getElem? (i := 0) rfl)).2, (hA3 ((c_ + 16), .byte, 1024) (List.mem_of_getElem? (i := 0) rfl)).1, (hA3 ((c_ + 16), .byte, 1024) (List.mem_of_getElem? (i := 0) rfl)).2, by decide, 0, by decide, by decide⟩
  · exact (hA3 ((b + 9), .byte, 64) (List.mem_of_getElem? (i := 42) rfl)).1
  · exact (hA3 ((b + 10), .int, 4) (List.mem_of_getElem? (i := 41) rfl)).1
  · exact ⟨0, 0, (hB3 ((c_ + 1), 7, [.ref (c_ + 2), .ref (c_ + 3), .ref (c_ + 4), .int 0, .int 0]) (List.mem_of_getElem? (i := 4) rfl)).2⟩
  · refine ⟨kad_new ho hbc _ _, fun i hi => ?_⟩
    obtain ⟨q1, q2, q3⟩ := kad_is ho hbc (fun _ => 0) (fun _ _ => 0) i hi
    refine ⟨⟨⟨fun p hp => kq_far hbc q1 p (List.mem_append_right _ (List.mem_cons_of_mem _ hp)), fun k hk => ?_⟩, fun p hp => kq_far hbc q1 p (List.mem_append_left _ hp), kq_far hbc q1 (5, 99) (List.mem_append_right _ List.mem_cons_self), Or.inl ⟨q2, q3⟩⟩, by omega⟩
    have := hts k hk
    exact ⟨by omega, by omega⟩
  · exact ⟨hcx3, fun j hj => absurd hj (Nat.not_lt_zero j), fun j hj => absurd hj (Nat.not_lt_zero j), fun k hk => absurd hk (Nat.not_lt_zero k), fun j hj => absurd hj (Nat.not_lt_zero j), fun k hk => absurd hk (Nat.not_lt_zero k)⟩
