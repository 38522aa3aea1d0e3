/-! the reference as it is made -/
theorem st_at (X : vM) (a j i : Nat) (v : Int32) : (stI X a j v).2 a i = if i = j then v else X.2 a i := by
  show (if a = a ∧ i = j then v else X.2 a i) = _
  by_cases h : i = j
  · rw [if_pos ⟨rfl, h⟩, if_pos h]
  · rw [if_neg (fun z => h z.2), if_neg h]
theorem m_low {b : Nat} {X : vM} : ∀ i, i < 8 → ((mX0 b X).2 (mrr b 39) i).toInt64 = Int64.ofInt (dgI (lL : Int) i) := by
  intro i hi
  rw [show mrr b 39 = b + 34 from rfl]
  unfold mX0
  simp only [st_at]
  rcases (show i = 0 ∨ i = 1 ∨ i = 2 ∨ i = 3 ∨ i = 4 ∨ i = 5 ∨ i = 6 ∨ i = 7 by omega) with rfl | rfl | rfl | rfl | rfl | rfl | rfl | rfl
  · show (nI 54253).toInt64 = _; decide +kernel
  · show (nI 23797).toInt64 = _; decide +kernel
  · show (nI 25370).toInt64 = _; decide +kernel
  · show (nI 22546).toInt64 = _; decide +kernel
  · show (nI 40150).toInt64 = _; decide +kernel
  · show (nI 41719).toInt64 = _; decide +kernel
  · show (nI 63966).toInt64 = _; decide +kernel
  · show (nI 5342).toInt64 = _; decide +kernel
theorem ms_new {D : va_G} {g : ClassId → FieldType → Prop} {H2 H3 : Heap} {b o : Nat} {X : vM} {tp ms rs : Nat → Int32} {ks : Nat → Nat → Int32} (hP : up_M D g b o X H2) (hk : ∀ z : Nat, z < H2.size → H3[z]? = H2[z]?) (hz : H2.size ≤ H3.size) : MS D g o (mrr b) (nI 0) 0 0 0 0 tp ms rs ks H3 := by
  obtain ⟨hsz, hO, hA, hV⟩ := hP
  have hM := m_init (X := mX0 b X) (r := mrr b) (mrr_inj b) m_low
  rw [← hV] at hM
  have hJ : sx_J g (fun _ => False) H2 H3 := sx_J.grow hz hk
  refine ⟨hO.grown hk, fun q hq => hJ.2.2.1 _ _ _ (hA q hq), hM.mv (fun k hk' => ?_), fun j hj => absurd hj (Nat.not_lt_zero j), fun j hj => absurd hj (Nat.not_lt_zero j), fun k hk => absurd hk (Nat.not_lt_zero k), fun j hj => absurd hj (Nat.not_lt_zero j)⟩
  obtain ⟨q, hq, rfl⟩ := mi_ix k ((by decide +kernel : ∀ k ∈ mxL, k ∈ mIx) k hk')
  exact funext fun j => mml_same (hk _ (hA q hq).lt) j
