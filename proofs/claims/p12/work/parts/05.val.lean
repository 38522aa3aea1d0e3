/-! THE KIT OF VALUES (vx_): what the arrays hold, as a function of the heap; loops as functions. -/
abbrev vM : Type := (Nat → Nat → Int64) × (Nat → Nat → Int32)
noncomputable def mml (g : ClassId → FieldType → Prop) (H : Heap) (a j : Nat) : Int64 := match H[a]? with
  | some c => @ite _ (∃ t, g c.cls t) (Classical.propDecidable _) (match c.slots[j]? with
    | some (.long x) => x
    | _ => 0) 0
  | none => 0
noncomputable def mmi (g : ClassId → FieldType → Prop) (H : Heap) (a j : Nat) : Int32 := match H[a]? with
  | some c => @ite _ (∃ t, g c.cls t) (Classical.propDecidable _) (match c.slots[j]? with
    | some (.int x) => x
    | _ => 0) 0
  | none => 0
/-- what the arrays hold (of what is no array: nothing) -/
noncomputable def mm (g : ClassId → FieldType → Prop) (H : Heap) : vM := (mml g H, mmi g H)
def stL (X : vM) (a j : Nat) (v : Int64) : vM := (fun b k => if b = a ∧ k = j then v else X.1 b k, X.2)
def stI (X : vM) (a j : Nat) (v : Int32) : vM := (X.1, fun b k => if b = a ∧ k = j then v else X.2 b k)
/-- n longs of a, from i on, go to b, from j on -/
def cpL (X : vM) (a i b j n : Nat) : vM := (fun q k => if q = b ∧ j ≤ k ∧ k < j + n then X.1 a (i + (k - j)) else X.1 q k, X.2)
def cpI (X : vM) (a i b j n : Nat) : vM := (X.1, fun q k => if q = b ∧ j ≤ k ∧ k < j + n then X.2 a (i + (k - j)) else X.2 q k)
section VMM
variable {g : ClassId → FieldType → Prop}
theorem mml_arr {H : Heap} {a : Nat} {cell : Cell} (h : H[a]? = some cell) (hg : ∃ t, g cell.cls t) (j : Nat) : mml g H a j = match cell.slots[j]? with
    | some (.long x) => x
    | _ => 0 := by
  unfold mml
  rw [h]
  exact if_pos hg
theorem mmi_arr {H : Heap} {a : Nat} {cell : Cell} (h : H[a]? = some cell) (hg : ∃ t, g cell.cls t) (j : Nat) : mmi g H a j = match cell.slots[j]? with
    | some (.int x) => x
    | _ => 0 := by
  unfold mmi
  rw [h]
  exact if_pos hg
theorem mml_same {H H1 : Heap} {a : Nat} (h : H1[a]? = H[a]?) (j : Nat) : mml g H1 a j = mml g H a j := by simp only [mml, h]
theorem mmi_same {H H1 : Heap} {a : Nat} (h : H1[a]? = H[a]?) (j : Nat) : mmi g H1 a j = mmi g H a j := by simp only [mmi, h]
theorem mml_read {H : Heap} {a j : Nat} {cell : Cell} {x : Int64} (h : H[a]? = some cell) (hg : ∃ t, g cell.cls t) (hj : cell.slots[j]? = some (.long x)) : mml g H a j = x := by rw [mml_arr h hg, hj]
theorem mmi_read {H : Heap} {a j : Nat} {cell : Cell} {x : Int32} (h : H[a]? = some cell) (hg : ∃ t, g cell.cls t) (hj : cell.slots[j]? = some (.int x)) : mmi g H a j = x := by rw [mmi_arr h hg, hj]
theorem mm_setL {H H1 : Heap} {a j : Nat} {cell : Cell} {x y : Int64} (hc : H[a]? = some cell) (hg : ∃ t, g cell.cls t) (hj : cell.slots[j]? = some (.long y)) (e : H1[a]? = some (cell.setSlot j (.long x))) (oq : ∀ q : Nat, q ≠ a → H1[q]? = H[q]?) : mm g H1 = stL (mm g H) a j x := by
  have hlt : j < cell.slots.size := (Array.getElem?_eq_some_iff.mp hj).1
  have hg1 : ∃ t, g (cell.setSlot j (.long x)).cls t := hg
  have e9 : (cell.setSlot j (.long x)).slots[j]? = some (.long x) := by simp [Cell.setSlot, hlt]
  have e8 : ∀ k, k ≠ j → (cell.setSlot j (.long x)).slots[k]? = cell.slots[k]? := fun k hk => by simp [Cell.setSlot, Ne.symm hk, Array.getElem?_setIfInBounds]
  refine Prod.ext (funext fun b => funext fun k => ?_) (funext fun b => funext fun k => ?_)
  · show mml g H1 b k = if b = a ∧ k = j then x else mml g H b k
    by_cases hb : b = a
    · subst hb
      by_cases hk : k = j
      · subst hk
        rw [if_pos ⟨rfl, rfl⟩, mml_read e hg1 e9]
      · rw [if_neg (fun z => hk z.2), mml_arr e hg1, mml_arr hc hg, e8 k hk]
    · rw [if_neg (fun z => hb z.1), mml_same (oq b hb)]
  · show mmi g H1 b k = mmi g H b k
    by_cases hb : b = a
    · subst hb
      by_cases hk : k = j
      · subst hk
        rw [mmi_arr e hg1, mmi_arr hc hg, e9, hj]
      · rw [mmi_arr e hg1, mmi_arr hc hg, e8 k hk]
    · rw [mmi_same (oq b hb)]
theorem mm_setI {H H1 : Heap} {a j : Nat} {cell : Cell} {x y : Int32} (hc : H[a]? = some cell) (hg : ∃ t, g cell.cls t) (hj : cell.slots[j]? = some (.int y)) (e : H1[a]? = some (cell.setSlot j (.int x))) (oq : ∀ q : Nat, q ≠ a → H1[q]? = H[q]?) : mm g H1 = stI (mm g H) a j x := by
  have hlt : j < cell.slots.size := (Array.getElem?_eq_some_iff.mp hj).1
  have hg1 : ∃ t, g (cell.setSlot j (.int x)).cls t := hg
  have e9 : (cell.setSlot j (.int x)).slots[j]? = some (.int x) := by simp [Cell.setSlot, hlt]
  have e8 : ∀ k, k ≠ j → (cell.setSlot j (.int x)).slots[k]? = cell.slots[k]? := fun k hk => by simp [Cell.setSlot, Ne.symm hk, Array.getElem?_setIfInBounds]
  refine Prod.ext (funext fun b => funext fun k => ?_) (funext fun b => funext fun k => ?_)
  · show mml g H1 b k = mml g H b k
    by_cases hb : b = a
    · subst hb
      by_cases hk : k = j
      · subst hk
        rw [mml_arr e hg1, mml_arr hc hg, e9, hj]
      · rw [mml_arr e hg1, mml_arr hc hg, e8 k hk]
    · rw [mml_same (oq b hb)]
  · show mmi g H1 b k = if b = a ∧ k = j then x else mmi g H b k
    by_cases hb : b = a
    · subst hb
      by_cases hk : k = j
      · subst hk
        rw [if_pos ⟨rfl, rfl⟩, mmi_read e hg1 e9]
      · rw [if_neg (fun z => hk z.2), mmi_arr e hg1, mmi_arr hc hg, e8 k hk]
    · rw [if_neg (fun z => hb z.1), mmi_same (oq b hb)]
/-- an object is written: no array -/
theorem mm_obj {H H1 : Heap} {o : Nat} {c c1 : Cell} (h : H[o]? = some c) (h1 : H1[o]? = some c1) (hn : ∀ t, ¬ g c.cls t) (hn1 : ∀ t, ¬ g c1.cls t) (oq : ∀ q : Nat, q ≠ o → H1[q]? = H[q]?) : mm g H1 = mm g H := by
  have a0 : ¬ ∃ t, g c.cls t := fun ⟨t, z⟩ => hn t z
  have a1 : ¬ ∃ t, g c1.cls t := fun ⟨t, z⟩ => hn1 t z
  refine Prod.ext (funext fun b => funext fun k => ?_) (funext fun b => funext fun k => ?_)
  · show mml g H1 b k = mml g H b k
    by_cases hb : b = o
    · subst hb
      simp only [mml, h, h1]
      rw [if_neg a0, if_neg a1]
    · exact mml_same (oq b hb) k
  · show mmi g H1 b k = mmi g H b k
    by_cases hb : b = o
    · subst hb
      simp only [mmi, h, h1]
      rw [if_neg a0, if_neg a1]
    · exact mmi_same (oq b hb) k
/-- cells are made, that hold nothing but 0 and null -/
theorem mm_grow {H H1 : Heap} (oq : ∀ q : Nat, q < H.size → H1[q]? = H[q]?) (hz : ∀ (q : Nat) (c : Cell) (j : Nat) (v : Value), H.size ≤ q → H1[q]? = some c → (∃ t, g c.cls t) → c.slots[j]? = some v → (∀ x, v = .long x → x = 0) ∧ ∀ x, v = .int x → x = 0) : mm g H1 = mm g H := by
  refine Prod.ext (funext fun b => funext fun k => ?_) (funext fun b => funext fun k => ?_)
  · show mml g H1 b k = mml g H b k
    rcases Nat.lt_or_ge b H.size with hb | hb
    · exact mml_same (oq b hb) k
    · have e0 : H[b]? = none := Array.getElem?_eq_none hb
      have e1 : mml g H b k = 0 := by simp only [mml, e0]
      rw [e1]
      rcases h1 : H1[b]? with _ | c
      · simp only [mml, h1]
      · by_cases hg : ∃ t, g c.cls t
        · rw [mml_arr h1 hg]
          split
          · next x hx => exact (hz b c k _ hb h1 hg hx).1 x rfl
          · rfl
        · simp only [mml, h1]
          exact if_neg hg
  · show mmi g H1 b k = mmi g H b k
    rcases Nat.lt_or_ge b H.size with hb | hb
    · exact mmi_same (oq b hb) k
    · have e0 : H[b]? = none := Array.getElem?_eq_none hb
      have e1 : mmi g H b k = 0 := by simp only [mmi, e0]
      rw [e1]
      rcases h1 : H1[b]? with _ | c
      · simp only [mmi, h1]
      · by_cases hg : ∃ t, g c.cls t
        · rw [mmi_arr h1 hg]
          split
          · next x hx => exact (hz b c k _ hb h1 hg hx).2 x rfl
          · rfl
        · simp only [mmi, h1]
          exact if_neg hg
end VMM
/-! loops -/
def lpU {σ : Type} (d : Nat) (f : Nat → σ → σ) : Nat → Nat → σ → σ
  | 0, _, s => s
  | k + 1, i, s => lpU d f k (i + d) (f i s)
def lpD {σ : Type} (f : Nat → σ → σ) : Nat → σ → σ
  | 0, s => s
  | k + 1, s => lpD f k (f k s)
def lpE {σ ρ : Type} (d : Nat) (f : Nat → σ → ρ ⊕ σ) : Nat → Nat → σ → ρ ⊕ σ
  | 0, _, s => .inr s
  | k + 1, i, s => Sum.elim Sum.inl (fun t => lpE d f k (i + d) t) (f i s)
def lpF {σ ρ : Type} (f : Nat → σ → ρ ⊕ σ) : Nat → σ → ρ ⊕ σ
  | 0, s => .inr s
  | k + 1, s => Sum.elim Sum.inl (fun t => lpF f k t) (f k s)
theorem vx_p {α : Type} {c : Prop} {h : Decidable c} (q : c) {t e r : α} (k : t = r) : (@ite α c h t e) = r := (if_pos q).trans k
theorem vx_n {α : Type} {c : Prop} {h : Decidable c} (q : ¬ c) {t e r : α} (k : e = r) : (@ite α c h t e) = r := (if_neg q).trans k
theorem vx_l {ρ σ α : Type} {f : ρ → α} {g : σ → α} {x : ρ ⊕ σ} {r : ρ} {v : α} (h : x = .inl r) (k : f r = v) : Sum.elim f g x = v := by subst h; exact k
theorem vx_r {ρ σ α : Type} {f : ρ → α} {g : σ → α} {x : ρ ⊕ σ} {r : σ} {v : α} (h : x = .inr r) (k : g r = v) : Sum.elim f g x = v := by subst h; exact k
section VLP
variable {σ ρ : Type} {P : Nat → σ → Heap → List Loc → Array Slot → Prop} {Wd Wx : Heap → List Loc → Array Slot → Prop} {N d : Nat}
theorem lpU_go {f : Nat → σ → σ} {R : σ} (hd : 0 < d)
    (step : ∀ (i : Nat) (s : σ) (H : Heap) (locs : List Loc) (ls : Array Slot), i < N → P i s H locs ls → (∀ (t : σ) (H : Heap) (locs : List Loc) (ls : Array Slot), f i s = t → P (i + d) t H locs ls → Wd H locs ls) → Wd H locs ls)
    (exit : ∀ (H : Heap) (locs : List Loc) (ls : Array Slot), P N R H locs ls → Wd H locs ls) :
    ∀ (k i : Nat) (s : σ), i + d * k = N → lpU d f k i s = R → ∀ (H : Heap) (locs : List Loc) (ls : Array Slot), P i s H locs ls → Wd H locs ls := by
  intro k
  induction k with
  | zero =>
    intro i s hi hR H locs ls hP
    have e1 : i = N := by simpa using hi
    have e2 : s = R := hR
    subst e1; subst e2
    exact exit H locs ls hP
  | succ k ih =>
    intro i s hi hR H locs ls hP
    have h1 : i + d + d * k = N := by rw [← hi, Nat.mul_succ]; omega
    have hlt : i < N := by
      have := Nat.le_mul_of_pos_left k hd
      omega
    exact step i s H locs ls hlt hP (fun t H locs ls e hP => ih (i + d) t h1 (by rw [← e]; exact hR) H locs ls hP)
theorem lpD_go {f : Nat → σ → σ} {R : σ}
    (step : ∀ (i : Nat) (s : σ) (H : Heap) (locs : List Loc) (ls : Array Slot), i < N → P (i + 1) s H locs ls → (∀ (t : σ) (H : Heap) (locs : List Loc) (ls : Array Slot), f i s = t → P i t H locs ls → Wd H locs ls) → Wd H locs ls)
    (exit : ∀ (H : Heap) (locs : List Loc) (ls : Array Slot), P 0 R H locs ls → Wd H locs ls) :
    ∀ (k : Nat) (s : σ), k ≤ N → lpD f k s = R → ∀ (H : Heap) (locs : List Loc) (ls : Array Slot), P k s H locs ls → Wd H locs ls := by
  intro k
  induction k with
  | zero =>
    intro s _ hR H locs ls hP
    have e2 : s = R := hR
    subst e2
    exact exit H locs ls hP
  | succ k ih =>
    intro s hi hR H locs ls hP
    exact step k s H locs ls hi hP (fun t H locs ls e hP => ih t (Nat.le_of_succ_le hi) (by rw [← e]; exact hR) H locs ls hP)
theorem lpE_go {f : Nat → σ → ρ ⊕ σ} {R : ρ ⊕ σ} (hd : 0 < d)
    (step : ∀ (i : Nat) (s : σ) (H : Heap) (locs : List Loc) (ls : Array Slot), i < N → P i s H locs ls → (∀ (t : σ) (H : Heap) (locs : List Loc) (ls : Array Slot), f i s = .inr t → P (i + d) t H locs ls → Wd H locs ls) → (∀ r : ρ, f i s = .inl r → R = .inl r) → Wd H locs ls)
    (exit : ∀ (s : σ) (H : Heap) (locs : List Loc) (ls : Array Slot), R = .inr s → P N s H locs ls → Wd H locs ls) :
    ∀ (k i : Nat) (s : σ), i + d * k = N → lpE d f k i s = R → ∀ (H : Heap) (locs : List Loc) (ls : Array Slot), P i s H locs ls → Wd H locs ls := by
  intro k
  induction k with
  | zero =>
    intro i s hi hR H locs ls hP
    have e1 : i = N := by simpa using hi
    subst e1
    exact exit s H locs ls hR.symm hP
  | succ k ih =>
    intro i s hi hR H locs ls hP
    have h1 : i + d + d * k = N := by rw [← hi, Nat.mul_succ]; omega
    have hlt : i < N := by
      have := Nat.le_mul_of_pos_left k hd
      omega
    refine step i s H locs ls hlt hP (fun t H locs ls e hP => ih (i + d) t h1 ?_ H locs ls hP) (fun r e => ?_)
    · rw [← hR]; exact (vx_r (f := Sum.inl) (g := fun t => lpE d f k (i + d) t) e rfl).symm
    · rw [← hR]; exact vx_l (f := Sum.inl) (g := fun t => lpE d f k (i + d) t) e rfl
theorem lpF_go {f : Nat → σ → ρ ⊕ σ} {R : ρ ⊕ σ}
    (step : ∀ (i : Nat) (s : σ) (H : Heap) (locs : List Loc) (ls : Array Slot), i < N → P (i + 1) s H locs ls → (∀ (t : σ) (H : Heap) (locs : List Loc) (ls : Array Slot), f i s = .inr t → P i t H locs ls → Wd H locs ls) → (∀ r : ρ, f i s = .inl r → R = .inl r) → Wd H locs ls)
    (exit : ∀ (s : σ) (H : Heap) (locs : List Loc) (ls : Array Slot), R = .inr s → P 0 s H locs ls → Wd H locs ls) :
    ∀ (k : Nat) (s : σ), k ≤ N → lpF f k s = R → ∀ (H : Heap) (locs : List Loc) (ls : Array Slot), P k s H locs ls → Wd H locs ls := by
  intro k
  induction k with
  | zero =>
    intro s _ hR H locs ls hP
    exact exit s H locs ls hR.symm hP
  | succ k ih =>
    intro s hi hR H locs ls hP
    refine step k s H locs ls hi hP (fun t H locs ls e hP => ih t (Nat.le_of_succ_le hi) ?_ H locs ls hP) (fun r e => ?_)
    · rw [← hR]; exact (vx_r (f := Sum.inl) (g := fun t => lpF f k t) e rfl).symm
    · rw [← hR]; exact vx_l (f := Sum.inl) (g := fun t => lpF f k t) e rfl
/-- a loop that may be left early, to the same place -/
theorem lpW_go {Px : σ → Heap → List Loc → Array Slot → Prop} {f : Nat → σ → σ ⊕ σ} {R : σ} (hd : 0 < d)
    (rest : ∀ (H : Heap) (locs : List Loc) (ls : Array Slot), Px R H locs ls → Wx H locs ls)
    (step : ∀ (i : Nat) (s : σ) (H : Heap) (locs : List Loc) (ls : Array Slot), i < N → P i s H locs ls → (∀ (t : σ) (H : Heap) (locs : List Loc) (ls : Array Slot), f i s = .inr t → P (i + d) t H locs ls → Wd H locs ls) → (∀ (t : σ) (H : Heap) (locs : List Loc) (ls : Array Slot), f i s = .inl t → Px t H locs ls → Wx H locs ls) → Wd H locs ls)
    (exit : ∀ (H : Heap) (locs : List Loc) (ls : Array Slot), P N R H locs ls → (∀ (H : Heap) (locs : List Loc) (ls : Array Slot), Px R H locs ls → Wx H locs ls) → Wd H locs ls) :
    ∀ (k i : Nat) (s : σ), i + d * k = N → Sum.elim id id (lpE d f k i s) = R → ∀ (H : Heap) (locs : List Loc) (ls : Array Slot), P i s H locs ls → Wd H locs ls := by
  intro k
  induction k with
  | zero =>
    intro i s hi hR H locs ls hP
    have e1 : i = N := by simpa using hi
    have e2 : s = R := hR
    subst e1; subst e2
    exact exit H locs ls hP rest
  | succ k ih =>
    intro i s hi hR H locs ls hP
    have h1 : i + d + d * k = N := by rw [← hi, Nat.mul_succ]; omega
    have hlt : i < N := by
      have := Nat.le_mul_of_pos_left k hd
      omega
    refine step i s H locs ls hlt hP (fun t H locs ls e hP => ih (i + d) t h1 ?_ H locs ls hP) (fun t H locs ls e hP => ?_)
    · rw [← hR]
      exact congrArg (Sum.elim id id) (vx_r (f := Sum.inl) (g := fun t => lpE d f k (i + d) t) e rfl).symm
    · have hE : t = R := by
        rw [← hR]
        exact (congrArg (Sum.elim id id) (vx_l (f := Sum.inl) (g := fun t => lpE d f k (i + d) t) e rfl)).symm
      rw [hE] at hP
      exact rest H locs ls hP
end VLP
section VX
variable {p : Program} {l : Launch} {e : Env} {R : Room} {s : State} {m : MethodId} {args : Array Value} {below : List Frame} {meth : Method} {c : Code} {H H0 : Heap} {locs : List Loc} {cells slots : Nat} {Q : State → Prop}
variable {cc : ByteArray} {pc : Nat} {ls : Array Slot} {rest : List Value} {g : ClassId → FieldType → Prop} {E F : Nat → Prop} {X : vM}
theorem vx_nmL {x : Int64} (k : ∀ z : Int64, x = z → W p l e R s m args below meth c H locs cells slots Q (F0 m pc ls (.long z :: rest))) : W p l e R s m args below meth c H locs cells slots Q (F0 m pc ls (.long x :: rest)) := k x rfl
theorem vx_nmI {x : Int32} (k : ∀ z : Int32, x = z → W p l e R s m args below meth c H locs cells slots Q (F0 m pc ls (.int z :: rest))) : W p l e R s m args below meth c H locs cells slots Q (F0 m pc ls (.int x :: rest)) := k x rfl
theorem vx_lald {a n j : Nat} (hx : p.tables.exec = Jvm.exec) (hb : c.code = cc) (hG : sx_G s g) (hS : sx_S g E F H0 H locs) (hV : mm g H = X) (ha : sx_A g .long H0 a n) (hj : j < n) (hn : n < 2 ^ 31) (hdg : decode cc pc = .ok (.laload, 1))
    (k : W p l e R s m args below meth c H locs cells slots Q (F0 m (pc + 1) ls (.long (X.1 a j) :: rest))) : W p l e R s m args below meth c H locs cells slots Q (F0 m pc ls (.int (nI j) :: .ref a :: rest)) := by
  subst hV
  obtain ⟨cell, h1, h2, h3, h4, h5, h6⟩ := hS.a ha
  obtain ⟨v, q1, x, rfl⟩ := h6 j hj
  have hc : (nI j).toNatClampNeg = j := nI_clamp (Nat.lt_trans hj hn)
  have e0 : (mm g H).1 a j = x := mml_read h1 ⟨_, h2⟩ q1
  rw [e0] at k
  exact W.lald hx hb h1 (hG.arr h2 h3) h4 (fun z => (sx_in hj hn) (z.imp id (fun q => Nat.le_trans h5 q))) (by rw [hc]; exact q1) rfl rfl hdg k
theorem vx_iald {a n j : Nat} (hx : p.tables.exec = Jvm.exec) (hb : c.code = cc) (hG : sx_G s g) (hS : sx_S g E F H0 H locs) (hV : mm g H = X) (ha : sx_A g .int H0 a n) (hj : j < n) (hn : n < 2 ^ 31) (hdg : decode cc pc = .ok (.iaload, 1))
    (k : W p l e R s m args below meth c H locs cells slots Q (F0 m (pc + 1) ls (.int (X.2 a j) :: rest))) : W p l e R s m args below meth c H locs cells slots Q (F0 m pc ls (.int (nI j) :: .ref a :: rest)) := by
  subst hV
  obtain ⟨cell, h1, h2, h3, h4, h5, h6⟩ := hS.a ha
  obtain ⟨v, q1, x, rfl⟩ := h6 j hj
  have hc : (nI j).toNatClampNeg = j := nI_clamp (Nat.lt_trans hj hn)
  have e0 : (mm g H).2 a j = x := mmi_read h1 ⟨_, h2⟩ q1
  rw [e0] at k
  exact W.iald hx hb h1 (hG.arr h2 h3) h4 (fun z => (sx_in hj hn) (z.imp id (fun q => Nat.le_trans h5 q))) (by rw [hc]; exact q1) rfl rfl hdg k
theorem vx_bald {a n j : Nat} (hx : p.tables.exec = Jvm.exec) (hb : c.code = cc) (hG : sx_G s g) (hS : sx_S g E F H0 H locs) (hV : mm g H = X) (ha : sx_A g .byte H0 a n) (hj : j < n) (hn : n < 2 ^ 31) (hdg : decode cc pc = .ok (.baload, 1))
    (k : W p l e R s m args below meth c H locs cells slots Q (F0 m (pc + 1) ls (.int (X.2 a j) :: rest))) : W p l e R s m args below meth c H locs cells slots Q (F0 m pc ls (.int (nI j) :: .ref a :: rest)) := by
  subst hV
  obtain ⟨cell, h1, h2, h3, h4, h5, h6⟩ := hS.a ha
  obtain ⟨v, q1, x, rfl, -⟩ := h6 j hj
  have hc : (nI j).toNatClampNeg = j := nI_clamp (Nat.lt_trans hj hn)
  have e0 : (mm g H).2 a j = x := mmi_read h1 ⟨_, h2⟩ q1
  rw [e0] at k
  exact W.bald hx hb h1 (hG.arr h2 h3) h4 (fun z => (sx_in hj hn) (z.imp id (fun q => Nat.le_trans h5 q))) (by rw [hc]; exact q1) rfl rfl hdg k
theorem vx_last {a n j : Nat} {x : Int64} (hx : p.tables.exec = Jvm.exec) (hb : c.code = cc) (hG : sx_G s g) (hS : sx_S g E F H0 H locs) (hV : mm g H = X) (ha : sx_A g .long H0 a n) (hlo : E a) (hj : j < n) (hn : n < 2 ^ 31) (hdg : decode cc pc = .ok (.lastore, 1))
    (k : ∀ (H1 : Heap) (locs1 : List Loc) (X1 : vM), stL X a j x = X1 → sx_S g E F H0 H1 locs1 → mm g H1 = X1 → W p l e R s m args below meth c H1 locs1 cells slots Q (F0 m (pc + 1) ls rest)) : W p l e R s m args below meth c H locs cells slots Q (F0 m pc ls (.long x :: .int (nI j) :: .ref a :: rest)) := by
  subst hV
  obtain ⟨cell, h1, h2, h3, h4, h5, h6⟩ := hS.a ha
  obtain ⟨v, q1, y, rfl⟩ := h6 j hj
  have hc : (nI j).toNatClampNeg = j := nI_clamp (Nat.lt_trans hj hn)
  refine W.last hx hb h1 (hG.arr h2 h3) h4 (fun z => (sx_in hj hn) (z.imp id (fun q => Nat.le_trans h5 q))) rfl rfl hdg fun H1 e z oq => ?_
  rw [hc] at e
  exact k H1 _ _ rfl ⟨hS.1.tr (sx_J.put hG h1 h2 ⟨x, rfl⟩ hlo e z oq), hS.2.1, fun q hq => by
    rcases List.mem_append.mp hq with h | h
    · exact hS.2.2 q h
    · rw [List.mem_singleton.mp h]; exact hS.2.1 _ hlo⟩ (mm_setL h1 ⟨_, h2⟩ q1 e oq)
theorem vx_iast {a n j : Nat} {x : Int32} (hx : p.tables.exec = Jvm.exec) (hb : c.code = cc) (hG : sx_G s g) (hS : sx_S g E F H0 H locs) (hV : mm g H = X) (ha : sx_A g .int H0 a n) (hlo : E a) (hj : j < n) (hn : n < 2 ^ 31) (hdg : decode cc pc = .ok (.iastore, 1))
    (k : ∀ (H1 : Heap) (locs1 : List Loc) (X1 : vM), stI X a j x = X1 → sx_S g E F H0 H1 locs1 → mm g H1 = X1 → W p l e R s m args below meth c H1 locs1 cells slots Q (F0 m (pc + 1) ls rest)) : W p l e R s m args below meth c H locs cells slots Q (F0 m pc ls (.int x :: .int (nI j) :: .ref a :: rest)) := by
  subst hV
  obtain ⟨cell, h1, h2, h3, h4, h5, h6⟩ := hS.a ha
  obtain ⟨v, q1, y, rfl⟩ := h6 j hj
  have hc : (nI j).toNatClampNeg = j := nI_clamp (Nat.lt_trans hj hn)
  refine W.iast hx hb h1 (hG.arr h2 h3) h4 (fun z => (sx_in hj hn) (z.imp id (fun q => Nat.le_trans h5 q))) rfl rfl hdg fun H1 e z oq => ?_
  rw [hc] at e
  exact k H1 _ _ rfl ⟨hS.1.tr (sx_J.put hG h1 h2 ⟨x, rfl⟩ hlo e z oq), hS.2.1, fun q hq => by
    rcases List.mem_append.mp hq with h | h
    · exact hS.2.2 q h
    · rw [List.mem_singleton.mp h]; exact hS.2.1 _ hlo⟩ (mm_setI h1 ⟨_, h2⟩ q1 e oq)
theorem vx_bast {a n j : Nat} {x : Int32} (hx : p.tables.exec = Jvm.exec) (hb : c.code = cc) (hG : sx_G s g) (hS : sx_S g E F H0 H locs) (hV : mm g H = X) (ha : sx_A g .byte H0 a n) (hlo : E a) (hj : j < n) (hn : n < 2 ^ 31) (hdg : decode cc pc = .ok (.bastore, 1))
    (k : ∀ (H1 : Heap) (locs1 : List Loc) (X1 : vM), stI X a j x.toInt8.toInt32 = X1 → sx_S g E F H0 H1 locs1 → mm g H1 = X1 → W p l e R s m args below meth c H1 locs1 cells slots Q (F0 m (pc + 1) ls rest)) : W p l e R s m args below meth c H locs cells slots Q (F0 m pc ls (.int x :: .int (nI j) :: .ref a :: rest)) := by
  subst hV
  obtain ⟨cell, h1, h2, h3, h4, h5, h6⟩ := hS.a ha
  obtain ⟨v, q1, y, rfl, -⟩ := h6 j hj
  have hc : (nI j).toNatClampNeg = j := nI_clamp (Nat.lt_trans hj hn)
  refine W.bast hx hb h1 (hG.arr h2 h3) h4 (fun z => (sx_in hj hn) (z.imp id (fun q => Nat.le_trans h5 q))) rfl rfl hdg fun H1 e z oq => ?_
  rw [hc] at e
  exact k H1 _ _ rfl ⟨hS.1.tr (sx_J.put hG h1 h2 ⟨x.toInt8.toInt32, rfl, pk_fb x⟩ hlo e z oq), hS.2.1, fun q hq => by
    rcases List.mem_append.mp hq with h | h
    · exact hS.2.2 q h
    · rw [List.mem_singleton.mp h]; exact hS.2.1 _ hlo⟩ (mm_setI h1 ⟨_, h2⟩ q1 e oq)
end VX
/-! contracts with values -/
def vx_Qv (g : ClassId → FieldType → Prop) (E : Nat → Prop) (H0 : Heap) (X : vM) : Array Value → State → Outcome → State → Prop := va_Qv (fun _ : Unit => True) (fun _ t => sx_J g E H0 t.heap ∧ mm g t.heap = X) E
def vx_Qi (g : ClassId → FieldType → Prop) (E : Nat → Prop) (H0 : Heap) (X : vM) (v : Int32) : Array Value → State → Outcome → State → Prop := va_Qi (fun r (_ : Unit) => r = v) (fun _ t => sx_J g E H0 t.heap ∧ mm g t.heap = X) E
def vx_Ql (g : ClassId → FieldType → Prop) (E : Nat → Prop) (H0 : Heap) (X : vM) (v : Int64) : Array Value → State → Outcome → State → Prop := va_Ql (fun r (_ : Unit) => r = v) (fun _ t => sx_J g E H0 t.heap ∧ mm g t.heap = X) E
section VXM
variable {l : Launch} {D : va_G} {g : ClassId → FieldType → Prop} {E : Nat → Prop} {H0 : Heap} {y : MethodName} {cc : ByteArray} {maxL : Nat} {own : String} {vs : List Value} {rm : Room} {X' : vM}
theorem vx_mv (hy : plainName y.cls = true) (ho : y.cls = own) (hc : rm.cells = 0) (hs : rm.slots = 0) (hlen : (lg_sl vs).length ≤ maxL)
    (body : ∀ (p : Program) (e : Env) (s : State) (m : MethodId) (args : Array Value) (below : List Frame) (meth : Method) (c : Code) (Q : State → Prop) (ls : Array Slot), sx_E p s m args c cc maxL own D g → lv_has ls maxL (lv_args 0 vs) →
      (∀ (H : Heap) (locs : List Loc) (ls : Array Slot) (pc : Nat) (X1 : vM), X' = X1 → sx_S g E E H0 H locs → mm g H = X1 → decode cc pc = .ok (.return_, 1) → W p l e rm s m args below meth c H locs 0 0 Q (F0 m pc ls [])) → W p l e rm s m args below meth c H0 [] 0 0 Q (F0 m 0 ls [])) :
    Met l y (.code y cc maxL none :: G_) rm (sx_Pc vs H0 D g) (vx_Qv g E H0 X') 0 0 E := by
  refine Met.ofW (cc := cc) (maxL := maxL) (ret := none) hy rfl ?_
  intro p e s m args below meth c s₁ B hml hv
  obtain ⟨rfl, hh, hU⟩ := hv
  have hl := lv_entry vs (n := maxL) hlen
  rw [lg_entry_eq]
  generalize (lg_sl vs ++ List.replicate (maxL - (lg_sl vs).length) Slot.unset).toArray = ls at hl ⊢
  have hb := B.bytes
  rw [hh]
  refine body p e s m _ below meth c _ ls ⟨B.exec, hb, hml, ho ▸ findClass_of_methodNamed B.named, fun w h => atoms_spec B.pre w (List.mem_cons_of_mem _ h), hU⟩ hl (fun H locs ls pc X1 hX hS hV hd => ?_)
  subst hX
  exact W.vret B.exec hb B.returns (fun t ht hW => ⟨⟨(), rfl, trivial, (by rw [← ht] at hS hV; exact ⟨hS.1, hV⟩)⟩, sx_F hh (by rw [ht]; exact hS.1)⟩) hS.2.2 hd
theorem vx_mi {v : Int32} (hy : plainName y.cls = true) (ho : y.cls = own) (hc : rm.cells = 0) (hs : rm.slots = 0) (hlen : (lg_sl vs).length ≤ maxL)
    (body : ∀ (p : Program) (e : Env) (s : State) (m : MethodId) (args : Array Value) (below : List Frame) (meth : Method) (c : Code) (Q : State → Prop) (ls : Array Slot), sx_E p s m args c cc maxL own D g → lv_has ls maxL (lv_args 0 vs) →
      (∀ (H : Heap) (locs : List Loc) (ls : Array Slot) (pc : Nat) (X1 : vM) (r : Int32), X' = X1 → v = r → sx_S g E E H0 H locs → mm g H = X1 → decode cc pc = .ok (.ireturn, 1) → W p l e rm s m args below meth c H locs 0 0 Q (F0 m pc ls [.int r])) → W p l e rm s m args below meth c H0 [] 0 0 Q (F0 m 0 ls [])) :
    Met l y (.code y cc maxL (some .int) :: G_) rm (sx_Pc vs H0 D g) (vx_Qi g E H0 X' v) 0 0 E := by
  refine Met.ofW (cc := cc) (maxL := maxL) (ret := some .int) hy rfl ?_
  intro p e s m args below meth c s₁ B hml hv
  obtain ⟨rfl, hh, hU⟩ := hv
  have hl := lv_entry vs (n := maxL) hlen
  rw [lg_entry_eq]
  generalize (lg_sl vs ++ List.replicate (maxL - (lg_sl vs).length) Slot.unset).toArray = ls at hl ⊢
  have hb := B.bytes
  rw [hh]
  refine body p e s m _ below meth c _ ls ⟨B.exec, hb, hml, ho ▸ findClass_of_methodNamed B.named, fun w h => atoms_spec B.pre w (List.mem_cons_of_mem _ h), hU⟩ hl (fun H locs ls pc X1 r hX hr hS hV hd => ?_)
  subst hX hr
  exact W.iret (v := v) B.exec hb B.returns (fun t ht hW => ⟨⟨v, (), rfl, rfl, (by rw [← ht] at hS hV; exact ⟨hS.1, hV⟩)⟩, sx_F hh (by rw [ht]; exact hS.1)⟩) hS.2.2 hd
theorem vx_ml {v : Int64} (hy : plainName y.cls = true) (ho : y.cls = own) (hc : rm.cells = 0) (hs : rm.slots = 0) (hlen : (lg_sl vs).length ≤ maxL)
    (body : ∀ (p : Program) (e : Env) (s : State) (m : MethodId) (args : Array Value) (below : List Frame) (meth : Method) (c : Code) (Q : State → Prop) (ls : Array Slot), sx_E p s m args c cc maxL own D g → lv_has ls maxL (lv_args 0 vs) →
      (∀ (H : Heap) (locs : List Loc) (ls : Array Slot) (pc : Nat) (X1 : vM) (r : Int64), X' = X1 → v = r → sx_S g E E H0 H locs → mm g H = X1 → decode cc pc = .ok (.lreturn, 1) → W p l e rm s m args below meth c H locs 0 0 Q (F0 m pc ls [.long r])) → W p l e rm s m args below meth c H0 [] 0 0 Q (F0 m 0 ls [])) :
    Met l y (.code y cc maxL (some .long) :: G_) rm (sx_Pc vs H0 D g) (vx_Ql g E H0 X' v) 0 0 E := by
  refine Met.ofW (cc := cc) (maxL := maxL) (ret := some .long) hy rfl ?_
  intro p e s m args below meth c s₁ B hml hv
  obtain ⟨rfl, hh, hU⟩ := hv
  have hl := lv_entry vs (n := maxL) hlen
  rw [lg_entry_eq]
  generalize (lg_sl vs ++ List.replicate (maxL - (lg_sl vs).length) Slot.unset).toArray = ls at hl ⊢
  have hb := B.bytes
  rw [hh]
  refine body p e s m _ below meth c _ ls ⟨B.exec, hb, hml, ho ▸ findClass_of_methodNamed B.named, fun w h => atoms_spec B.pre w (List.mem_cons_of_mem _ h), hU⟩ hl (fun H locs ls pc X1 r hX hr hS hV hd => ?_)
  subst hX hr
  exact W.lret (v := v) B.exec hb B.returns (fun t ht hW => ⟨⟨v, (), rfl, rfl, (by rw [← ht] at hS hV; exact ⟨hS.1, hV⟩)⟩, sx_F hh (by rw [ht]; exact hS.1)⟩) hS.2.2 hd
theorem vx_mz {v : Bool} (hy : plainName y.cls = true) (ho : y.cls = own) (hc : rm.cells = 0) (hs : rm.slots = 0) (hlen : (lg_sl vs).length ≤ maxL)
    (body : ∀ (p : Program) (e : Env) (s : State) (m : MethodId) (args : Array Value) (below : List Frame) (meth : Method) (c : Code) (Q : State → Prop) (ls : Array Slot), sx_E p s m args c cc maxL own D g → lv_has ls maxL (lv_args 0 vs) →
      (∀ (H : Heap) (locs : List Loc) (ls : Array Slot) (pc : Nat) (X1 : vM) (r : Bool) (z : Nat), X' = X1 → v = r → r.toNat = z → sx_S g E E H0 H locs → mm g H = X1 → decode cc pc = .ok (.ireturn, 1) → W p l e rm s m args below meth c H locs 0 0 Q (F0 m pc ls [.int (nI z)])) → W p l e rm s m args below meth c H0 [] 0 0 Q (F0 m 0 ls [])) :
    Met l y (.code y cc maxL (some .boolean) :: G_) rm (sx_Pc vs H0 D g) (vx_Qi g E H0 X' (nI v.toNat)) 0 0 E := by
  refine Met.ofW (cc := cc) (maxL := maxL) (ret := some .boolean) hy rfl ?_
  intro p e s m args below meth c s₁ B hml hv
  obtain ⟨rfl, hh, hU⟩ := hv
  have hl := lv_entry vs (n := maxL) hlen
  rw [lg_entry_eq]
  generalize (lg_sl vs ++ List.replicate (maxL - (lg_sl vs).length) Slot.unset).toArray = ls at hl ⊢
  have hb := B.bytes
  rw [hh]
  refine body p e s m _ below meth c _ ls ⟨B.exec, hb, hml, ho ▸ findClass_of_methodNamed B.named, fun w h => atoms_spec B.pre w (List.mem_cons_of_mem _ h), hU⟩ hl (fun H locs ls pc X1 r z hX hr hz hS hV hd => ?_)
  subst hX hr hz
  exact W.zret (v := nI v.toNat) (ty := .boolean) B.exec hb B.returns (sx_nz (Bool.toNat_le v)) (fun t ht hW => ⟨⟨nI v.toNat, (), rfl, rfl, (by rw [← ht] at hS hV; exact ⟨hS.1, hV⟩)⟩, sx_F hh (by rw [ht]; exact hS.1)⟩) hS.2.2 hd
end VXM
section VXC
variable {p : Program} {l : Launch} {e : Env} {R : Room} {s : State} {m : MethodId} {args : Array Value} {below : List Frame} {meth : Method} {c : Code} {H H0 : Heap} {locs : List Loc} {cells slots : Nat} {Q : State → Prop}
variable {cc : ByteArray} {pc : Nat} {ls : Array Slot} {g : ClassId → FieldType → Prop} {E F : Nat → Prop} {As rest st : List Value} {X' : vM}
theorem vx_gv (hr : va_Run p l e R s m args below meth c H locs cells slots 0 0 (F0 m pc ls st) rest (vx_Qv g E H X' As.toArray) E) (hS : sx_S g E F H0 H locs)
    (k : ∀ (H1 : Heap) (locs1 : List Loc) (X1 : vM), X' = X1 → sx_S g E F H0 H1 locs1 → mm g H1 = X1 → W p l e R s m args below meth c H1 locs1 cells slots Q (F0 m (pc + 3) ls rest)) : W p l e R s m args below meth c H locs cells slots Q (F0 m pc ls st) :=
  va_callv hr (sx_vS hS) (fun _ _ h => hS.2.1 _ h) (fun _ h => hS.2.1 _ h) (fun u t H1 locs1 ht hvm hw hB hz hk hS1 => k H1 locs1 _ rfl (sx_Sm hS (ht ▸ hB.1) hS1) (ht ▸ hB.2))
theorem vx_gi {v : Int32} (hr : va_Run p l e R s m args below meth c H locs cells slots 0 0 (F0 m pc ls st) rest (vx_Qi g E H X' v As.toArray) E) (hS : sx_S g E F H0 H locs)
    (k : ∀ (H1 : Heap) (locs1 : List Loc) (X1 : vM), X' = X1 → sx_S g E F H0 H1 locs1 → mm g H1 = X1 → W p l e R s m args below meth c H1 locs1 cells slots Q (F0 m (pc + 3) ls (.int v :: rest))) : W p l e R s m args below meth c H locs cells slots Q (F0 m pc ls st) :=
  va_calli hr (sx_vS hS) (fun _ _ h => hS.2.1 _ h) (fun _ h => hS.2.1 _ h) (fun r u t H1 locs1 ht hvm hw hB hz hk hS1 => by
    have hw : r = v := hw
    subst hw
    exact k H1 locs1 _ rfl (sx_Sm hS (ht ▸ hB.1) hS1) (ht ▸ hB.2))
theorem vx_gl {v : Int64} (hr : va_Run p l e R s m args below meth c H locs cells slots 0 0 (F0 m pc ls st) rest (vx_Ql g E H X' v As.toArray) E) (hS : sx_S g E F H0 H locs)
    (k : ∀ (H1 : Heap) (locs1 : List Loc) (X1 : vM), X' = X1 → sx_S g E F H0 H1 locs1 → mm g H1 = X1 → W p l e R s m args below meth c H1 locs1 cells slots Q (F0 m (pc + 3) ls (.long v :: rest))) : W p l e R s m args below meth c H locs cells slots Q (F0 m pc ls st) :=
  va_calll hr (sx_vS hS) (fun _ _ h => hS.2.1 _ h) (fun _ h => hS.2.1 _ h) (fun r u t H1 locs1 ht hvm hw hB hz hk hS1 => by
    have hw : r = v := hw
    subst hw
    exact k H1 locs1 _ rfl (sx_Sm hS (ht ▸ hB.1) hS1) (ht ▸ hB.2))
end VXC
theorem vx_b0 {b : Bool} (h : nI b.toNat = 0) : b = false := by
  cases b
  · rfl
  · exact absurd h (by decide +kernel)
theorem vx_b1 {b : Bool} (h : ¬ nI b.toNat = 0) : b = true := by
  cases b
  · exact absurd rfl h
  · rfl
theorem vx_bf {b : Bool} (h : b = false) : ¬ b = true := by rw [h]; decide
theorem vx_dec {a : Nat} (c : Nat) (h : c ≤ a) : nI a + Int32.ofInt (-(c : Int)) = nI (a - c) := by
  obtain ⟨b, rfl⟩ : ∃ b, a = b + c := ⟨a - c, by omega⟩
  rw [Nat.add_sub_cancel, ← nI_add, Int32.ofInt_neg]
  have : Int32.ofInt (c : Int) = nI c := rfl
  rw [this, Int32.add_assoc, ← Int32.sub_eq_add_neg, Int32.sub_self, Int32.add_zero]
theorem vx_lo {a b : Nat} (h : a = b ∧ 0 < a) (hb : a < 2 ^ 31) : nI (a + 0) - 1 < nI b := by
  obtain ⟨rfl, h0⟩ := h
  obtain ⟨c, rfl⟩ : ∃ c, a = c + 1 := ⟨a - 1, by omega⟩
  rw [Nat.add_zero, nI_pred]
  exact (nI_ltI (by omega) hb).mpr (Nat.lt_succ_self c)
theorem vx_15b (x : Int32) : (x &&& nI 15).toNatClampNeg < 16 := by
  have h1 : (x &&& nI 15).toBitVec = x.toBitVec &&& 15#32 := rfl
  have h2 : (x &&& nI 15).toBitVec.toNat < 16 := by
    rw [h1, BitVec.toNat_and]
    exact Nat.lt_of_le_of_lt Nat.and_le_right (by decide)
  have h3 : (x &&& nI 15).toInt = ((x &&& nI 15).toBitVec.toNat : Int) := by
    show (x &&& nI 15).toBitVec.toInt = _
    exact BitVec.toInt_eq_toNat_of_lt (by omega)
  show (x &&& nI 15).toInt.toNat < 16
  omega
theorem vx_15 (x : Int32) : x &&& nI 15 = nI (x &&& nI 15).toNatClampNeg := by
  have hb := vx_15b x
  have h1 : (x &&& nI 15).toBitVec = x.toBitVec &&& 15#32 := rfl
  have h2 : (x &&& nI 15).toBitVec.toNat < 16 := by
    rw [h1, BitVec.toNat_and]
    exact Nat.lt_of_le_of_lt Nat.and_le_right (by decide)
  have h3 : (x &&& nI 15).toInt = ((x &&& nI 15).toBitVec.toNat : Int) := by
    show (x &&& nI 15).toBitVec.toInt = _
    exact BitVec.toInt_eq_toNat_of_lt (by omega)
  have h4 : (nI (x &&& nI 15).toNatClampNeg).toInt = ((x &&& nI 15).toNatClampNeg : Int) := nI_toInt (by omega)
  apply Int32.toInt_inj.mp
  rw [h4]
  show (x &&& nI 15).toInt = ((x &&& nI 15).toInt.toNat : Int)
  omega
