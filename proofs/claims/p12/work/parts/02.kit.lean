/-! THE KIT OF SHAPES (sx_): which cells are arrays, of which type and length; what a method of arrays leaves as it is. No value is spoken of. -/
/-- the classes that are arrays of a type, by number -/
def sx_G (U : State) (g : ClassId → FieldType → Prop) : Prop := ∀ (c : ClassId) (t : FieldType), g c t ↔ ∃ k : Class, U.vm.classes[c]? = some k ∧ ∃ comp, k.kind = .array comp t
theorem sx_G.moved {u U : State} {g : ClassId → FieldType → Prop} (hvm : u.vm.Alike U.vm) (h : sx_G u g) : sx_G U g := by
  intro c t
  rw [h c t]
  constructor
  · rintro ⟨k, h1, comp, h2⟩
    obtain ⟨k', hk', he⟩ := hvm.2.2 _ _ h1
    exact ⟨k', hk', comp, by rw [he]; exact h2⟩
  · rintro ⟨k, h1, comp, h2⟩
    obtain ⟨k', hk', he⟩ := hvm.symm.2.2 _ _ h1
    exact ⟨k', hk', comp, by rw [he]; exact h2⟩
theorem sx_G.uniq {U : State} {g : ClassId → FieldType → Prop} (h : sx_G U g) {c : ClassId} {t t' : FieldType} (h1 : g c t) (h2 : g c t') : t = t' := by
  obtain ⟨k, a1, x, a2⟩ := (h c t).mp h1
  obtain ⟨k', b1, y, b2⟩ := (h c t').mp h2
  cases Option.some.inj (a1.symm.trans b1)
  have := a2.symm.trans b2
  injection this
theorem sx_G.arr {U : State} {g : ClassId → FieldType → Prop} (h : sx_G U g) {cell : Cell} {t : FieldType} (h1 : g cell.cls t) (h2 : ∀ k, cell.vm ≠ .statics k) : U.isArrayOf cell t := ⟨h2, (h cell.cls t).mp h1⟩
/-- what an element of an array of that type may be -/
def sx_V (t : FieldType) (v : Value) : Prop := match t with
  | .long => ∃ x : Int64, v = .long x
  | .byte => ∃ x : Int32, v = .int x ∧ fits .byte (.int x) = true
  | .int => ∃ x : Int32, v = .int x
  | _ => True
/-- a cell that is an array of type t, of length n at least -/
def sx_c (g : ClassId → FieldType → Prop) (t : FieldType) (n : Nat) (cell : Cell) : Prop := g cell.cls t ∧ (∀ k, cell.vm ≠ .statics k) ∧ cell.vm ≠ .unknown ∧ n ≤ cell.slots.size ∧ ∀ j : Nat, j < n → ∃ v : Value, cell.slots[j]? = some v ∧ sx_V t v
theorem sx_c.set {g : ClassId → FieldType → Prop} {t : FieldType} {n j : Nat} {cell : Cell} {v : Value} (h : sx_c g t n cell) (hv : sx_V t v) : sx_c g t n (cell.setSlot j v) := by
  obtain ⟨h2, h3, h4, h5, h6⟩ := h
  refine ⟨h2, h3, h4, by rw [k2_slotsz]; exact h5, fun k hk => ?_⟩
  have hk5 : k < cell.slots.size := Nat.lt_of_lt_of_le hk h5
  by_cases hkj : j = k
  · subst hkj
    refine ⟨v, ?_, hv⟩
    simp [Cell.setSlot, Array.getElem?_setIfInBounds, hk5]
  · obtain ⟨w, q1, q2⟩ := h6 k hk
    refine ⟨w, ?_, q2⟩
    simp [Cell.setSlot, Array.getElem?_setIfInBounds, hkj, q1]
theorem sx_c.pairs {g : ClassId → FieldType → Prop} {t : FieldType} {n a : Nat} : ∀ (vs : List (Value × Nat)) (cell : Cell), sx_c g t n cell → (∀ q ∈ vs, sx_V t q.1) → sx_c g t n (cell.storePairs a vs)
  | [], _, h, _ => h
  | q :: vs, x0, h, hv => sx_c.pairs vs (x0.setSlot (a + q.2) q.1) (h.set (hv q List.mem_cons_self)) (fun x hx => hv x (List.mem_cons_of_mem _ hx))
/-- an array of type t, of length n at least; sx_L: of just that length -/
def sx_A (g : ClassId → FieldType → Prop) (t : FieldType) (H : Heap) (a n : Nat) : Prop := ∃ cell : Cell, H[a]? = some cell ∧ sx_c g t n cell
def sx_L (H : Heap) (a n : Nat) : Prop := ∃ cell : Cell, H[a]? = some cell ∧ cell.slots.size = n
/-- since H0: what isn't in E is as it was; arrays are arrays of the same type and length -/
def sx_J (g : ClassId → FieldType → Prop) (E : Nat → Prop) (H0 H : Heap) : Prop := H0.size ≤ H.size ∧ (∀ q : Nat, q < H0.size → ¬ E q → H[q]? = H0[q]?) ∧ (∀ (t : FieldType) (a n : Nat), sx_A g t H0 a n → sx_A g t H a n) ∧ ∀ a n : Nat, sx_L H0 a n → sx_L H a n
theorem sx_J.rf {g : ClassId → FieldType → Prop} {E : Nat → Prop} {H : Heap} : sx_J g E H H := ⟨Nat.le_refl _, fun _ _ _ => rfl, fun _ _ _ h => h, fun _ _ h => h⟩
theorem sx_J.tr {g : ClassId → FieldType → Prop} {E : Nat → Prop} {H0 H1 H2 : Heap} (h1 : sx_J g E H0 H1) (h2 : sx_J g E H1 H2) : sx_J g E H0 H2 :=
  ⟨Nat.le_trans h1.1 h2.1, fun q a b => (h2.2.1 q (Nat.lt_of_lt_of_le a h1.1) b).trans (h1.2.1 q a b), fun t a n h => h2.2.2.1 t a n (h1.2.2.1 t a n h), fun a n h => h2.2.2.2 a n (h1.2.2.2 a n h)⟩
theorem sx_J.mono {g : ClassId → FieldType → Prop} {E E' : Nat → Prop} {H0 H1 : Heap} (h : sx_J g E H0 H1) (hE : ∀ q, E q → E' q) : sx_J g E' H0 H1 := ⟨h.1, fun q a b => h.2.1 q a (fun z => b (hE q z)), h.2.2⟩
/-- an array of longs, bytes or ints is written -/
theorem sx_J.cell {U : State} {g : ClassId → FieldType → Prop} {E : Nat → Prop} {a : Nat} {t : FieldType} {H H1 : Heap} {cell cell' : Cell} (hG : sx_G U g) (hc : H[a]? = some cell) (hg : g cell.cls t) (hsz : cell'.slots.size = cell.slots.size) (hk : ∀ n, sx_c g t n cell → sx_c g t n cell') (hlo : E a) (e : H1[a]? = some cell') (z : H1.size = H.size) (oq : ∀ q : Nat, q ≠ a → H1[q]? = H[q]?) : sx_J g E H H1 := by
  refine ⟨Nat.le_of_eq z.symm, fun q _ h => oq q (fun x => h (x ▸ hlo)), fun t' b n hb => ?_, fun b n hb => ?_⟩
  · obtain ⟨c0, h1, h2⟩ := hb
    by_cases hba : b = a
    · subst hba
      cases Option.some.inj (hc.symm.trans h1)
      cases hG.uniq hg h2.1
      exact ⟨_, e, hk n h2⟩
    · exact ⟨c0, (oq b hba).trans h1, h2⟩
  · obtain ⟨c0, h1, h2⟩ := hb
    by_cases hba : b = a
    · subst hba
      cases Option.some.inj (hc.symm.trans h1)
      exact ⟨_, e, hsz.trans h2⟩
    · exact ⟨c0, (oq b hba).trans h1, h2⟩
theorem sx_J.put {U : State} {g : ClassId → FieldType → Prop} {E : Nat → Prop} {a j : Nat} {t : FieldType} {H H1 : Heap} {cell : Cell} {v : Value} (hG : sx_G U g) (hc : H[a]? = some cell) (hg : g cell.cls t) (hv : sx_V t v) (hlo : E a) (e : H1[a]? = some (cell.setSlot j v)) (z : H1.size = H.size) (oq : ∀ q : Nat, q ≠ a → H1[q]? = H[q]?) : sx_J g E H H1 :=
  sx_J.cell hG hc hg (k2_slotsz _ _ _) (fun _ h => h.set hv) hlo e z oq
/-- cells are made; what was there stays -/
theorem sx_J.grow {g : ClassId → FieldType → Prop} {E : Nat → Prop} {H H1 : Heap} (z : H.size ≤ H1.size) (oq : ∀ q : Nat, q < H.size → H1[q]? = H[q]?) : sx_J g E H H1 := by
  have key : ∀ (q : Nat) (cell : Cell), H[q]? = some cell → H1[q]? = some cell := fun q cell h => (oq q (Array.getElem?_eq_some_iff.mp h).1).trans h
  exact ⟨z, fun q h _ => oq q h, fun t a n ⟨c0, h1, h2⟩ => ⟨c0, key a c0 h1, h2⟩, fun a n ⟨c0, h1, h2⟩ => ⟨c0, key a c0 h1, h2⟩⟩
/-- the walk so far: shapes by E; the slots that were written lie in F -/
def sx_S (g : ClassId → FieldType → Prop) (E F : Nat → Prop) (H0 H : Heap) (locs : List Loc) : Prop := sx_J g E H0 H ∧ (∀ q, E q → F q) ∧ ∀ q ∈ locs, F q.base
theorem sx_S.rf {g : ClassId → FieldType → Prop} {E : Nat → Prop} {H : Heap} : sx_S g E E H H [] := ⟨sx_J.rf, fun _ h => h, fun _ h => by cases h⟩
theorem sx_S.a {g : ClassId → FieldType → Prop} {E F : Nat → Prop} {H0 H : Heap} {locs : List Loc} (h : sx_S g E F H0 H locs) {t : FieldType} {a n : Nat} (ha : sx_A g t H0 a n) : sx_A g t H a n := h.1.2.2.1 t a n ha
theorem sx_in {i n : Nat} (h : i < n) (hn : n < 2 ^ 31) : vp_in (nI i) n := vp_in_nI h hn
section SX
variable {p : Program} {l : Launch} {e : Env} {R : Room} {s : State} {m : MethodId} {args : Array Value} {below : List Frame} {meth : Method} {c : Code} {H H0 : Heap} {locs : List Loc} {cells slots : Nat} {Q : State → Prop}
variable {cc : ByteArray} {pc : Nat} {ls : Array Slot} {rest : List Value} {g : ClassId → FieldType → Prop} {E F : Nat → Prop}
theorem sx_ti {x y : Int32} (h : x = y) (k : W p l e R s m args below meth c H locs cells slots Q (F0 m pc ls (.int y :: rest))) : W p l e R s m args below meth c H locs cells slots Q (F0 m pc ls (.int x :: rest)) := h ▸ k
theorem sx_lald {a n : Nat} {i : Int32} (hx : p.tables.exec = Jvm.exec) (hb : c.code = cc) (hG : sx_G s g) (hS : sx_S g E F H0 H locs) (ha : sx_A g .long H0 a n) (hin : vp_in i n) (hdg : decode cc pc = .ok (.laload, 1))
    (k : ∀ x : Int64, W p l e R s m args below meth c H locs cells slots Q (F0 m (pc + 1) ls (.long x :: rest))) : W p l e R s m args below meth c H locs cells slots Q (F0 m pc ls (.int i :: .ref a :: rest)) := by
  obtain ⟨cell, h1, h2, h3, h4, h5, h6⟩ := hS.a ha
  obtain ⟨v, q1, x, rfl⟩ := h6 i.toNatClampNeg (Nat.not_le.mp fun q => hin (Or.inr q))
  exact W.lald hx hb h1 (hG.arr h2 h3) h4 (fun z => hin (z.imp id (fun q => Nat.le_trans h5 q))) q1 rfl rfl hdg (k x)
theorem sx_iald {a n : Nat} {i : Int32} (hx : p.tables.exec = Jvm.exec) (hb : c.code = cc) (hG : sx_G s g) (hS : sx_S g E F H0 H locs) (ha : sx_A g .int H0 a n) (hin : vp_in i n) (hdg : decode cc pc = .ok (.iaload, 1))
    (k : ∀ x : Int32, W p l e R s m args below meth c H locs cells slots Q (F0 m (pc + 1) ls (.int x :: rest))) : W p l e R s m args below meth c H locs cells slots Q (F0 m pc ls (.int i :: .ref a :: rest)) := by
  obtain ⟨cell, h1, h2, h3, h4, h5, h6⟩ := hS.a ha
  obtain ⟨v, q1, x, rfl⟩ := h6 i.toNatClampNeg (Nat.not_le.mp fun q => hin (Or.inr q))
  exact W.iald hx hb h1 (hG.arr h2 h3) h4 (fun z => hin (z.imp id (fun q => Nat.le_trans h5 q))) q1 rfl rfl hdg (k x)
theorem sx_bald {a n : Nat} {i : Int32} (hx : p.tables.exec = Jvm.exec) (hb : c.code = cc) (hG : sx_G s g) (hS : sx_S g E F H0 H locs) (ha : sx_A g .byte H0 a n) (hin : vp_in i n) (hdg : decode cc pc = .ok (.baload, 1))
    (k : ∀ x : Int32, W p l e R s m args below meth c H locs cells slots Q (F0 m (pc + 1) ls (.int x :: rest))) : W p l e R s m args below meth c H locs cells slots Q (F0 m pc ls (.int i :: .ref a :: rest)) := by
  obtain ⟨cell, h1, h2, h3, h4, h5, h6⟩ := hS.a ha
  obtain ⟨v, q1, x, rfl, -⟩ := h6 i.toNatClampNeg (Nat.not_le.mp fun q => hin (Or.inr q))
  exact W.bald hx hb h1 (hG.arr h2 h3) h4 (fun z => hin (z.imp id (fun q => Nat.le_trans h5 q))) q1 rfl rfl hdg (k x)
theorem sx_last {a n : Nat} {i : Int32} {x : Int64} (hx : p.tables.exec = Jvm.exec) (hb : c.code = cc) (hG : sx_G s g) (hS : sx_S g E F H0 H locs) (ha : sx_A g .long H0 a n) (hlo : E a) (hin : vp_in i n) (hdg : decode cc pc = .ok (.lastore, 1))
    (k : ∀ (H1 : Heap) (locs1 : List Loc), sx_S g E F H0 H1 locs1 → W p l e R s m args below meth c H1 locs1 cells slots Q (F0 m (pc + 1) ls rest)) : W p l e R s m args below meth c H locs cells slots Q (F0 m pc ls (.long x :: .int i :: .ref a :: rest)) := by
  obtain ⟨cell, h1, h2, h3, h4, h5, h6⟩ := hS.a ha
  refine W.last hx hb h1 (hG.arr h2 h3) h4 (fun z => hin (z.imp id (fun q => Nat.le_trans h5 q))) rfl rfl hdg fun H1 e z oq => ?_
  exact k H1 _ ⟨hS.1.tr (sx_J.put hG h1 h2 ⟨x, rfl⟩ hlo e z oq), hS.2.1, fun q hq => by
    rcases List.mem_append.mp hq with h | h
    · exact hS.2.2 q h
    · rw [List.mem_singleton.mp h]; exact hS.2.1 _ hlo⟩
theorem sx_iast {a n : Nat} {i : Int32} {x : Int32} (hx : p.tables.exec = Jvm.exec) (hb : c.code = cc) (hG : sx_G s g) (hS : sx_S g E F H0 H locs) (ha : sx_A g .int H0 a n) (hlo : E a) (hin : vp_in i n) (hdg : decode cc pc = .ok (.iastore, 1))
    (k : ∀ (H1 : Heap) (locs1 : List Loc), sx_S g E F H0 H1 locs1 → W p l e R s m args below meth c H1 locs1 cells slots Q (F0 m (pc + 1) ls rest)) : W p l e R s m args below meth c H locs cells slots Q (F0 m pc ls (.int x :: .int i :: .ref a :: rest)) := by
  obtain ⟨cell, h1, h2, h3, h4, h5, h6⟩ := hS.a ha
  refine W.iast hx hb h1 (hG.arr h2 h3) h4 (fun z => hin (z.imp id (fun q => Nat.le_trans h5 q))) rfl rfl hdg fun H1 e z oq => ?_
  exact k H1 _ ⟨hS.1.tr (sx_J.put hG h1 h2 ⟨x, rfl⟩ hlo e z oq), hS.2.1, fun q hq => by
    rcases List.mem_append.mp hq with h | h
    · exact hS.2.2 q h
    · rw [List.mem_singleton.mp h]; exact hS.2.1 _ hlo⟩
theorem sx_bast {a n : Nat} {i : Int32} {x : Int32} (hx : p.tables.exec = Jvm.exec) (hb : c.code = cc) (hG : sx_G s g) (hS : sx_S g E F H0 H locs) (ha : sx_A g .byte H0 a n) (hlo : E a) (hin : vp_in i n) (hdg : decode cc pc = .ok (.bastore, 1))
    (k : ∀ (H1 : Heap) (locs1 : List Loc), sx_S g E F H0 H1 locs1 → W p l e R s m args below meth c H1 locs1 cells slots Q (F0 m (pc + 1) ls rest)) : W p l e R s m args below meth c H locs cells slots Q (F0 m pc ls (.int x :: .int i :: .ref a :: rest)) := by
  obtain ⟨cell, h1, h2, h3, h4, h5, h6⟩ := hS.a ha
  refine W.bast hx hb h1 (hG.arr h2 h3) h4 (fun z => hin (z.imp id (fun q => Nat.le_trans h5 q))) rfl rfl hdg fun H1 e z oq => ?_
  exact k H1 _ ⟨hS.1.tr (sx_J.put hG h1 h2 ⟨x.toInt8.toInt32, rfl, pk_fb x⟩ hlo e z oq), hS.2.1, fun q hq => by
    rcases List.mem_append.mp hq with h | h
    · exact hS.2.2 q h
    · rw [List.mem_singleton.mp h]; exact hS.2.1 _ hlo⟩
theorem sx_ladd {x y : Int64} (hx : p.tables.exec = Jvm.exec) (hb : c.code = cc) (hdg : decode cc pc = .ok (.ladd, 1)) (k : ∀ z : Int64, W p l e R s m args below meth c H locs cells slots Q (F0 m (pc + 1) ls (.long z :: rest))) : W p l e R s m args below meth c H locs cells slots Q (F0 m pc ls (.long y :: .long x :: rest)) := lv_ladd hx hb hdg (k _)
theorem sx_lsub {x y : Int64} (hx : p.tables.exec = Jvm.exec) (hb : c.code = cc) (hdg : decode cc pc = .ok (.lsub, 1)) (k : ∀ z : Int64, W p l e R s m args below meth c H locs cells slots Q (F0 m (pc + 1) ls (.long z :: rest))) : W p l e R s m args below meth c H locs cells slots Q (F0 m pc ls (.long y :: .long x :: rest)) := lv_lsub hx hb hdg (k _)
theorem sx_lmul {x y : Int64} (hx : p.tables.exec = Jvm.exec) (hb : c.code = cc) (hdg : decode cc pc = .ok (.lmul, 1)) (k : ∀ z : Int64, W p l e R s m args below meth c H locs cells slots Q (F0 m (pc + 1) ls (.long z :: rest))) : W p l e R s m args below meth c H locs cells slots Q (F0 m pc ls (.long y :: .long x :: rest)) := lv_lmul hx hb hdg (k _)
theorem sx_land {x y : Int64} (hx : p.tables.exec = Jvm.exec) (hb : c.code = cc) (hdg : decode cc pc = .ok (.land, 1)) (k : ∀ z : Int64, W p l e R s m args below meth c H locs cells slots Q (F0 m (pc + 1) ls (.long z :: rest))) : W p l e R s m args below meth c H locs cells slots Q (F0 m pc ls (.long y :: .long x :: rest)) := lv_land hx hb hdg (k _)
theorem sx_lor {x y : Int64} (hx : p.tables.exec = Jvm.exec) (hb : c.code = cc) (hdg : decode cc pc = .ok (.lor, 1)) (k : ∀ z : Int64, W p l e R s m args below meth c H locs cells slots Q (F0 m (pc + 1) ls (.long z :: rest))) : W p l e R s m args below meth c H locs cells slots Q (F0 m pc ls (.long y :: .long x :: rest)) := lv_lor hx hb hdg (k _)
theorem sx_lxor {x y : Int64} (hx : p.tables.exec = Jvm.exec) (hb : c.code = cc) (hdg : decode cc pc = .ok (.lxor, 1)) (k : ∀ z : Int64, W p l e R s m args below meth c H locs cells slots Q (F0 m (pc + 1) ls (.long z :: rest))) : W p l e R s m args below meth c H locs cells slots Q (F0 m pc ls (.long y :: .long x :: rest)) := lv_lxor hx hb hdg (k _)
theorem sx_lshl {x : Int64} {y : Int32} (hx : p.tables.exec = Jvm.exec) (hb : c.code = cc) (hdg : decode cc pc = .ok (.lshl, 1)) (k : ∀ z : Int64, W p l e R s m args below meth c H locs cells slots Q (F0 m (pc + 1) ls (.long z :: rest))) : W p l e R s m args below meth c H locs cells slots Q (F0 m pc ls (.int y :: .long x :: rest)) := lv_lshl hx hb hdg rfl (k _)
theorem sx_lshr {x : Int64} {y : Int32} (hx : p.tables.exec = Jvm.exec) (hb : c.code = cc) (hdg : decode cc pc = .ok (.lshr, 1)) (k : ∀ z : Int64, W p l e R s m args below meth c H locs cells slots Q (F0 m (pc + 1) ls (.long z :: rest))) : W p l e R s m args below meth c H locs cells slots Q (F0 m pc ls (.int y :: .long x :: rest)) := lv_lshr hx hb hdg rfl (k _)
theorem sx_lushr {x : Int64} {y : Int32} (hx : p.tables.exec = Jvm.exec) (hb : c.code = cc) (hdg : decode cc pc = .ok (.lushr, 1)) (k : ∀ z : Int64, W p l e R s m args below meth c H locs cells slots Q (F0 m (pc + 1) ls (.long z :: rest))) : W p l e R s m args below meth c H locs cells slots Q (F0 m pc ls (.int y :: .long x :: rest)) := lv_lushr hx hb hdg rfl (k _)
theorem sx_iadd {x y : Int32} (hx : p.tables.exec = Jvm.exec) (hb : c.code = cc) (hdg : decode cc pc = .ok (.iadd, 1)) (k : ∀ z : Int32, W p l e R s m args below meth c H locs cells slots Q (F0 m (pc + 1) ls (.int z :: rest))) : W p l e R s m args below meth c H locs cells slots Q (F0 m pc ls (.int y :: .int x :: rest)) := lv_iadd hx hb hdg (k _)
theorem sx_isub {x y : Int32} (hx : p.tables.exec = Jvm.exec) (hb : c.code = cc) (hdg : decode cc pc = .ok (.isub, 1)) (k : ∀ z : Int32, W p l e R s m args below meth c H locs cells slots Q (F0 m (pc + 1) ls (.int z :: rest))) : W p l e R s m args below meth c H locs cells slots Q (F0 m pc ls (.int y :: .int x :: rest)) := lv_isub hx hb hdg (k _)
theorem sx_imul {x y : Int32} (hx : p.tables.exec = Jvm.exec) (hb : c.code = cc) (hdg : decode cc pc = .ok (.imul, 1)) (k : ∀ z : Int32, W p l e R s m args below meth c H locs cells slots Q (F0 m (pc + 1) ls (.int z :: rest))) : W p l e R s m args below meth c H locs cells slots Q (F0 m pc ls (.int y :: .int x :: rest)) := lv_imul hx hb hdg (k _)
theorem sx_iand {x y : Int32} (hx : p.tables.exec = Jvm.exec) (hb : c.code = cc) (hdg : decode cc pc = .ok (.iand, 1)) (k : ∀ z : Int32, W p l e R s m args below meth c H locs cells slots Q (F0 m (pc + 1) ls (.int z :: rest))) : W p l e R s m args below meth c H locs cells slots Q (F0 m pc ls (.int y :: .int x :: rest)) := lv_iand hx hb hdg (k _)
theorem sx_ior {x y : Int32} (hx : p.tables.exec = Jvm.exec) (hb : c.code = cc) (hdg : decode cc pc = .ok (.ior, 1)) (k : ∀ z : Int32, W p l e R s m args below meth c H locs cells slots Q (F0 m (pc + 1) ls (.int z :: rest))) : W p l e R s m args below meth c H locs cells slots Q (F0 m pc ls (.int y :: .int x :: rest)) := lv_ior hx hb hdg (k _)
theorem sx_ixor {x y : Int32} (hx : p.tables.exec = Jvm.exec) (hb : c.code = cc) (hdg : decode cc pc = .ok (.ixor, 1)) (k : ∀ z : Int32, W p l e R s m args below meth c H locs cells slots Q (F0 m (pc + 1) ls (.int z :: rest))) : W p l e R s m args below meth c H locs cells slots Q (F0 m pc ls (.int y :: .int x :: rest)) := lv_ixor hx hb hdg (k _)
theorem sx_ishl {x y : Int32} (hx : p.tables.exec = Jvm.exec) (hb : c.code = cc) (hdg : decode cc pc = .ok (.ishl, 1)) (k : ∀ z : Int32, W p l e R s m args below meth c H locs cells slots Q (F0 m (pc + 1) ls (.int z :: rest))) : W p l e R s m args below meth c H locs cells slots Q (F0 m pc ls (.int y :: .int x :: rest)) := lv_ishl hx hb hdg (k _)
theorem sx_ishr {x y : Int32} (hx : p.tables.exec = Jvm.exec) (hb : c.code = cc) (hdg : decode cc pc = .ok (.ishr, 1)) (k : ∀ z : Int32, W p l e R s m args below meth c H locs cells slots Q (F0 m (pc + 1) ls (.int z :: rest))) : W p l e R s m args below meth c H locs cells slots Q (F0 m pc ls (.int y :: .int x :: rest)) := lv_ishr hx hb hdg (k _)
theorem sx_i2l {x : Int32} (hx : p.tables.exec = Jvm.exec) (hb : c.code = cc) (hdg : decode cc pc = .ok (.i2l, 1)) (k : ∀ z : Int64, W p l e R s m args below meth c H locs cells slots Q (F0 m (pc + 1) ls (.long z :: rest))) : W p l e R s m args below meth c H locs cells slots Q (F0 m pc ls (.int x :: rest)) := lv_i2l hx hb hdg rfl (k _)
theorem sx_l2i {x : Int64} (hx : p.tables.exec = Jvm.exec) (hb : c.code = cc) (hdg : decode cc pc = .ok (.l2i, 1)) (k : ∀ z : Int32, W p l e R s m args below meth c H locs cells slots Q (F0 m (pc + 1) ls (.int z :: rest))) : W p l e R s m args below meth c H locs cells slots Q (F0 m pc ls (.long x :: rest)) := lv_l2i hx hb hdg rfl (k _)
theorem sx_i2b {x : Int32} (hx : p.tables.exec = Jvm.exec) (hb : c.code = cc) (hdg : decode cc pc = .ok (.i2b, 1)) (k : ∀ z : Int32, W p l e R s m args below meth c H locs cells slots Q (F0 m (pc + 1) ls (.int z :: rest))) : W p l e R s m args below meth c H locs cells slots Q (F0 m pc ls (.int x :: rest)) := lv_i2b hx hb hdg rfl (k _)
theorem sx_lcmp {x y : Int64} (hx : p.tables.exec = Jvm.exec) (hb : c.code = cc) (hdg : decode cc pc = .ok (.lcmp, 1)) (k : ∀ z : Int32, W p l e R s m args below meth c H locs cells slots Q (F0 m (pc + 1) ls (.int z :: rest))) : W p l e R s m args below meth c H locs cells slots Q (F0 m pc ls (.long y :: .long x :: rest)) := W.lcmp hx hb hdg (k _)
theorem sx_lneg {x : Int64} (hx : p.tables.exec = Jvm.exec) (hb : c.code = cc) (hdg : decode cc pc = .ok (.lneg, 1)) (k : ∀ z : Int64, W p l e R s m args below meth c H locs cells slots Q (F0 m (pc + 1) ls (.long z :: rest))) : W p l e R s m args below meth c H locs cells slots Q (F0 m pc ls (.long x :: rest)) := lv_lneg hx hb hdg (k _)
/-- System.arraycopy of k longs, from the beginning of one to the beginning of the other -/
theorem sx_cpy {a0 a k : Nat} {own : String} {index : Nat} (hx : p.tables.exec = Jvm.exec) (hb : c.code = cc) (hml : c.maxLocals = ls.size) (hown : s.vm.findClass own = some m.cls) (hlink : (Cond.methodLink own index arraycopyName).before args s = true) (hnat : (Cond.native arraycopyName).before args s = true) (hstat : (Cond.static arraycopyName).before args s = true) (hini : (Cond.initialized "java/lang/System").before args s = true)
    (hG : sx_G s g) (hS : sx_S g E F H0 H locs) (h0 : sx_A g .long H0 a0 k) (h1 : sx_A g .long H0 a k) (hlo : E a) (hk : k < 2 ^ 31) (hframes : 1 ≤ R.frames) (hlocals : (rest.map fun v => v.category).sum + (nativeFrameWords "java/lang/System" "arraycopy" 5 + 11) ≤ R.locals) (hdg : decode cc pc = .ok (.invokestatic index, 3))
    (kk : ∀ (H1 : Heap) (locs1 : List Loc), sx_S g E F H0 H1 locs1 → W p l e R s m args below meth c H1 locs1 cells slots Q (F0 m (pc + 3) ls rest)) : W p l e R s m args below meth c H locs cells slots Q (F0 m pc ls (.int (nI k) :: .int (nI 0) :: .ref a :: .int (nI 0) :: .ref a0 :: rest)) := by
  intro T hT X
  obtain ⟨c0, q1, q2, q3, q4, q5, q6⟩ := hS.a h0
  obtain ⟨c1, w1, w2, w3, w4, w5, w6⟩ := hS.a h1
  obtain ⟨k0, hk0, cm0, hkk0⟩ := (hG _ _).mp q2
  obtain ⟨k1, hk1, cm1, hkk1⟩ := (hG _ _).mp w2
  have z0 : (nI 0).toNatClampNeg = 0 := nI_clamp (by decide)
  have zk : (nI k).toNatClampNeg = k := nI_clamp hk
  have i0 : (nI 0).toInt = 0 := nI_toInt (by decide)
  have ik : (nI k).toInt = (k : Int) := nI_toInt hk
  have hval : ∀ i, i < k → ∃ x : Int64, c0.slots.getD i .null = .long x := fun i hi => by
    obtain ⟨v, v1, x, rfl⟩ := q6 i hi
    exact ⟨x, by rw [Array.getD_eq_getD_getElem?, v1]; rfl⟩
  obtain ⟨vm', X', step⟩ := X.arraycopy hx hown hlink hnat hstat hini (src := a0) (dst := a) (cs := c0) (cd := c1) (srcPos := nI 0) (destPos := nI 0) (n := nI k) (by rw [hT]; exact q1) (by rw [hT]; exact w1) q3 w3 q4 w4 hk0 hk1 hkk0 hkk1 (by decide) (nI_pos (by decide)) (nI_pos (by decide)) (nI_pos hk)
    (by rw [i0, ik]; omega) (by rw [i0, ik]; omega)
    (fun vm₁ _ i hi => by
      rw [zk] at hi
      rw [z0, Nat.zero_add]
      obtain ⟨x, hx⟩ := hval i hi
      rw [hx]
      exact ⟨rfl, trivial⟩)
    (g := F0 m pc ls (.int (nI k) :: .int (nI 0) :: .ref a :: .int (nI 0) :: .ref a0 :: rest)) rfl (by rw [hml]) (rest := rest) rfl (by rw [hb]; exact hdg) hframes (by show 2 * 0 + _ + _ ≤ _; omega)
  have hl : a < H.size := (Array.getElem?_eq_some_iff.mp w1).1
  have hheap : ((T.setVm vm').setCell a (copied c0 c1 (nI 0) (nI 0) (nI k))).heap = H.setIfInBounds a (copied c0 c1 (nI 0) (nI 0) (nI k)) := by rw [← hT]; rfl
  have hval2 : ∀ q ∈ (c0.stretch (nI 0).toNatClampNeg (nI k).toNatClampNeg).zipIdx, sx_V .long q.1 := fun q hq => by
    have h1 : q.1 ∈ c0.stretch (nI 0).toNatClampNeg (nI k).toNatClampNeg := by
      have := List.mem_map_of_mem (f := Prod.fst) hq
      rwa [List.zipIdx_map_fst] at this
    unfold Cell.stretch at h1
    obtain ⟨i, hi, e1⟩ := List.mem_map.mp h1
    rw [z0, zk] at *
    obtain ⟨x, hx⟩ := hval i (List.mem_range.mp hi)
    rw [Nat.zero_add] at e1
    exact ⟨x, by rw [← e1]; exact hx⟩
  have hJ : sx_J g E H (H.setIfInBounds a (copied c0 c1 (nI 0) (nI 0) (nI k))) := sx_J.cell (cell' := copied c0 c1 (nI 0) (nI 0) (nI k)) hG w1 w2 (Cell.storePairs_facts _ _ _).2.2.1 (fun n hn => sx_c.pairs _ _ hn hval2) hlo (by simp [Array.getElem?_setIfInBounds, hl]) (by simp) (fun q hq => by simp [Array.getElem?_setIfInBounds, Ne.symm hq])
  obtain ⟨t, a1, b1⟩ := kk _ _ ⟨hS.1.tr hJ, hS.2.1, fun q hq => by
      rcases List.mem_append.mp hq with h | h
      · exact hS.2.2 q h
      · obtain ⟨z, -, hz⟩ := List.mem_map.mp h
        rw [← hz]
        exact hS.2.1 _ hlo⟩ _ hheap X'
  exact ⟨t, step t a1, b1⟩
end SX
