/-! new objects and arrays, each by its place: the cells lie one behind the other -/
def obs_ (D : va_G) (H : Heap) (b : Nat) (L : List (Nat × Nat × List Value)) : Prop := ∀ x ∈ L, b ≤ x.1 ∧ va_P D classes [(x.1, .inr (x.2.1, x.2.2))] H
section OBS
variable {D : va_G} {g : ClassId → FieldType → Prop} {H H1 : Heap} {b : Nat} {L M : List (Nat × Nat × List Value)}
theorem obs_.nil : obs_ D H b [] := fun x h => absurd h List.not_mem_nil
theorem obs_.cons {o ci : Nat} {fs : List Value} (h : obs_ D H b L) (k : va_P D classes [(o, .inr (ci, fs))] H) (ho : b ≤ o) : obs_ D H b ((o, ci, fs) :: L) := fun x hx => (List.mem_cons.mp hx).elim (fun e => by rw [e]; exact ⟨ho, k⟩) (h x)
theorem obs_.app {c : Nat} (h : obs_ D H b L) (k : obs_ D H c M) (hc : b ≤ c) : obs_ D H b (M ++ L) := fun x hx => (List.mem_append.mp hx).elim (fun z => ⟨Nat.le_trans hc (k x z).1, (k x z).2⟩) (h x)
theorem obs_.grown (h : obs_ D H b L) (hk : ∀ z : Nat, z < H.size → H1[z]? = H[z]?) : obs_ D H1 b L := fun x hx => ⟨(h x hx).1, (h x hx).2.grown hk⟩
theorem obs_.one {o : Nat} (h : obs_ D H b L) (hs : ∀ q : Nat, q ≠ o → H1[q]? = H[q]?) (ho : o < b) : obs_ D H1 b L := fun x hx => ⟨(h x hx).1, (h x hx).2.one hs (by have := (h x hx).1; omega)⟩
theorem obs_.j {E : Nat → Prop} (h : obs_ D H b L) (hJ : sx_J g E H H1) (hE : ∀ x ∈ L, ¬ E x.1) : obs_ D H1 b L := fun x hx => ⟨(h x hx).1, hJ.ob (hE x hx) (h x hx).2⟩
theorem sx_AR.app {A B : List (Nat × FieldType × Nat)} (h : sx_AR g H A) (k : sx_AR g H B) : sx_AR g H (B ++ A) := fun x hx => (List.mem_append.mp hx).elim (k x) (h x)
theorem sz_one {o : Nat} (hz : H.size ≤ H1.size) (hs : ∀ q : Nat, q ≠ o → H1[q]? = H[q]?) (ho : o < H.size) : H1.size = H.size := by
  refine Nat.le_antisymm (Nat.not_lt.mp (fun h => ?_)) hz
  have h1 := hs H.size (by omega)
  have h2 : H[H.size]? = none := Array.getElem?_eq_none (Nat.le_refl _)
  have h3 : H1[H.size]? = some H1[H.size] := Array.getElem?_eq_getElem h
  rw [h2, h3] at h1
  cases h1
theorem sz_arr {a n : Nat} {t : FieldType} (hJ : sx_J g (fun z => z = a) H H1) (ha : sx_A g t H a n) (hz : ∀ q : Nat, q ≠ a → H1[q]? = H[q]?) : H1.size = H.size := by
  obtain ⟨cell, h1, -⟩ := ha
  exact sz_one hJ.1 hz (Array.getElem?_eq_some_iff.mp h1).1
theorem mm_newo {s : State} {q ci : Nat} {fs : List Value} {X : vM} (hG : sx_G s g) (hK : va_K D classes [] s) (hk : ∀ z : Nat, z < H.size → H1[z]? = H[z]?) (hN : va_P D classes [(q, .inr (ci, fs))] H1) (e : H.size = q) (hz : H1.size = q + 1) (hV : mm g H = X) : mm g H1 = X := by
  rw [← hV]
  refine mm_grw hk (fun z hz' j => ?_)
  by_cases hq : z = q
  · rw [hq]
    exact mm_obj0 hG hK hN j
  · exact mm_none (Array.getElem?_eq_none (by omega)) j
theorem mm_ref0 {z n : Nat} {cA : ClassId} {f : Nat → Value} (h : H1[z]? = some (arrV cA n f)) (hf : ∀ j, f j = .null ∨ ∃ r, f j = .ref r) (j : Nat) : mml g H1 z j = 0 ∧ mmi g H1 z j = 0 := by
  have e : (arrV cA n f).slots[j]? = none ∨ (arrV cA n f).slots[j]? = some (f j) := by
    by_cases hj : j < n
    · exact Or.inr (arrV_read _ _ hj)
    · exact Or.inl (Array.getElem?_eq_none (by rw [arrV_size]; omega))
  simp only [mml, mmi, h]
  constructor
  · split
    · rcases e with e | e
      · rw [e]
      · rw [e]
        rcases hf j with q | ⟨r, q⟩ <;> rw [q]
    · rfl
  · split
    · rcases e with e | e
      · rw [e]
      · rw [e]
        rcases hf j with q | ⟨r, q⟩ <;> rw [q]
    · rfl
theorem mm_ref1 {z n : Nat} {cA : ClassId} {f f1 : Nat → Value} (h : H[z]? = some (arrV cA n f)) (h1 : H1[z]? = some (arrV cA n f1)) (hf : ∀ j, f j = .null ∨ ∃ r, f j = .ref r) (hf1 : ∀ j, f1 j = .null ∨ ∃ r, f1 j = .ref r) (hs : ∀ q : Nat, q ≠ z → H1[q]? = H[q]?) : mm g H1 = mm g H := by
  refine Prod.ext (funext fun b => funext fun k => ?_) (funext fun b => funext fun k => ?_)
  · show mml g H1 b k = mml g H b k
    by_cases hb : b = z
    · rw [hb, (mm_ref0 h hf k).1, (mm_ref0 h1 hf1 k).1]
    · exact mml_same (hs b hb) k
  · show mmi g H1 b k = mmi g H b k
    by_cases hb : b = z
    · rw [hb, (mm_ref0 h hf k).2, (mm_ref0 h1 hf1 k).2]
    · exact mmi_same (hs b hb) k
end OBS
/-- a row of objects, its cell -/
def rg_ (s : State) (C : String) (H : Heap) (a n : Nat) (f : Nat → Value) : Prop := ∃ (cA : ClassId) (kA : Class) (comp : ClassId), H[a]? = some (arrV cA n f) ∧ s.vm.findClass ("[" ++ (FieldType.object C).toString) = some cA ∧ s.vm.classes[cA]? = some kA ∧ kA.kind = .array comp (.object C) ∧ s.vm.findClass C = some comp
theorem rg_.rf {s : State} {C : String} {H : Heap} {a n : Nat} {f : Nat → Value} (h : rg_ s C H a n f) : rf_ s C H a n f := by
  obtain ⟨cA, kA, comp, h1, -, h3⟩ := h
  exact ⟨cA, kA, comp, h1, h3⟩
/-- the same, by its class alone -/
def rx_ (g : ClassId → FieldType → Prop) (C : String) (H : Heap) (a n : Nat) (w : Nat → Nat) : Prop := ∃ cell : Cell, H[a]? = some cell ∧ g cell.cls (.object C) ∧ (∀ k, cell.vm ≠ .statics k) ∧ cell.vm ≠ .unknown ∧ n ≤ cell.slots.size ∧ ∀ j : Nat, j < n → cell.slots[j]? = some (.ref (w j))
theorem rx_.kept {g : ClassId → FieldType → Prop} {C : String} {H H1 : Heap} {a n : Nat} {w : Nat → Nat} (h : rx_ g C H a n w) (e : H1[a]? = H[a]?) : rx_ g C H1 a n w := by
  obtain ⟨cell, h1, h2⟩ := h
  exact ⟨cell, e.trans h1, h2⟩
theorem rx_.lt {g : ClassId → FieldType → Prop} {C : String} {H : Heap} {a n : Nat} {w : Nat → Nat} (h : rx_ g C H a n w) : a < H.size := by
  obtain ⟨cell, h1, -⟩ := h
  exact (Array.getElem?_eq_some_iff.mp h1).1
theorem rx_.rb {D : va_G} {g : ClassId → FieldType → Prop} {E : Nat → Prop} {H : Heap} {a : Nat} {w : Nat → Nat → Nat} (h : rx_ g "CurveKeys$Addend" H a 16 (fun j => w j 99)) (hE : ¬ E a) (h4 : ∀ j, j < 16 → o4_ D g H 5 (w j 99) (w j) ∧ ¬ E (w j 99) ∧ ∀ k, k < 4 → E (w j k)) : rb_ D g E H a w := by
  obtain ⟨cell, h1, h2, h3, h5, h6, h7⟩ := h
  exact ⟨hE, cell, h1, h2, h3, h5, h6, fun j hj => ⟨h7 j hj, h4 j hj⟩⟩
theorem rf_.rx {s : State} {g : ClassId → FieldType → Prop} {C : String} {H : Heap} {a n : Nat} {f : Nat → Value} {w : Nat → Nat} (hG : sx_G s g) (h : rf_ s C H a n f) (hf : ∀ j, j < n → f j = .ref (w j)) : rx_ g C H a n w := by
  obtain ⟨cA, kA, comp, w1, w2, w3, w4⟩ := h
  exact ⟨_, w1, (hG _ _).mpr ⟨kA, w2, comp, w3⟩, (fun k h => by cases h), (fun h => by cases h), by rw [arrV_size]; exact Nat.le_refl _, fun j hj => by rw [arrV_read _ _ hj, hf j hj]⟩
theorem rf_.mm {s : State} {g : ClassId → FieldType → Prop} {C : String} {H H1 : Heap} {a n : Nat} {f f1 : Nat → Value} (h : rf_ s C H a n f) (h1 : rf_ s C H1 a n f1) (hf : ∀ j, f j = .null ∨ ∃ r, f j = .ref r) (hf1 : ∀ j, f1 j = .null ∨ ∃ r, f1 j = .ref r) (hs : ∀ q : Nat, q ≠ a → H1[q]? = H[q]?) : mm g H1 = mm g H := by
  obtain ⟨cA, kA, comp, w1, w2, w3, w4⟩ := h
  obtain ⟨cB, kB, comp', v1, v2, v3, v4⟩ := h1
  refine Prod.ext (funext fun b => funext fun k => ?_) (funext fun b => funext fun k => ?_)
  · show mml g H1 b k = mml g H b k
    by_cases hb : b = a
    · rw [hb, (mm_ref0 w1 hf k).1, (mm_ref0 v1 hf1 k).1]
    · exact mml_same (hs b hb) k
  · show mmi g H1 b k = mmi g H b k
    by_cases hb : b = a
    · rw [hb, (mm_ref0 w1 hf k).2, (mm_ref0 v1 hf1 k).2]
    · exact mmi_same (hs b hb) k
section VXR
variable {p : Program} {l : Launch} {e : Env} {R : Room} {s : State} {m : MethodId} {args : Array Value} {below : List Frame} {meth : Method} {c : Code} {H H0 : Heap} {locs : List Loc} {cells slots : Nat} {Q : State → Prop}
variable {cc : ByteArray} {pc : Nat} {ls : Array Slot} {g : ClassId → FieldType → Prop} {E F : Nat → Prop} {D : va_G} {X : vM}
variable {nL index ci N : Nat} {own C : String} {rest : List Value} {fs : List Value} {T : u_T}
theorem vx_newr {n cells' slots' : Nat} (EE : sx_E p s m args c cc nL own D g) (hw : ∀ w ∈ ([.classLink own index C] : List Cond), w ∈ lw_tbl ∧ sx_okw w = true) (hov : va_AO C s) (hn : n < 2 ^ 31) (hbytes : n * 4 ≤ 536870912) (hc1 : cells + 1 = cells') (hs1 : slots + n = slots') (hcells : cells' ≤ R.cells) (hslots : slots' ≤ R.slots) (hS : sx_S g E F H0 H locs) (hV : mm g H = X) (hdg : decode cc pc = .ok (.anewarray index, 3))
    (kk : ∀ (q : Nat) (H1 : Heap), H.size = q → H1.size = q + 1 → rg_ s C H1 q n (fun _ => .null) → sx_J g E H H1 → (∀ z : Nat, z < H.size → H1[z]? = H[z]?) → sx_S g E F H0 H1 locs → mm g H1 = X → W p l e R s m args below meth c H1 locs cells' slots' Q (F0 m (pc + 3) ls (.ref q :: rest))) : W p l e R s m args below meth c H locs cells slots Q (F0 m pc ls (.int (nI n) :: rest)) := by
  subst hc1
  subst hs1
  obtain ⟨hx, hb, hml, hown, hts, hU⟩ := EE
  have hz : (nI n).toNatClampNeg = n := nI_clamp hn
  refine W.anew hx hb hown (hts _ (G_in (hw _ (by simp)))) (va_AO.use hov) rfl hdg rfl (nI_pos hn) (by rw [hz]; exact hbytes) hcells (by rw [hz]; exact hslots) fun cA kA comp f1 f2 f3 f4 => ?_
  rw [hz]
  generalize hH1 : H.push ({ cls := cA, slots := Array.replicate n .null, vm := .none } : Cell) = H1
  have z1 : H1.size = H.size + 1 := by rw [← hH1, Array.size_push]
  have e1 : H1[H.size]? = some (arrV cA n (fun _ => .null)) := by rw [← hH1, Array.getElem?_push_size, ← arrV_new]
  have o1 : ∀ q : Nat, q < H.size → H1[q]? = H[q]? := fun q hq => by rw [← hH1, Array.getElem?_push, if_neg (Nat.ne_of_lt hq)]
  have hJ : sx_J g E H H1 := sx_J.grow (by omega) o1
  refine kk H.size H1 rfl z1 ⟨cA, kA, comp, e1, f1, f2, f3, f4⟩ hJ o1 ⟨hS.1.tr hJ, hS.2⟩ ?_
  rw [← hV]
  refine mm_grw o1 (fun z hz' j => ?_)
  by_cases hq : z = H.size
  · rw [hq]
    exact mm_ref0 e1 (fun _ => Or.inl rfl) j
  · exact mm_none (Array.getElem?_eq_none (by omega)) j
end VXR
section VXZ
variable {p : Program} {l : Launch} {e : Env} {R : Room} {s : State} {m : MethodId} {args : Array Value} {below : List Frame} {meth : Method} {c : Code} {H H0 : Heap} {locs : List Loc} {cells slots : Nat} {Q : State → Prop}
variable {cc : ByteArray} {pc : Nat} {ls : Array Slot} {rest : List Value} {g : ClassId → FieldType → Prop} {E F : Nat → Prop} {X : vM}
theorem vx_iastZ {a n j : Nat} {x : Int32} (hx : p.tables.exec = Jvm.exec) (hb : c.code = cc) (hG : sx_G s g) (hS : sx_S g E F H0 H locs) (hV : mm g H = X) (ha : sx_A g .int H0 a n) (hlo : E a) (hj : j < n) (hn : n < 2 ^ 31) (hdg : decode cc pc = .ok (.iastore, 1))
    (k : ∀ (H1 : Heap) (locs1 : List Loc) (X1 : vM), stI X a j x = X1 → sx_S g E F H0 H1 locs1 → mm g H1 = X1 → H1.size = H.size → W p l e R s m args below meth c H1 locs1 cells slots Q (F0 m (pc + 1) ls rest)) : W p l e R s m args below meth c H locs cells slots Q (F0 m pc ls (.int x :: .int (nI j) :: .ref a :: rest)) := by
  subst hV
  obtain ⟨cell, h1, h2, h3, h4, h5, h6⟩ := hS.a ha
  obtain ⟨v, q1, y, rfl⟩ := h6 j hj
  have hc : (nI j).toNatClampNeg = j := nI_clamp (Nat.lt_trans hj hn)
  refine W.iast hx hb h1 (hG.arr h2 h3) h4 (fun z => (sx_in hj hn) (z.imp id (fun q => Nat.le_trans h5 q))) rfl rfl hdg fun H1 e z oq => ?_
  rw [hc] at e
  exact k H1 _ _ rfl ⟨hS.1.tr (sx_J.put hG h1 h2 ⟨x, rfl⟩ hlo e z oq), hS.2.1, fun q hq => by
    rcases List.mem_append.mp hq with h | h
    · exact hS.2.2 q h
    · rw [List.mem_singleton.mp h]; exact hS.2.1 _ hlo⟩ (mm_setI h1 ⟨_, h2⟩ q1 e oq) z
theorem vx_bastZ {a n j : Nat} {x : Int32} (hx : p.tables.exec = Jvm.exec) (hb : c.code = cc) (hG : sx_G s g) (hS : sx_S g E F H0 H locs) (hV : mm g H = X) (ha : sx_A g .byte H0 a n) (hlo : E a) (hj : j < n) (hn : n < 2 ^ 31) (hdg : decode cc pc = .ok (.bastore, 1))
    (k : ∀ (H1 : Heap) (locs1 : List Loc) (X1 : vM), stI X a j x.toInt8.toInt32 = X1 → sx_S g E F H0 H1 locs1 → mm g H1 = X1 → H1.size = H.size → W p l e R s m args below meth c H1 locs1 cells slots Q (F0 m (pc + 1) ls rest)) : W p l e R s m args below meth c H locs cells slots Q (F0 m pc ls (.int x :: .int (nI j) :: .ref a :: rest)) := by
  subst hV
  obtain ⟨cell, h1, h2, h3, h4, h5, h6⟩ := hS.a ha
  obtain ⟨v, q1, y, rfl, -⟩ := h6 j hj
  have hc : (nI j).toNatClampNeg = j := nI_clamp (Nat.lt_trans hj hn)
  refine W.bast hx hb h1 (hG.arr h2 h3) h4 (fun z => (sx_in hj hn) (z.imp id (fun q => Nat.le_trans h5 q))) rfl rfl hdg fun H1 e z oq => ?_
  rw [hc] at e
  exact k H1 _ _ rfl ⟨hS.1.tr (sx_J.put hG h1 h2 ⟨x.toInt8.toInt32, rfl, pk_fb x⟩ hlo e z oq), hS.2.1, fun q hq => by
    rcases List.mem_append.mp hq with h | h
    · exact hS.2.2 q h
    · rw [List.mem_singleton.mp h]; exact hS.2.1 _ hlo⟩ (mm_setI h1 ⟨_, h2⟩ q1 e oq) z
end VXZ
theorem lt_sz {H : Heap} {o b n : Nat} (ho : o < b) (h : H.size = b + n) : o < H.size := by omega
theorem ne_o {o b a : Nat} (ho : o < b) (h : b ≤ a) : a ≠ o := by omega
theorem ne_o3 {o b x y z : Nat} (ho : o < b) : b + x + y + z ≠ o := by omega
theorem ne_o4 {o b x y z w : Nat} (ho : o < b) : b + x + y + z + w ≠ o := by omega
theorem le_1 {H H1 : Heap} {q : Nat} (e : H.size = q) (h : H1.size = q + 1) : H.size ≤ H1.size := by omega
theorem nE_to {H : Heap} {q : Nat} (s0 : H.size = q + 1) : ∀ z, (z = q ∨ q + 1 ≤ z) → z = q ∨ H.size ≤ z := fun z h => by omega
theorem nE_en {E : Nat → Prop} {b q : Nat} (hEn : ∀ q, b ≤ q → E q) (hq : b ≤ q) : ∀ z, (z = q ∨ q + 1 ≤ z) → E z := fun z h => hEn z (by omega)
theorem nE_ge {H : Heap} {b q : Nat} (h : H.size = b) (hq : b ≤ q) : ∀ z, (z = q ∨ q + 1 ≤ z) → H.size ≤ z := fun z h => by omega
theorem le_c {b c : Nat} (h : b + 206 ≤ c) : ∀ k, b ≤ c + k := fun k => by omega
theorem ka_new {D : va_G} {s : State} {H : Heap} {a : Nat} (h : s.vm.findClass ("[" ++ (FieldType.object "CurveKeys$Key").toString) = some (D.2 2000 0)) (y : rg_ s "CurveKeys$Key" H a 100 (fun _ => .null)) : ka_ D H a (fun _ => .null) := by
  obtain ⟨cA, kA, comp, h1, h2, -⟩ := y
  cases Option.some.inj (h2.symm.trans h)
  exact ⟨h1, fun _ => Or.inl rfl⟩
