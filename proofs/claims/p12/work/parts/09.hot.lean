/-! objects whose numbers are written ('hot'): they are kept through what writes arrays alone -/
def cutE (E : Nat → Prop) (o : Nat) : Nat → Prop := fun z => E z ∧ z ≠ o
theorem vx_ne {s : State} {g : ClassId → FieldType → Prop} {D : va_G} {o ci a n : Nat} {fs : List Value} {H : Heap} {t : FieldType} (hG : sx_G s g) (hK : va_K D classes [] s) (hP : va_P D classes [(o, .inr (ci, fs))] H) (ha : sx_A g t H a n) : a ≠ o := fun z => sx_nob hG hK hP (z ▸ ha)
theorem kc_.cut {D : va_G} {g : ClassId → FieldType → Prop} {E : Nat → Prop} {H : Heap} {kq : Nat → Nat → Nat} {ts : Nat → Nat} {o : Nat} (h : kc_ D g E H kq ts) (ho : ∀ (t : FieldType) (a n : Nat), sx_A g t H a n → a ≠ o) : kc_ D g (cutE E o) H kq ts := by
  have hrb : ∀ (a : Nat) (w : Nat → Nat → Nat), rb_ D g E H a w → rb_ D g (cutE E o) H a w := fun a w hr => by
    obtain ⟨h0, cell, h1, h2, h3, h4, h5, h6⟩ := hr
    exact ⟨fun z => h0 z.1, cell, h1, h2, h3, h4, h5, fun j hj => ⟨(h6 j hj).1, (h6 j hj).2.1, fun z => (h6 j hj).2.2.1 z.1, fun k hk => ⟨(h6 j hj).2.2.2 k hk, ho _ _ _ ((h6 j hj).2.1.2 k hk).1⟩⟩⟩
  exact ⟨fun x hx => ⟨(h.1 x hx).1, fun z => (h.1 x hx).2 z.1⟩, fun y hy => ⟨(h.2.1 y hy).1, (h.2.1 y hy).2.1, (h.2.1 y hy).2.2, ho _ _ _ (h.2.1 y hy).1⟩, hrb _ _ h.2.2.1, hrb _ _ h.2.2.2.1, h.2.2.2.2.mono (fun z hz => hz.1)⟩
theorem vx_obj {s : State} {g : ClassId → FieldType → Prop} {D : va_G} {o ci : Nat} {fs fs1 : List Value} {H H1 : Heap} (hG : sx_G s g) (hK : va_K D classes [] s) (hP : va_P D classes [(o, .inr (ci, fs))] H) (hP1 : va_P D classes [(o, .inr (ci, fs1))] H1) (oq : ∀ q : Nat, q ≠ o → H1[q]? = H[q]?) : mm g H1 = mm g H := by
  obtain ⟨r, q1, c1, q2, q3, -⟩ := hP 0 _ rfl
  obtain ⟨r', w1, c2, w2, w3, -⟩ := hP1 0 _ rfl
  exact mm_obj q2 w2 (fun t => by rw [q3]; exact sx_noarr hG hK q1 t) (fun t => by rw [w3]; exact sx_noarr hG hK w1 t) oq
section VXH
variable {p : Program} {l : Launch} {e : Env} {R : Room} {s : State} {m : MethodId} {args : Array Value} {below : List Frame} {meth : Method} {c : Code} {H H0 : Heap} {locs : List Loc} {cells slots : Nat} {Q : State → Prop}
variable {cc : ByteArray} {pc : Nat} {ls : Array Slot} {rest : List Value} {g : ClassId → FieldType → Prop} {E E' F : Nat → Prop} {X : vM} {D : va_G} {As st : List Value} {X' : vM}
theorem vx_lastJ {a n j : Nat} {x : Int64} (hx : p.tables.exec = Jvm.exec) (hb : c.code = cc) (hG : sx_G s g) (hK : va_K D classes [] s) (hS : sx_S g E F H0 H locs) (hV : mm g H = X) (ha : sx_A g .long H0 a n) (hlo : E a) (hj : j < n) (hn : n < 2 ^ 31) (hdg : decode cc pc = .ok (.lastore, 1))
    (k : ∀ (H1 : Heap) (locs1 : List Loc) (X1 : vM), stL X a j x = X1 → sx_S g E F H0 H1 locs1 → mm g H1 = X1 → (∀ (o : Nat) (y : Nat × List Value), va_P D classes [(o, .inr y)] H → va_P D classes [(o, .inr y)] H1) → W p l e R s m args below meth c H1 locs1 cells slots Q (F0 m (pc + 1) ls rest)) : W p l e R s m args below meth c H locs cells slots Q (F0 m pc ls (.long x :: .int (nI j) :: .ref a :: rest)) :=
  vx_last (E := fun z => z = a) (F := F) (H0 := H) hx hb hG ⟨sx_J.rf, fun z h => h ▸ hS.2.1 _ hlo, hS.2.2⟩ hV (hS.a ha) rfl hj hn hdg (fun H1 locs1 X1 eX hS1 hV1 => k H1 locs1 X1 eX ⟨hS.1.tr (hS1.1.mono (fun z h => h ▸ hlo)), hS.2.1, hS1.2.2⟩ hV1 (fun o y hP => hS1.1.ob (fun z => vx_ne hG hK hP (hS.a ha) z.symm) hP))
theorem vx_bastJ {a n j : Nat} {x : Int32} (hx : p.tables.exec = Jvm.exec) (hb : c.code = cc) (hG : sx_G s g) (hK : va_K D classes [] s) (hS : sx_S g E F H0 H locs) (hV : mm g H = X) (ha : sx_A g .byte H0 a n) (hlo : E a) (hj : j < n) (hn : n < 2 ^ 31) (hdg : decode cc pc = .ok (.bastore, 1))
    (k : ∀ (H1 : Heap) (locs1 : List Loc) (X1 : vM), stI X a j x.toInt8.toInt32 = X1 → sx_S g E F H0 H1 locs1 → mm g H1 = X1 → (∀ (o : Nat) (y : Nat × List Value), va_P D classes [(o, .inr y)] H → va_P D classes [(o, .inr y)] H1) → W p l e R s m args below meth c H1 locs1 cells slots Q (F0 m (pc + 1) ls rest)) : W p l e R s m args below meth c H locs cells slots Q (F0 m pc ls (.int x :: .int (nI j) :: .ref a :: rest)) :=
  vx_bast (E := fun z => z = a) (F := F) (H0 := H) hx hb hG ⟨sx_J.rf, fun z h => h ▸ hS.2.1 _ hlo, hS.2.2⟩ hV (hS.a ha) rfl hj hn hdg (fun H1 locs1 X1 eX hS1 hV1 => k H1 locs1 X1 eX ⟨hS.1.tr (hS1.1.mono (fun z h => h ▸ hlo)), hS.2.1, hS1.2.2⟩ hV1 (fun o y hP => hS1.1.ob (fun z => vx_ne hG hK hP (hS.a ha) z.symm) hP))
theorem vx_iastJ {a n j : Nat} {x : Int32} (hx : p.tables.exec = Jvm.exec) (hb : c.code = cc) (hG : sx_G s g) (hK : va_K D classes [] s) (hS : sx_S g E F H0 H locs) (hV : mm g H = X) (ha : sx_A g .int H0 a n) (hlo : E a) (hj : j < n) (hn : n < 2 ^ 31) (hdg : decode cc pc = .ok (.iastore, 1))
    (k : ∀ (H1 : Heap) (locs1 : List Loc) (X1 : vM), stI X a j x = X1 → sx_S g E F H0 H1 locs1 → mm g H1 = X1 → (∀ (o : Nat) (y : Nat × List Value), va_P D classes [(o, .inr y)] H → va_P D classes [(o, .inr y)] H1) → W p l e R s m args below meth c H1 locs1 cells slots Q (F0 m (pc + 1) ls rest)) : W p l e R s m args below meth c H locs cells slots Q (F0 m pc ls (.int x :: .int (nI j) :: .ref a :: rest)) :=
  vx_iast (E := fun z => z = a) (F := F) (H0 := H) hx hb hG ⟨sx_J.rf, fun z h => h ▸ hS.2.1 _ hlo, hS.2.2⟩ hV (hS.a ha) rfl hj hn hdg (fun H1 locs1 X1 eX hS1 hV1 => k H1 locs1 X1 eX ⟨hS.1.tr (hS1.1.mono (fun z h => h ▸ hlo)), hS.2.1, hS1.2.2⟩ hV1 (fun o y hP => hS1.1.ob (fun z => vx_ne hG hK hP (hS.a ha) z.symm) hP))
theorem vx_cpyLJ {a0 a i j k n0 n1 : Nat} {own : String} {index : Nat} (hx : p.tables.exec = Jvm.exec) (hb : c.code = cc) (hml : c.maxLocals = ls.size) (hown : s.vm.findClass own = some m.cls) (hlink : (Cond.methodLink own index arraycopyName).before args s = true) (hnat : (Cond.native arraycopyName).before args s = true) (hstat : (Cond.static arraycopyName).before args s = true) (hini : (Cond.initialized "java/lang/System").before args s = true)
    (hG : sx_G s g) (hK : va_K D classes [] s) (hS : sx_S g E F H0 H locs) (hV : mm g H = X) (h0 : sx_A g .long H0 a0 n0) (h1 : sx_A g .long H0 a n1) (hlo : E a) (hi : i + k ≤ n0) (hj : j + k ≤ n1) (hn0 : n0 < 2 ^ 31) (hn1 : n1 < 2 ^ 31) (hframes : 1 ≤ R.frames) (hlocals : (rest.map fun v => v.category).sum + (nativeFrameWords "java/lang/System" "arraycopy" 5 + 11) ≤ R.locals) (hdg : decode cc pc = .ok (.invokestatic index, 3))
    (kk : ∀ (H1 : Heap) (locs1 : List Loc) (X1 : vM), cpL X a0 i a j k = X1 → sx_S g E F H0 H1 locs1 → mm g H1 = X1 → (∀ (o : Nat) (y : Nat × List Value), va_P D classes [(o, .inr y)] H → va_P D classes [(o, .inr y)] H1) → W p l e R s m args below meth c H1 locs1 cells slots Q (F0 m (pc + 3) ls rest)) : W p l e R s m args below meth c H locs cells slots Q (F0 m pc ls (.int (nI k) :: .int (nI j) :: .ref a :: .int (nI i) :: .ref a0 :: rest)) :=
  vx_cpyL (E := fun z => z = a) (F := F) (H0 := H) hx hb hml hown hlink hnat hstat hini hG ⟨sx_J.rf, fun z h => h ▸ hS.2.1 _ hlo, hS.2.2⟩ hV (hS.a h0) (hS.a h1) rfl hi hj hn0 hn1 hframes hlocals hdg (fun H1 locs1 X1 eX hS1 hV1 => kk H1 locs1 X1 eX ⟨hS.1.tr (hS1.1.mono (fun z h => h ▸ hlo)), hS.2.1, hS1.2.2⟩ hV1 (fun o y hP => hS1.1.ob (fun z => vx_ne hG hK hP (hS.a h1) z.symm) hP))
theorem vx_cpyBJ {a0 a i j k n0 n1 : Nat} {own : String} {index : Nat} (hx : p.tables.exec = Jvm.exec) (hb : c.code = cc) (hml : c.maxLocals = ls.size) (hown : s.vm.findClass own = some m.cls) (hlink : (Cond.methodLink own index arraycopyName).before args s = true) (hnat : (Cond.native arraycopyName).before args s = true) (hstat : (Cond.static arraycopyName).before args s = true) (hini : (Cond.initialized "java/lang/System").before args s = true)
    (hG : sx_G s g) (hK : va_K D classes [] s) (hS : sx_S g E F H0 H locs) (hV : mm g H = X) (h0 : sx_A g .byte H0 a0 n0) (h1 : sx_A g .byte H0 a n1) (hlo : E a) (hi : i + k ≤ n0) (hj : j + k ≤ n1) (hn0 : n0 < 2 ^ 31) (hn1 : n1 < 2 ^ 31) (hframes : 1 ≤ R.frames) (hlocals : (rest.map fun v => v.category).sum + (nativeFrameWords "java/lang/System" "arraycopy" 5 + 11) ≤ R.locals) (hdg : decode cc pc = .ok (.invokestatic index, 3))
    (kk : ∀ (H1 : Heap) (locs1 : List Loc) (X1 : vM), cpI X a0 i a j k = X1 → sx_S g E F H0 H1 locs1 → mm g H1 = X1 → (∀ (o : Nat) (y : Nat × List Value), va_P D classes [(o, .inr y)] H → va_P D classes [(o, .inr y)] H1) → W p l e R s m args below meth c H1 locs1 cells slots Q (F0 m (pc + 3) ls rest)) : W p l e R s m args below meth c H locs cells slots Q (F0 m pc ls (.int (nI k) :: .int (nI j) :: .ref a :: .int (nI i) :: .ref a0 :: rest)) :=
  vx_cpyB (E := fun z => z = a) (F := F) (H0 := H) hx hb hml hown hlink hnat hstat hini hG ⟨sx_J.rf, fun z h => h ▸ hS.2.1 _ hlo, hS.2.2⟩ hV (hS.a h0) (hS.a h1) rfl hi hj hn0 hn1 hframes hlocals hdg (fun H1 locs1 X1 eX hS1 hV1 => kk H1 locs1 X1 eX ⟨hS.1.tr (hS1.1.mono (fun z h => h ▸ hlo)), hS.2.1, hS1.2.2⟩ hV1 (fun o y hP => hS1.1.ob (fun z => vx_ne hG hK hP (hS.a h1) z.symm) hP))
/-- behind a call that writes less -/
theorem vx_gvJ (hr : va_Run p l e R s m args below meth c H locs cells slots 0 0 (F0 m pc ls st) rest (vx_Qv g E' H X' As.toArray) E') (hE : ∀ q, E' q → E q) (hS : sx_S g E F H0 H locs)
    (k : ∀ (H1 : Heap) (locs1 : List Loc) (X1 : vM), X' = X1 → sx_S g E F H0 H1 locs1 → mm g H1 = X1 → sx_J g E' H H1 → W p l e R s m args below meth c H1 locs1 cells slots Q (F0 m (pc + 3) ls rest)) : W p l e R s m args below meth c H locs cells slots Q (F0 m pc ls st) :=
  vx_gv (E := E') (F := F) (H0 := H) hr ⟨sx_J.rf, fun z h => hS.2.1 _ (hE z h), hS.2.2⟩ (fun H1 locs1 X1 eX hS1 hV1 => k H1 locs1 X1 eX ⟨hS.1.tr (hS1.1.mono hE), hS.2.1, hS1.2.2⟩ hV1 hS1.1)
theorem vx_giJ {v : Int32} (hr : va_Run p l e R s m args below meth c H locs cells slots 0 0 (F0 m pc ls st) rest (vx_Qi g E' H X' v As.toArray) E') (hE : ∀ q, E' q → E q) (hS : sx_S g E F H0 H locs)
    (k : ∀ (H1 : Heap) (locs1 : List Loc) (X1 : vM), X' = X1 → sx_S g E F H0 H1 locs1 → mm g H1 = X1 → sx_J g E' H H1 → W p l e R s m args below meth c H1 locs1 cells slots Q (F0 m (pc + 3) ls (.int v :: rest))) : W p l e R s m args below meth c H locs cells slots Q (F0 m pc ls st) :=
  vx_gi (E := E') (F := F) (H0 := H) hr ⟨sx_J.rf, fun z h => hS.2.1 _ (hE z h), hS.2.2⟩ (fun H1 locs1 X1 eX hS1 hV1 => k H1 locs1 X1 eX ⟨hS.1.tr (hS1.1.mono hE), hS.2.1, hS1.2.2⟩ hV1 hS1.1)
end VXH
/-! contracts that leave more: P of the heap -/
def vx_QvP (g : ClassId → FieldType → Prop) (E : Nat → Prop) (H0 : Heap) (X : vM) (P : Heap → Prop) : Array Value → State → Outcome → State → Prop := va_Qv (fun _ : Unit => True) (fun _ t => sx_J g E H0 t.heap ∧ mm g t.heap = X ∧ P t.heap) E
def vx_QiP (g : ClassId → FieldType → Prop) (E : Nat → Prop) (H0 : Heap) (X : vM) (v : Int32) (P : Heap → Prop) : Array Value → State → Outcome → State → Prop := va_Qi (fun r (_ : Unit) => r = v) (fun _ t => sx_J g E H0 t.heap ∧ mm g t.heap = X ∧ P t.heap) E
section VXMP
variable {l : Launch} {D : va_G} {g : ClassId → FieldType → Prop} {E : Nat → Prop} {H0 : Heap} {y : MethodName} {cc : ByteArray} {maxL : Nat} {own : String} {vs : List Value} {rm : Room} {X' : vM} {P : Heap → Prop}
theorem vx_mvP (hy : plainName y.cls = true) (ho : y.cls = own) (hc : rm.cells = 0) (hs : rm.slots = 0) (hlen : (lg_sl vs).length ≤ maxL)
    (body : ∀ (p : Program) (e : Env) (s : State) (m : MethodId) (args : Array Value) (below : List Frame) (meth : Method) (c : Code) (Q : State → Prop) (ls : Array Slot), sx_E p s m args c cc maxL own D g → lv_has ls maxL (lv_args 0 vs) →
      (∀ (H : Heap) (locs : List Loc) (ls : Array Slot) (pc : Nat) (X1 : vM), X' = X1 → P H → sx_S g E E H0 H locs → mm g H = X1 → decode cc pc = .ok (.return_, 1) → W p l e rm s m args below meth c H locs 0 0 Q (F0 m pc ls [])) → W p l e rm s m args below meth c H0 [] 0 0 Q (F0 m 0 ls [])) :
    Met l y (.code y cc maxL none :: G_) rm (sx_Pc vs H0 D g) (vx_QvP g E H0 X' P) 0 0 E := by
  refine Met.ofW (cc := cc) (maxL := maxL) (ret := none) hy rfl ?_
  intro p e s m args below meth c s₁ B hml hv
  obtain ⟨rfl, hh, hU⟩ := hv
  have hl := lv_entry vs (n := maxL) hlen
  rw [lg_entry_eq]
  generalize (lg_sl vs ++ List.replicate (maxL - (lg_sl vs).length) Slot.unset).toArray = ls at hl ⊢
  have hb := B.bytes
  rw [hh]
  refine body p e s m _ below meth c _ ls ⟨B.exec, hb, hml, ho ▸ findClass_of_methodNamed B.named, fun w h => atoms_spec B.pre w (List.mem_cons_of_mem _ h), hU⟩ hl (fun H locs ls pc X1 hX hP hS hV hd => ?_)
  subst hX
  exact W.vret B.exec hb B.returns (fun t ht hW => ⟨⟨(), rfl, trivial, (by rw [← ht] at hS hV hP; exact ⟨hS.1, hV, hP⟩)⟩, sx_F hh (by rw [ht]; exact hS.1)⟩) hS.2.2 hd
theorem vx_miP {v : Int32} (hy : plainName y.cls = true) (ho : y.cls = own) (hc : rm.cells = 0) (hs : rm.slots = 0) (hlen : (lg_sl vs).length ≤ maxL)
    (body : ∀ (p : Program) (e : Env) (s : State) (m : MethodId) (args : Array Value) (below : List Frame) (meth : Method) (c : Code) (Q : State → Prop) (ls : Array Slot), sx_E p s m args c cc maxL own D g → lv_has ls maxL (lv_args 0 vs) →
      (∀ (H : Heap) (locs : List Loc) (ls : Array Slot) (pc : Nat) (X1 : vM) (r : Int32), X' = X1 → v = r → P H → sx_S g E E H0 H locs → mm g H = X1 → decode cc pc = .ok (.ireturn, 1) → W p l e rm s m args below meth c H locs 0 0 Q (F0 m pc ls [.int r])) → W p l e rm s m args below meth c H0 [] 0 0 Q (F0 m 0 ls [])) :
    Met l y (.code y cc maxL (some .int) :: G_) rm (sx_Pc vs H0 D g) (vx_QiP g E H0 X' v P) 0 0 E := by
  refine Met.ofW (cc := cc) (maxL := maxL) (ret := some .int) hy rfl ?_
  intro p e s m args below meth c s₁ B hml hv
  obtain ⟨rfl, hh, hU⟩ := hv
  have hl := lv_entry vs (n := maxL) hlen
  rw [lg_entry_eq]
  generalize (lg_sl vs ++ List.replicate (maxL - (lg_sl vs).length) Slot.unset).toArray = ls at hl ⊢
  have hb := B.bytes
  rw [hh]
  refine body p e s m _ below meth c _ ls ⟨B.exec, hb, hml, ho ▸ findClass_of_methodNamed B.named, fun w h => atoms_spec B.pre w (List.mem_cons_of_mem _ h), hU⟩ hl (fun H locs ls pc X1 r hX hr hP hS hV hd => ?_)
  subst hX hr
  exact W.iret (v := v) B.exec hb B.returns (fun t ht hW => ⟨⟨v, (), rfl, rfl, (by rw [← ht] at hS hV hP; exact ⟨hS.1, hV, hP⟩)⟩, sx_F hh (by rw [ht]; exact hS.1)⟩) hS.2.2 hd
end VXMP
section VXCP
variable {p : Program} {l : Launch} {e : Env} {R : Room} {s : State} {m : MethodId} {args : Array Value} {below : List Frame} {meth : Method} {c : Code} {H H0 : Heap} {locs : List Loc} {cells slots : Nat} {Q : State → Prop}
variable {cc : ByteArray} {pc : Nat} {ls : Array Slot} {g : ClassId → FieldType → Prop} {E E' F : Nat → Prop} {As rest st : List Value} {X' : vM} {P : Heap → Prop}
theorem vx_gvP (hr : va_Run p l e R s m args below meth c H locs cells slots 0 0 (F0 m pc ls st) rest (vx_QvP g E' H X' P As.toArray) E') (hE : ∀ q, E' q → E q) (hS : sx_S g E F H0 H locs)
    (k : ∀ (H1 : Heap) (locs1 : List Loc) (X1 : vM), X' = X1 → P H1 → sx_S g E F H0 H1 locs1 → mm g H1 = X1 → sx_J g E' H H1 → W p l e R s m args below meth c H1 locs1 cells slots Q (F0 m (pc + 3) ls rest)) : W p l e R s m args below meth c H locs cells slots Q (F0 m pc ls st) :=
  va_callv hr (sx_vS hS) (fun _ _ h => hS.2.1 _ (hE _ h)) (fun _ h => hS.2.1 _ (hE _ h)) (fun u t H1 locs1 ht hvm hw hB hz hk hS1 => k H1 locs1 _ rfl (ht ▸ hB.2.2) ⟨hS.1.tr ((ht ▸ hB.1 : sx_J g E' H H1).mono hE), hS.2.1, hS1.2.2⟩ (ht ▸ hB.2.1) (ht ▸ hB.1))
theorem vx_giP {v : Int32} (hr : va_Run p l e R s m args below meth c H locs cells slots 0 0 (F0 m pc ls st) rest (vx_QiP g E' H X' v P As.toArray) E') (hE : ∀ q, E' q → E q) (hS : sx_S g E F H0 H locs)
    (k : ∀ (H1 : Heap) (locs1 : List Loc) (X1 : vM), X' = X1 → P H1 → sx_S g E F H0 H1 locs1 → mm g H1 = X1 → sx_J g E' H H1 → W p l e R s m args below meth c H1 locs1 cells slots Q (F0 m (pc + 3) ls (.int v :: rest))) : W p l e R s m args below meth c H locs cells slots Q (F0 m pc ls st) :=
  va_calli hr (sx_vS hS) (fun _ _ h => hS.2.1 _ (hE _ h)) (fun _ h => hS.2.1 _ (hE _ h)) (fun r u t H1 locs1 ht hvm hw hB hz hk hS1 => by
    have hw : r = v := hw
    subst hw
    exact k H1 locs1 _ rfl (ht ▸ hB.2.2) ⟨hS.1.tr ((ht ▸ hB.1 : sx_J g E' H H1).mono hE), hS.2.1, hS1.2.2⟩ (ht ▸ hB.2.1) (ht ▸ hB.1))
end VXCP
/-- the hash, its two numbers any -/
def ho_ (D : va_G) (kq : Nat → Nat → Nat) (H : Heap) : Prop := ∃ hd tt : Int32, va_P D classes [(kq 5 99, .inr (7, [.ref (kq 5 0), .ref (kq 5 1), .ref (kq 5 2), .int hd, .int tt]))] H
