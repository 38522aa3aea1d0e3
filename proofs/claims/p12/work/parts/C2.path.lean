/-! PATHS: methods on the new object, walked along one known path; what they answer, which objects they write -/
section PXM
variable {l : Launch} {D : va_G} {g : ClassId → FieldType → Prop} {E : Nat → Prop} {H0 : Heap} {y : MethodName} {cc : ByteArray} {maxL : Nat} {own : String} {vs : List Value} {rm : Room}
abbrev px_Q (g : ClassId → FieldType → Prop) (E : Nat → Prop) (H0 : Heap) (V : Int32) (P : Heap → Prop) : Array Value → State → Outcome → State → Prop := va_Qi (fun r (_ : Unit) => r = V) (fun _ t => sx_J g E H0 t.heap ∧ P t.heap) E
abbrev px_Qv (g : ClassId → FieldType → Prop) (E : Nat → Prop) (H0 : Heap) (P : Heap → Prop) : Array Value → State → Outcome → State → Prop := va_Qv (fun _ : Unit => True) (fun _ t => sx_J g E H0 t.heap ∧ P t.heap) E
theorem px_mi {V : Int32} {P : Heap → Prop} (hy : plainName y.cls = true) (ho : y.cls = own) (hlen : (lg_sl vs).length ≤ maxL)
    (body : ∀ (p : Program) (e : Env) (s : State) (m : MethodId) (args : Array Value) (below : List Frame) (meth : Method) (c : Code) (Q : State → Prop) (ls : Array Slot), sx_E p s m args c cc maxL own D g → lv_has ls maxL (lv_args 0 vs) →
      (∀ (H : Heap) (locs : List Loc) (ls : Array Slot) (pc : Nat), P H → sx_S g E E H0 H locs → decode cc pc = .ok (.ireturn, 1) → W p l e rm s m args below meth c H locs 0 0 Q (F0 m pc ls [.int V])) → W p l e rm s m args below meth c H0 [] 0 0 Q (F0 m 0 ls [])) :
    Met l y (.code y cc maxL (some .int) :: G_) rm (sx_Pc vs H0 D g) (px_Q g E H0 V P) 0 0 E := by
  refine Met.ofW (cc := cc) (maxL := maxL) (ret := some .int) hy rfl ?_
  intro p e s m args below meth c s₁ B hml hv
  obtain ⟨rfl, hh, hU⟩ := hv
  have hl := lv_entry vs (n := maxL) hlen
  rw [lg_entry_eq]
  generalize (lg_sl vs ++ List.replicate (maxL - (lg_sl vs).length) Slot.unset).toArray = ls at hl ⊢
  have hb := B.bytes
  rw [hh]
  refine body p e s m _ below meth c _ ls ⟨B.exec, hb, hml, ho ▸ findClass_of_methodNamed B.named, fun w h => atoms_spec B.pre w (List.mem_cons_of_mem _ h), hU⟩ hl (fun H locs ls pc hP hS hd => ?_)
  exact W.iret (v := V) B.exec hb B.returns (fun t ht hW => ⟨⟨V, (), rfl, rfl, (by rw [← ht] at hS hP; exact ⟨hS.1, hP⟩)⟩, sx_F hh (by rw [ht]; exact hS.1)⟩) hS.2.2 hd
theorem px_mz {z : Nat} {P : Heap → Prop} (hz : z ≤ 1) (hy : plainName y.cls = true) (ho : y.cls = own) (hlen : (lg_sl vs).length ≤ maxL)
    (body : ∀ (p : Program) (e : Env) (s : State) (m : MethodId) (args : Array Value) (below : List Frame) (meth : Method) (c : Code) (Q : State → Prop) (ls : Array Slot), sx_E p s m args c cc maxL own D g → lv_has ls maxL (lv_args 0 vs) →
      (∀ (H : Heap) (locs : List Loc) (ls : Array Slot) (pc : Nat), P H → sx_S g E E H0 H locs → decode cc pc = .ok (.ireturn, 1) → W p l e rm s m args below meth c H locs 0 0 Q (F0 m pc ls [.int (nI z)])) → W p l e rm s m args below meth c H0 [] 0 0 Q (F0 m 0 ls [])) :
    Met l y (.code y cc maxL (some .boolean) :: G_) rm (sx_Pc vs H0 D g) (px_Q g E H0 (nI z) P) 0 0 E := by
  refine Met.ofW (cc := cc) (maxL := maxL) (ret := some .boolean) hy rfl ?_
  intro p e s m args below meth c s₁ B hml hv
  obtain ⟨rfl, hh, hU⟩ := hv
  have hl := lv_entry vs (n := maxL) hlen
  rw [lg_entry_eq]
  generalize (lg_sl vs ++ List.replicate (maxL - (lg_sl vs).length) Slot.unset).toArray = ls at hl ⊢
  have hb := B.bytes
  rw [hh]
  refine body p e s m _ below meth c _ ls ⟨B.exec, hb, hml, ho ▸ findClass_of_methodNamed B.named, fun w h => atoms_spec B.pre w (List.mem_cons_of_mem _ h), hU⟩ hl (fun H locs ls pc hP hS hd => ?_)
  exact W.zret (v := nI z) (ty := .boolean) B.exec hb B.returns (sx_nz hz) (fun t ht hW => ⟨⟨nI z, (), rfl, rfl, (by rw [← ht] at hS hP; exact ⟨hS.1, hP⟩)⟩, sx_F hh (by rw [ht]; exact hS.1)⟩) hS.2.2 hd
theorem px_mv {P : Heap → Prop} (hy : plainName y.cls = true) (ho : y.cls = own) (hlen : (lg_sl vs).length ≤ maxL)
    (body : ∀ (p : Program) (e : Env) (s : State) (m : MethodId) (args : Array Value) (below : List Frame) (meth : Method) (c : Code) (Q : State → Prop) (ls : Array Slot), sx_E p s m args c cc maxL own D g → lv_has ls maxL (lv_args 0 vs) →
      (∀ (H : Heap) (locs : List Loc) (ls : Array Slot) (pc : Nat), P H → sx_S g E E H0 H locs → decode cc pc = .ok (.return_, 1) → W p l e rm s m args below meth c H locs 0 0 Q (F0 m pc ls [])) → W p l e rm s m args below meth c H0 [] 0 0 Q (F0 m 0 ls [])) :
    Met l y (.code y cc maxL none :: G_) rm (sx_Pc vs H0 D g) (px_Qv g E H0 P) 0 0 E :=
  sx_mva (mc := 0) (ms := 0) (P := P) hy ho hlen (fun p e s m args below meth c Q ls EE _ hl hret => body p e s m args below meth c Q ls EE hl (fun H locs ls pc hP hS hd => hret H locs ls pc hP hS.1 hS.2.2 hd))
end PXM
/-- an object is no array -/
theorem px_ne {s : State} {g : ClassId → FieldType → Prop} {D : va_G} {cl : List vw_C} {tys : List (ClassId × FieldType)} {ci o a n : Nat} {fs : List Value} {H : Heap} {t : FieldType} (hG : sx_G s g) (hK : va_K D cl tys s) (hP : va_P D cl [(o, .inr (ci, fs))] H) (hA : sx_A g t H a n) : o ≠ a := fun e => sx_nob (n := n) (t := t) hG hK hP (e ▸ hA)
/-- the law's row of one long, by its value -/
def lo_ (g : ClassId → FieldType → Prop) (H : Heap) (a : Nat) (v : Int64) : Prop := ∃ (cA : ClassId) (f : Nat → Value), H[a]? = some (arrV cA 1 f) ∧ f 0 = .long v ∧ g cA .long
theorem lo_.lt {g : ClassId → FieldType → Prop} {H : Heap} {a : Nat} {v : Int64} (h : lo_ g H a v) : a < H.size := by
  obtain ⟨cA, f, h, -⟩ := h
  exact (Array.getElem?_eq_some_iff.mp h).1
theorem lo_.kept {g : ClassId → FieldType → Prop} {H H1 : Heap} {a : Nat} {v : Int64} (h : lo_ g H a v) (e : H1[a]? = H[a]?) : lo_ g H1 a v := by
  obtain ⟨cA, f, h, h2⟩ := h
  exact ⟨cA, f, e.trans h, h2⟩
theorem lo_.j {g : ClassId → FieldType → Prop} {E : Nat → Prop} {H H1 : Heap} {a : Nat} {v : Int64} (h : lo_ g H a v) (hJ : sx_J g E H H1) (hE : ¬ E a) : lo_ g H1 a v := h.kept (hJ.2.1 a h.lt hE)
theorem lo_.a {g : ClassId → FieldType → Prop} {H : Heap} {a : Nat} {v : Int64} (h : lo_ g H a v) : sx_A g .long H a 1 := by
  obtain ⟨cA, f, h, h1, h2⟩ := h
  refine ⟨_, h, h2, (fun k h => by cases h), (fun h => by cases h), by rw [arrV_size]; exact Nat.le_refl _, fun j hj => ⟨.long v, ?_, v, rfl⟩⟩
  have : j = 0 := by omega
  subst this
  rw [arrV_read _ _ hj, h1]
section PXC
variable {p : Program} {l : Launch} {e : Env} {R : Room} {s : State} {m : MethodId} {args : Array Value} {below : List Frame} {meth : Method} {c : Code} {H H0 : Heap} {locs : List Loc} {cells slots : Nat} {Q : State → Prop}
variable {cc : ByteArray} {pc : Nat} {ls : Array Slot} {g : ClassId → FieldType → Prop} {E E' F : Nat → Prop} {D : va_G} {rest st : List Value} {P : Heap → Prop} {V : Int32} {aa : Array Value}
theorem px_gi (hr : va_Run p l e R s m args below meth c H locs cells slots 0 0 (F0 m pc ls st) rest (px_Q g E' H V P aa) E') (hF : ∀ q, E' q → E q) (hS : sx_S g E F H0 H locs)
    (k : ∀ (H1 : Heap) (locs1 : List Loc), sx_J g E' H H1 → P H1 → sx_S g E F H0 H1 locs1 → W p l e R s m args below meth c H1 locs1 cells slots Q (F0 m (pc + 3) ls (.int V :: rest))) : W p l e R s m args below meth c H locs cells slots Q (F0 m pc ls st) :=
  va_calli hr (sx_vS hS) (fun _ _ h => hS.2.1 _ (hF _ h)) (fun _ h => hS.2.1 _ (hF _ h)) (fun r u t H1 locs1 ht hvm hw hB hz hk hS1 => by
    subst hw
    rw [ht] at hB
    exact k H1 locs1 hB.1 hB.2 (sx_Sm hS (hB.1.mono hF) hS1))
theorem px_gv (hr : va_Run p l e R s m args below meth c H locs cells slots 0 0 (F0 m pc ls st) rest (px_Qv g E' H P aa) E') (hF : ∀ q, E' q → E q) (hS : sx_S g E F H0 H locs)
    (k : ∀ (H1 : Heap) (locs1 : List Loc), sx_J g E' H H1 → P H1 → sx_S g E F H0 H1 locs1 → W p l e R s m args below meth c H1 locs1 cells slots Q (F0 m (pc + 3) ls rest)) : W p l e R s m args below meth c H locs cells slots Q (F0 m pc ls st) :=
  va_callv hr (sx_vS hS) (fun _ _ h => hS.2.1 _ (hF _ h)) (fun _ h => hS.2.1 _ (hF _ h)) (fun u t H1 locs1 ht hvm hw hB hz hk hS1 => by
    rw [ht] at hB
    exact k H1 locs1 hB.1 hB.2 (sx_Sm hS (hB.1.mono hF) hS1))
theorem px_bast {a n : Nat} {i : Int32} {x : Int32} (hx : p.tables.exec = Jvm.exec) (hb : c.code = cc) (hG : sx_G s g) (hS : sx_S g E F H0 H locs) (ha : sx_A g .byte H0 a n) (hlo : E a) (hin : vp_in i n) (hdg : decode cc pc = .ok (.bastore, 1))
    (k : ∀ (H1 : Heap) (locs1 : List Loc), (∀ q : Nat, q ≠ a → H1[q]? = H[q]?) → sx_S g E F H0 H1 locs1 → W p l e R s m args below meth c H1 locs1 cells slots Q (F0 m (pc + 1) ls rest)) : W p l e R s m args below meth c H locs cells slots Q (F0 m pc ls (.int x :: .int i :: .ref a :: rest)) := by
  obtain ⟨cell, h1, h2, h3, h4, h5, h6⟩ := hS.a ha
  refine W.bast hx hb h1 (hG.arr h2 h3) h4 (fun z => hin (z.imp id (fun q => Nat.le_trans h5 q))) rfl rfl hdg fun H1 e z oq => ?_
  exact k H1 _ oq ⟨hS.1.tr (sx_J.put hG h1 h2 ⟨x.toInt8.toInt32, rfl, pk_fb x⟩ hlo e z oq), hS.2.1, fun q hq => by
    rcases List.mem_append.mp hq with h | h
    · exact hS.2.2 q h
    · rw [List.mem_singleton.mp h]; exact hS.2.1 _ hlo⟩
/-- out[0] is written and read -/
theorem px_out {a : Nat} {v x : Int64} (hx : p.tables.exec = Jvm.exec) (hb : c.code = cc) (hG : sx_G s g) (hS : sx_S g E F H0 H locs) (ha : lo_ g H a v) (hlo : E a) (hdg : decode cc pc = .ok (.lastore, 1))
    (k : ∀ (H1 : Heap) (locs1 : List Loc), lo_ g H1 a x → (∀ q : Nat, q ≠ a → H1[q]? = H[q]?) → sx_S g E F H0 H1 locs1 → W p l e R s m args below meth c H1 locs1 cells slots Q (F0 m (pc + 1) ls rest)) : W p l e R s m args below meth c H locs cells slots Q (F0 m pc ls (.long x :: .int (nI 0) :: .ref a :: rest)) := by
  obtain ⟨cA, f, h1, h2, h3⟩ := ha
  have z0 : (nI 0).toNatClampNeg = 0 := nI_clamp (by decide)
  refine W.last hx hb h1 (hG.arr h3 (fun k h => by cases h)) (fun h => by cases h) (by rw [arrV_size, z0]; rintro (z | z); exact nI_pos (by decide) z; omega) rfl rfl hdg fun H1 e z oq => ?_
  rw [z0, arrV_store] at e
  exact k H1 _ ⟨cA, _, e, by simp [updV], h3⟩ oq ⟨hS.1.tr (sx_J.cell (t := .long) hG h1 h3 (by rw [arrV_size, arrV_size]) (fun n hn => by rw [← arrV_store]; exact hn.set ⟨x, rfl⟩) hlo e z oq), hS.2.1, fun q hq => by
    rcases List.mem_append.mp hq with h | h
    · exact hS.2.2 q h
    · rw [List.mem_singleton.mp h]; exact hS.2.1 _ hlo⟩
theorem px_outld {a : Nat} {v : Int64} (hx : p.tables.exec = Jvm.exec) (hb : c.code = cc) (hG : sx_G s g) (ha : lo_ g H a v) (hdg : decode cc pc = .ok (.laload, 1))
    (k : W p l e R s m args below meth c H locs cells slots Q (F0 m (pc + 1) ls (.long v :: rest))) : W p l e R s m args below meth c H locs cells slots Q (F0 m pc ls (.int (nI 0) :: .ref a :: rest)) := by
  obtain ⟨cA, f, h1, h2, h3⟩ := ha
  have z0 : (nI 0).toNatClampNeg = 0 := nI_clamp (by decide)
  exact W.lald (v := .long v) hx hb h1 (hG.arr h3 (fun k h => by cases h)) (fun h => by cases h) (by rw [arrV_size, z0]; rintro (z | z); exact nI_pos (by decide) z; omega) (by rw [z0, arrV_read _ _ (by decide), h2]) rfl rfl hdg k
/-- an element of the row of zeros -/
theorem px_zld {a n : Nat} {i : Int32} (hx : p.tables.exec = Jvm.exec) (hb : c.code = cc) (hG : sx_G s g) (ha : zi_ H a n) (hA : sx_A g .int H a n) (hin : vp_in i n) (hdg : decode cc pc = .ok (.iaload, 1))
    (k : W p l e R s m args below meth c H locs cells slots Q (F0 m (pc + 1) ls (.int (nI 0) :: rest))) : W p l e R s m args below meth c H locs cells slots Q (F0 m pc ls (.int i :: .ref a :: rest)) := by
  obtain ⟨cA, h1⟩ := ha
  obtain ⟨cell, q1, q2, q3, q4, q5, q6⟩ := hA
  cases Option.some.inj (h1.symm.trans q1)
  exact W.iald (v := .int (nI 0)) hx hb h1 (hG.arr q2 q3) q4 (fun z => hin (z.imp id (fun q => Nat.le_trans q5 q))) (by rw [arrV_read _ _ (Nat.not_le.mp fun q => hin (Or.inr q))]; rfl) rfl rfl hdg k
end PXC
section PXP
variable {p : Program} {l : Launch} {e : Env} {R : Room} {s : State} {m : MethodId} {args : Array Value} {below : List Frame} {meth : Method} {c : Code} {H H0 : Heap} {locs : List Loc} {cells slots : Nat} {Q : State → Prop}
variable {cc : ByteArray} {pc : Nat} {ls : Array Slot} {g : ClassId → FieldType → Prop} {E F : Nat → Prop} {D : va_G}
variable {nL index : Nat} {own C host : String} {rest : List Value} {o ci : Nat} {fs : List Value} {T : u_T} {N : Nat}
/-- System.arraycopy of no byte -/
theorem px_cpy0 {a0 a : Nat} (hx : p.tables.exec = Jvm.exec) (hb : c.code = cc) (hml : c.maxLocals = ls.size) (hown : s.vm.findClass own = some m.cls) (hlink : (Cond.methodLink own index arraycopyName).before args s = true) (hnat : (Cond.native arraycopyName).before args s = true) (hstat : (Cond.static arraycopyName).before args s = true) (hini : (Cond.initialized "java/lang/System").before args s = true)
    (hG : sx_G s g) (hS : sx_S g E F H0 H locs) (h0 : sx_A g .byte H0 a0 0) (h1 : sx_A g .byte H0 a 0) (hlo : E a) (hframes : 1 ≤ R.frames) (hlocals : (rest.map fun v => v.category).sum + (nativeFrameWords "java/lang/System" "arraycopy" 5 + 11) ≤ R.locals) (hdg : decode cc pc = .ok (.invokestatic index, 3))
    (kk : ∀ (H1 : Heap) (locs1 : List Loc), (∀ q : Nat, q ≠ a → H1[q]? = H[q]?) → sx_S g E F H0 H1 locs1 → W p l e R s m args below meth c H1 locs1 cells slots Q (F0 m (pc + 3) ls rest)) : W p l e R s m args below meth c H locs cells slots Q (F0 m pc ls (.int (nI 0) :: .int (nI 0) :: .ref a :: .int (nI 0) :: .ref a0 :: rest)) := by
  intro T hT X
  obtain ⟨c0, q1, q2, q3, q4, q5, q6⟩ := hS.a h0
  obtain ⟨c1, w1, w2, w3, w4, w5, w6⟩ := hS.a h1
  obtain ⟨k0, hk0, cm0, hkk0⟩ := (hG _ _).mp q2
  obtain ⟨k1, hk1, cm1, hkk1⟩ := (hG _ _).mp w2
  have z0 : (nI 0).toNatClampNeg = 0 := nI_clamp (by decide)
  have i0 : (nI 0).toInt = 0 := nI_toInt (by decide)
  obtain ⟨vm', X', step⟩ := X.arraycopy hx hown hlink hnat hstat hini (src := a0) (dst := a) (cs := c0) (cd := c1) (srcPos := nI 0) (destPos := nI 0) (n := nI 0) (by rw [hT]; exact q1) (by rw [hT]; exact w1) q3 w3 q4 w4 hk0 hk1 hkk0 hkk1 (by decide) (nI_pos (by decide)) (nI_pos (by decide)) (nI_pos (by decide))
    (by rw [i0]; omega) (by rw [i0]; omega) (fun vm₁ _ i hi => by rw [z0] at hi; omega)
    (g := F0 m pc ls (.int (nI 0) :: .int (nI 0) :: .ref a :: .int (nI 0) :: .ref a0 :: rest)) rfl (by rw [hml]) (rest := rest) rfl (by rw [hb]; exact hdg) hframes (by show 2 * 0 + _ + _ ≤ _; omega)
  have hl : a < H.size := (Array.getElem?_eq_some_iff.mp w1).1
  have hheap : ((T.setVm vm').setCell a (copied c0 c1 (nI 0) (nI 0) (nI 0))).heap = H.setIfInBounds a (copied c0 c1 (nI 0) (nI 0) (nI 0)) := by rw [← hT]; rfl
  have hval2 : ∀ q ∈ (c0.stretch (nI 0).toNatClampNeg (nI 0).toNatClampNeg).zipIdx, sx_V .byte q.1 := fun q hq => by
    rw [z0] at hq
    simp [Cell.stretch] at hq
  have hJ : sx_J g E H (H.setIfInBounds a (copied c0 c1 (nI 0) (nI 0) (nI 0))) := sx_J.cell (cell' := copied c0 c1 (nI 0) (nI 0) (nI 0)) hG w1 w2 (Cell.storePairs_facts _ _ _).2.2.1 (fun n hn => sx_c.pairs _ _ hn hval2) hlo (by simp [Array.getElem?_setIfInBounds, hl]) (by simp) (fun q hq => by simp [Array.getElem?_setIfInBounds, Ne.symm hq])
  obtain ⟨t, a1, b1⟩ := kk _ _ (fun q hq => by simp [Array.getElem?_setIfInBounds, Ne.symm hq]) ⟨hS.1.tr hJ, hS.2.1, fun q hq => by
      rcases List.mem_append.mp hq with h | h
      · exact hS.2.2 q h
      · obtain ⟨z, -, hz⟩ := List.mem_map.mp h
        rw [← hz]
        exact hS.2.1 _ hlo⟩ _ hheap X'
  exact ⟨t, step t a1, b1⟩
end PXP
theorem px_m1 {v : Int32} (h1 : ¬ v < -1) (h2 : v < nI 0) : v = -1 := by
  have e0 : (nI 0).toInt = 0 := nI_toInt (by decide)
  have e1 : (-1 : Int32).toInt = -1 := by decide
  rw [Int32.lt_iff_toInt_lt] at h1 h2
  apply Int32.toInt_inj.mp
  omega
def cnt_ (v : Int32) : Int32 := if v.toInt < 0 ∨ 9 < v.toInt then -1 else nI 0
theorem px_i3 : (nI 3).toInt = 3 := nI_toInt (by decide)
theorem px_i10 : (nI 10).toInt = 10 := nI_toInt (by decide)
theorem px_ten {v : Int32} (h : ¬ (v.toInt < 0 ∨ 9 < v.toInt)) : v = nI 0 ∨ v = nI 1 ∨ v = nI 2 ∨ v = nI 3 ∨ v = nI 4 ∨ v = nI 5 ∨ v = nI 6 ∨ v = nI 7 ∨ v = nI 8 ∨ v = nI 9 := by
  have key : ∀ k : Nat, k < 2 ^ 31 → v.toInt = (k : Int) → v = nI k := fun k hk e => Int32.toInt_inj.mp (by rw [e, nI_toInt hk])
  have h2 : v.toInt = 0 ∨ v.toInt = 1 ∨ v.toInt = 2 ∨ v.toInt = 3 ∨ v.toInt = 4 ∨ v.toInt = 5 ∨ v.toInt = 6 ∨ v.toInt = 7 ∨ v.toInt = 8 ∨ v.toInt = 9 := by omega
  rcases h2 with h | h | h | h | h | h | h | h | h | h
  · exact Or.inl (key 0 (by decide) h)
  · exact Or.inr (Or.inl (key 1 (by decide) h))
  · exact Or.inr (Or.inr (Or.inl (key 2 (by decide) h)))
  · exact Or.inr (Or.inr (Or.inr (Or.inl (key 3 (by decide) h))))
  · exact Or.inr (Or.inr (Or.inr (Or.inr (Or.inl (key 4 (by decide) h)))))
  · exact Or.inr (Or.inr (Or.inr (Or.inr (Or.inr (Or.inl (key 5 (by decide) h))))))
  · exact Or.inr (Or.inr (Or.inr (Or.inr (Or.inr (Or.inr (Or.inl (key 6 (by decide) h)))))))
  · exact Or.inr (Or.inr (Or.inr (Or.inr (Or.inr (Or.inr (Or.inr (Or.inl (key 7 (by decide) h))))))))
  · exact Or.inr (Or.inr (Or.inr (Or.inr (Or.inr (Or.inr (Or.inr (Or.inr (Or.inl (key 8 (by decide) h)))))))))
  · exact Or.inr (Or.inr (Or.inr (Or.inr (Or.inr (Or.inr (Or.inr (Or.inr (Or.inr (key 9 (by decide) h)))))))))
