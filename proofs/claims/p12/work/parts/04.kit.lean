/-! objects of our classes: what is no array stays -/
theorem sx_noarr {s : State} {g : ClassId → FieldType → Prop} {D : va_G} {cl : List vw_C} {tys : List (ClassId × FieldType)} {ci : Nat} {q : vw_C} (hG : sx_G s g) (hK : va_K D cl tys s) (hc : cl[ci]? = some q) (t : FieldType) : ¬ g (D.1 ci) t := by
  intro h
  obtain ⟨k, h1, comp, h2⟩ := (hG _ _).mp h
  obtain ⟨hS, hfc, kC, hkC, hkind⟩ := hK.1 ci _ hc
  cases Option.some.inj (h1.symm.trans hkC)
  rw [hkind] at h2
  cases h2
theorem sx_J.ob {g : ClassId → FieldType → Prop} {E : Nat → Prop} {H0 H : Heap} {D : va_G} {cl : List vw_C} {o : Nat} {x : va_E} (h : sx_J g E H0 H) (hE : ¬ E o) (hP : va_P D cl [(o, x)] H0) : va_P D cl [(o, x)] H := by
  refine hP.kept (fun k q hk => ?_)
  match k, hk with
  | 0, hk =>
    cases hk
    exact h.2.1 o (hP 0 _ rfl).lt hE
section SXO
variable {p : Program} {l : Launch} {e : Env} {R : Room} {s : State} {m : MethodId} {args : Array Value} {below : List Frame} {meth : Method} {c : Code} {H H0 : Heap} {locs : List Loc} {cells slots : Nat} {Q : State → Prop}
variable {cc : ByteArray} {pc : Nat} {ls : Array Slot} {g : ClassId → FieldType → Prop} {E F : Nat → Prop} {D : va_G}
variable {y : MethodName} {bytes : ByteArray} {maxL nL n index : Nat} {ret : Option FieldType} {rm : Room} {own C : String} {As rest st : List Value} {Qc : Array Value → State → Outcome → State → Prop} {b ci : Nat} {fs : List Value} {T : u_T} {N : Nat}
theorem sx_alen {a k n0 : Nat} {t : FieldType} (hx : p.tables.exec = Jvm.exec) (hb : c.code = cc) (hG : sx_G s g) (hS : sx_S g E F H0 H locs) (ha : sx_A g t H0 a n0) (hL : sx_L H0 a k) (hdg : decode cc pc = .ok (.arraylength, 1))
    (kk : W p l e R s m args below meth c H locs cells slots Q (F0 m (pc + 1) ls (.int (nI k) :: rest))) : W p l e R s m args below meth c H locs cells slots Q (F0 m pc ls (.ref a :: rest)) := by
  obtain ⟨cell, h1, h2, h3, h4, h5, h6⟩ := hS.a ha
  obtain ⟨cell', q1, q2⟩ := hS.1.2.2.2 a k hL
  cases Option.some.inj (h1.symm.trans q1)
  exact W.alen (n := nI k) hx hb h1 (hG.arr h2 h3) (by rw [q2]; rfl) rfl rfl hdg kk
/-- a call of a method of the object b -/
theorem sx_runV (EE : sx_E p s m args c cc nL own D g) (hP : va_P D classes [(b, .inr (ci, fs))] H) (hc : classes[ci]? = some (C, T, N)) (hC : y.cls = C) (hM : Met l y (.code y bytes maxL ret :: G_) rm (sx_Pc (.ref b :: As) H D g) Qc 0 0 E) (hw : sx_w [.methodLink own index y, .instanceMethod y, .selects C y y, .initialized C, .code y bytes maxL ret] y n) (hn : As.length = n) (hrm : rm.cells = 0 ∧ rm.slots = 0) (hR : rm.frames + 1 ≤ R.frames ∧ 8 + (maxL + 11) + rm.locals ≤ R.locals) (hcs : cells ≤ R.cells ∧ slots ≤ R.slots)
    (hsz : ls.size = nL) (hst : st = As.reverse ++ .ref b :: rest) (hrest : (rest.map fun v => v.category).sum ≤ 8) (hdg : decode cc pc = .ok (.invokevirtual index, 3)) :
    va_Run p l e R s m args below meth c H locs cells slots 0 0 (F0 m pc ls st) rest (Qc (Value.ref b :: As).toArray) E := by
  obtain ⟨hx, hb, hml, hown, hts, hU⟩ := EE
  have hin : ∀ w ∈ ([.methodLink own index y, .instanceMethod y, .selects C y y, .initialized C, .code y bytes maxL ret] : List Cond), w ∈ G_ := fun w h => G_in (hw.1 w h)
  exact va_runV (As := As) (rest := rest) ⟨hx, hb, hml, hown, hts⟩ hM (cwV n hts (G_good (fun w h => by
      simp only [wsV, List.cons_append, List.nil_append, List.mem_cons] at h
      rcases h with rfl | rfl | rfl | rfl | rfl | h
      · exact hin _ (by simp)
      · exact hin _ (by simp)
      · exact hin _ (by simp)
      · exact hin _ (by simp)
      · exact hin _ (by simp)
      · exact h)) rfl hrm.1 hrm.2 ⟨hC, hw.2⟩ hR) ⟨sx_blind, va_recv hU.2.1 hP (ci := ci) (q0 := 0) hc rfl, fun U hU' hW => ⟨rfl, hU', hU.moved hW⟩⟩ rfl hn hsz hst (lv_room hrest) hdg hcs
/-- a field is read -/
theorem sx_get {o : Nat} {v : Value} {f d : String} (EE : sx_E p s m args c cc nL own D g) (hP : va_P D classes [(o, .inr (ci, fs))] H) (hc : classes[ci]? = some (C, T, N)) (hin : ∀ w ∈ u_ws C T N, w ∈ G_) (k : Nat) (hk : k < N) (hT : T k = (C, f, d, (T k).2.2.2)) (hl : Cond.fieldLink own index C f d ∈ lw_tbl ∧ sx_okw (Cond.fieldLink own index C f d) = true) (hv : fs[k]? = some v) (hdg : decode cc pc = .ok (.getfield index, 3))
    (kk : W p l e R s m args below meth c H locs cells slots Q (F0 m (pc + 3) ls (v :: rest))) : W p l e R s m args below meth c H locs cells slots Q (F0 m pc ls (.ref o :: rest)) := by
  obtain ⟨hx, hb, hml, hown, hts, hU⟩ := EE
  have e1 : (T k).1 = C := by rw [hT]
  have e2 : (T k).2.1 = f := by rw [hT]
  have e3 : (T k).2.2.1 = d := by rw [hT]
  exact va_get (D := D) (ci := ci) (v := v) (C := C) (T := T) (N := N) hx hb hts hin hown hU.2.1 hP 0 rfl hc k hk (ref := C) (by rw [e2, e3]; exact hts _ (G_in hl)) (fun x h => by rw [e1] at h; exact h) hv hdg kk
end SXO
/-! objects are written, cells are made -/
theorem sx_A.le {g : ClassId → FieldType → Prop} {t : FieldType} {H : Heap} {a n k : Nat} (h : sx_A g t H a n) (hk : k ≤ n) : sx_A g t H a k := by
  obtain ⟨cell, h1, h2, h3, h4, h5, h6⟩ := h
  exact ⟨cell, h1, h2, h3, h4, Nat.le_trans hk h5, fun j hj => h6 j (Nat.lt_of_lt_of_le hj hk)⟩
theorem sx_J.obj {g : ClassId → FieldType → Prop} {E : Nat → Prop} {H H1 : Heap} {o i : Nat} {cell : Cell} {v : Value} (hc : H[o]? = some cell) (hna : ∀ t, ¬ g cell.cls t) (e : H1[o]? = some (cell.setSlot i v)) (z : H1.size = H.size) (oq : ∀ q : Nat, q ≠ o → H1[q]? = H[q]?) (hE : E o) : sx_J g E H H1 := by
  refine ⟨Nat.le_of_eq z.symm, fun q _ h => oq q (fun x => h (x ▸ hE)), fun t b n hb => ?_, fun b n hb => ?_⟩
  · obtain ⟨c0, h1, h2, h3⟩ := hb
    by_cases hba : b = o
    · subst hba
      cases Option.some.inj (hc.symm.trans h1)
      exact absurd h2 (hna t)
    · exact ⟨c0, (oq b hba).trans h1, h2, h3⟩
  · obtain ⟨c0, h1, h2⟩ := hb
    by_cases hba : b = o
    · subst hba
      cases Option.some.inj (hc.symm.trans h1)
      exact ⟨_, e, by rw [k2_slotsz]; exact h2⟩
    · exact ⟨c0, (oq b hba).trans h1, h2⟩
section SXP
variable {p : Program} {l : Launch} {e : Env} {R : Room} {s : State} {m : MethodId} {args : Array Value} {below : List Frame} {meth : Method} {c : Code} {H H0 : Heap} {locs : List Loc} {cells slots : Nat} {Q : State → Prop}
variable {cc : ByteArray} {pc : Nat} {ls : Array Slot} {g : ClassId → FieldType → Prop} {E F : Nat → Prop} {D : va_G}
variable {nL index : Nat} {own C : String} {rest : List Value} {o ci : Nat} {fs : List Value} {T : u_T} {N : Nat}
/-- a field that isn't final is written -/
theorem sx_put {f d : String} {ty : FieldType} {v : Value} (EE : sx_E p s m args c cc nL own D g) (hP : va_P D classes [(o, .inr (ci, fs))] H) (hc : classes[ci]? = some (C, T, N)) (hin : ∀ w ∈ u_ws C T N, w ∈ G_) (ty0 : Nat → FieldType) (hty : ∀ k, k < N → parseFieldDescriptor (T k).2.2.1 = some (ty0 k)) (hnm : ∀ a, a < N → ∀ b, b < N → a ≠ b → (T a).2.1 ≠ (T b).2.1)
    (k : Nat) (hk : k < N) (hT : T k = (C, f, d, false)) (hl : Cond.fieldLink own index C f d ∈ lw_tbl ∧ sx_okw (Cond.fieldLink own index C f d) = true) (hd : parseFieldDescriptor d = some ty) (hn : narrow ty v = v) (hfit : fits ty v = true) (hlen : k < fs.length) (hE : E o) (hS : sx_S g E F H0 H locs) (hdg : decode cc pc = .ok (.putfield index, 3))
    (kk : ∀ (H1 : Heap) (locs1 : List Loc), va_P D classes [(o, .inr (ci, fs.set k v))] H1 → sx_J g E H H1 → (∀ q : Nat, q ≠ o → H1[q]? = H[q]?) → sx_S g E F H0 H1 locs1 → W p l e R s m args below meth c H1 locs1 cells slots Q (F0 m (pc + 3) ls rest)) : W p l e R s m args below meth c H locs cells slots Q (F0 m pc ls (v :: .ref o :: rest)) := by
  obtain ⟨hx, hb, hml, hown, hts, hU⟩ := EE
  have e1 : (T k).1 = C := by rw [hT]
  have e2 : (T k).2.1 = f := by rw [hT]
  have e3 : (T k).2.2.1 = d := by rw [hT]
  have e4 : (T k).2.2.2 = false := by rw [hT]
  have hK := hU.2.1
  have hap := va_apart (own := own) hts hin ty0 hty hnm hK hc
  obtain ⟨r, h1, cell, q1, q2, q3, q4⟩ := hP 0 _ rfl
  have hr : r = (C, T, N) := Option.some.inj (h1.symm.trans hc)
  subst hr
  obtain ⟨hS', hfc, kC, hkC, hkind⟩ := hK.1 ci _ hc
  obtain ⟨cf, kf, fi, fd, hi, hsl⟩ := hS' k hk
  have hlay := hts _ (hin _ (u_in_lay hk))
  unfold u_lay at hlay
  rw [if_neg (by rw [e4]; decide)] at hlay
  have hst := (u_facts hfc hkC (u_lays hts hin hk) hi).1
  have h6 := u_store hfc hkC hkind hlay hi (by rw [e3]; exact hd) hn hfit
  refine W.putK hx hb (f := fd) ⟨hown, hts _ (G_in hl), ⟨_, _, _, by rw [e1, e2, e3] at hi; exact hi⟩, hst⟩ (by rw [q2]; exact h6) q1 q3 (by rw [hsl]; exact k2_hasslot (q4 k hk)) rfl rfl hdg fun H' w1 w2 w3 => ?_
  have hJ : sx_J g E H H' := sx_J.obj q1 (fun t => by rw [q2]; exact sx_noarr hU.1 hK hc t) w1 w2 w3 hE
  rw [hsl] at w1
  refine kk H' _ ?_ hJ w3 ⟨hS.1.tr hJ, hS.2.1, fun q hq => by
    rcases List.mem_append.mp hq with h | h
    · exact hS.2.2 q h
    · rw [List.mem_singleton.mp h]; exact hS.2.1 _ hE⟩
  intro j q hj
  match j, hj with
  | 0, hj =>
    cases hj
    exact ⟨_, hc, t_OB.to (V := updV (vp_V fs) k v) ⟨_, w1, q2, q3, t_set q4 hap hk v⟩ (fun j _ => vp_updV_set hlen v j)⟩
/-- a final field is written in the constructor -/
theorem sx_putF {f d : String} {ty : FieldType} {v : Value} (EE : sx_E p s m args c cc nL C D g) (hin2 : meth.name = "<init>") (hP : va_P D classes [(o, .inr (ci, fs))] H) (hc : classes[ci]? = some (C, T, N)) (hin : ∀ w ∈ u_ws C T N, w ∈ G_) (ty0 : Nat → FieldType) (hty : ∀ k, k < N → parseFieldDescriptor (T k).2.2.1 = some (ty0 k)) (hnm : ∀ a, a < N → ∀ b, b < N → a ≠ b → (T a).2.1 ≠ (T b).2.1)
    (k : Nat) (hk : k < N) (hT : T k = (C, f, d, true)) (hl : Cond.fieldLink C index C f d ∈ lw_tbl ∧ sx_okw (Cond.fieldLink C index C f d) = true) (hd : parseFieldDescriptor d = some ty) (hn : narrow ty v = v) (hfit : fits ty v = true) (hlen : k < fs.length) (hE : E o) (hS : sx_S g E F H0 H locs) (hdg : decode cc pc = .ok (.putfield index, 3))
    (kk : ∀ (H1 : Heap) (locs1 : List Loc), va_P D classes [(o, .inr (ci, fs.set k v))] H1 → sx_J g E H H1 → (∀ q : Nat, q ≠ o → H1[q]? = H[q]?) → sx_S g E F H0 H1 locs1 → W p l e R s m args below meth c H1 locs1 cells slots Q (F0 m (pc + 3) ls rest)) : W p l e R s m args below meth c H locs cells slots Q (F0 m pc ls (v :: .ref o :: rest)) := by
  obtain ⟨hx, hb, hml, hown, hts, hU⟩ := EE
  have e1 : (T k).1 = C := by rw [hT]
  have e2 : (T k).2.1 = f := by rw [hT]
  have e3 : (T k).2.2.1 = d := by rw [hT]
  have e4 : (T k).2.2.2 = true := by rw [hT]
  have hK := hU.2.1
  have hap := va_apart (own := C) hts hin ty0 hty hnm hK hc
  obtain ⟨r, h1, cell, q1, q2, q3, q4⟩ := hP 0 _ rfl
  have hr : r = (C, T, N) := Option.some.inj (h1.symm.trans hc)
  subst hr
  obtain ⟨hS', hfc, kC, hkC, hkind⟩ := hK.1 ci _ hc
  obtain ⟨cf, kf, fi, fd, hi, hsl⟩ := hS' k hk
  have hlay := hts _ (hin _ (u_in_lay hk))
  unfold u_lay at hlay
  rw [if_pos e4] at hlay
  have hst := (u_facts hfc hkC (u_lays hts hin hk) hi).1
  have hcf : m.cls = cf := by
    obtain ⟨_, _, c', _, _, _, -, -, hf', -, -, -, hown2, -⟩ := Cond.laysFinal_spec hlay
    have e5 : c' = cf := by have := hi.symm.trans hf'; simp at this; exact this.1.symm
    rw [e1] at hown2
    rw [← e5]; exact Option.some.inj (hown.symm.trans hown2)
  have h6 := u_fits hfc hkC hkind (Or.inr hlay) hi (by rw [e3]; exact hd) hn hfit
  refine W.putFinK hx hb hown (hts _ (G_in hl)) (by rw [e1, e2, e3] at hi; exact hi) hst hcf hin2 (by rw [q2]; exact h6) q1 q3 (by rw [hsl]; exact k2_hasslot (q4 k hk)) rfl rfl hdg fun H' w1 w2 w3 => ?_
  have hJ : sx_J g E H H' := sx_J.obj q1 (fun t => by rw [q2]; exact sx_noarr hU.1 hK hc t) w1 w2 w3 hE
  rw [hsl] at w1
  refine kk H' _ ?_ hJ w3 ⟨hS.1.tr hJ, hS.2.1, fun q hq => by
    rcases List.mem_append.mp hq with h | h
    · exact hS.2.2 q h
    · rw [List.mem_singleton.mp h]; exact hS.2.1 _ hE⟩
  intro j q hj
  match j, hj with
  | 0, hj =>
    cases hj
    exact ⟨_, hc, t_OB.to (V := updV (vp_V fs) k v) ⟨_, w1, q2, q3, t_set q4 hap hk v⟩ (fun j _ => vp_updV_set hlen v j)⟩
/-- an array is made -/
theorem sx_newa {t : ArrayType} {ty : FieldType} {n cells' slots' : Nat} (hx : p.tables.exec = Jvm.exec) (hb : c.code = cc) (hG : sx_G s g) (hts : ∀ w ∈ G_, w.before args s = true) (hty : newarray.typeOf t = ty) (hp : ty = .long ∨ ty = .byte ∨ ty = .int) (hw : Cond.arrayClass ty ∈ lw_tbl) (hn : n < 2 ^ 31) (hbytes : n * componentBytes ty ≤ 536870912) (hc1 : cells + 1 = cells') (hs1 : slots + n = slots') (hcells : cells' ≤ R.cells) (hslots : slots' ≤ R.slots) (hS : sx_S g E F H0 H locs) (hdg : decode cc pc = .ok (.newarray t, 2))
    (kk : ∀ (q : Nat) (H1 : Heap), H.size = q → sx_A g ty H1 q n → sx_L H1 q n → (∃ cA : ClassId, H1[q]? = some (arrV cA n (fun _ => defaultValue ty))) → sx_J g E H H1 → (∀ z : Nat, z < H.size → H1[z]? = H[z]?) → sx_S g E F H0 H1 locs → W p l e R s m args below meth c H1 locs cells' slots' Q (F0 m (pc + 2) ls (.ref q :: rest))) : W p l e R s m args below meth c H locs cells slots Q (F0 m pc ls (.int (nI n) :: rest)) := by
  subst hty
  subst hc1
  subst hs1
  refine W.newaK hx hb (hts _ (G_in ⟨hw, by simp [sx_okw]⟩)) (n := nI n) rfl hdg rfl (nI_pos hn) (nI_clamp hn) hbytes hcells hslots rfl (fun H' cA h1 h2 h3 h4 => ?_)
  have hJ : sx_J g E H H' := sx_J.grow (by omega) h3
  refine kk H.size H' rfl ?_ ⟨_, h1, arrV_size _ _ _⟩ ⟨cA, h1⟩ hJ h3 ⟨hS.1.tr hJ, hS.2⟩
  obtain ⟨w1, w2⟩ := h4 n (fun _ => defaultValue (newarray.typeOf t))
  refine ⟨_, h1, (hG _ _).mpr w2, w1, (fun h => by cases h), by rw [arrV_size]; exact Nat.le_refl _, fun j hj => ⟨_, arrV_read _ _ hj, ?_⟩⟩
  rcases hp with h | h | h <;> rw [h]
  · exact ⟨0, rfl⟩
  · exact ⟨0, rfl, by decide +kernel⟩
  · exact ⟨0, rfl⟩
end SXP
/-- the arrays that were made so far -/
def sx_AR (g : ClassId → FieldType → Prop) (H : Heap) (L : List (Nat × FieldType × Nat)) : Prop := ∀ q ∈ L, sx_A g q.2.1 H q.1 q.2.2 ∧ sx_L H q.1 q.2.2
theorem sx_AR.nil {g : ClassId → FieldType → Prop} {H : Heap} : sx_AR g H [] := fun q h => by cases h
theorem sx_AR.cons {g : ClassId → FieldType → Prop} {H : Heap} {L : List (Nat × FieldType × Nat)} {q : Nat} {t : FieldType} {n : Nat} (h : sx_AR g H L) (h1 : sx_A g t H q n) (h2 : sx_L H q n) : sx_AR g H ((q, t, n) :: L) := fun z hz => by
  rcases List.mem_cons.mp hz with rfl | hz
  · exact ⟨h1, h2⟩
  · exact h z hz
theorem sx_AR.kept {g : ClassId → FieldType → Prop} {E : Nat → Prop} {H H1 : Heap} {L : List (Nat × FieldType × Nat)} (h : sx_AR g H L) (hJ : sx_J g E H H1) : sx_AR g H1 L := fun z hz => ⟨hJ.2.2.1 _ _ _ (h z hz).1, hJ.2.2.2 _ _ (h z hz).2⟩
/-- the object is as it was: only new cells came -/
theorem va_P.grown {D : va_G} {cl : List vw_C} {ws : va_W} {H H1 : Heap} (h : va_P D cl ws H) (hk : ∀ z : Nat, z < H.size → H1[z]? = H[z]?) : va_P D cl ws H1 := h.kept (fun k q hq => hk q.1 (h k q hq).lt)
/-- an array of ints, all 0 -/
def zi_ (H : Heap) (a n : Nat) : Prop := ∃ cA : ClassId, H[a]? = some (arrV cA n (fun _ => .int 0))
theorem zi_.lt {H : Heap} {a n : Nat} (h : zi_ H a n) : a < H.size := by
  obtain ⟨cA, h⟩ := h
  exact (Array.getElem?_eq_some_iff.mp h).1
theorem zi_.kept {H H1 : Heap} {a n : Nat} (h : zi_ H a n) (e : H1[a]? = H[a]?) : zi_ H1 a n := by
  obtain ⟨cA, h⟩ := h
  exact ⟨cA, e.trans h⟩
theorem zi_.grown {H H1 : Heap} {a n : Nat} (h : zi_ H a n) (hk : ∀ z : Nat, z < H.size → H1[z]? = H[z]?) : zi_ H1 a n := h.kept (hk a h.lt)
section SXB
variable {l : Launch} {D : va_G} {g : ClassId → FieldType → Prop} {E : Nat → Prop} {H0 : Heap} {y : MethodName} {cc : ByteArray} {maxL : Nat} {own : String} {vs : List Value} {rm : Room}
/-- a method that makes mc cells of ms slots and ends with P of the heap -/
theorem sx_mva {mc ms : Nat} {P : Heap → Prop} (hy : plainName y.cls = true) (ho : y.cls = own) (hlen : (lg_sl vs).length ≤ maxL)
    (body : ∀ (p : Program) (e : Env) (s : State) (m : MethodId) (args : Array Value) (below : List Frame) (meth : Method) (c : Code) (Q : State → Prop) (ls : Array Slot), sx_E p s m args c cc maxL own D g → meth.name = y.name → lv_has ls maxL (lv_args 0 vs) →
      (∀ (H : Heap) (locs : List Loc) (ls : Array Slot) (pc : Nat), P H → sx_J g E H0 H → (∀ q ∈ locs, E q.base) → decode cc pc = .ok (.return_, 1) → W p l e rm s m args below meth c H locs mc ms Q (F0 m pc ls [])) → W p l e rm s m args below meth c H0 [] 0 0 Q (F0 m 0 ls [])) :
    Met l y (.code y cc maxL none :: G_) rm (sx_Pc vs H0 D g) (va_Qv (fun _ : Unit => True) (fun _ t => sx_J g E H0 t.heap ∧ P t.heap) E) mc ms E := by
  refine Met.ofW (cc := cc) (maxL := maxL) (ret := none) hy rfl ?_
  intro p e s m args below meth c s₁ B hml hv
  obtain ⟨rfl, hh, hU⟩ := hv
  have hl := lv_entry vs (n := maxL) hlen
  rw [lg_entry_eq]
  generalize (lg_sl vs ++ List.replicate (maxL - (lg_sl vs).length) Slot.unset).toArray = ls at hl ⊢
  have hb := B.bytes
  rw [hh]
  refine body p e s m _ below meth c _ ls ⟨B.exec, hb, hml, ho ▸ findClass_of_methodNamed B.named, fun w h => atoms_spec B.pre w (List.mem_cons_of_mem _ h), hU⟩ (name_of_methodNamed B.named B.method).1 hl (fun H locs ls pc hP hJ hlo hd => ?_)
  exact W.vret B.exec hb B.returns (fun t ht hW => ⟨⟨(), rfl, trivial, (by rw [← ht] at hJ hP; exact ⟨hJ, hP⟩)⟩, sx_F hh (by rw [ht]; exact hJ)⟩) hlo hd
end SXB
theorem i0_M : ∀ w ∈ u_ws R_M F_M 53, w ∈ lw_tbl ∧ sx_okw w = true := by decide +kernel
theorem i_M : ∀ w ∈ u_ws R_M F_M 53, w ∈ G_ := fun w h => G_in (i0_M w h)
theorem i0_K : ∀ w ∈ u_ws R_K F_K 12, w ∈ lw_tbl ∧ sx_okw w = true := by decide +kernel
theorem i_K : ∀ w ∈ u_ws R_K F_K 12, w ∈ G_ := fun w h => G_in (i0_K w h)
theorem i0_F : ∀ w ∈ u_ws R_F F_F 7, w ∈ lw_tbl ∧ sx_okw w = true := by decide +kernel
theorem i_F : ∀ w ∈ u_ws R_F F_F 7, w ∈ G_ := fun w h => G_in (i0_F w h)
theorem i0_La : ∀ w ∈ u_ws R_La F_La 12, w ∈ lw_tbl ∧ sx_okw w = true := by decide +kernel
theorem i_La : ∀ w ∈ u_ws R_La F_La 12, w ∈ G_ := fun w h => G_in (i0_La w h)
theorem i0_Pt : ∀ w ∈ u_ws R_Pt F_Pt 4, w ∈ lw_tbl ∧ sx_okw w = true := by decide +kernel
theorem i_Pt : ∀ w ∈ u_ws R_Pt F_Pt 4, w ∈ G_ := fun w h => G_in (i0_Pt w h)
theorem i0_Ad : ∀ w ∈ u_ws R_Ad F_Ad 4, w ∈ lw_tbl ∧ sx_okw w = true := by decide +kernel
theorem i_Ad : ∀ w ∈ u_ws R_Ad F_Ad 4, w ∈ G_ := fun w h => G_in (i0_Ad w h)
theorem i0_Ed : ∀ w ∈ u_ws R_Ed F_Ed 15, w ∈ lw_tbl ∧ sx_okw w = true := by decide +kernel
theorem i_Ed : ∀ w ∈ u_ws R_Ed F_Ed 15, w ∈ G_ := fun w h => G_in (i0_Ed w h)
theorem i0_Ha : ∀ w ∈ u_ws R_Ha F_Ha 5, w ∈ lw_tbl ∧ sx_okw w = true := by decide +kernel
theorem i_Ha : ∀ w ∈ u_ws R_Ha F_Ha 5, w ∈ G_ := fun w h => G_in (i0_Ha w h)
theorem i0_Or : ∀ w ∈ u_ws R_Or F_Or 1, w ∈ lw_tbl ∧ sx_okw w = true := by decide +kernel
theorem i_Or : ∀ w ∈ u_ws R_Or F_Or 1, w ∈ G_ := fun w h => G_in (i0_Or w h)
theorem i0_Ro : ∀ w ∈ u_ws R_Ro F_Ro 2, w ∈ lw_tbl ∧ sx_okw w = true := by decide +kernel
theorem i_Ro : ∀ w ∈ u_ws R_Ro F_Ro 2, w ∈ G_ := fun w h => G_in (i0_Ro w h)
theorem i0_Ke : ∀ w ∈ u_ws R_Ke F_Ke 5, w ∈ lw_tbl ∧ sx_okw w = true := by decide +kernel
theorem i_Ke : ∀ w ∈ u_ws R_Ke F_Ke 5, w ∈ G_ := fun w h => G_in (i0_Ke w h)
theorem i0_Si : ∀ w ∈ u_ws R_Si F_Si 9, w ∈ lw_tbl ∧ sx_okw w = true := by decide +kernel
theorem i_Si : ∀ w ∈ u_ws R_Si F_Si 9, w ∈ G_ := fun w h => G_in (i0_Si w h)
/-! the reference object: its arrays and numbers -/
def mo_arr : List (Nat × FieldType × Nat) := [(1, .byte, 65536), (2, .byte, 65536), (3, .byte, 64), (4, .byte, 3200), (9, .int, 6), (10, .long, 16), (11, .long, 256), (12, .long, 16), (13, .long, 256), (14, .long, 16), (15, .long, 16), (16, .long, 16), (17, .long, 16), (18, .long, 16), (19, .long, 16), (20, .long, 16), (21, .long, 16), (22, .long, 16), (23, .long, 16), (24, .long, 16), (25, .long, 16), (26, .long, 16), (27, .long, 16), (28, .long, 16), (29, .long, 16), (30, .long, 16), (31, .long, 16), (32, .long, 16), (33, .long, 16), (34, .long, 16), (35, .byte, 32), (36, .byte, 32), (37, .byte, 32), (38, .byte, 65664), (39, .int, 8), (40, .long, 32), (41, .long, 18), (42, .long, 16), (43, .long, 16), (44, .long, 17), (45, .long, 17), (46, .long, 80), (47, .long, 8), (48, .long, 80), (49, .long, 8), (50, .long, 8), (51, .long, 8), (52, .byte, 64)]
def mo_fs (r : Nat → Nat) (i : Nat → Int32) : List Value := [.int (i 0), .ref (r 1), .ref (r 2), .ref (r 3), .ref (r 4), .int (i 5), .int (i 6), .int (i 7), .int (i 8), .ref (r 9), .ref (r 10), .ref (r 11), .ref (r 12), .ref (r 13), .ref (r 14), .ref (r 15), .ref (r 16), .ref (r 17), .ref (r 18), .ref (r 19), .ref (r 20), .ref (r 21), .ref (r 22), .ref (r 23), .ref (r 24), .ref (r 25), .ref (r 26), .ref (r 27), .ref (r 28), .ref (r 29), .ref (r 30), .ref (r 31), .ref (r 32), .ref (r 33), .ref (r 34), .ref (r 35), .ref (r 36), .ref (r 37), .ref (r 38), .ref (r 39), .ref (r 40), .ref (r 41), .ref (r 42), .ref (r 43), .ref (r 44), .ref (r 45), .ref (r 46), .ref (r 47), .ref (r 48), .ref (r 49), .ref (r 50), .ref (r 51), .ref (r 52)]
def mo_ (D : va_G) (g : ClassId → FieldType → Prop) (H : Heap) (o : Nat) (r : Nat → Nat) (i : Nat → Int32) : Prop := va_P D classes [(o, .inr (0, mo_fs r i))] H ∧ ∀ q ∈ mo_arr, sx_A g q.2.1 H (r q.1) q.2.2
theorem mo_.kept {D : va_G} {g : ClassId → FieldType → Prop} {E : Nat → Prop} {H0 H : Heap} {o : Nat} {r : Nat → Nat} {i : Nat → Int32} (h : mo_ D g H0 o r i) (hJ : sx_J g E H0 H) (hE : ¬ E o) : mo_ D g H o r i := ⟨hJ.ob hE h.1, fun q hq => hJ.2.2.1 _ _ _ (h.2 q hq)⟩
def mo_wr : List (Nat × FieldType × Nat) := [(10, .long, 16), (11, .long, 256), (12, .long, 16), (13, .long, 256), (14, .long, 16), (15, .long, 16), (16, .long, 16), (17, .long, 16), (18, .long, 16), (19, .long, 16), (20, .long, 16), (21, .long, 16), (22, .long, 16), (23, .long, 16), (24, .long, 16), (25, .long, 16), (26, .long, 16), (27, .long, 16), (28, .long, 16), (29, .long, 16), (30, .long, 16), (31, .long, 16), (32, .long, 16), (33, .long, 16), (34, .long, 16), (35, .byte, 32), (36, .byte, 32), (37, .byte, 32), (38, .byte, 65664), (39, .int, 8), (40, .long, 32), (41, .long, 18), (42, .long, 16), (43, .long, 16), (44, .long, 17), (45, .long, 17), (46, .long, 80), (47, .long, 8), (48, .long, 80), (49, .long, 8), (50, .long, 8), (51, .long, 8), (52, .byte, 64)]
theorem mo_1 {D : va_G} {g : ClassId → FieldType → Prop} {H : Heap} {o : Nat} {r : Nat → Nat} {i : Nat → Int32} (h : mo_ D g H o r i) : sx_A g .byte H (r 1) 65536 := h.2 (1, .byte, 65536) (by decide +kernel)
theorem mo_2 {D : va_G} {g : ClassId → FieldType → Prop} {H : Heap} {o : Nat} {r : Nat → Nat} {i : Nat → Int32} (h : mo_ D g H o r i) : sx_A g .byte H (r 2) 65536 := h.2 (2, .byte, 65536) (by decide +kernel)
theorem mo_3 {D : va_G} {g : ClassId → FieldType → Prop} {H : Heap} {o : Nat} {r : Nat → Nat} {i : Nat → Int32} (h : mo_ D g H o r i) : sx_A g .byte H (r 3) 64 := h.2 (3, .byte, 64) (by decide +kernel)
theorem mo_4 {D : va_G} {g : ClassId → FieldType → Prop} {H : Heap} {o : Nat} {r : Nat → Nat} {i : Nat → Int32} (h : mo_ D g H o r i) : sx_A g .byte H (r 4) 3200 := h.2 (4, .byte, 3200) (by decide +kernel)
theorem mo_9 {D : va_G} {g : ClassId → FieldType → Prop} {H : Heap} {o : Nat} {r : Nat → Nat} {i : Nat → Int32} (h : mo_ D g H o r i) : sx_A g .int H (r 9) 6 := h.2 (9, .int, 6) (by decide +kernel)
theorem mo_10 {D : va_G} {g : ClassId → FieldType → Prop} {H : Heap} {o : Nat} {r : Nat → Nat} {i : Nat → Int32} (h : mo_ D g H o r i) : sx_A g .long H (r 10) 16 := h.2 (10, .long, 16) (by decide +kernel)
theorem mow_10 {E : Nat → Prop} {r : Nat → Nat} (h : ∀ q ∈ mo_wr, E (r q.1)) : E (r 10) := h (10, .long, 16) (by decide +kernel)
theorem mo_11 {D : va_G} {g : ClassId → FieldType → Prop} {H : Heap} {o : Nat} {r : Nat → Nat} {i : Nat → Int32} (h : mo_ D g H o r i) : sx_A g .long H (r 11) 256 := h.2 (11, .long, 256) (by decide +kernel)
theorem mow_11 {E : Nat → Prop} {r : Nat → Nat} (h : ∀ q ∈ mo_wr, E (r q.1)) : E (r 11) := h (11, .long, 256) (by decide +kernel)
theorem mo_12 {D : va_G} {g : ClassId → FieldType → Prop} {H : Heap} {o : Nat} {r : Nat → Nat} {i : Nat → Int32} (h : mo_ D g H o r i) : sx_A g .long H (r 12) 16 := h.2 (12, .long, 16) (by decide +kernel)
theorem mow_12 {E : Nat → Prop} {r : Nat → Nat} (h : ∀ q ∈ mo_wr, E (r q.1)) : E (r 12) := h (12, .long, 16) (by decide +kernel)
theorem mo_13 {D : va_G} {g : ClassId → FieldType → Prop} {H : Heap} {o : Nat} {r : Nat → Nat} {i : Nat → Int32} (h : mo_ D g H o r i) : sx_A g .long H (r 13) 256 := h.2 (13, .long, 256) (by decide +kernel)
theorem mow_13 {E : Nat → Prop} {r : Nat → Nat} (h : ∀ q ∈ mo_wr, E (r q.1)) : E (r 13) := h (13, .long, 256) (by decide +kernel)
theorem mo_14 {D : va_G} {g : ClassId → FieldType → Prop} {H : Heap} {o : Nat} {r : Nat → Nat} {i : Nat → Int32} (h : mo_ D g H o r i) : sx_A g .long H (r 14) 16 := h.2 (14, .long, 16) (by decide +kernel)
theorem mow_14 {E : Nat → Prop} {r : Nat → Nat} (h : ∀ q ∈ mo_wr, E (r q.1)) : E (r 14) := h (14, .long, 16) (by decide +kernel)
theorem mo_15 {D : va_G} {g : ClassId → FieldType → Prop} {H : Heap} {o : Nat} {r : Nat → Nat} {i : Nat → Int32} (h : mo_ D g H o r i) : sx_A g .long H (r 15) 16 := h.2 (15, .long, 16) (by decide +kernel)
theorem mow_15 {E : Nat → Prop} {r : Nat → Nat} (h : ∀ q ∈ mo_wr, E (r q.1)) : E (r 15) := h (15, .long, 16) (by decide +kernel)
theorem mo_16 {D : va_G} {g : ClassId → FieldType → Prop} {H : Heap} {o : Nat} {r : Nat → Nat} {i : Nat → Int32} (h : mo_ D g H o r i) : sx_A g .long H (r 16) 16 := h.2 (16, .long, 16) (by decide +kernel)
theorem mow_16 {E : Nat → Prop} {r : Nat → Nat} (h : ∀ q ∈ mo_wr, E (r q.1)) : E (r 16) := h (16, .long, 16) (by decide +kernel)
theorem mo_17 {D : va_G} {g : ClassId → FieldType → Prop} {H : Heap} {o : Nat} {r : Nat → Nat} {i : Nat → Int32} (h : mo_ D g H o r i) : sx_A g .long H (r 17) 16 := h.2 (17, .long, 16) (by decide +kernel)
theorem mow_17 {E : Nat → Prop} {r : Nat → Nat} (h : ∀ q ∈ mo_wr, E (r q.1)) : E (r 17) := h (17, .long, 16) (by decide +kernel)
theorem mo_18 {D : va_G} {g : ClassId → FieldType → Prop} {H : Heap} {o : Nat} {r : Nat → Nat} {i : Nat → Int32} (h : mo_ D g H o r i) : sx_A g .long H (r 18) 16 := h.2 (18, .long, 16) (by decide +kernel)
theorem mow_18 {E : Nat → Prop} {r : Nat → Nat} (h : ∀ q ∈ mo_wr, E (r q.1)) : E (r 18) := h (18, .long, 16) (by decide +kernel)
theorem mo_19 {D : va_G} {g : ClassId → FieldType → Prop} {H : Heap} {o : Nat} {r : Nat → Nat} {i : Nat → Int32} (h : mo_ D g H o r i) : sx_A g .long H (r 19) 16 := h.2 (19, .long, 16) (by decide +kernel)
theorem mow_19 {E : Nat → Prop} {r : Nat → Nat} (h : ∀ q ∈ mo_wr, E (r q.1)) : E (r 19) := h (19, .long, 16) (by decide +kernel)
theorem mo_20 {D : va_G} {g : ClassId → FieldType → Prop} {H : Heap} {o : Nat} {r : Nat → Nat} {i : Nat → Int32} (h : mo_ D g H o r i) : sx_A g .long H (r 20) 16 := h.2 (20, .long, 16) (by decide +kernel)
theorem mow_20 {E : Nat → Prop} {r : Nat → Nat} (h : ∀ q ∈ mo_wr, E (r q.1)) : E (r 20) := h (20, .long, 16) (by decide +kernel)
theorem mo_21 {D : va_G} {g : ClassId → FieldType → Prop} {H : Heap} {o : Nat} {r : Nat → Nat} {i : Nat → Int32} (h : mo_ D g H o r i) : sx_A g .long H (r 21) 16 := h.2 (21, .long, 16) (by decide +kernel)
theorem mow_21 {E : Nat → Prop} {r : Nat → Nat} (h : ∀ q ∈ mo_wr, E (r q.1)) : E (r 21) := h (21, .long, 16) (by decide +kernel)
theorem mo_22 {D : va_G} {g : ClassId → FieldType → Prop} {H : Heap} {o : Nat} {r : Nat → Nat} {i : Nat → Int32} (h : mo_ D g H o r i) : sx_A g .long H (r 22) 16 := h.2 (22, .long, 16) (by decide +kernel)
theorem mow_22 {E : Nat → Prop} {r : Nat → Nat} (h : ∀ q ∈ mo_wr, E (r q.1)) : E (r 22) := h (22, .long, 16) (by decide +kernel)
theorem mo_23 {D : va_G} {g : ClassId → FieldType → Prop} {H : Heap} {o : Nat} {r : Nat → Nat} {i : Nat → Int32} (h : mo_ D g H o r i) : sx_A g .long H (r 23) 16 := h.2 (23, .long, 16) (by decide +kernel)
theorem mow_23 {E : Nat → Prop} {r : Nat → Nat} (h : ∀ q ∈ mo_wr, E (r q.1)) : E (r 23) := h (23, .long, 16) (by decide +kernel)
theorem mo_24 {D : va_G} {g : ClassId → FieldType → Prop} {H : Heap} {o : Nat} {r : Nat → Nat} {i : Nat → Int32} (h : mo_ D g H o r i) : sx_A g .long H (r 24) 16 := h.2 (24, .long, 16) (by decide +kernel)
theorem mow_24 {E : Nat → Prop} {r : Nat → Nat} (h : ∀ q ∈ mo_wr, E (r q.1)) : E (r 24) := h (24, .long, 16) (by decide +kernel)
theorem mo_25 {D : va_G} {g : ClassId → FieldType → Prop} {H : Heap} {o : Nat} {r : Nat → Nat} {i : Nat → Int32} (h : mo_ D g H o r i) : sx_A g .long H (r 25) 16 := h.2 (25, .long, 16) (by decide +kernel)
theorem mow_25 {E : Nat → Prop} {r : Nat → Nat} (h : ∀ q ∈ mo_wr, E (r q.1)) : E (r 25) := h (25, .long, 16) (by decide +kernel)
theorem mo_26 {D : va_G} {g : ClassId → FieldType → Prop} {H : Heap} {o : Nat} {r : Nat → Nat} {i : Nat → Int32} (h : mo_ D g H o r i) : sx_A g .long H (r 26) 16 := h.2 (26, .long, 16) (by decide +kernel)
theorem mow_26 {E : Nat → Prop} {r : Nat → Nat} (h : ∀ q ∈ mo_wr, E (r q.1)) : E (r 26) := h (26, .long, 16) (by decide +kernel)
theorem mo_27 {D : va_G} {g : ClassId → FieldType → Prop} {H : Heap} {o : Nat} {r : Nat → Nat} {i : Nat → Int32} (h : mo_ D g H o r i) : sx_A g .long H (r 27) 16 := h.2 (27, .long, 16) (by decide +kernel)
theorem mow_27 {E : Nat → Prop} {r : Nat → Nat} (h : ∀ q ∈ mo_wr, E (r q.1)) : E (r 27) := h (27, .long, 16) (by decide +kernel)
theorem mo_28 {D : va_G} {g : ClassId → FieldType → Prop} {H : Heap} {o : Nat} {r : Nat → Nat} {i : Nat → Int32} (h : mo_ D g H o r i) : sx_A g .long H (r 28) 16 := h.2 (28, .long, 16) (by decide +kernel)
theorem mow_28 {E : Nat → Prop} {r : Nat → Nat} (h : ∀ q ∈ mo_wr, E (r q.1)) : E (r 28) := h (28, .long, 16) (by decide +kernel)
theorem mo_29 {D : va_G} {g : ClassId → FieldType → Prop} {H : Heap} {o : Nat} {r : Nat → Nat} {i : Nat → Int32} (h : mo_ D g H o r i) : sx_A g .long H (r 29) 16 := h.2 (29, .long, 16) (by decide +kernel)
theorem mow_29 {E : Nat → Prop} {r : Nat → Nat} (h : ∀ q ∈ mo_wr, E (r q.1)) : E (r 29) := h (29, .long, 16) (by decide +kernel)
theorem mo_30 {D : va_G} {g : ClassId → FieldType → Prop} {H : Heap} {o : Nat} {r : Nat → Nat} {i : Nat → Int32} (h : mo_ D g H o r i) : sx_A g .long H (r 30) 16 := h.2 (30, .long, 16) (by decide +kernel)
theorem mow_30 {E : Nat → Prop} {r : Nat → Nat} (h : ∀ q ∈ mo_wr, E (r q.1)) : E (r 30) := h (30, .long, 16) (by decide +kernel)
theorem mo_31 {D : va_G} {g : ClassId → FieldType → Prop} {H : Heap} {o : Nat} {r : Nat → Nat} {i : Nat → Int32} (h : mo_ D g H o r i) : sx_A g .long H (r 31) 16 := h.2 (31, .long, 16) (by decide +kernel)
theorem mow_31 {E : Nat → Prop} {r : Nat → Nat} (h : ∀ q ∈ mo_wr, E (r q.1)) : E (r 31) := h (31, .long, 16) (by decide +kernel)
theorem mo_32 {D : va_G} {g : ClassId → FieldType → Prop} {H : Heap} {o : Nat} {r : Nat → Nat} {i : Nat → Int32} (h : mo_ D g H o r i) : sx_A g .long H (r 32) 16 := h.2 (32, .long, 16) (by decide +kernel)
theorem mow_32 {E : Nat → Prop} {r : Nat → Nat} (h : ∀ q ∈ mo_wr, E (r q.1)) : E (r 32) := h (32, .long, 16) (by decide +kernel)
theorem mo_33 {D : va_G} {g : ClassId → FieldType → Prop} {H : Heap} {o : Nat} {r : Nat → Nat} {i : Nat → Int32} (h : mo_ D g H o r i) : sx_A g .long H (r 33) 16 := h.2 (33, .long, 16) (by decide +kernel)
theorem mow_33 {E : Nat → Prop} {r : Nat → Nat} (h : ∀ q ∈ mo_wr, E (r q.1)) : E (r 33) := h (33, .long, 16) (by decide +kernel)
theorem mo_34 {D : va_G} {g : ClassId → FieldType → Prop} {H : Heap} {o : Nat} {r : Nat → Nat} {i : Nat → Int32} (h : mo_ D g H o r i) : sx_A g .long H (r 34) 16 := h.2 (34, .long, 16) (by decide +kernel)
theorem mow_34 {E : Nat → Prop} {r : Nat → Nat} (h : ∀ q ∈ mo_wr, E (r q.1)) : E (r 34) := h (34, .long, 16) (by decide +kernel)
theorem mo_35 {D : va_G} {g : ClassId → FieldType → Prop} {H : Heap} {o : Nat} {r : Nat → Nat} {i : Nat → Int32} (h : mo_ D g H o r i) : sx_A g .byte H (r 35) 32 := h.2 (35, .byte, 32) (by decide +kernel)
theorem mow_35 {E : Nat → Prop} {r : Nat → Nat} (h : ∀ q ∈ mo_wr, E (r q.1)) : E (r 35) := h (35, .byte, 32) (by decide +kernel)
theorem mo_36 {D : va_G} {g : ClassId → FieldType → Prop} {H : Heap} {o : Nat} {r : Nat → Nat} {i : Nat → Int32} (h : mo_ D g H o r i) : sx_A g .byte H (r 36) 32 := h.2 (36, .byte, 32) (by decide +kernel)
theorem mow_36 {E : Nat → Prop} {r : Nat → Nat} (h : ∀ q ∈ mo_wr, E (r q.1)) : E (r 36) := h (36, .byte, 32) (by decide +kernel)
theorem mo_37 {D : va_G} {g : ClassId → FieldType → Prop} {H : Heap} {o : Nat} {r : Nat → Nat} {i : Nat → Int32} (h : mo_ D g H o r i) : sx_A g .byte H (r 37) 32 := h.2 (37, .byte, 32) (by decide +kernel)
theorem mow_37 {E : Nat → Prop} {r : Nat → Nat} (h : ∀ q ∈ mo_wr, E (r q.1)) : E (r 37) := h (37, .byte, 32) (by decide +kernel)
theorem mo_38 {D : va_G} {g : ClassId → FieldType → Prop} {H : Heap} {o : Nat} {r : Nat → Nat} {i : Nat → Int32} (h : mo_ D g H o r i) : sx_A g .byte H (r 38) 65664 := h.2 (38, .byte, 65664) (by decide +kernel)
theorem mow_38 {E : Nat → Prop} {r : Nat → Nat} (h : ∀ q ∈ mo_wr, E (r q.1)) : E (r 38) := h (38, .byte, 65664) (by decide +kernel)
theorem mo_39 {D : va_G} {g : ClassId → FieldType → Prop} {H : Heap} {o : Nat} {r : Nat → Nat} {i : Nat → Int32} (h : mo_ D g H o r i) : sx_A g .int H (r 39) 8 := h.2 (39, .int, 8) (by decide +kernel)
theorem mow_39 {E : Nat → Prop} {r : Nat → Nat} (h : ∀ q ∈ mo_wr, E (r q.1)) : E (r 39) := h (39, .int, 8) (by decide +kernel)
theorem mo_40 {D : va_G} {g : ClassId → FieldType → Prop} {H : Heap} {o : Nat} {r : Nat → Nat} {i : Nat → Int32} (h : mo_ D g H o r i) : sx_A g .long H (r 40) 32 := h.2 (40, .long, 32) (by decide +kernel)
theorem mow_40 {E : Nat → Prop} {r : Nat → Nat} (h : ∀ q ∈ mo_wr, E (r q.1)) : E (r 40) := h (40, .long, 32) (by decide +kernel)
theorem mo_41 {D : va_G} {g : ClassId → FieldType → Prop} {H : Heap} {o : Nat} {r : Nat → Nat} {i : Nat → Int32} (h : mo_ D g H o r i) : sx_A g .long H (r 41) 18 := h.2 (41, .long, 18) (by decide +kernel)
theorem mow_41 {E : Nat → Prop} {r : Nat → Nat} (h : ∀ q ∈ mo_wr, E (r q.1)) : E (r 41) := h (41, .long, 18) (by decide +kernel)
theorem mo_42 {D : va_G} {g : ClassId → FieldType → Prop} {H : Heap} {o : Nat} {r : Nat → Nat} {i : Nat → Int32} (h : mo_ D g H o r i) : sx_A g .long H (r 42) 16 := h.2 (42, .long, 16) (by decide +kernel)
theorem mow_42 {E : Nat → Prop} {r : Nat → Nat} (h : ∀ q ∈ mo_wr, E (r q.1)) : E (r 42) := h (42, .long, 16) (by decide +kernel)
theorem mo_43 {D : va_G} {g : ClassId → FieldType → Prop} {H : Heap} {o : Nat} {r : Nat → Nat} {i : Nat → Int32} (h : mo_ D g H o r i) : sx_A g .long H (r 43) 16 := h.2 (43, .long, 16) (by decide +kernel)
theorem mow_43 {E : Nat → Prop} {r : Nat → Nat} (h : ∀ q ∈ mo_wr, E (r q.1)) : E (r 43) := h (43, .long, 16) (by decide +kernel)
theorem mo_44 {D : va_G} {g : ClassId → FieldType → Prop} {H : Heap} {o : Nat} {r : Nat → Nat} {i : Nat → Int32} (h : mo_ D g H o r i) : sx_A g .long H (r 44) 17 := h.2 (44, .long, 17) (by decide +kernel)
theorem mow_44 {E : Nat → Prop} {r : Nat → Nat} (h : ∀ q ∈ mo_wr, E (r q.1)) : E (r 44) := h (44, .long, 17) (by decide +kernel)
theorem mo_45 {D : va_G} {g : ClassId → FieldType → Prop} {H : Heap} {o : Nat} {r : Nat → Nat} {i : Nat → Int32} (h : mo_ D g H o r i) : sx_A g .long H (r 45) 17 := h.2 (45, .long, 17) (by decide +kernel)
theorem mow_45 {E : Nat → Prop} {r : Nat → Nat} (h : ∀ q ∈ mo_wr, E (r q.1)) : E (r 45) := h (45, .long, 17) (by decide +kernel)
theorem mo_46 {D : va_G} {g : ClassId → FieldType → Prop} {H : Heap} {o : Nat} {r : Nat → Nat} {i : Nat → Int32} (h : mo_ D g H o r i) : sx_A g .long H (r 46) 80 := h.2 (46, .long, 80) (by decide +kernel)
theorem mow_46 {E : Nat → Prop} {r : Nat → Nat} (h : ∀ q ∈ mo_wr, E (r q.1)) : E (r 46) := h (46, .long, 80) (by decide +kernel)
theorem mo_47 {D : va_G} {g : ClassId → FieldType → Prop} {H : Heap} {o : Nat} {r : Nat → Nat} {i : Nat → Int32} (h : mo_ D g H o r i) : sx_A g .long H (r 47) 8 := h.2 (47, .long, 8) (by decide +kernel)
theorem mow_47 {E : Nat → Prop} {r : Nat → Nat} (h : ∀ q ∈ mo_wr, E (r q.1)) : E (r 47) := h (47, .long, 8) (by decide +kernel)
theorem mo_48 {D : va_G} {g : ClassId → FieldType → Prop} {H : Heap} {o : Nat} {r : Nat → Nat} {i : Nat → Int32} (h : mo_ D g H o r i) : sx_A g .long H (r 48) 80 := h.2 (48, .long, 80) (by decide +kernel)
theorem mow_48 {E : Nat → Prop} {r : Nat → Nat} (h : ∀ q ∈ mo_wr, E (r q.1)) : E (r 48) := h (48, .long, 80) (by decide +kernel)
theorem mo_49 {D : va_G} {g : ClassId → FieldType → Prop} {H : Heap} {o : Nat} {r : Nat → Nat} {i : Nat → Int32} (h : mo_ D g H o r i) : sx_A g .long H (r 49) 8 := h.2 (49, .long, 8) (by decide +kernel)
theorem mow_49 {E : Nat → Prop} {r : Nat → Nat} (h : ∀ q ∈ mo_wr, E (r q.1)) : E (r 49) := h (49, .long, 8) (by decide +kernel)
theorem mo_50 {D : va_G} {g : ClassId → FieldType → Prop} {H : Heap} {o : Nat} {r : Nat → Nat} {i : Nat → Int32} (h : mo_ D g H o r i) : sx_A g .long H (r 50) 8 := h.2 (50, .long, 8) (by decide +kernel)
theorem mow_50 {E : Nat → Prop} {r : Nat → Nat} (h : ∀ q ∈ mo_wr, E (r q.1)) : E (r 50) := h (50, .long, 8) (by decide +kernel)
theorem mo_51 {D : va_G} {g : ClassId → FieldType → Prop} {H : Heap} {o : Nat} {r : Nat → Nat} {i : Nat → Int32} (h : mo_ D g H o r i) : sx_A g .long H (r 51) 8 := h.2 (51, .long, 8) (by decide +kernel)
theorem mow_51 {E : Nat → Prop} {r : Nat → Nat} (h : ∀ q ∈ mo_wr, E (r q.1)) : E (r 51) := h (51, .long, 8) (by decide +kernel)
theorem mo_52 {D : va_G} {g : ClassId → FieldType → Prop} {H : Heap} {o : Nat} {r : Nat → Nat} {i : Nat → Int32} (h : mo_ D g H o r i) : sx_A g .byte H (r 52) 64 := h.2 (52, .byte, 64) (by decide +kernel)
theorem mow_52 {E : Nat → Prop} {r : Nat → Nat} (h : ∀ q ∈ mo_wr, E (r q.1)) : E (r 52) := h (52, .byte, 64) (by decide +kernel)
