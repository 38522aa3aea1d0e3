/-! objects of the class: points, addends, the curve; private fields of a nest mate; static arrays -/
def o4_ (D : va_G) (g : ClassId → FieldType → Prop) (H : Heap) (ci o : Nat) (r : Nat → Nat) : Prop := va_P D classes [(o, .inr (ci, [.ref (r 0), .ref (r 1), .ref (r 2), .ref (r 3)]))] H ∧ ∀ k, k < 4 → sx_A g .long H (r k) 10 ∧ sx_L H (r k) 10
theorem o4_.kept {D : va_G} {g : ClassId → FieldType → Prop} {E : Nat → Prop} {H0 H : Heap} {ci o : Nat} {r : Nat → Nat} (h : o4_ D g H0 ci o r) (hJ : sx_J g E H0 H) (hn : ¬ E o) : o4_ D g H ci o r := ⟨hJ.ob hn h.1, fun k hk => ⟨hJ.2.2.1 _ _ _ (h.2 k hk).1, hJ.2.2.2 _ _ (h.2 k hk).2⟩⟩
def ed_ (D : va_G) (g : ClassId → FieldType → Prop) (H : Heap) (o : Nat) (r : Nat → Nat) : Prop := va_P D classes [(o, .inr (6, [.ref (r 0), .ref (r 1), .ref (r 2), .ref (r 3), .ref (r 4), .ref (r 5), .ref (r 6), .ref (r 7), .ref (r 8), .ref (r 9), .ref (r 10), .ref (r 11), .ref (r 12), .ref (r 13), .ref (r 14)]))] H ∧ ∀ k, 7 ≤ k → k < 15 → sx_A g .long H (r k) 10
theorem ed_.kept {D : va_G} {g : ClassId → FieldType → Prop} {E : Nat → Prop} {H0 H : Heap} {o : Nat} {r : Nat → Nat} (h : ed_ D g H0 o r) (hJ : sx_J g E H0 H) (hn : ¬ E o) : ed_ D g H o r := ⟨hJ.ob hn h.1, fun k h1 h2 => hJ.2.2.1 _ _ _ (h.2 k h1 h2)⟩
/-- a row of 16 addends; w tells their arrays, and at 99 themselves -/
def rb_ (D : va_G) (g : ClassId → FieldType → Prop) (E : Nat → Prop) (H : Heap) (a : Nat) (w : Nat → Nat → Nat) : Prop := ¬ E a ∧ ∃ cell : Cell, H[a]? = some cell ∧ g cell.cls (.object "CurveKeys$Addend") ∧ (∀ k, cell.vm ≠ .statics k) ∧ cell.vm ≠ .unknown ∧ 16 ≤ cell.slots.size ∧ ∀ j : Nat, j < 16 → cell.slots[j]? = some (.ref (w j 99)) ∧ o4_ D g H 5 (w j 99) (w j) ∧ ¬ E (w j 99) ∧ ∀ k, k < 4 → E (w j k)
theorem rb_.kept {D : va_G} {g : ClassId → FieldType → Prop} {E : Nat → Prop} {H0 H : Heap} {a : Nat} {w : Nat → Nat → Nat} (h : rb_ D g E H0 a w) (hJ : sx_J g E H0 H) : rb_ D g E H a w := by
  obtain ⟨h0, cell, h1, h2, h3, h4, h5, h6⟩ := h
  refine ⟨h0, cell, (hJ.2.1 a (Array.getElem?_eq_some_iff.mp h1).1 h0).trans h1, h2, h3, h4, h5, fun j hj => ?_⟩
  obtain ⟨q1, q2, q3, q4⟩ := h6 j hj
  exact ⟨q1, q2.kept hJ q3, q3, q4⟩
theorem rb_.el {D : va_G} {g : ClassId → FieldType → Prop} {E : Nat → Prop} {H : Heap} {a : Nat} {w : Nat → Nat → Nat} (h : rb_ D g E H a w) {j : Nat} (hj : j < 16) : o4_ D g H 5 (w j 99) (w j) ∧ ¬ E (w j 99) ∧ ∀ k, k < 4 → E (w j k) := by
  obtain ⟨-, cell, -, -, -, -, -, h6⟩ := h
  exact (h6 j hj).2
def st_H (D : va_G) (g : ClassId → FieldType → Prop) (E : Nat → Prop) (H : Heap) (t : Nat → Nat) : Prop := ∀ k, k < 9 → ¬ E (D.2 (st_i k) 0) ∧ (∃ cell : Cell, H[D.2 (st_i k) 0]? = some cell ∧ cell.vm.isStatics = true ∧ cell.slots[D.2 (st_i k) (st_j k)]? = some (.ref (t k))) ∧ sx_A g (st_t k) H (t k) (st_l k)
theorem st_H.kept {D : va_G} {g : ClassId → FieldType → Prop} {E : Nat → Prop} {H0 H : Heap} {t : Nat → Nat} (h : st_H D g E H0 t) (hJ : sx_J g E H0 H) : st_H D g E H t := by
  intro k hk
  obtain ⟨h0, ⟨cell, h1, h2⟩, h3⟩ := h k hk
  exact ⟨h0, ⟨cell, (hJ.2.1 _ (Array.getElem?_eq_some_iff.mp h1).1 h0).trans h1, h2⟩, hJ.2.2.1 _ _ _ h3⟩
theorem st_H.mono {D : va_G} {g : ClassId → FieldType → Prop} {E E' : Nat → Prop} {H : Heap} {t : Nat → Nat} (h : st_H D g E H t) (hE : ∀ q, E' q → E q) : st_H D g E' H t := fun k hk => ⟨fun z => (h k hk).1 (hE _ z), (h k hk).2⟩
/-- an object of ours is no array -/
theorem sx_nob {s : State} {g : ClassId → FieldType → Prop} {D : va_G} {cl : List vw_C} {tys : List (ClassId × FieldType)} {ci o n : Nat} {fs : List Value} {H : Heap} {t : FieldType} (hG : sx_G s g) (hK : va_K D cl tys s) (hP : va_P D cl [(o, .inr (ci, fs))] H) : ¬ sx_A g t H o n := by
  rintro ⟨c0, h1, h2, -⟩
  obtain ⟨r, q1, c1, q2, q3, -⟩ := hP 0 _ rfl
  cases Option.some.inj (h1.symm.trans q2)
  rw [q3] at h2
  exact sx_noarr hG hK q1 t h2
section SXQ
variable {p : Program} {l : Launch} {e : Env} {R : Room} {s : State} {m : MethodId} {args : Array Value} {below : List Frame} {meth : Method} {c : Code} {H H0 : Heap} {locs : List Loc} {cells slots : Nat} {Q : State → Prop}
variable {cc : ByteArray} {pc : Nat} {ls : Array Slot} {g : ClassId → FieldType → Prop} {E F : Nat → Prop} {D : va_G}
variable {nL index ci N : Nat} {own C host : String} {rest : List Value} {fs : List Value} {T : u_T}
/-- a private field of a nest mate is read -/
theorem sx_getN {o : Nat} {v : Value} {f d : String} (EE : sx_E p s m args c cc nL own D g) (hP : va_P D classes [(o, .inr (ci, fs))] H) (hc : classes[ci]? = some (C, T, N)) (hin : ∀ w ∈ u_ws C T N, w ∈ G_) (k : Nat) (hk : k < N) (hT : T k = (C, f, d, (T k).2.2.2)) (hl : Cond.fieldLinkNest own index C f d host ∈ lw_tbl) (hv : fs[k]? = some v) (hdg : decode cc pc = .ok (.getfield index, 3))
    (kk : W p l e R s m args below meth c H locs cells slots Q (F0 m (pc + 3) ls (v :: rest))) : W p l e R s m args below meth c H locs cells slots Q (F0 m pc ls (.ref o :: rest)) := by
  obtain ⟨hx, hb, hml, hown, hts, hU⟩ := EE
  have e1 : (T k).1 = C := by rw [hT]
  have e2 : (T k).2.1 = f := by rw [hT]
  have e3 : (T k).2.2.1 = d := by rw [hT]
  exact va_getN (D := D) (ci := ci) (v := v) (C := C) (T := T) (N := N) (host := host) hx hb hts hin hown hU.2.1 hP 0 rfl hc k hk (ref := C) (by rw [e2, e3]; exact va_Nw.use rfl (hU.2.2.1 _ hl rfl)) (fun x h => by rw [e1] at h; exact h) hv hdg kk
/-- a static field is read, its own class's and a nest mate's -/
theorem sx_gets {a sl : Nat} {v : Value} {cell : Cell} {f d : String} (EE : sx_E p s m args c cc nL own D g) (hf : st_f C f d a sl s) (hc : H[a]? = some cell) (hs : cell.vm.isStatics = true) (hv : cell.slots[sl]? = some v) (hl : Cond.fieldLink own index C f d ∈ lw_tbl ∧ sx_okw (Cond.fieldLink own index C f d) = true) (hdg : decode cc pc = .ok (.getstatic index, 3))
    (kk : W p l e R s m args below meth c H locs cells slots Q (F0 m (pc + 3) ls (v :: rest))) : W p l e R s m args below meth c H locs cells slots Q (F0 m pc ls rest) := by
  obtain ⟨hx, hb, hml, hown, hts, hU⟩ := EE
  obtain ⟨cf, kf, fi, fd, h1, h2, h3, h4, rfl⟩ := hf
  exact W.gets hx hb hown (hts _ (G_in hl)) h1 h2 h3 h4 hc (fun h => by rw [h] at hs; cases hs) hv rfl hdg kk
theorem sx_getsN {a sl : Nat} {v : Value} {cell : Cell} {f d : String} (EE : sx_E p s m args c cc nL own D g) (hf : st_f C f d a sl s) (hc : H[a]? = some cell) (hs : cell.vm.isStatics = true) (hv : cell.slots[sl]? = some v) (hl : Cond.fieldLinkNest own index C f d host ∈ lw_tbl) (hdg : decode cc pc = .ok (.getstatic index, 3))
    (kk : W p l e R s m args below meth c H locs cells slots Q (F0 m (pc + 3) ls (v :: rest))) : W p l e R s m args below meth c H locs cells slots Q (F0 m pc ls rest) := by
  obtain ⟨hx, hb, hml, hown, hts, hU⟩ := EE
  obtain ⟨cf, kf, fi, fd, h1, h2, h3, h4, rfl⟩ := hf
  exact va_WgetsN hx hb hown (va_Nw.use rfl (hU.2.2.1 _ hl rfl)) h1 h2 h3 h4 hc (fun h => by rw [h] at hs; cases hs) hv rfl hdg kk
/-- an addend out of the row -/
theorem vx_aald {a : Nat} {i : Nat} {w : Nat → Nat → Nat} (hx : p.tables.exec = Jvm.exec) (hb : c.code = cc) (hG : sx_G s g) (hS : sx_S g E F H0 H locs) (ha : rb_ D g E H0 a w) (hi : i < 16) (hdg : decode cc pc = .ok (.aaload, 1))
    (k : W p l e R s m args below meth c H locs cells slots Q (F0 m (pc + 1) ls (.ref (w i 99) :: rest))) : W p l e R s m args below meth c H locs cells slots Q (F0 m pc ls (.int (nI i) :: .ref a :: rest)) := by
  obtain ⟨h0, cell, h1, h2, h3, h4, h5, h6⟩ := ha
  obtain ⟨q1, q2, q3, q4⟩ := h6 i hi
  have hz : (nI i).toNatClampNeg = i := nI_clamp (by omega)
  exact W.aald (ty := .object "CurveKeys$Addend") hx hb ((hS.1.2.1 a (Array.getElem?_eq_some_iff.mp h1).1 h0).trans h1) (hG.arr h2 h3) rfl h4 (by rw [hz]; rintro (z | z); exact nI_pos (by omega) z; omega) (by rw [hz]; exact q1) rfl rfl hdg k
/-- a private static method of a nest mate is called -/
theorem sx_runSN {y : MethodName} {bytes : ByteArray} {maxL n : Nat} {ret : Option FieldType} {rm : Room} {As st : List Value} {Qc : Array Value → State → Outcome → State → Prop} (EE : sx_E p s m args c cc nL own D g) (hM : Met l y (.code y bytes maxL ret :: G_) rm (sx_Pc As H D g) Qc 0 0 E) (hl : Cond.methodLinkNest own index y host ∈ lw_tbl) (hw : sx_w [.static y, .initialized y.cls, .code y bytes maxL ret] y n) (hn : As.length = n) (hrm : rm.cells = 0 ∧ rm.slots = 0) (hR : rm.frames + 1 ≤ R.frames ∧ 8 + (maxL + 11) + rm.locals ≤ R.locals) (hcs : cells ≤ R.cells ∧ slots ≤ R.slots)
    (hsz : ls.size = nL) (hst : st = As.reverse ++ rest) (hrest : (rest.map fun v => v.category).sum ≤ 8) (hdg : decode cc pc = .ok (.invokestatic index, 3)) :
    va_Run p l e R s m args below meth c H locs cells slots 0 0 (F0 m pc ls st) rest (Qc As.toArray) E := by
  obtain ⟨hx, hb, hml, hown, hts, hU⟩ := EE
  have hin : ∀ w ∈ ([.static y, .initialized y.cls, .code y bytes maxL ret] : List Cond), w ∈ G_ := fun w h => G_in (hw.1 w h)
  exact va_runSN (As := As) (rest := rest) ⟨hx, hb, hml, hown, hts⟩ hM ⟨va_cnB n hts (G_good (fun w h => by
      rcases List.mem_cons.mp h with rfl | h
      · exact hin _ (by simp)
      · exact h)) rfl hrm.1 hrm.2 (hU.2.2.1 _ hl rfl) (hts _ (hin _ (by simp))) hw.2 hR, hts _ (hin _ (by simp)), trivial⟩ ⟨sx_blind, fun U hU' hW => ⟨rfl, hU', hU.moved hW⟩⟩ rfl hn hsz hst (lv_room hrest) hdg hcs
end SXQ
def R_JA : String := "java/util/Arrays"
abbrev b_JA_fill : ByteArray := prog_30_method_101_code
def y_JA_fill : MethodName := ⟨R_JA, "fill", "([JJ)V"⟩
