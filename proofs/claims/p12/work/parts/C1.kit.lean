/-! objects are made, constructors called -/
theorem o4_.grown {D : va_G} {g : ClassId → FieldType → Prop} {H H1 : Heap} {ci o : Nat} {r : Nat → Nat} (h : o4_ D g H ci o r) (hz : H.size ≤ H1.size) (hk : ∀ z : Nat, z < H.size → H1[z]? = H[z]?) : o4_ D g H1 ci o r := h.kept (E := fun _ => False) (sx_J.grow hz hk) (fun h => h)
theorem sx_J.news {g : ClassId → FieldType → Prop} {E' : Nat → Prop} {H Hb H1 : Heap} {q : Nat} (e : H.size = q) (hk : ∀ z : Nat, z < H.size → Hb[z]? = H[z]?) (hz : H.size ≤ Hb.size) (hJ : sx_J g E' Hb H1) (hE : ∀ z, E' z → z = q ∨ Hb.size ≤ z) : ∀ z : Nat, z < H.size → H1[z]? = H[z]? := fun z hz' => (hJ.2.1 z (Nat.lt_of_lt_of_le hz' hz) (fun h => by rcases hE z h with h | h <;> omega)).trans (hk z hz')
section SXN
variable {p : Program} {l : Launch} {e : Env} {R : Room} {s : State} {m : MethodId} {args : Array Value} {below : List Frame} {meth : Method} {c : Code} {H H0 : Heap} {locs : List Loc} {cells slots : Nat} {Q : State → Prop}
variable {cc : ByteArray} {pc : Nat} {ls : Array Slot} {g : ClassId → FieldType → Prop} {E F : Nat → Prop} {D : va_G}
variable {nL index ci N : Nat} {own C host : String} {rest st : List Value} {fs : List Value} {T : u_T}
theorem sx_newo {cells' slots' : Nat} (EE : sx_E p s m args c cc nL own D g) (hc : classes[ci]? = some (C, T, N)) (hin : ∀ w ∈ u_ws C T N, w ∈ G_) (ty : Nat → FieldType) (hty : ∀ k, k < N → parseFieldDescriptor (T k).2.2.1 = some (ty k)) (hw : ∀ w ∈ ([.classLink own index C, .instantiable C N, .initialized C] : List Cond), w ∈ lw_tbl ∧ sx_okw w = true) (hfs : ∀ j, j < N → defaultValue (ty j) = vp_V fs j) (hc1 : cells + 1 = cells') (hs1 : slots + N = slots') (hcells : cells' ≤ R.cells) (hslots : slots' ≤ R.slots) (hdg : decode cc pc = .ok (.new index, 3))
    (kk : ∀ (q : Nat) (H1 : Heap), H.size = q → va_P D classes [(q, .inr (ci, fs))] H1 → H1.size = q + 1 → (∀ z : Nat, z < H.size → H1[z]? = H[z]?) → W p l e R s m args below meth c H1 locs cells' slots' Q (F0 m (pc + 3) ls (.ref q :: rest))) : W p l e R s m args below meth c H locs cells slots Q (F0 m pc ls rest) := by
  subst hc1
  subst hs1
  obtain ⟨hx, hb, hml, hown, hts, hU⟩ := EE
  have hKn := hU.2.1.1 ci _ hc
  have ok : ∀ w ∈ ([.classLink own index C, .instantiable C N, .initialized C] : List Cond), w.before args s = true := fun w h => hts w (G_in (hw w h))
  refine W.newcK hx hb hown (ok _ (by simp)) (ok _ (by simp)) (ok _ (by simp)) rfl hdg hcells hslots hKn.2.1 rfl fun H1 kC hkC e1 z1 o1 => ?_
  refine kk H.size H1 rfl (fun k x hx => ?_) z1 o1
  match k, hx with
  | 0, hx =>
    cases hx
    exact ⟨_, hc, (u_born ty hts hin hKn hkC e1 hty).to hfs⟩
theorem sx_runI {y : MethodName} {bytes : ByteArray} {maxL n mc ms : Nat} {rm : Room} {As : List Value} {b : Nat} {E' : Nat → Prop} {Qc : Array Value → State → Outcome → State → Prop} (EE : sx_E p s m args c cc nL own D g) (hM : Met l y (.code y bytes maxL none :: G_) rm (sx_Pc (.ref b :: As) H D g) Qc mc ms E') (hw : sx_w [.methodLink own index y, .instanceMethod y, .initialized y.cls, .code y bytes maxL none] y n) (hn : As.length = n) (hy1 : y.name = "<init>") (hrm : rm.cells = mc ∧ rm.slots = ms) (hR : rm.frames + 1 ≤ R.frames ∧ 8 + (maxL + 11) + rm.locals ≤ R.locals) (hcs : cells + mc ≤ R.cells ∧ slots + ms ≤ R.slots)
    (hsz : ls.size = nL) (hst : st = As.reverse ++ .ref b :: rest) (hrest : (rest.map fun v => v.category).sum ≤ 8) (hdg : decode cc pc = .ok (.invokespecial index, 3)) :
    va_Run p l e R s m args below meth c H locs cells slots mc ms (F0 m pc ls st) rest (Qc (Value.ref b :: As).toArray) E' := by
  obtain ⟨hx, hb, hml, hown, hts, hU⟩ := EE
  have hin : ∀ w ∈ ([.methodLink own index y, .instanceMethod y, .initialized y.cls, .code y bytes maxL none] : List Cond), w ∈ G_ := fun w h => G_in (hw.1 w h)
  have ok : ∀ w ∈ ([.methodLink own index y, .instanceMethod y, .initialized y.cls, .code y bytes maxL none] : List Cond), w.before args s = true := fun w h => hts w (hin w h)
  exact va_runI (As := As) (rest := rest) ⟨hx, hb, hml, hown, hts⟩ hM (cwI n hts (G_good (fun w h => by
      rcases List.mem_cons.mp h with rfl | h
      · exact hin _ (by simp)
      · exact h)) rfl hrm.1 hrm.2 (ok _ (by simp)) (ok _ (by simp)) (ok _ (by simp)) hy1 hw.2 hR) ⟨sx_blind, fun U hU' hW => ⟨rfl, hU', hU.moved hW⟩⟩ rfl hn hsz hst (lv_room hrest) hdg hcs
theorem sx_runIN {y : MethodName} {bytes : ByteArray} {maxL n mc ms : Nat} {rm : Room} {As : List Value} {b : Nat} {E' : Nat → Prop} {Qc : Array Value → State → Outcome → State → Prop} (EE : sx_E p s m args c cc nL own D g) (hM : Met l y (.code y bytes maxL none :: G_) rm (sx_Pc (.ref b :: As) H D g) Qc mc ms E') (hl : Cond.methodLinkNest own index y host ∈ lw_tbl) (hw : sx_w [.instanceMethod y, .initialized y.cls, .code y bytes maxL none] y n) (hn : As.length = n) (hy1 : y.name = "<init>") (hrm : rm.cells = mc ∧ rm.slots = ms) (hR : rm.frames + 1 ≤ R.frames ∧ 8 + (maxL + 11) + rm.locals ≤ R.locals) (hcs : cells + mc ≤ R.cells ∧ slots + ms ≤ R.slots)
    (hsz : ls.size = nL) (hst : st = As.reverse ++ .ref b :: rest) (hrest : (rest.map fun v => v.category).sum ≤ 8) (hdg : decode cc pc = .ok (.invokespecial index, 3)) :
    va_Run p l e R s m args below meth c H locs cells slots mc ms (F0 m pc ls st) rest (Qc (Value.ref b :: As).toArray) E' := by
  obtain ⟨hx, hb, hml, hown, hts, hU⟩ := EE
  have hin : ∀ w ∈ ([.instanceMethod y, .initialized y.cls, .code y bytes maxL none] : List Cond), w ∈ G_ := fun w h => G_in (hw.1 w h)
  have ok : ∀ w ∈ ([.instanceMethod y, .initialized y.cls, .code y bytes maxL none] : List Cond), w.before args s = true := fun w h => hts w (hin w h)
  exact va_runIN (As := As) (rest := rest) (host := host) ⟨hx, hb, hml, hown, hts⟩ hM ⟨va_cnB n hts (G_good (fun w h => by
      rcases List.mem_cons.mp h with rfl | h
      · exact hin _ (by simp)
      · exact h)) rfl hrm.1 hrm.2 (hU.2.2.1 _ hl rfl) (ok _ (by simp)) hw.2 hR, hy1, ok _ (by simp)⟩ ⟨sx_blind, fun U hU' hW => ⟨rfl, hU', hU.moved hW⟩⟩ rfl hn hsz hst (lv_room hrest) hdg hcs
/-- behind a constructor -/
theorem sx_gI {mc ms cells' slots' : Nat} {E' : Nat → Prop} {P : Heap → Prop} {a : Array Value} (hr : va_Run p l e R s m args below meth c H locs cells slots mc ms (F0 m pc ls st) rest (va_Qv (fun _ : Unit => True) (fun _ t => sx_J g E' H t.heap ∧ P t.heap) E' a) E') (hF : ∀ q, E' q → F q) (hlo : ∀ q ∈ locs, F q.base) (hc1 : cells + mc = cells') (hs1 : slots + ms = slots')
    (k : ∀ (H1 : Heap) (locs1 : List Loc), sx_J g E' H H1 → P H1 → (∀ q ∈ locs1, F q.base) → W p l e R s m args below meth c H1 locs1 cells' slots' Q (F0 m (pc + 3) ls rest)) : W p l e R s m args below meth c H locs cells slots Q (F0 m pc ls st) := by
  subst hc1
  subst hs1
  exact va_callv hr (A0 := F) (H0 := H) ⟨Nat.le_refl _, fun _ _ _ => rfl, hlo⟩ (fun _ _ h => hF _ h) (fun _ h => hF _ h) (fun u t H1 locs1 ht hvm hw hB hz hk hS1 => by
    rw [ht] at hB
    exact k H1 locs1 hB.1 hB.2 hS1.2.2)
end SXN
theorem va_P.one {D : va_G} {cl : List vw_C} {H H1 : Heap} {x o : Nat} {e : va_E} (h : va_P D cl [(x, e)] H) (hs : ∀ q : Nat, q ≠ o → H1[q]? = H[q]?) (ne : x ≠ o) : va_P D cl [(x, e)] H1 := by
  refine h.kept (fun k q hk => ?_)
  match k, hk with
  | 0, hk =>
    cases hk
    exact hs x ne
theorem sx_ge {L : List Nat} {b : Nat} (h : ∀ x ∈ L, b ≤ x) (k : Nat) : b ≤ L.getD k b := by
  rw [List.getD_eq_getElem?_getD]
  cases hk : L[k]? with
  | none => exact Nat.le_refl _
  | some x => exact h x (List.mem_of_getElem? hk)
theorem sx_nilZ {b : Nat} : ∀ x ∈ ([] : List Nat), b ≤ x := fun x h => by cases h
theorem sx_consZ {L : List Nat} {b q : Nat} (h : ∀ x ∈ L, b ≤ x) (hq : b ≤ q) : ∀ x ∈ q :: L, b ≤ x := fun x hx => (List.mem_cons.mp hx).elim (fun e => by rw [e]; exact hq) (h x)
theorem st_H.news {D : va_G} {g : ClassId → FieldType → Prop} {E E' : Nat → Prop} {H0 H : Heap} {t : Nat → Nat} (h : st_H D g E H0 t) (hJ : sx_J g E H0 H) (hE : ∀ z, E' z → H0.size ≤ z) : st_H D g E' H t := fun k hk => by
  obtain ⟨-, ⟨c1, q1, -⟩, ⟨c2, q2, -⟩, -⟩ := h k hk
  obtain ⟨-, h2, h3, -, h5⟩ := h.kept hJ k hk
  exact ⟨fun z => absurd (hE _ z) (Nat.not_le.mpr (Array.getElem?_eq_some_iff.mp q1).1), h2, h3, fun z => absurd (hE _ z) (Nat.not_le.mpr (Array.getElem?_eq_some_iff.mp q2).1), h5⟩
theorem o4_.of {D : va_G} {g : ClassId → FieldType → Prop} {H : Heap} {ci o : Nat} {r : Nat → Nat} (h : va_P D classes [(o, .inr (ci, [.ref (r 0), .ref (r 1), .ref (r 2), .ref (r 3)]))] H) (hA : sx_AR g H [(r 0, .long, 10), (r 1, .long, 10), (r 2, .long, 10), (r 3, .long, 10)]) : o4_ D g H ci o r := ⟨h, fun k hk => by
  rcases (show k = 0 ∨ k = 1 ∨ k = 2 ∨ k = 3 by omega) with rfl | rfl | rfl | rfl
  · exact hA (r 0, .long, 10) (by simp)
  · exact hA (r 1, .long, 10) (by simp)
  · exact hA (r 2, .long, 10) (by simp)
  · exact hA (r 3, .long, 10) (by simp)⟩
theorem o4_.put {D : va_G} {g : ClassId → FieldType → Prop} {E : Nat → Prop} {H H1 : Heap} {ci x o : Nat} {r : Nat → Nat} (h : o4_ D g H ci x r) (hJ : sx_J g E H H1) (hs : ∀ q : Nat, q ≠ o → H1[q]? = H[q]?) (ne : x ≠ o) : o4_ D g H1 ci x r := ⟨h.1.one hs ne, fun k hk => ⟨hJ.2.2.1 _ _ _ (h.2 k hk).1, hJ.2.2.2 _ _ (h.2 k hk).2⟩⟩
/-- an array of references, by its contents -/
def rf_ (s : State) (C : String) (H : Heap) (a n : Nat) (f : Nat → Value) : Prop := ∃ (cA : ClassId) (kA : Class) (comp : ClassId), H[a]? = some (arrV cA n f) ∧ s.vm.classes[cA]? = some kA ∧ kA.kind = .array comp (.object C) ∧ s.vm.findClass C = some comp
theorem rf_.lt {s : State} {C : String} {H : Heap} {a n : Nat} {f : Nat → Value} (h : rf_ s C H a n f) : a < H.size := by
  obtain ⟨cA, kA, comp, h, -⟩ := h
  exact (Array.getElem?_eq_some_iff.mp h).1
theorem rf_.kept {s : State} {C : String} {H H1 : Heap} {a n : Nat} {f : Nat → Value} (h : rf_ s C H a n f) (e : H1[a]? = H[a]?) : rf_ s C H1 a n f := by
  obtain ⟨cA, kA, comp, h, h2⟩ := h
  exact ⟨cA, kA, comp, e.trans h, h2⟩
theorem rf_.grown {s : State} {C : String} {H H1 : Heap} {a n : Nat} {f : Nat → Value} (h : rf_ s C H a n f) (hk : ∀ z : Nat, z < H.size → H1[z]? = H[z]?) : rf_ s C H1 a n f := h.kept (hk a h.lt)
section SXR
variable {p : Program} {l : Launch} {e : Env} {R : Room} {s : State} {m : MethodId} {args : Array Value} {below : List Frame} {meth : Method} {c : Code} {H H0 : Heap} {locs : List Loc} {cells slots : Nat} {Q : State → Prop}
variable {cc : ByteArray} {pc : Nat} {ls : Array Slot} {g : ClassId → FieldType → Prop} {E F : Nat → Prop} {D : va_G}
variable {nL index ci N : Nat} {own C : String} {rest : List Value} {fs : List Value} {T : u_T}
theorem sx_newr {n cells' slots' : Nat} (EE : sx_E p s m args c cc nL own D g) (hw : ∀ w ∈ ([.classLink own index C] : List Cond), w ∈ lw_tbl ∧ sx_okw w = true) (hov : va_AO C s) (hn : n < 2 ^ 31) (hbytes : n * 4 ≤ 536870912) (hc1 : cells + 1 = cells') (hs1 : slots + n = slots') (hcells : cells' ≤ R.cells) (hslots : slots' ≤ R.slots) (hS : sx_S g E F H0 H locs) (hdg : decode cc pc = .ok (.anewarray index, 3))
    (kk : ∀ (q : Nat) (H1 : Heap), H.size = q → rf_ s C H1 q n (fun _ => .null) → sx_J g E H H1 → (∀ z : Nat, z < H.size → H1[z]? = H[z]?) → sx_S g E F H0 H1 locs → W p l e R s m args below meth c H1 locs cells' slots' Q (F0 m (pc + 3) ls (.ref q :: rest))) : W p l e R s m args below meth c H locs cells slots Q (F0 m pc ls (.int (nI n) :: rest)) := by
  subst hc1
  subst hs1
  obtain ⟨hx, hb, hml, hown, hts, hU⟩ := EE
  have hz : (nI n).toNatClampNeg = n := nI_clamp hn
  refine W.anew hx hb hown (hts _ (G_in (hw _ (by simp)))) (va_AO.use hov) rfl hdg rfl (nI_pos hn) (by rw [hz]; exact hbytes) hcells (by rw [hz]; exact hslots) fun cA kA comp f1 f2 f3 f4 => ?_
  rw [hz]
  generalize hH1 : H.push ({ cls := cA, slots := Array.replicate n .null, vm := .none } : Cell) = H1
  have z1 : H1.size = H.size + 1 := by rw [← hH1, Array.size_push]
  have e1 : H1[H.size]? = some (arrV cA n (fun _ => .null)) := by rw [← hH1, Array.getElem?_push_size, ← arrV_new]
  have o1 : ∀ q : Nat, q < H.size → H1[q]? = H[q]? := fun q hq => by rw [← hH1, Array.getElem?_push, if_neg (Nat.ne_of_lt hq)]
  have hJ : sx_J g E H H1 := sx_J.grow (by omega) o1
  exact kk H.size H1 rfl ⟨cA, kA, comp, e1, f2, f3, f4⟩ hJ o1 ⟨hS.1.tr hJ, hS.2⟩
theorem sx_aast {a n v i : Nat} {f : Nat → Value} (EE : sx_E p s m args c cc nL own D g) (ha : rf_ s C H a n f) (hc : classes[ci]? = some (C, T, N)) (hv : va_P D classes [(v, .inr (ci, fs))] H) (hi : i < n) (hn : n < 2 ^ 31) (hE : E a) (hS : sx_S g E F H0 H locs) (hdg : decode cc pc = .ok (.aastore, 1))
    (kk : ∀ (H1 : Heap) (locs1 : List Loc), rf_ s C H1 a n (updV f i (.ref v)) → sx_J g E H H1 → (∀ q : Nat, q ≠ a → H1[q]? = H[q]?) → sx_S g E F H0 H1 locs1 → W p l e R s m args below meth c H1 locs1 cells slots Q (F0 m (pc + 1) ls rest)) : W p l e R s m args below meth c H locs cells slots Q (F0 m pc ls (.ref v :: .int (nI i) :: .ref a :: rest)) := by
  obtain ⟨hx, hb, hml, hown, hts, hU⟩ := EE
  obtain ⟨cA, kA, comp, h1, h2, h3, h4⟩ := ha
  obtain ⟨r', hr', cellV, g1, g2, g3, -⟩ := hv 0 _ rfl
  have hcls := (hU.2.1.1 ci _ hc).2
  have hcomp : comp = D.1 ci := Option.some.inj (h4.symm.trans hcls.1)
  subst hcomp
  obtain ⟨kC, hkC, -⟩ := hcls.2
  have hz : (nI i).toNatClampNeg = i := nI_clamp (by omega)
  refine W.aast hx hb h1 (fun q h => by cases h) (fun h => by cases h) h2 h3 rfl hkC ⟨nI_pos (by omega), by rw [hz, arrV_size]; exact hi⟩ g1 (fun q h => by rw [g3] at h; cases h) (by rw [g2]; exact hkC) (by rw [g2]; exact va_assign hcls) rfl rfl hdg fun H1 w1 w2 w3 => ?_
  rw [hz] at w1 ⊢
  have hJ : sx_J g E H H1 := sx_J.cell (t := .object C) hU.1 h1 ((hU.1 _ _).mpr ⟨kA, h2, _, h3⟩) (k2_slotsz _ _ _) (fun _ h => h.set trivial) hE w1 w2 w3
  refine kk H1 _ ⟨cA, kA, _, by rw [w1, arrV_store], h2, h3, h4⟩ hJ w3 ⟨hS.1.tr hJ, hS.2.1, fun q hq => by
    rcases List.mem_append.mp hq with h | h
    · exact hS.2.2 q h
    · rw [List.mem_singleton.mp h]; exact hS.2.1 _ hE⟩
end SXR
