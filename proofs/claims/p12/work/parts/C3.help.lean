/-! the law's own methods, with their tables of handlers -/
section PXW
variable {l : Launch} {D : va_G} {g : ClassId → FieldType → Prop} {E : Nat → Prop} {H0 : Heap} {y : MethodName} {cc : ByteArray} {maxL mc ms : Nat} {own : String} {vs : List Value} {rm : Room} {hh : List (Nat × Nat × Nat × Nat)}
theorem px_mW {V : Int32} {P : Heap → Prop} (hy : plainName y.cls = true) (ho : y.cls = own) (hlen : (lg_sl vs).length ≤ maxL)
    (body : ∀ (p : Program) (e : Env) (s : State) (m : MethodId) (args : Array Value) (below : List Frame) (meth : Method) (c : Code) (Q : State → Prop) (ls : Array Slot), sx_E p s m args c cc maxL own D g → tx_K s → c.exceptionTable.toList.map (fun h => (h.startPc, h.endPc, h.handlerPc, h.catchType)) = hh → s.heap = H0 → lv_has ls maxL (lv_args 0 vs) →
      (∀ (H : Heap) (locs : List Loc) (ls : Array Slot) (pc : Nat), P H → sx_J g E H0 H → (∀ q ∈ locs, E q.base) → decode cc pc = .ok (.ireturn, 1) → W p l e rm s m args below meth c H locs mc ms Q (F0 m pc ls [.int V])) → W p l e rm s m args below meth c H0 [] 0 0 Q (F0 m 0 ls [])) :
    Met l y (.codeWith y cc maxL (some .int) hh :: G_) rm (tx_Pc vs H0 D g) (px_Q g E H0 V P) mc ms E := by
  refine va_MetW (cc := cc) (maxL := maxL) (ret := some .int) (hh := hh) hy rfl ?_
  intro p e s m args below meth c s₁ B hml hv
  obtain ⟨rfl, h0, hU, hK⟩ := hv
  have hl := lv_entry vs (n := maxL) hlen
  rw [lg_entry_eq]
  generalize (lg_sl vs ++ List.replicate (maxL - (lg_sl vs).length) Slot.unset).toArray = ls at hl ⊢
  have hb := B.bytes
  have ht : c.exceptionTable.toList.map (fun h => (h.startPc, h.endPc, h.handlerPc, h.catchType)) = hh := by
    obtain ⟨m9, meth9, c9, n1, n2, n3, -, -, n6, -⟩ := Cond.codeWith_spec (atoms_spec B.pre (.codeWith y cc maxL (some .int) hh) List.mem_cons_self)
    cases B.named.symm.trans n1
    cases B.method.symm.trans n2
    cases (Stand.of_body B).code.symm.trans n3
    exact n6
  rw [h0]
  refine body p e s m _ below meth c _ ls ⟨B.exec, hb, hml, ho ▸ findClass_of_methodNamed B.named, fun w h => atoms_spec B.pre w (List.mem_cons_of_mem _ h), hU⟩ hK ht h0 hl (fun H locs ls pc hP hJ hlo hd => ?_)
  exact W.iret (v := V) B.exec hb B.returns (fun t ht hW => ⟨⟨V, (), rfl, rfl, (by rw [← ht] at hJ hP; exact ⟨hJ, hP⟩)⟩, sx_F h0 (by rw [ht]; exact hJ)⟩) hlo hd
end PXW
theorem px_row {L : List ExceptionTableEntry} {a b h t : Nat} {r : List (Nat × Nat × Nat × Nat)} (e : L.map (fun h => (h.startPc, h.endPc, h.handlerPc, h.catchType)) = (a, b, h, t) :: r) : ∃ (x : ExceptionTableEntry) (L' : List ExceptionTableEntry), L = x :: L' ∧ x.startPc = a ∧ x.endPc = b ∧ x.handlerPc = h ∧ x.catchType = t := by
  cases L with
  | nil => cases e
  | cons x L' =>
    have h1 := (List.cons.inj e).1
    simp only [Prod.mk.injEq] at h1
    exact ⟨x, L', rfl, h1.1, h1.2.1, h1.2.2.1, h1.2.2.2⟩
section PXV
variable {p : Program} {l : Launch} {e : Env} {R : Room} {s : State} {m : MethodId} {args : Array Value} {below : List Frame} {meth : Method} {c : Code} {H H0 : Heap} {locs : List Loc} {cells slots : Nat} {Q : State → Prop}
variable {cc : ByteArray} {pc : Nat} {ls : Array Slot} {g : ClassId → FieldType → Prop} {E E' F : Nat → Prop} {D : va_G} {rest st As : List Value} {P : Heap → Prop} {V : Int32} {aa : Array Value}
variable {y : MethodName} {bytes : ByteArray} {maxL nL n index mc ms : Nat} {ret : Option FieldType} {rm : Room} {own : String} {Qc : Array Value → State → Outcome → State → Prop} {hh : List (Nat × Nat × Nat × Nat)}
theorem px_runSW (EE : sx_E p s m args c cc nL own D g) (hK : tx_K s) (hH : ∀ q : Nat, q < s.heap.size → H[q]? = s.heap[q]?) (hM : Met l y (.codeWith y bytes maxL ret hh :: G_) rm (tx_Pc As H D g) Qc mc ms E') (hw : sx_w [.methodLink own index y, .static y, .initialized y.cls, .codeWith y bytes maxL ret hh] y n) (hn : As.length = n) (hrm : rm.cells = mc ∧ rm.slots = ms) (hR : rm.frames + 1 ≤ R.frames ∧ 8 + (maxL + 11) + rm.locals ≤ R.locals) (hcs : cells + mc ≤ R.cells ∧ slots + ms ≤ R.slots)
    (hsz : ls.size = nL) (hst : st = As.reverse ++ rest) (hrest : (rest.map fun v => v.category).sum ≤ 8) (hdg : decode cc pc = .ok (.invokestatic index, 3)) :
    va_Run p l e R s m args below meth c H locs cells slots mc ms (F0 m pc ls st) rest (Qc As.toArray) E' := by
  obtain ⟨hx, hb, hml, hown, hts, hU⟩ := EE
  have hin : ∀ w ∈ ([.methodLink own index y, .static y, .initialized y.cls, .codeWith y bytes maxL ret hh] : List Cond), w ∈ G_ := fun w h => G_in (hw.1 w h)
  have ok : ∀ w ∈ ([.methodLink own index y, .static y, .initialized y.cls, .codeWith y bytes maxL ret hh] : List Cond), w.before args s = true := fun w h => hts w (hin w h)
  have hy : y.cls ≠ "java/lang/invoke/MethodHandle" ∧ y.cls ≠ "java/lang/invoke/VarHandle" := ⟨hw.2.1, hw.2.2.1⟩
  have hgd : GoodIn G_ (.codeWith y bytes maxL ret hh :: G_) := G_good (fun w h => by
    rcases List.mem_cons.mp h with rfl | h
    · exact hin _ (by simp)
    · exact h)
  have hBk : Back l R p e below s args y 3 8 (PreOf R mc ms (tx_Pc As H D g)) (PostOf Qc mc ms E') := va_backW (bytes := bytes) (maxL := maxL) (ret := ret) (hh := hh) hM tx_blind hrm.1 hrm.2 hR.1 hR.2 (pay_in hts hgd) List.mem_cons_self (fun a' U hW => word_at hW (G_ok (hin (.initialized y.cls) (by simp))) (ok (.initialized y.cls) (by simp)))
  intro T0 hT0 X0
  obtain ⟨mk, methM, cM, hnamed, hmethM, -, -, -, -, -, -, hsigM⟩ := Cond.codeWith_spec (ok (.codeWith y bytes maxL ret hh) (by simp))
  have hstatic : methM.isStatic = true := Cond.static_spec hnamed hmethM (ok (.static y) (by simp))
  obtain ⟨kP, hkP, -⟩ := className_of_methodNamed hnamed
  have hinitP : kP.init = .initialized := Cond.initialized_spec (findClass_of_methodNamed hnamed) hkP (ok (.initialized y.cls) (by simp))
  have hlen : As.length = methM.sig.parameters.length := by
    have h2 := hw.2.2.2
    rw [hsigM] at h2
    rw [hn]; exact (Option.some.inj h2).symm
  obtain ⟨vm1, X1, st1⟩ := X0.invokestatic hx hown (ok (.methodLink own index y) (by simp)) hnamed hmethM hstatic hkP hinitP hy (g := F0 m pc ls st) rfl (argsL := As) (rest := rest) hlen hst (by rw [hb]; exact hdg)
  obtain ⟨v, ⟨U', L2, c3, s3⟩, X2, ⟨g', mk', t, L, e1, e2, hq, h1, hL, h2, h3⟩, hsteps⟩ := hBk m meth c ⟨T0.setVm vm1, locs, cells, slots⟩ { (F0 m pc ls st) with stack := rest } (.invokestatic index) mk As.toArray X1 rfl (hsz.trans hml.symm) (by show decode c.code pc = _; rw [hb]; exact hdg) (lv_room hrest) (X1.named hnamed) ⟨hcs.1, hcs.2, rfl, hT0, hU.moved X1.warmed, hK.moved X1.warmed (by intro q hq; show T0.heap[q]? = _; rw [hT0]; exact hH q hq)⟩
  dsimp only [Pt.U, Pt.locs, Pt.cells, Pt.slots] at X2 e1 e2 h1 h2 h3 hsteps
  subst h1; subst h2; subst h3
  exact ⟨v, (T0.setVm vm1).calling g' mk' As.toArray, t, U', L, hT0, X2, hL, e1, e2, hq, fun target h => st1 _ fun acts => by rw [doInvoke_state]; exact hsteps.trans h⟩
theorem px_gW {cells' slots' : Nat} (hr : va_Run p l e R s m args below meth c H locs cells slots mc ms (F0 m pc ls st) rest (px_Q g E' H V P aa) E') (hF : ∀ q, E' q → F q) (hlo : ∀ q ∈ locs, F q.base) (hc1 : cells + mc = cells') (hs1 : slots + ms = slots')
    (k : ∀ (H1 : Heap) (locs1 : List Loc), sx_J g E' H H1 → P H1 → (∀ q ∈ locs1, F q.base) → W p l e R s m args below meth c H1 locs1 cells' slots' Q (F0 m (pc + 3) ls (.int V :: rest))) : W p l e R s m args below meth c H locs cells slots Q (F0 m pc ls st) := by
  subst hc1; subst hs1
  exact va_calli hr (A0 := F) (H0 := H) ⟨Nat.le_refl _, fun _ _ _ => rfl, hlo⟩ (fun _ _ h => hF _ h) (fun _ h => hF _ h) (fun r u t H1 locs1 ht hvm hw hB hz hk hS1 => by
    subst hw
    rw [ht] at hB
    exact k H1 locs1 hB.1 hB.2 hS1.2.2)
theorem px_gWv {cells' slots' : Nat} (hr : va_Run p l e R s m args below meth c H locs cells slots mc ms (F0 m pc ls st) rest (px_Qv g E' H P aa) E') (hF : ∀ q, E' q → F q) (hlo : ∀ q ∈ locs, F q.base) (hc1 : cells + mc = cells') (hs1 : slots + ms = slots')
    (k : ∀ (H1 : Heap) (locs1 : List Loc), sx_J g E' H H1 → P H1 → (∀ q ∈ locs1, F q.base) → W p l e R s m args below meth c H1 locs1 cells' slots' Q (F0 m (pc + 3) ls rest)) : W p l e R s m args below meth c H locs cells slots Q (F0 m pc ls st) := by
  subst hc1; subst hs1
  exact va_callv hr (A0 := F) (H0 := H) ⟨Nat.le_refl _, fun _ _ _ => rfl, hlo⟩ (fun _ _ h => hF _ h) (fun _ h => hF _ h) (fun u t H1 locs1 ht hvm hw hB hz hk hS1 => by
    rw [ht] at hB
    exact k H1 locs1 hB.1 hB.2 hS1.2.2)
end PXV
