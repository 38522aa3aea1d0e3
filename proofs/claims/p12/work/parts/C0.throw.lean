/-! A METHOD THAT THROWS: its contract, its end, the call of such a method, the handler -/
def tx_Q (below : List Frame) (Qc : Array Value → State → Outcome → State → Prop) (a : Array Value) (s : State) (mc ms : Nat) (free : Addr → Prop) : State → Prop := fun t =>
  ∃ o, t.status = .running ∧ Ended t below o ∧ Qc a s o t ∧ ∃ L, FramedT s o t L mc ms ∧ ∀ q ∈ L, free q.base
def MetT (l : Launch) (y : MethodName) (ws : List Cond) (rm : Room) (Pc : Array Value → State → Prop) (Qc : Array Value → State → Outcome → State → Prop) (mc ms : Nat) (free : Addr → Prop) : Prop :=
  MetFree l y (headSpec ws rm) Pc (fun _ _ _ _ _ => True) (fun a st o t => Qc a st o t ∧ ∃ L, FramedT st o t L mc ms ∧ ∀ q ∈ L, free q.base)
theorem MetT.ofW {l : Launch} {y : MethodName} {ws ws' : List Cond} {rm : Room} {Pc : Array Value → State → Prop} {Qc : Array Value → State → Outcome → State → Prop} {mc ms : Nat} {free : Addr → Prop} {cc : ByteArray} {maxL : Nat} {ret : Option FieldType}
    (hy : plainName y.cls = true) (hw : ws = Cond.code y cc maxL ret :: ws')
    (body : ∀ p e s m args below meth c s₁, BodyLoose p l y (headSpec ws rm) cc maxL ret e s m args below meth c s₁ → c.maxLocals = maxL → Pc args s →
      W p l e (headSpec ws rm).room s m args below meth c s.heap [] 0 0 (tx_Q below Qc args s mc ms free) (entryFrame m args maxL)) : MetT l y ws rm Pc Qc mc ms free := by
  refine MetFree.of_bodyS (code := cc) (maxLocals := maxL) (ret := ret) hy ?_ ?_
  · intro args s m h hn
    obtain ⟨meth, c, h1, h2, h3, h4, h5, h6, -, -⟩ := Cond.code_spec hn (atoms_spec (ws := ws) h _ (by rw [hw]; exact List.mem_cons_self))
    exact ⟨meth, c, h1, h2, h3, h4, h5, h6⟩
  · intro p e s m args below meth c s₁ B hml hP _
    have hh0 : s₁.heap = s.heap := by rw [B.state]; rfl
    obtain ⟨t, a1, o, b1, b2, b3⟩ := body p e s m args below meth c s₁ B hml hP s₁ hh0 (Stand.of_body B)
    exact ⟨t, o, a1, b1, b2, ⟨b3.1, b3.2⟩⟩
/-- it threw a new object of the class X; what was there is there as it was -/
def tx_T (X : String) : Array Value → State → Outcome → State → Prop := fun _ st o t => ∃ (x : Nat) (ce : Cell), o = .threw x ∧ st.heap.size ≤ x ∧ t.heap[x]? = some ce ∧ (∀ k, ce.vm ≠ .statics k) ∧ st.vm.findClass X = some ce.cls ∧ st.heap.size ≤ t.heap.size ∧ ∀ q : Nat, q < st.heap.size → t.heap[q]? = st.heap[q]?
/-- nothing that was there is written: it is there as it was -/
theorem tx_same {s t : State} {mc ms : Nat} (h : s.sameButNew ({ t with vm := s.vm } : State) [] mc ms) : s.heap.size ≤ t.heap.size ∧ ∀ q : Nat, q < s.heap.size → t.heap[q]? = s.heap[q]? := by
  obtain ⟨-, h2, -, -, -, h6⟩ := h
  refine ⟨h2, fun q hq => ?_⟩
  obtain ⟨c', g1, g2, g3, g4⟩ := h6 q (s.heap[q]) (Array.getElem?_eq_getElem hq)
  have e1 : c'.slots = (s.heap[q]).slots := by
    apply Array.ext_getElem?
    intro i
    exact g4 i (fun z => by cases z)
  have e2 : c' = s.heap[q] := by rw [g2, e1]
  rw [Array.getElem?_eq_getElem hq, ← e2]
  exact g1
section TX
variable {l : Launch} {R : Room} {p : Program} {e : Env} {below : List Frame} {s : State} {sargs : Array Value} {y : MethodName}
def BackT (l : Launch) (R : Room) (p : Program) (e : Env) (below : List Frame) (s : State) (sargs : Array Value) (y : MethodName) (len Wd : Nat) (Pre : Pt → Array Value → Prop) (Post : Pt → Array Value → Addr → Pt → Prop) : Prop :=
  ∀ (m : MethodId) (meth : Method) (c : Code) (A : Pt) (g : JFrame) (ig : Instr) (mk : MethodId) (a : Array Value),
    Stand p l e R s m sargs below meth c A.U A.locs A.cells A.slots → g.method = m → g.locals.size = c.maxLocals → decode c.code g.pc = .ok (ig, len) →
    2 * g.monitorRoom + (g.stack.map fun v => v.category).sum ≤ Wd → A.U.methodNamed? y = some mk → Pre A a →
    ∃ (x : Addr) (B : Pt), Stand p l e R s m sargs below meth c B.U B.locs B.cells B.slots ∧ Post A a x B ∧
      Steps p.tables e below (doInvoke e (A.U.setTop g) [] mk a).1 ((B.U.setTop g).pushFrame (.throwing x))
def PostT (Qc : Array Value → State → Outcome → State → Prop) (mc ms : Nat) (free : Addr → Prop) : Pt → Array Value → Addr → Pt → Prop := fun A a x B =>
  ∃ (g : JFrame) (mk : MethodId) (t : State) (L : List Loc), B.U.heap = t.heap ∧ B.U.vm = t.vm ∧ Qc a (A.U.calling g mk a) (.threw x) t ∧ B.locs = A.locs ++ L ∧ (∀ q ∈ L, free q.base) ∧ B.cells = A.cells + mc ∧ B.slots = A.slots + ms
theorem tx_back {ws : List Cond} {rm : Room} {Pc : Array Value → State → Prop} {Qc : Array Value → State → Outcome → State → Prop} {mc ms len Wd : Nat} {free : Addr → Prop} {bytes : ByteArray} {maxL : Nat} {ret : Option FieldType}
    (hM : MetT l y ws rm Pc Qc mc ms free) (hblind : FrameBlind Pc) (hrc : rm.cells = mc) (hrs : rm.slots = ms)
    (hframes : rm.frames + 1 ≤ R.frames) (hlocals : Wd + (maxL + 11) + rm.locals ≤ R.locals)
    (hws : ∀ w ∈ ws, ∀ a' U, s.WarmedH U.vm → w.before a' U = true) (hcode : Cond.code y bytes maxL ret ∈ ws) (hinit : ∀ a' U, s.WarmedH U.vm → (Cond.initialized y.cls).before a' U = true) :
    BackT l R p e below s sargs y len Wd (PreOf R mc ms Pc) (PostT Qc mc ms free) := by
  intro m meth c A g ig mk a X hg hsize hdg hW hn hp
  obtain ⟨U, Ls, c0, s0⟩ := A
  dsimp only [Pt.U, Pt.locs, Pt.cells, Pt.slots] at X hn ⊢
  have h2 : (Cond.code y bytes maxL ret).before a U = true := hws _ hcode _ _ X.warmed
  obtain ⟨methY, cY, hmY, hcY, -, hlY, -, -, -, -⟩ := Cond.code_spec hn h2
  obtain ⟨kY, hkY, -⟩ := className_of_methodNamed hn
  have hinitY : kY.init = .initialized := Cond.initialized_spec (findClass_of_methodNamed hn) hkY (hinit a U X.warmed)
  have h : At U g.method c below := by rw [hg]; exact X.here
  have hpre : (headSpec ws rm).pre.before a U = true := atoms_intro fun w hw => hws w hw _ _ X.warmed
  have hp1 : c0 + mc ≤ R.cells := hp.1
  have hp2 : s0 + ms ≤ R.slots := hp.2.1
  have happ : (headSpec ws rm).appliesLoose y e.platform (U.calling g mk a) = true :=
    Spec.appliesLoose_calling (g := g) h hdg hn hkY hinitY
      (X.room_calling (g := g) (R' := (headSpec ws rm).room) hsize hmY hcY hframes (by rw [hlY]; show _ + (maxL + 11) + rm.locals ≤ _; omega) (by show c0 + rm.cells ≤ _; omega) (by show s0 + rm.slots ≤ _; omega)) hpre
  obtain ⟨mid, hmid⟩ := h.above
  have hfr : (U.setTop g).frames = (.java g :: mid) ++ below := by rw [State.frames_setTop' g h.top, hmid]; rfl
  obtain ⟨o, s₂, hsteps, -, hend, hq⟩ := Steps.callFree hM p X.admits X.cas X.clock (acts := []) hfr happ (hblind a U g mk hp.2.2) trivial
  rw [State.frames_setTop' g h.top] at hend
  obtain ⟨hQ, L, hF, hL⟩ := hq
  obtain ⟨⟨x, rfl⟩, hW₂, hsame⟩ := hF
  rw [X.tail] at hend
  obtain ⟨T', X', hW', hs', ht⟩ := X.outOfThrown hg hend hW₂ hsame
  refine ⟨x, ⟨T', Ls ++ L, c0 + mc, s0 + ms⟩, X', ⟨g, mk, s₂, L, ?_, ?_, hQ, rfl, hL, rfl, rfl⟩, ?_⟩
  · rw [ht]; exact (Stand.throwing_heap T' g x).symm
  · rw [ht]; exact (Stand.throwing_vm T' g x).symm
  · rw [← ht]; exact hsteps
end TX
/-- what the constructor of X of a text is: it hands the text up; what the thrower asks of the tables -/
def tx_ch (X : String) (ix : Nat) (rx : ByteArray) : List Cond := Bundle.passSAtoms X "java/lang/RuntimeException" ix rx ++ Bundle.chainSAtoms "java/lang/RuntimeException" ["java/lang/Exception"]
def tx_mo (own : String) (ic : Nat) (X : String) : List Cond := [.methodLink own ic (Bundle.initS X), .instantiable X 6, .selects X Bundle.tFill0 Bundle.tFill0, .selects X Bundle.tFill Bundle.tFill, .lays X Bundle.tN "cause" "Ljava/lang/Throwable;", .lays X Bundle.tN "stackTrace" Bundle.steD, .lays X Bundle.tN "suppressedExceptions" Bundle.listD, .lays X Bundle.tN "detailMessage" "Ljava/lang/String;", .lays X Bundle.tN "backtrace" "Ljava/lang/Object;", .lays Bundle.tN Bundle.tN "backtrace" "Ljava/lang/Object;", .fieldLink Bundle.tN 198 Bundle.tN "backtrace" "Ljava/lang/Object;", .isRef (.static Bundle.tN "UNASSIGNED_STACK" Bundle.steD), .isRef (.static Bundle.tN "SUPPRESSED_SENTINEL" Bundle.listD)]
def tx_at (own : String) (ic : Nat) (X : String) (ix : Nat) (rx : ByteArray) : List Cond := tx_mo own ic X ++ (tx_ch X ix rx ++ (Bundle.throwableSAtoms ++ Bundle.throwableAtoms))
theorem tx_links {args : Array Value} {s : State} {pl : Platform} (hpl : pl.magicAccessors = ({} : Platform).magicAccessors) {top : MethodId} (htop : s.methodNamed? (Bundle.initS Bundle.tN) = some top) {X : String} {ix : Nat} {rx : ByteArray} (x0 : decode rx 0 = .ok (.aload_n 0, 1)) (x1 : decode rx 1 = .ok (.aload_n 1, 1)) (x2 : decode rx 2 = .ok (.invokespecial ix, 3)) (x5 : decode rx 5 = .ok (.return_, 1)) (hf : Bundle.fit X = true) (h : ∀ c ∈ tx_ch X ix rx, c.before args s = true) :
    ∃ (P : PassC) (Ps : List PassC), Ps.length = 2 ∧ P.LinksS pl s ∧ (∀ q, q ∈ Ps → q.LinksS pl s) ∧ s.methodNamed? (Bundle.initS X) = some P.m ∧ P.sup = firstOf top (Ps.map (·.toPassT)) ∧ PassesOn top (Ps.map (·.toPassT)) := by
  obtain ⟨P, L, hm, hs⟩ := PassC.ofS_atoms (args := args) (s := s) hpl (X := X) (Y := "java/lang/RuntimeException") (Bundle.fit_spec hf).1 (by decide) x0 x1 x2 x5 (fun c hc => h c (List.mem_append_left _ hc))
  obtain ⟨P2, Ps, hn, L2, hLs, hm2, e1, e2⟩ := Bundle.chainS (args := args) hpl htop ["java/lang/Exception"] "java/lang/RuntimeException" (by decide +kernel) (by decide +kernel) (fun c hc => h c (List.mem_append_right _ hc))
  exact ⟨P, P2 :: Ps, by rw [List.length_cons, hn]; rfl, L, fun q hq => (List.mem_cons.mp hq).elim (fun e => e ▸ L2) (hLs q), hm, Option.some.inj (hs.symm.trans hm2), e1, e2⟩
/-- an object of the class X is made by its constructor of a text, and thrown out of the method: nothing but the new cells -/
theorem tx_ctor {p : Program} {l : Launch} {e : Env} {R : Room} {s : State} {m : MethodId} {args : Array Value} {below : List Frame} {meth : Method} {c : Code} {T0 : State} {cells slots : Nat} (hX : Stand p l e R s m args below meth c T0 [] cells slots) (hexec : p.tables.exec = Jvm.exec) (htr : e.platform.stackTraces = false) {own X : String} {ic ix : Nat} {rx : ByteArray}
    (x0 : decode rx 0 = .ok (.aload_n 0, 1)) (x1 : decode rx 1 = .ok (.aload_n 1, 1)) (x2 : decode rx 2 = .ok (.invokespecial ix, 3)) (x5 : decode rx 5 = .ok (.return_, 1))
    (hown : s.vm.findClass own = some m.cls) (hf : Bundle.fit X = true) (h : ∀ w ∈ tx_at own ic X ix rx, w.before args s = true)
    {a : Addr} {cX : ClassId} {kX : Class} (hcX : s.vm.findClass X = some cX) (hkX : s.vm.classes[cX]? = some kX) (hcell : T0.heap[a]? = some (freshCell cX kX)) (hnew : s.heap.size ≤ a) {tx : Nat}
    {g : JFrame} (hg : g.method = m) (hsize : g.locals.size = c.maxLocals) (hl1 : g.locked = none) (hl2 : g.entered = []) (hst : g.stack = [.ref tx, .ref a, .ref a]) (hd1 : decode c.code g.pc = .ok (.invokespecial ic, 3)) (hd2 : decode c.code (g.pc + 3) = .ok (.athrow, 1)) (hno : ∀ x ∈ c.exceptionTable.toList, covers x (g.pc + 3) = false)
    (hR1 : 5 < R.frames) (hR2 : 2 * g.monitorRoom + 1 + 81 ≤ R.locals) (hlocks : meth.locks = false) :
    ∃ U : State, Steps p.tables e below (T0.setTop g) U ∧ U.status = .running ∧ Ended U below (.threw a) ∧ s.WarmedH U.vm ∧ s.sameButNew ({ U with vm := s.vm } : State) [] cells slots ∧ ∃ ce, U.heap[a]? = some ce ∧ ce.cls = cX ∧ ce.vm = .none := by
  have w : ∀ x, x ∈ tx_mo own ic X → x.holds args s none s [] = true := fun x hx => h x (List.mem_append_left _ hx)
  have hpl : e.platform.magicAccessors = ({} : Platform).magicAccessors := by rw [hX.admits.platform]
  obtain ⟨T, Z0, L, -, Y⟩ := ThrowableC.of_atoms (args := args) (s := s) (by rw [hX.admits.platform]) (by rw [hX.admits.platform]) hpl (fun x hx => h x (List.mem_append_right _ (List.mem_append_right _ (List.mem_append_right _ hx))))
  obtain ⟨Z, M, LZ, LM, hnZ⟩ := Init0T.ofS_atoms (args := args) hpl L Y (fun x hx => h x (List.mem_append_right _ (List.mem_append_right _ (List.mem_append_left _ hx))))
  obtain ⟨P, Ps, hlen, LP, LPs, hPm, hk1, hk2⟩ := tx_links (args := args) hpl hnZ x0 x1 x2 x5 hf (fun x hx => h x (List.mem_append_right _ (List.mem_append_left _ hx)))
  have hfc : s.vm.findClass X = some P.m.cls := findClass_of_methodNamed hPm
  cases Option.some.inj (hcX.symm.trans hfc)
  obtain ⟨c1, k1, hc1, hk, hord, -, -, -⟩ := Cond.instantiable_spec (w (.instantiable X 6) (by simp [tx_mo]))
  cases Option.some.inj (hc1.symm.trans hfc)
  cases Option.some.inj (hkX.symm.trans hk)
  have sel : ∀ (t : MethodName) (mm : MethodId), (Cond.selects X t t).holds args s none s [] = true → s.methodNamed? t = some mm → (t.cls ≠ "java/lang/invoke/MethodHandle" ∧ t.cls ≠ "java/lang/invoke/VarHandle") → selectMethod e.platform s.vm P.m.cls mm = .method mm := by
    intro t mm h1 h2 h3
    obtain ⟨c2, r2, m2, q1, q2, q3, q4, -⟩ := Cond.selects_spec h1
    cases Option.some.inj (q1.symm.trans hfc)
    cases Option.some.inj (q2.symm.trans (State.methodFound?_of_named h2 h3))
    cases Option.some.inj (q3.symm.trans h2)
    rw [Launch.admits_selectMethod hX.admits]; exact q4
  obtain ⟨cS, hcS, hisS⟩ := Y.statics
  obtain ⟨u0, hu0⟩ := Cond.staticRefV Y.unassigned L.unassignedStatic L.statics hcS hisS (w (.isRef (.static Bundle.tN "UNASSIGNED_STACK" Bundle.steD)) (by simp [tx_mo]))
  obtain ⟨sen, hsen⟩ := Cond.staticRefV Y.sentinel L.sentinelStatic L.statics hcS hisS (w (.isRef (.static Bundle.tN "SUPPRESSED_SENTINEL" Bundle.listD)) (by simp [tx_mo]))
  obtain ⟨ciB, iB, fB, hB1, hB2, hB3, hB4, -, hnB, htB, hfB⟩ := Cond.ownField (t := .object "java/lang/Object") Y.found L.cls (by decide +kernel) (w (.fieldLink Bundle.tN 198 Bundle.tN "backtrace" "Ljava/lang/Object;") (by simp [tx_mo])) (w (.lays Bundle.tN Bundle.tN "backtrace" "Ljava/lang/Object;") (by simp [tx_mo])) e.platform hpl
  obtain ⟨cS', hcS1, heS, -, hkeep⟩ := hX.same.2.2.2.2.2 T.aS cS hcS
  have hkn : cS'.vm ≠ .unknown := by
    rw [heS]
    intro hu
    rw [show cS.vm = .unknown from hu] at hisS
    cases hisS
  obtain ⟨iM, hfM⟩ := Y.msg
  obtain ⟨tyC, dC, hdC, hnC⟩ := Cond.laysAt hfc hk Y.cause (w (.lays X Bundle.tN "cause" "Ljava/lang/Throwable;") (by simp [tx_mo]))
  obtain ⟨tyS, dS, hdS, hnS⟩ := Cond.laysAt hfc hk Y.stack (w (.lays X Bundle.tN "stackTrace" Bundle.steD) (by simp [tx_mo]))
  obtain ⟨tyP, dP, hdP, hnP⟩ := Cond.laysAt hfc hk Y.supp (w (.lays X Bundle.tN "suppressedExceptions" Bundle.listD) (by simp [tx_mo]))
  obtain ⟨tyM, dM, hdM, hnM⟩ := Cond.laysAt hfc hk hfM (w (.lays X Bundle.tN "detailMessage" "Ljava/lang/String;") (by simp [tx_mo]))
  obtain ⟨tyB, dB, hdB, hnB'⟩ := Cond.laysAt hfc hk hfB (w (.lays X Bundle.tN "backtrace" "Ljava/lang/Object;") (by simp [tx_mo]))
  have bC := Cond.laysApart hdB hdC hnB' hnC (by rw [hnB, Y.causeName]; decide)
  have bS := Cond.laysApart hdB hdS hnB' hnS (by rw [hnB, Y.stackName]; decide)
  have bP := Cond.laysApart hdB hdP hnB' hnP (by rw [hnB, Y.suppName]; decide)
  have hskip : SkipFacts T e.platform s (fun u => u) u0 ((preparedCellV T.toThrowableT (freshCell P.m.cls kX) a u0 sen).withEntry T0.cur) := by
    refine ⟨{ ci198 := ciB, i198 := iB, fBack := fB }, ⟨hB1, hB2, hB3, hB4⟩, ?_, fun _ _ => rfl⟩
    have := fresh_default (c := P.m.cls) tyB
    rw [htB] at this
    simpa [preparedCellV, Cell.setSlot, Cell.withEntry, Array.getElem?_setIfInBounds, bC, bS, bP, bC.symm, bS.symm, bP.symm, defaultValue] using this
  obtain ⟨mI, -, -, -, vm1, hmI, -, -, -, -, -, -, -, hW1, st1⟩ := Steps.initColdS (tb := p.tables) (e := e) (below := below) (s := s) (U := T0) hX.here hexec hX.warmed hpl hown (t := Bundle.initS X) rfl rfl (Bundle.fit_spec hf).2
    (w (.methodLink own ic (Bundle.initS X)) (by simp [tx_mo])) (h (.instanceMethod (Bundle.initS X)) (List.mem_append_right _ (List.mem_append_left _ (List.mem_append_left _ (by simp [Bundle.passSAtoms]))))) (bytes := rx) (maxL := 2) (h (.code (Bundle.initS X) rx 2 none) (List.mem_append_right _ (List.mem_append_left _ (List.mem_append_left _ (by simp [Bundle.passSAtoms])))))
    (f := g) hg (a := a) (msg := .ref tx) (rest := [.ref a]) hst hd1
  cases Option.some.inj (hmI.symm.trans hPm)
  obtain ⟨vm2, X2, st2⟩ := (hX.noted hW1).ctorMessageOffV hexec (g := { g with stack := [.ref a] }) hg hsize T L Z LZ M LM (P :: Ps) (fun q hq => (List.mem_cons.mp hq).elim (fun e => e ▸ LP) (LPs q)) ⟨hk1, hk2⟩ (u0 := u0) (sen := sen) (self := a) (msg := .ref tx) rfl (cell := freshCell P.m.cls kX) (cellS := cS')
    hcell (fun _ => by simp) (by simp) rfl rfl (sel Bundle.tFill0 T.fill0 (w _ (by simp [tx_mo])) Y.fill0 (by decide)) (sel Bundle.tFill T.fill (w _ (by simp [tx_mo])) Y.fill (by decide)) hcS1 (Nat.ne_of_lt (Nat.lt_of_lt_of_le (Array.getElem?_eq_some_iff.mp hcS).1 hnew)) hkn (by rw [hkeep _ (fun z => by cases z)]; exact hu0) (by rw [hkeep _ (fun z => by cases z)]; exact hsen)
    (Takes.of_laid hk hord tyC (by rw [Y.causeType]; rfl)) (Takes.of_laid hk hord tyS (by rw [Y.stackType]; exact fits_refV_array _ u0)) (Takes.of_laid hk hord tyP (by rw [Y.suppType]; exact fits_refV_object _ sen)) (Takes.of_laid hk hord tyM (by rw [Y.msgType]; exact fits_refV_object _ ⟨.ref tx, rfl⟩)) Y.objLocals hskip htr [] hd1
    (by simp only [List.length_cons, hlen]; omega) (by simp only [List.length_cons, hlen]; exact hR2)
  obtain ⟨b1, b2, b3, b4, b5⟩ := X2.athrowLeaves hexec (g := { g with stack := [.ref a], pc := g.pc + 3 }) hg hl1 hl2 hno (a := a) (rest := []) rfl hd2
  refine ⟨_, st1 _ (fun acts => ?_), b2, b3, b4, b5.weaken (fun y hy hlt => ?_) (Nat.le_refl _) (Nat.le_refl _), _, heapAt_setCell_self (s := (T0.setVm vm1).setVm vm2) (plainBareV T.toThrowableT (freshCell P.m.cls kX) a u0 sen (.ref tx)) (Array.getElem?_eq_some_iff.mp hcell).1, rfl, rfl⟩
  · rw [doInvoke_state]
    exact st2 _ b1
  · exfalso
    rcases List.mem_append.mp hy with h1 | h1
    · cases h1
    · have hb : y.base = a := by
        simp only [List.mem_cons, List.not_mem_nil, or_false] at h1
        rcases h1 with rfl | rfl | rfl | rfl | rfl <;> rfl
      rw [hb] at hlt
      exact Nat.not_lt.mpr hnew hlt
/-- the first row of the method's table holds the place and names the class of what is thrown, by a link: it is caught there -/
theorem tx_assign {vm : Vm} (c : ClassId) : vm.assignable c c = true := by
  show vm.assignableAux (255 + 1) c c = true
  rw [Vm.assignableAux]; simp
theorem tx_step {e : Env} {s : State} {a : Addr} {f : JFrame} {r : List Frame} {x : ExceptionTableEntry} {t : List ExceptionTableEntry} {meth : Method} {code : Code} {cT : ClassId} {cell : Cell}
    (hm : s.vm.method? f.method = some meth) (hc : meth.code = some code) (ht : code.exceptionTable.toList = x :: t) (hx : covers x f.pc = true) (h0 : x.catchType ≠ 0)
    (hcl : s.vm.ClassLinks e.platform f.method.cls x.catchType cT) (hcell : s.heap[a]? = some cell) (hobj : ∀ k, cell.vm ≠ .statics k)
    (hk : ∃ k, (s.vm.noted f.method.cls x.catchType (.cls cT)).classes[cell.cls]? = some k) (hcc : ∃ k, (s.vm.noted f.method.cls x.catchType (.cls cT)).classes[cT]? = some k) (hfit : (s.vm.noted f.method.cls x.catchType (.cls cT)).assignable cell.cls cT = true) :
    (stepThrowing e s a (.java f :: r)).Is ((s.setVm (s.vm.noted f.method.cls x.catchType (.cls cT))).setFrames (.java { f with pc := x.handlerPc, stack := [.ref a] } :: r)) [] := by
  simp only [covers] at hx
  obtain ⟨ha, hta⟩ := (resolveClass_links e.toSetting hcl).op (op := VmOp.resolveClass f.method.cls x.catchType) rfl
  have key : ∀ (Q : Handler → Pre) (E : CtlPost) (acts : List Action), Q (.found x.handlerPc) false acts (s.setVm (s.vm.noted f.method.cls x.catchType (.cls cT))) → wp (findHandler f a) Q E e false acts s := by
    intro Q E acts hQ
    rw [W.findHandler_eq hm hc, ht]
    have hsz : ((VmOp.resolveClass f.method.cls x.catchType).tables e s.vm).classes.size ≤ s.vm.classes.size := by rw [hta, Vm.size_noted]; exact Nat.le_refl _
    simp [findHandler.go, hx, h0, W.vmOp_same _ hsz, ha, hta, hcell, hobj, hk, hcc, hfit, VmOp.dirties, VmOp.acts]
    exact hQ
  simp only [stepThrowing, searchFrame, vmDo]
  generalize hr : Sem.go _ e false [] s = res
  obtain ⟨as, rfl, hh⟩ := Sem.eq_ok_of hr (a := Handler.found x.handlerPc) (s' := s.setVm (s.vm.noted f.method.cls x.catchType (.cls cT))) (acts' := []) (by
    simp
    apply key
    simp)
  exact ⟨rfl, hh⟩
/-- the second row of the table takes it: the first one's class is another -/
theorem tx_step2 {e : Env} {s : State} {a : Addr} {f : JFrame} {r : List Frame} {x y : ExceptionTableEntry} {t : List ExceptionTableEntry} {meth : Method} {code : Code} {cT cU : ClassId} {cell : Cell}
    (hm : s.vm.method? f.method = some meth) (hc : meth.code = some code) (ht : code.exceptionTable.toList = x :: y :: t) (hx : covers x f.pc = true) (h0 : x.catchType ≠ 0) (hy : covers y f.pc = true) (g0 : y.catchType ≠ 0)
    (hcl : s.vm.ClassLinks e.platform f.method.cls x.catchType cU) (hcl2 : (s.vm.noted f.method.cls x.catchType (.cls cU)).ClassLinks e.platform f.method.cls y.catchType cT) (hcell : s.heap[a]? = some cell) (hobj : ∀ k, cell.vm ≠ .statics k)
    (hk : ∃ k, (s.vm.noted f.method.cls x.catchType (.cls cU)).classes[cell.cls]? = some k) (hcc : ∃ k, (s.vm.noted f.method.cls x.catchType (.cls cU)).classes[cU]? = some k) (hfit : (s.vm.noted f.method.cls x.catchType (.cls cU)).assignable cell.cls cU = false)
    (hk2 : ∃ k, ((s.vm.noted f.method.cls x.catchType (.cls cU)).noted f.method.cls y.catchType (.cls cT)).classes[cell.cls]? = some k) (hcc2 : ∃ k, ((s.vm.noted f.method.cls x.catchType (.cls cU)).noted f.method.cls y.catchType (.cls cT)).classes[cT]? = some k) (hfit2 : ((s.vm.noted f.method.cls x.catchType (.cls cU)).noted f.method.cls y.catchType (.cls cT)).assignable cell.cls cT = true) :
    (stepThrowing e s a (.java f :: r)).Is ((s.setVm ((s.vm.noted f.method.cls x.catchType (.cls cU)).noted f.method.cls y.catchType (.cls cT))).setFrames (.java { f with pc := y.handlerPc, stack := [.ref a] } :: r)) [] := by
  simp only [covers] at hx hy
  generalize hv1 : s.vm.noted f.method.cls x.catchType (.cls cU) = vm1 at *
  generalize hv2 : vm1.noted f.method.cls y.catchType (.cls cT) = vm2 at *
  obtain ⟨ha, hta⟩ := (resolveClass_links e.toSetting hcl).op (op := VmOp.resolveClass f.method.cls x.catchType) rfl
  obtain ⟨hb, htb⟩ := (resolveClass_links e.toSetting hcl2).op (op := VmOp.resolveClass f.method.cls y.catchType) rfl
  rw [hv1] at hta
  rw [hv2] at htb
  have key : ∀ (Q : Handler → Pre) (E : CtlPost) (acts : List Action), Q (.found y.handlerPc) false acts (s.setVm vm2) → wp (findHandler f a) Q E e false acts s := by
    intro Q E acts hQ
    rw [W.findHandler_eq hm hc, ht]
    have hsz : ((VmOp.resolveClass f.method.cls x.catchType).tables e s.vm).classes.size ≤ s.vm.classes.size := by rw [hta, ← hv1, Vm.size_noted]; exact Nat.le_refl _
    have hsz2 : ((VmOp.resolveClass f.method.cls y.catchType).tables e (s.setVm vm1).vm).classes.size ≤ (s.setVm vm1).vm.classes.size := by
      show ((VmOp.resolveClass f.method.cls y.catchType).tables e vm1).classes.size ≤ vm1.classes.size
      rw [htb, ← hv2, Vm.size_noted]; exact Nat.le_refl _
    have k2 : wp (findHandler.go f a (y :: t)) Q E e false acts (s.setVm vm1) := by
      simp [findHandler.go, hy, g0, W.vmOp_same _ hsz2, hb, htb, hcell, hobj, hk2, hcc2, hfit2, VmOp.dirties, VmOp.acts]
      exact hQ
    rw [findHandler.go]
    simp [hx, h0, W.vmOp_same _ hsz, ha, hta, hcell, hobj, hk, hcc, hfit, VmOp.dirties, VmOp.acts]
    exact k2
  simp only [stepThrowing, searchFrame, vmDo]
  generalize hr : Sem.go _ e false [] s = res
  obtain ⟨as, rfl, hh⟩ := Sem.eq_ok_of hr (a := Handler.found y.handlerPc) (s' := s.setVm vm2) (acts' := []) (by
    simp
    apply key
    simp)
  exact ⟨rfl, hh⟩
/-- the same, in the walk: from the note over the frame g of the method, on to the handler -/
theorem tx_caught {p : Program} {l : Launch} {e : Env} {R : Room} {s : State} {m : MethodId} {args : Array Value} {below : List Frame} {meth : Method} {c : Code} {T : State} {locs : List Loc} {cells slots : Nat} (X : Stand p l e R s m args below meth c T locs cells slots)
    {own name : String} {index hpc : Nat} (hown : s.vm.findClass own = some m.cls) (hlink : (Cond.classLink own index name).before args s = true) {x : ExceptionTableEntry} {t : List ExceptionTableEntry} (ht : c.exceptionTable.toList = x :: t) {g : JFrame} (hg : g.method = m) (hx : covers x g.pc = true) (hi : x.catchType = index) (hp : x.handlerPc = hpc) (h0 : index ≠ 0)
    {a : Addr} {cell : Cell} (hcell : T.heap[a]? = some cell) (hobj : ∀ k, cell.vm ≠ .statics k) (hcT : s.vm.findClass name = some cell.cls) :
    ∃ vm', Stand p l e R s m args below meth c (T.setVm vm') locs cells slots ∧
      ∀ target, Steps p.tables e below ((T.setVm vm').setTop { g with pc := hpc, stack := [.ref a] }) target → Steps p.tables e below ((T.setTop g).pushFrame (.throwing a)) target := by
  subst hi
  subst hp
  have hpl : e.platform.magicAccessors = ({} : Platform).magicAccessors := by rw [X.admits.platform]
  obtain ⟨c', hc', hcl⟩ := Cond.classLink_spec hown hlink e.platform hpl
  cases hcT.symm.trans hc'
  obtain ⟨dk, _, _, kt, hd, _, _, _, _, hkt, _, hopen⟩ := hcl.here
  have hcl₀ := X.warmed.classLinks hcl
  have hW' : s.WarmedH (T.vm.noted m.cls x.catchType (.cls cell.cls)) := X.warmed.noted hd hopen (State.rightAt_cls hcl)
  obtain ⟨kt', hkt', -⟩ := hW'.alike.2.2 _ _ hkt
  refine ⟨_, X.noted hW', fun target hrest => ?_⟩
  subst hg
  have h : At T g.method c below := X.here
  obtain ⟨hgo, hw⟩ := h.throwing a
  refine Steps.head hgo hw ?_
  have hvm : ((T.setTop g).pushFrame (.throwing a)).vm = T.vm := Stand.throwing_vm T g a
  rw [stepThread_throwing (frames_entered h.top _), (tx_step (s := (T.setTop g).pushFrame (.throwing a)) (meth := meth) (code := c) (by rw [hvm]; exact X.method') X.code ht hx h0 (by rw [hvm]; exact hcl₀) (by rw [Stand.throwing_heap]; exact hcell) hobj ⟨kt', by rw [hvm]; exact hkt'⟩ ⟨kt', by rw [hvm]; exact hkt'⟩ (tx_assign _)).1]
  obtain ⟨g₀, hg⟩ := Option.isSome_iff_exists.mp h.top
  obtain ⟨r, hr⟩ := State.topJava?_eq_some.mp hg
  rw [hvm]
  rw [State.setTop_of_frames _ (by exact hr)] at hrest
  rw [State.pushFrame, State.setTop_of_frames _ hr, State.setFrames_setFrames, hr]
  have e1 : ∀ (q : List Frame) (v : Vm), (T.setFrames q).setVm v = (T.setVm v).setFrames q := fun _ _ => rfl
  rw [e1, State.setFrames_setFrames]
  exact hrest
theorem tx_caught2 {p : Program} {l : Launch} {e : Env} {R : Room} {s : State} {m : MethodId} {args : Array Value} {below : List Frame} {meth : Method} {c : Code} {T : State} {locs : List Loc} {cells slots : Nat} (X : Stand p l e R s m args below meth c T locs cells slots)
    {own name name1 : String} {index index1 hpc : Nat} (hown : s.vm.findClass own = some m.cls) (hlink1 : (Cond.classLink own index1 name1).before args s = true) (hlink : (Cond.classLink own index name).before args s = true) {cU : ClassId} (hcU : s.vm.findClass name1 = some cU) {x y : ExceptionTableEntry} {t : List ExceptionTableEntry} (ht : c.exceptionTable.toList = x :: y :: t) {g : JFrame} (hg : g.method = m) (hx : covers x g.pc = true) (hi1 : x.catchType = index1) (h01 : index1 ≠ 0) (hy : covers y g.pc = true) (hi : y.catchType = index) (hp : y.handlerPc = hpc) (h0 : index ≠ 0)
    {a : Addr} {cell : Cell} (hcell : T.heap[a]? = some cell) (hobj : ∀ k, cell.vm ≠ .statics k) (hcT : s.vm.findClass name = some cell.cls) (hnot : s.vm.assignable cell.cls cU = false) :
    ∃ vm', Stand p l e R s m args below meth c (T.setVm vm') locs cells slots ∧
      ∀ target, Steps p.tables e below ((T.setVm vm').setTop { g with pc := hpc, stack := [.ref a] }) target → Steps p.tables e below ((T.setTop g).pushFrame (.throwing a)) target := by
  subst hi
  subst hi1
  subst hp
  have hpl : e.platform.magicAccessors = ({} : Platform).magicAccessors := by rw [X.admits.platform]
  obtain ⟨c1, hc1, hclA⟩ := Cond.classLink_spec hown hlink1 e.platform hpl
  cases hcU.symm.trans hc1
  obtain ⟨c', hc', hcl⟩ := Cond.classLink_spec hown hlink e.platform hpl
  cases hcT.symm.trans hc'
  obtain ⟨dk1, _, _, kt1, hd1, _, _, _, _, hkt1, _, hopen1⟩ := hclA.here
  obtain ⟨dk, _, _, kt, hd, _, _, _, _, hkt, _, hopen⟩ := hcl.here
  have hclA₀ := X.warmed.classLinks hclA
  have hW1 : s.WarmedH (T.vm.noted m.cls x.catchType (.cls cU)) := X.warmed.noted hd1 hopen1 (State.rightAt_cls hclA)
  have hcl₀ := hW1.classLinks hcl
  have hW' : s.WarmedH ((T.vm.noted m.cls x.catchType (.cls cU)).noted m.cls y.catchType (.cls cell.cls)) := hW1.noted hd hopen (State.rightAt_cls hcl)
  obtain ⟨kt', hkt', -⟩ := hW'.alike.2.2 _ _ hkt
  obtain ⟨ku', hku', -⟩ := hW1.alike.2.2 _ _ hkt1
  obtain ⟨kv', hkv', -⟩ := hW1.alike.2.2 _ _ hkt
  refine ⟨_, X.noted hW', fun target hrest => ?_⟩
  subst hg
  have h : At T g.method c below := X.here
  obtain ⟨hgo, hw⟩ := h.throwing a
  refine Steps.head hgo hw ?_
  have hvm : ((T.setTop g).pushFrame (.throwing a)).vm = T.vm := Stand.throwing_vm T g a
  rw [stepThread_throwing (frames_entered h.top _), (tx_step2 (s := (T.setTop g).pushFrame (.throwing a)) (meth := meth) (code := c) (cU := cU) (cT := cell.cls) (by rw [hvm]; exact X.method') X.code ht hx h01 hy h0 (by rw [hvm]; exact hclA₀) (by rw [hvm]; exact hcl₀) (by rw [Stand.throwing_heap]; exact hcell) hobj ⟨kv', by rw [hvm]; exact hkv'⟩ ⟨ku', by rw [hvm]; exact hku'⟩ (by rw [hvm, hW1.alike.assignable]; exact hnot) ⟨kt', by rw [hvm]; exact hkt'⟩ ⟨kt', by rw [hvm]; exact hkt'⟩ (tx_assign _)).1]
  obtain ⟨g₀, hg⟩ := Option.isSome_iff_exists.mp h.top
  obtain ⟨r, hr⟩ := State.topJava?_eq_some.mp hg
  rw [hvm]
  rw [State.setTop_of_frames _ (by exact hr)] at hrest
  rw [State.pushFrame, State.setTop_of_frames _ hr, State.setFrames_setFrames, hr]
  have e1 : ∀ (q : List Frame) (v : Vm), (T.setFrames q).setVm v = (T.setVm v).setFrames q := fun _ _ => rfl
  rw [e1, State.setFrames_setFrames]
  exact hrest
/-! what the makers of exceptions ask of the start, and that it stays -/
def tx_b7 : ByteArray := ⟨#[0x2a, 0x2b, 0xb7, 0x00, 0x07, 0xb1]⟩
def tx_b13 : ByteArray := ⟨#[0x2a, 0x2b, 0xb7, 0x00, 0x0d, 0xb1]⟩
def X_A : String := "java/lang/IllegalArgumentException"
def X_I : String := "java/lang/IndexOutOfBoundsException"
def X_N : String := "java/util/NoSuchElementException"
def X_S : String := "java/lang/IllegalStateException"
def tx_wS : List Cond := tx_at "CurveKeys" 69 X_S 7 tx_b7
def tx_wA : List Cond := tx_at "CurveKeys" 84 X_A 7 tx_b7
def tx_wI : List Cond := tx_at "CurveKeys" 159 X_I 7 tx_b7
def tx_wN : List Cond := tx_at "CurveKeys" 170 X_N 13 tx_b13
def tx_ws : List Cond := tx_wA ++ (tx_wI ++ (tx_wN ++ tx_wS))
def tx_txt : List (Nat × String) := [(82, "the tape has not so many bytes"), (157, "the result has no such byte"), (168, "no such key"), (171, "the tape has another length"), (67, "the tape has no room for 20 bytes"), (91, "there are 100 keys"), (110, "no such shape"), (160, "the tape has no room for the result")]
def tx_ok (w : Cond) : Bool := w.keepsFace && (w.onTables || match w with | .isRef (.static ..) => true | .laysStatic .. => true | _ => false)
set_option maxRecDepth 100000 in
theorem tx_oks : tx_ws.all tx_ok = true := by decide +kernel
def tx_nc : List (String × String) := [(X_S, X_A), (X_A, X_N), (X_S, X_I)]
def tx_K (U : State) : Prop := (∀ w ∈ tx_ws, ∀ A : Array Value, w.before A U = true) ∧ (∀ q ∈ tx_txt, ∃ a : Nat, vk_R "CurveKeys" q.1 q.2 a U) ∧ ∀ q ∈ tx_nc, ∃ c t : ClassId, U.vm.findClass q.1 = some c ∧ U.vm.findClass q.2 = some t ∧ U.vm.assignable c t = false
theorem tx_heap {w : Cond} (hw : tx_ok w = true) {A A' : Array Value} {u U : State} (hv : u.vm = U.vm) (hH : ∀ q : Nat, q < u.heap.size → U.heap[q]? = u.heap[q]?) (h : w.before A u = true) : w.before A' U = true := by
  have key : ∀ (q : Nat) (cell : Cell), u.heap[q]? = some cell → U.heap[q]? = some cell := fun q cell h => (hH q (Array.getElem?_eq_some_iff.mp h).1).trans h
  simp only [tx_ok, Bool.and_eq_true, Bool.or_eq_true] at hw
  rcases hw.2 with h1 | h1
  · exact va_tabs h1 hv h
  · split at h1
    · rename_i C f d
      obtain ⟨v, h2, h3⟩ := Cond.isRef_spec h
      have h4 : (Term.static C f d).eval A' U none [] U = some v := by
        have e1 : U.fieldNamed? C f d true = u.fieldNamed? C f d true := by simp only [State.fieldNamed?, State.fieldFound?, hv]
        simp only [Term.eval] at h2 ⊢
        rw [e1]
        cases hn : u.fieldNamed? C f d true with
        | none => rw [hn] at h2; cases h2
        | some z =>
          obtain ⟨z1, k, sl⟩ := z
          rw [hn] at h2
          cases hs : k.statics with
          | none => simp [hs] at h2
          | some a =>
            cases hc : u.heap[a]? with
            | none => simp [hs, hc] at h2
            | some cell =>
              simp [hs, hc] at h2
              simp [hs, key a cell hc]
              exact h2
      simp only [Cond.before, Cond.holds, Cond.value, h4]
      cases v <;> simp [Value.isRef] at h3 <;> rfl
    · rename_i C f d
      obtain ⟨c, k, i, fd, a, cell, h2, h3, h4, h5, h6, h7, h8, h9, h10⟩ := Cond.laysStatic_spec h
      have e1 : U.fieldFound? C f d = u.fieldFound? C f d := by simp only [State.fieldFound?, hv]
      simp only [Cond.before, Cond.holds, Cond.value]
      rw [← hv, e1, h2, h3]
      simp [h4, h5, key a cell h6, h7, h8, h9, h10]
    · cases h1
theorem tx_K.moved {u U : State} (hW : u.WarmedH U.vm) (hH : ∀ q : Nat, q < u.heap.size → U.heap[q]? = u.heap[q]?) (h : tx_K u) : tx_K U := by
  refine ⟨fun w hw A => ?_, fun q hq => ?_, fun q hq => ?_⟩
  · have h1 := List.all_eq_true.mp tx_oks w hw
    have h2 : w.keepsFace = true := by
      simp only [tx_ok, Bool.and_eq_true] at h1
      exact h1.1
    exact tx_heap (u := u.setVm U.vm) h1 rfl hH (Cond.rides hW.wide h2 (h.1 w hw A))
  · obtain ⟨a, ha⟩ := h.2.1 q hq
    exact ⟨a, ha.warm hW⟩
  · obtain ⟨c, t, h1, h2, h3⟩ := h.2.2 q hq
    exact ⟨c, t, by rw [hW.alike.findClass]; exact h1, by rw [hW.alike.findClass]; exact h2, by rw [hW.alike.assignable]; exact h3⟩
theorem tx_K.calling {U : State} {f : JFrame} {mk : MethodId} {a : Array Value} (h : tx_K U) : tx_K (U.calling f mk a) := ⟨fun w hw A => tx_heap (u := U) (List.all_eq_true.mp tx_oks w hw) rfl (fun _ _ => rfl) (h.1 w hw A), fun q hq => by
  obtain ⟨a, ha⟩ := h.2.1 q hq
  exact ⟨a, vk_R.same (u := U) rfl ha⟩, h.2.2⟩
section TXW
variable {p : Program} {l : Launch} {e : Env} {R : Room} {s : State} {m : MethodId} {args : Array Value} {below : List Frame} {meth : Method} {c : Code} {H : Heap} {cells slots : Nat} {Q : State → Prop}
variable {cc : ByteArray} {pc : Nat} {ls : Array Slot} {g : ClassId → FieldType → Prop} {D : va_G} {nL : Nat}
/-- new X(text) is thrown, and leaves the method -/
theorem tx_row (EE : sx_E p s m args c cc nL "CurveKeys" D g) (hK : tx_K s) (htr : l.stackTraces = false) (hno : c.exceptionTable.toList = []) (hlocks : meth.locks = false) {X tx : String} {inew itx ic ix : Nat} {rx : ByteArray}
    (hA : ∀ w ∈ tx_at "CurveKeys" ic X ix rx, w ∈ tx_ws) (hw : ∀ w ∈ ([.classLink "CurveKeys" inew X, .instantiable X 6, .initialized X] : List Cond), w ∈ lw_tbl ∧ sx_okw w = true) (ht : (itx, tx) ∈ tx_txt) (hf : Bundle.fit X = true) (x0 : decode rx 0 = .ok (.aload_n 0, 1)) (x1 : decode rx 1 = .ok (.aload_n 1, 1)) (x2 : decode rx 2 = .ok (.invokespecial ix, 3)) (x5 : decode rx 5 = .ok (.return_, 1))
    (d1 : decode cc pc = .ok (.new inew, 3)) (d2 : decode cc (pc + 3) = .ok (.dup, 1)) (d3 : decode cc (pc + 4) = .ok (.ldc itx, 2)) (d4 : decode cc (pc + 6) = .ok (.invokespecial ic, 3)) (d5 : decode cc (pc + 9) = .ok (.athrow, 1)) (hsz : ls.size = nL)
    (hR : 1 ≤ R.cells ∧ 6 ≤ R.slots ∧ 6 ≤ R.frames ∧ 82 ≤ R.locals) : W p l e R s m args below meth c s.heap [] 0 0 (tx_Q below (tx_T X) args s 1 6 (fun _ => False)) (F0 m pc ls []) := by
  obtain ⟨hx, hb, hml, hown, hts, hU⟩ := EE
  have ok : ∀ w ∈ ([.classLink "CurveKeys" inew X, .instantiable X 6, .initialized X] : List Cond), w.before args s = true := fun w h => hts w (G_in (hw w h))
  intro T hT X0
  obtain ⟨vm1, cX, kX, hcX, hkX, -, hk6, X1, st1⟩ := X0.newCold hx (own := "CurveKeys") (C := X) (index := inew) (n := 6) hown (ok _ (by simp)) (ok _ (by simp)) (ok _ (by simp)) (g := F0 m pc ls []) rfl (by rw [hb]; exact d1) (by omega) (by omega)
  have hcell : ((T.setVm vm1).pushCell { cls := cX, slots := kX.instanceTypes.map defaultValue, vm := .none }).heap[T.heap.size]? = some (freshCell cX kX) := State.heap_pushCell_size _ _
  generalize ((T.setVm vm1).pushCell { cls := cX, slots := kX.instanceTypes.map defaultValue, vm := .none }) = T1 at X1 st1 hcell
  have hsT : T.heap.size = s.heap.size := by rw [hT]
  rw [hsT] at hcell st1
  obtain ⟨q, hq⟩ := hK.2.1 _ ht
  have k : W p l e R s m args below meth c T1.heap [] (0 + 1) (0 + 6) (tx_Q below (tx_T X) args s 1 6 (fun _ => False)) (F0 m (pc + 3) ls [.ref s.heap.size]) := by
    refine lv_dup hx hb d2 rfl ?_
    refine va_ldcS hx hb hown hq d3 ?_
    intro T2 hT2 X2
    obtain ⟨U, h1, h2, h3, h4, h5, ce, h6, h7, h8⟩ := tx_ctor X2 hx (by rw [X2.admits.platform]; exact htr) x0 x1 x2 x5 hown hf (fun w h => hK.1 w (hA w h) args) hcX hkX (by rw [hT2]; exact hcell) (Nat.le_refl _) (tx := q) (g := F0 m (pc + 4 + 2) ls [.ref q, .ref s.heap.size, .ref s.heap.size]) rfl (hsz.trans hml.symm) rfl rfl rfl (by rw [hb]; exact d4) (by rw [hb]; exact d5) (by rw [hno]; intro x h; cases h) (by show 5 < R.frames; omega) (by show 82 ≤ R.locals; omega) hlocks
    have hk := tx_same h5
    exact ⟨U, h1, .threw s.heap.size, h2, h3, ⟨_, ce, rfl, Nat.le_refl _, h6, (fun k h => by rw [h8] at h; cases h), by rw [h7]; exact hcX, hk.1, hk.2⟩, [], ⟨⟨_, rfl⟩, h4, h5⟩, fun q h => by cases h⟩
  obtain ⟨t, a1, b1⟩ := k T1 rfl X1
  exact ⟨t, st1 t a1, b1⟩
end TXW
/-! contracts of what throws; calls of it -/
abbrev tx_Pc (vs : List Value) (H : Heap) (D : va_G) (g : ClassId → FieldType → Prop) : Array Value → State → Prop := va_Pc vs (fun U => U.heap = H ∧ sx_U D g U ∧ tx_K U)
theorem tx_blind {vs : List Value} {H : Heap} {D : va_G} {g : ClassId → FieldType → Prop} : FrameBlind (tx_Pc vs H D g) := fun a U f mk q => by
  obtain ⟨q0, q1, q2, q3⟩ := q
  exact ⟨q0, q1, (sx_blind (vs := vs) (H := H) (D := D) (g := g) a U f mk ⟨q0, q1, q2⟩).2.2, q3.calling⟩
theorem tx_m {l : Launch} {D : va_G} {g : ClassId → FieldType → Prop} {H0 : Heap} {y : MethodName} {cc : ByteArray} {maxL mc ms : Nat} {ret : Option FieldType} {own X : String} {vs : List Value} {rm : Room} (hy : plainName y.cls = true) (ho : y.cls = own) (hlen : (lg_sl vs).length ≤ maxL)
    (body : ∀ (p : Program) (e : Env) (s : State) (m : MethodId) (args : Array Value) (below : List Frame) (meth : Method) (c : Code) (ls : Array Slot), sx_E p s m args c cc maxL own D g → tx_K s → c.exceptionTable.toList = [] → meth.locks = false → s.heap = H0 → lv_has ls maxL (lv_args 0 vs) →
      W p l e rm s m args below meth c s.heap [] 0 0 (tx_Q below (tx_T X) args s mc ms (fun _ => False)) (F0 m 0 ls [])) :
    MetT l y (.code y cc maxL ret :: G_) rm (tx_Pc vs H0 D g) (tx_T X) mc ms (fun _ => False) := by
  refine MetT.ofW (cc := cc) (maxL := maxL) (ret := ret) hy rfl ?_
  intro p e s m args below meth c s₁ B hml hv
  obtain ⟨rfl, hh, hU, hK⟩ := hv
  have hl := lv_entry vs (n := maxL) hlen
  rw [lg_entry_eq]
  generalize (lg_sl vs ++ List.replicate (maxL - (lg_sl vs).length) Slot.unset).toArray = ls at hl ⊢
  have he : c.exceptionTable.toList = [] := by
    have h1 := B.noHandlers (atoms_spec B.pre _ List.mem_cons_self)
    have h0 : c.exceptionTable.size = 0 := by simpa [Array.isEmpty] using h1
    exact List.eq_nil_of_length_eq_zero (by simpa using h0)
  exact body p e s m _ below meth c ls ⟨B.exec, B.bytes, hml, ho ▸ findClass_of_methodNamed B.named, fun w h => atoms_spec B.pre w (List.mem_cons_of_mem _ h), hU⟩ hK he B.notSynchronized hh hl
/-- a call that throws -/
def tx_Run (p : Program) (l : Launch) (e : Env) (R : Room) (s : State) (m : MethodId) (args : Array Value) (below : List Frame) (meth : Method) (c : Code) (H : Heap) (cells slots mc ms : Nat) (f : JFrame) (rest : List Value) (X : String) : Prop :=
  ∀ T : State, T.heap = H → Stand p l e R s m args below meth c T [] cells slots → ∃ (x : Nat) (T' : State) (ce : Cell), Stand p l e R s m args below meth c T' [] (cells + mc) (slots + ms) ∧ H.size ≤ x ∧ T'.heap[x]? = some ce ∧ (∀ k, ce.vm ≠ .statics k) ∧ s.vm.findClass X = some ce.cls ∧ H.size ≤ T'.heap.size ∧ (∀ q : Nat, q < H.size → T'.heap[q]? = H[q]?) ∧
    ∀ target, Steps p.tables e below ((T'.setTop { f with stack := rest }).pushFrame (.throwing x)) target → Steps p.tables e below (T.setTop f) target
section TXR
variable {p : Program} {l : Launch} {e : Env} {R : Room} {s : State} {m : MethodId} {args : Array Value} {below : List Frame} {meth : Method} {c : Code} {H : Heap} {cells slots : Nat} {Q : State → Prop}
variable {cc : ByteArray} {pc : Nat} {ls : Array Slot} {g : ClassId → FieldType → Prop} {D : va_G} {y : MethodName} {bytes : ByteArray} {maxL nL n index mc ms : Nat} {ret : Option FieldType} {rm : Room} {own C X : String} {As rest st : List Value} {b ci : Nat} {fs : List Value} {T : u_T} {N : Nat}
theorem tx_runV (EE : sx_E p s m args c cc nL own D g) (hK : tx_K s) (hH : ∀ q : Nat, q < s.heap.size → H[q]? = s.heap[q]?) (hP : va_P D classes [(b, .inr (ci, fs))] H) (hc : classes[ci]? = some (C, T, N)) (hC : y.cls = C) (hM : MetT l y (.code y bytes maxL ret :: G_) rm (tx_Pc (.ref b :: As) H D g) (tx_T X) mc ms (fun _ => False)) (hw : sx_w [.methodLink own index y, .instanceMethod y, .selects C y y, .initialized C, .code y bytes maxL ret] y n) (hn : As.length = n) (hrm : rm.cells = mc ∧ rm.slots = ms) (hR : rm.frames + 1 ≤ R.frames ∧ 8 + (maxL + 11) + rm.locals ≤ R.locals) (hcs : cells + mc ≤ R.cells ∧ slots + ms ≤ R.slots)
    (hsz : ls.size = nL) (hst : st = As.reverse ++ .ref b :: rest) (hrest : (rest.map fun v => v.category).sum ≤ 8) (hdg : decode cc pc = .ok (.invokevirtual index, 3)) :
    tx_Run p l e R s m args below meth c H cells slots mc ms (F0 m pc ls st) rest X := by
  obtain ⟨hx, hb, hml, hown, hts, hU⟩ := EE
  have hin : ∀ w ∈ ([.methodLink own index y, .instanceMethod y, .selects C y y, .initialized C, .code y bytes maxL ret] : List Cond), w ∈ G_ := fun w h => G_in (hw.1 w h)
  have ok : ∀ w ∈ ([.methodLink own index y, .instanceMethod y, .selects C y y, .initialized C, .code y bytes maxL ret] : List Cond), w.before args s = true := fun w h => hts w (hin w h)
  have hy : y.cls ≠ "java/lang/invoke/MethodHandle" ∧ y.cls ≠ "java/lang/invoke/VarHandle" := ⟨hw.2.1, hw.2.2.1⟩
  have hgd : GoodIn G_ (.code y bytes maxL ret :: G_) := G_good (fun w h => by
    rcases List.mem_cons.mp h with rfl | h
    · exact hin _ (by simp)
    · exact h)
  have hBk : BackT l R p e below s args y 3 8 (PreOf R mc ms (tx_Pc (.ref b :: As) H D g)) (PostT (tx_T X) mc ms (fun _ => False)) := tx_back (bytes := bytes) (maxL := maxL) (ret := ret) hM tx_blind hrm.1 hrm.2 hR.1 hR.2 (pay_in hts hgd) List.mem_cons_self (fun a' U hW => by rw [hC]; exact word_at hW (G_ok (hin (.initialized C) (by simp))) (ok (.initialized C) (by simp)))
  obtain ⟨cellB, hcB, hoB, hclB⟩ := va_recv hU.2.1 hP (ci := ci) (q0 := 0) hc rfl
  intro T0 hT0 X0
  obtain ⟨mk, methM, hnamed, hmethM, hstM, habM⟩ := Cond.instanceMethod_spec (ok (.instanceMethod y) (by simp))
  obtain ⟨methM', cM, hmethM', -, -, -, -, -, -, hsigM⟩ := Cond.code_spec hnamed (ok (.code y bytes maxL ret) (by simp))
  cases hmethM.symm.trans hmethM'
  obtain ⟨c2, r2, m2, q1, q2, q3, q4, kP, hkP, hkPi⟩ := Cond.selects_spec (ok (.selects C y y) (by simp))
  cases hclB.symm.trans q1
  cases (State.methodFound?_of_named hnamed hy).symm.trans q2
  cases hnamed.symm.trans q3
  have hselP : selectMethod e.platform s.vm cellB.cls mk = .method mk := by rw [Launch.admits_selectMethod X0.admits]; exact q4
  have hlen : As.length = methM.sig.parameters.length := by
    have h2 := hw.2.2.2
    rw [hsigM] at h2
    rw [hn]; exact (Option.some.inj h2).symm
  obtain ⟨vm1, X1, st1⟩ := X0.invokevirtual hx hown (ok (.methodLink own index y) (by simp)) hnamed hmethM hstM hkP hkPi hy (a := b) (cell := cellB) (by rw [hT0]; exact hcB)
    (fun z h => by rw [h] at hoB; cases hoB) hselP hmethM habM hkP hkPi (g := F0 m pc ls st) rfl (argsL := As) (rest := rest) hlen hst (by rw [hb]; exact hdg)
  obtain ⟨x, ⟨U', L2, c3, s3⟩, X2, ⟨g', mk', t, L, e1, e2, ⟨x', ce, hxx, f1, f2, f3, f4, f5, f6⟩, h1, hL, h2, h3⟩, hsteps⟩ := hBk m meth c ⟨T0.setVm vm1, [], cells, slots⟩ { (F0 m pc ls st) with stack := rest } (.invokevirtual index) mk (Value.ref b :: As).toArray X1 rfl (hsz.trans hml.symm) (by show decode c.code pc = _; rw [hb]; exact hdg) (lv_room hrest) (X1.named hnamed) ⟨hcs.1, hcs.2, rfl, hT0, hU.moved X1.warmed, hK.moved X1.warmed (by intro q hq; show T0.heap[q]? = _; rw [hT0]; exact hH q hq)⟩
  dsimp only [Pt.U, Pt.locs, Pt.cells, Pt.slots] at X2 e1 e2 h1 h2 h3 hsteps
  have hL0 : L = [] := by
    cases L with
    | nil => rfl
    | cons q L => exact absurd (hL q List.mem_cons_self) id
  subst hL0; subst h1; subst h2; subst h3
  cases hxx
  have hhp : ((T0.setVm vm1).calling g' mk' (Value.ref b :: As).toArray).heap = H := hT0
  rw [hhp] at f1 f5 f6
  refine ⟨x, U', ce, X2, f1, by rw [e1]; exact f2, f3, ?_, by rw [e1]; exact f5, by rw [e1]; exact f6, fun target h => st1 _ fun acts => by rw [doInvoke_state]; exact hsteps.trans h⟩
  have : vm1.findClass X = some ce.cls := f4
  rw [← this]; exact (X1.warmed.alike.findClass X _).symm
/-- the method itself ends by it -/
theorem tx_prop (hr : tx_Run p l e R s m args below meth c s.heap cells slots mc ms (F0 m pc ls st) rest X) (hno : c.exceptionTable.toList = []) (hlocks : meth.locks = false) {mc' ms' : Nat} (h1 : cells + mc = mc') (h2 : slots + ms = ms') : W p l e R s m args below meth c s.heap [] cells slots (tx_Q below (tx_T X) args s mc' ms' (fun _ => False)) (F0 m pc ls st) := by
  subst h1; subst h2
  intro T hT X0
  obtain ⟨x, T', ce, X1, f1, f2, f3, f4, f5, f6, st1⟩ := hr T hT X0
  obtain ⟨a1, a2, a3, a4, a5⟩ := X1.leaveThrown x (g := { (F0 m pc ls st) with stack := rest }) rfl rfl rfl (by rw [hno]; intro x h; cases h) hlocks
  exact ⟨_, st1 _ a1, .threw x, a2, a3, ⟨x, ce, rfl, f1, f2, f3, f4, f5, f6⟩, [], ⟨⟨x, rfl⟩, a4, a5⟩, fun q h => by cases h⟩
/-- it is caught here, by the table's first row -/
theorem tx_catch (hr : tx_Run p l e R s m args below meth c H cells slots mc ms (F0 m pc ls st) rest X) (hown : s.vm.findClass own = some m.cls) {ix hpc : Nat} (hlink : (Cond.classLink own ix X).before args s = true) {x : ExceptionTableEntry} {t : List ExceptionTableEntry} (ht : c.exceptionTable.toList = x :: t) (hx : covers x pc = true) (hi : x.catchType = ix) (hp : x.handlerPc = hpc) (h0 : ix ≠ 0) {cells' slots' : Nat} (h1 : cells + mc = cells') (h2 : slots + ms = slots')
    (k : ∀ (q : Nat) (H1 : Heap), H.size ≤ H1.size → (∀ z : Nat, z < H.size → H1[z]? = H[z]?) → W p l e R s m args below meth c H1 [] cells' slots' Q (F0 m hpc ls [.ref q])) : W p l e R s m args below meth c H [] cells slots Q (F0 m pc ls st) := by
  subst h1; subst h2
  intro T hT X0
  obtain ⟨q, T', ce, X1, f1, f2, f3, f4, f5, f6, st1⟩ := hr T hT X0
  obtain ⟨vm', X2, st2⟩ := tx_caught X1 hown hlink ht (g := { (F0 m pc ls st) with stack := rest }) rfl hx hi hp h0 f2 f3 f4
  obtain ⟨t', a1, b1⟩ := k q T'.heap f5 f6 (T'.setVm vm') rfl X2
  exact ⟨t', st1 _ (st2 _ a1), b1⟩
/-- it is caught here, by the table's second row -/
theorem tx_catch2 (hr : tx_Run p l e R s m args below meth c H cells slots mc ms (F0 m pc ls st) rest X) (hK : tx_K s) (hown : s.vm.findClass own = some m.cls) {ix ix1 hpc : Nat} {X1 : String} (hnc : (X, X1) ∈ tx_nc) (hlink1 : (Cond.classLink own ix1 X1).before args s = true) (hlink : (Cond.classLink own ix X).before args s = true) {x y : ExceptionTableEntry} {t : List ExceptionTableEntry} (ht : c.exceptionTable.toList = x :: y :: t) (hx : covers x pc = true) (hi1 : x.catchType = ix1) (h01 : ix1 ≠ 0) (hy : covers y pc = true) (hi : y.catchType = ix) (hp : y.handlerPc = hpc) (h0 : ix ≠ 0) {cells' slots' : Nat} (h1 : cells + mc = cells') (h2 : slots + ms = slots')
    (k : ∀ (q : Nat) (H1 : Heap), H.size ≤ H1.size → (∀ z : Nat, z < H.size → H1[z]? = H[z]?) → W p l e R s m args below meth c H1 [] cells' slots' Q (F0 m hpc ls [.ref q])) : W p l e R s m args below meth c H [] cells slots Q (F0 m pc ls st) := by
  subst h1; subst h2
  intro T hT X0
  obtain ⟨q, T', ce, X1, f1, f2, f3, f4, f5, f6, st1⟩ := hr T hT X0
  obtain ⟨cc1, t1, n1, n2, n3⟩ := hK.2.2 _ hnc
  cases f4.symm.trans n1
  obtain ⟨vm', X2, st2⟩ := tx_caught2 X1 hown hlink1 hlink n2 ht (g := { (F0 m pc ls st) with stack := rest }) rfl hx hi1 h01 hy hi hp h0 f2 f3 f4 n3
  obtain ⟨t', a1, b1⟩ := k q T'.heap f5 f6 (T'.setVm vm') rfl X2
  exact ⟨t', st1 _ (st2 _ a1), b1⟩
end TXR
