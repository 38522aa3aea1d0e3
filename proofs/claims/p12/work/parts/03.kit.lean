/-! the nest mates' words -/
def sx_nw (w : Cond) : Bool := match w with
  | .fieldLinkNest .. => true
  | .methodLinkNest .. => true
  | _ => false
def nx_K (U : State) : Prop := ∀ w ∈ lw_tbl, sx_nw w = true → va_Nw w U
theorem nx_K.moved {u U : State} (hW : u.WarmedH U.vm) (h : nx_K u) : nx_K U := by
  intro w hw hn
  have h0 := h w hw hn
  cases w <;> first | exact va_Nw.warmF hW h0 | exact va_Nw.warmM hW h0 | (simp [sx_nw] at hn; done)
theorem nx_K.same {u U : State} (hv : u.vm = U.vm) (h : nx_K u) : nx_K U := by
  intro w hw hn
  have h0 := h w hw hn
  refine va_Nw.same ?_ hv h0
  cases w <;> first | rfl | (simp [sx_nw] at hn; done)
/-! the static arrays of Edwards: where they lie -/
def st_f (C n d : String) (a sl : Nat) (U : State) : Prop := ∃ (cf : ClassId) (kf : Class) (fi : Nat) (f : Field), U.fieldFound? C n d = some (cf, kf, fi, f) ∧ f.isStatic = true ∧ kf.init = .initialized ∧ kf.statics = some a ∧ f.slot = sl
theorem st_f.moved {C n d : String} {a sl : Nat} {u U : State} (hvm : u.vm.Alike U.vm) (h : st_f C n d a sl u) : st_f C n d a sl U := by
  obtain ⟨cf, kf, fi, f, h1, h2, h3, h4, h5⟩ := h
  obtain ⟨k', hi', he⟩ := State.fieldFound?_setVm hvm h1
  exact ⟨cf, k', fi, f, hi', h2, by rw [he]; exact h3, by rw [he]; exact h4, h5⟩
def st_c : Nat → String := fun k => match k with
  | 0 => "CurveKeys$Edwards" | 1 => "CurveKeys$Edwards" | 2 => "CurveKeys$Edwards" | 3 => "CurveKeys$Edwards" | 4 => "CurveKeys$Edwards" | 5 => "CurveKeys$Field" | 6 => "CurveKeys$Hash" | 7 => "CurveKeys$Hash" | _ => "CurveKeys$Order"
def st_n : Nat → String := fun k => match k with
  | 0 => "TWICE_CURVE_D" | 1 => "BASE_X" | 2 => "BASE_Y" | 3 => "CURVE_D" | 4 => "ROOT_OF_MINUS_1" | 5 => "FIRST_BIT" | 6 => "START" | 7 => "ROUND_KEYS" | _ => "L"
def st_d : Nat → String := fun k => if k = 5 then "[I" else "[J"
def st_i : Nat → Nat := fun k => if k < 5 then 1000 else if k = 5 then 1001 else if k < 8 then 1002 else 1003
def st_j : Nat → Nat := fun k => if k < 5 then k + 1 else if k = 7 then 2 else 1
def st_t : Nat → FieldType := fun k => if k = 5 then .int else .long
def st_l : Nat → Nat := fun k => if k < 6 then 10 else if k = 6 then 8 else if k = 7 then 80 else 32
def st_K (D : va_G) (U : State) : Prop := (∀ k, k < 9 → st_f (st_c k) (st_n k) (st_d k) (D.2 (st_i k) 0) (D.2 (st_i k) (st_j k)) U) ∧ va_AO "CurveKeys$Addend" U ∧ va_AO "CurveKeys$Key" U ∧ U.vm.findClass ("[" ++ (FieldType.object "CurveKeys$Key").toString) = some (D.2 2000 0)
theorem st_K.moved {D : va_G} {u U : State} (hvm : u.vm.Alike U.vm) (h : st_K D u) : st_K D U := ⟨fun k hk => (h.1 k hk).moved hvm, h.2.1.moved hvm, h.2.2.1.moved hvm, by rw [hvm.findClass]; exact h.2.2.2⟩
/-! words: the tables' words that a callee may take over, as one list for all methods -/
def sx_okw (w : Cond) : Bool := (w.onTables && w.keeps) || (match w with | .arrayClass _ => true | _ => false)
def G_ : List Cond := lw_tbl.filter sx_okw
theorem G_in {w : Cond} (h : w ∈ lw_tbl ∧ sx_okw w = true) : w ∈ G_ := List.mem_filter.mpr h
theorem G_ok {w : Cond} (h : w ∈ G_) : (w.onTables && w.keeps) = true ∨ ∃ ty, w = .arrayClass ty := by
  have h2 := (List.mem_filter.mp h).2
  rcases Bool.or_eq_true _ _ ▸ h2 with h3 | h3
  · exact Or.inl h3
  · right
    split at h3
    · exact ⟨_, rfl⟩
    · cases h3
theorem G_good {bs : List Cond} (h : ∀ w ∈ bs, w ∈ G_) : GoodIn G_ bs := fun w hw => ⟨h w hw, G_ok (h w hw)⟩
/-- a call's words: all are in the tables -/
def sx_w (ws : List Cond) (y : MethodName) (n : Nat) : Prop := (∀ w ∈ ws, w ∈ lw_tbl ∧ sx_okw w = true) ∧ (y.cls ≠ "java/lang/invoke/MethodHandle" ∧ y.cls ≠ "java/lang/invoke/VarHandle" ∧ (parseMethodDescriptor y.desc).map (fun d => d.parameters.length) = some n)
/-- what a state says to every method: which classes are arrays; our classes -/
def sx_U (D : va_G) (g : ClassId → FieldType → Prop) (U : State) : Prop := sx_G U g ∧ va_K D classes [] U ∧ nx_K U ∧ st_K D U
theorem sx_U.moved {D : va_G} {g : ClassId → FieldType → Prop} {u U : State} (hW : u.WarmedH U.vm) (h : sx_U D g u) : sx_U D g U := ⟨h.1.moved hW.alike, va_K.moved hW.alike h.2.1, h.2.2.1.moved hW, h.2.2.2.moved hW.alike⟩
def sx_E (p : Program) (s : State) (m : MethodId) (args : Array Value) (c : Code) (cc : ByteArray) (nL : Nat) (own : String) (D : va_G) (g : ClassId → FieldType → Prop) : Prop :=
  p.tables.exec = Jvm.exec ∧ c.code = cc ∧ c.maxLocals = nL ∧ s.vm.findClass own = some m.cls ∧ (∀ w ∈ G_, w.before args s = true) ∧ sx_U D g s
abbrev sx_Pc (vs : List Value) (H : Heap) (D : va_G) (g : ClassId → FieldType → Prop) : Array Value → State → Prop := va_Pc vs (fun U => U.heap = H ∧ sx_U D g U)
theorem sx_blind {vs : List Value} {H : Heap} {D : va_G} {g : ClassId → FieldType → Prop} : FrameBlind (sx_Pc vs H D g) := fun _ U f mk q => by
  obtain ⟨q0, q1, q2, q3, q4, q5⟩ := q
  exact ⟨q0, q1, q2.moved (u := U) (U := U.calling f mk _) (Vm.Alike.refl U.vm), va_K.moved (u := U) (U := U.calling f mk _) (Vm.Alike.refl U.vm) q3, nx_K.same (u := U) (U := U.calling f mk _) rfl q4, st_K.moved (u := U) (U := U.calling f mk _) (Vm.Alike.refl U.vm) q5⟩
def sx_Qv (g : ClassId → FieldType → Prop) (E : Nat → Prop) (H0 : Heap) : Array Value → State → Outcome → State → Prop := va_Qv (fun _ : Unit => True) (fun _ t => sx_J g E H0 t.heap) E
def sx_Qi (g : ClassId → FieldType → Prop) (E : Nat → Prop) (H0 : Heap) : Array Value → State → Outcome → State → Prop := va_Qi (fun _ (_ : Unit) => True) (fun _ t => sx_J g E H0 t.heap) E
def sx_Ql (g : ClassId → FieldType → Prop) (E : Nat → Prop) (H0 : Heap) : Array Value → State → Outcome → State → Prop := va_Ql (fun _ (_ : Unit) => True) (fun _ t => sx_J g E H0 t.heap) E
def sx_Qn (g : ClassId → FieldType → Prop) (E : Nat → Prop) (H0 : Heap) (post : Nat → Prop) : Array Value → State → Outcome → State → Prop := va_Qi (fun r (_ : Unit) => ∃ z : Nat, post z ∧ r = nI z) (fun _ t => sx_J g E H0 t.heap) E
abbrev sx_Qz (g : ClassId → FieldType → Prop) (E : Nat → Prop) (H0 : Heap) : Array Value → State → Outcome → State → Prop := sx_Qn g E H0 (fun z => z ≤ 1)
theorem sx_F {g : ClassId → FieldType → Prop} {E : Nat → Prop} {H0 : Heap} {s t : State} (h0 : s.heap = H0) (h : sx_J g E H0 t.heap) : va_F E s t := by
  subst h0
  exact ⟨h.1, h.2.1⟩
theorem sx_nz {z : Nat} (h : z ≤ 1) : narrow .boolean (.int (nI z)) = .int (nI z) := by
  rcases (show z = 0 ∨ z = 1 by omega) with rfl | rfl <;> rfl
theorem sx_inc (a b : Nat) : nI a + Int32.ofInt (b : Int) = nI (a + b) := by
  rw [← nI_add]; rfl
theorem sx_dn (a : Nat) : nI a + Int32.ofInt (-1) = nI a - 1 := by
  rw [show (Int32.ofInt (-1)) = -1 from by decide, Int32.sub_eq_add_neg]
theorem sx_dec {a : Nat} (h : 0 < a) : nI a + Int32.ofInt (-1) = nI (a - 1) := by
  rw [sx_dn]
  obtain ⟨b, rfl⟩ : ∃ b, a = b + 1 := ⟨a - 1, by omega⟩
  rw [nI_pred]; rfl
section SXM
variable {l : Launch} {D : va_G} {g : ClassId → FieldType → Prop} {E : Nat → Prop} {H0 : Heap} {y : MethodName} {cc : ByteArray} {maxL : Nat} {own : String} {vs : List Value} {rm : Room}
theorem sx_mv (hy : plainName y.cls = true) (ho : y.cls = own) (hc : rm.cells = 0) (hs : rm.slots = 0) (hlen : (lg_sl vs).length ≤ maxL)
    (body : ∀ (p : Program) (e : Env) (s : State) (m : MethodId) (args : Array Value) (below : List Frame) (meth : Method) (c : Code) (Q : State → Prop) (ls : Array Slot), sx_E p s m args c cc maxL own D g → lv_has ls maxL (lv_args 0 vs) →
      (∀ (H : Heap) (locs : List Loc) (ls : Array Slot) (pc : Nat), sx_S g E E H0 H locs → decode cc pc = .ok (.return_, 1) → W p l e rm s m args below meth c H locs 0 0 Q (F0 m pc ls [])) → W p l e rm s m args below meth c H0 [] 0 0 Q (F0 m 0 ls [])) :
    Met l y (.code y cc maxL none :: G_) rm (sx_Pc vs H0 D g) (sx_Qv g E H0) 0 0 E := by
  refine Met.ofW (cc := cc) (maxL := maxL) (ret := none) hy rfl ?_
  intro p e s m args below meth c s₁ B hml hv
  obtain ⟨rfl, hh, hU⟩ := hv
  have hl := lv_entry vs (n := maxL) hlen
  rw [lg_entry_eq]
  generalize (lg_sl vs ++ List.replicate (maxL - (lg_sl vs).length) Slot.unset).toArray = ls at hl ⊢
  have hb := B.bytes
  rw [hh]
  refine body p e s m _ below meth c _ ls ⟨B.exec, hb, hml, ho ▸ findClass_of_methodNamed B.named, fun w h => atoms_spec B.pre w (List.mem_cons_of_mem _ h), hU⟩ hl (fun H locs ls pc hS hd => ?_)
  exact W.vret B.exec hb B.returns (fun t ht hW => ⟨⟨(), rfl, trivial, (by rw [← ht] at hS; exact hS.1)⟩, sx_F hh (by rw [ht]; exact hS.1)⟩) hS.2.2 hd
theorem sx_mi (hy : plainName y.cls = true) (ho : y.cls = own) (hc : rm.cells = 0) (hs : rm.slots = 0) (hlen : (lg_sl vs).length ≤ maxL)
    (body : ∀ (p : Program) (e : Env) (s : State) (m : MethodId) (args : Array Value) (below : List Frame) (meth : Method) (c : Code) (Q : State → Prop) (ls : Array Slot), sx_E p s m args c cc maxL own D g → lv_has ls maxL (lv_args 0 vs) →
      (∀ (H : Heap) (locs : List Loc) (ls : Array Slot) (pc : Nat) (r : Int32), sx_S g E E H0 H locs → decode cc pc = .ok (.ireturn, 1) → W p l e rm s m args below meth c H locs 0 0 Q (F0 m pc ls [.int r])) → W p l e rm s m args below meth c H0 [] 0 0 Q (F0 m 0 ls [])) :
    Met l y (.code y cc maxL (some .int) :: G_) rm (sx_Pc vs H0 D g) (sx_Qi g E H0) 0 0 E := by
  refine Met.ofW (cc := cc) (maxL := maxL) (ret := some .int) hy rfl ?_
  intro p e s m args below meth c s₁ B hml hv
  obtain ⟨rfl, hh, hU⟩ := hv
  have hl := lv_entry vs (n := maxL) hlen
  rw [lg_entry_eq]
  generalize (lg_sl vs ++ List.replicate (maxL - (lg_sl vs).length) Slot.unset).toArray = ls at hl ⊢
  have hb := B.bytes
  rw [hh]
  refine body p e s m _ below meth c _ ls ⟨B.exec, hb, hml, ho ▸ findClass_of_methodNamed B.named, fun w h => atoms_spec B.pre w (List.mem_cons_of_mem _ h), hU⟩ hl (fun H locs ls pc r hS hd => ?_)
  exact W.iret (v := r) B.exec hb B.returns (fun t ht hW => ⟨⟨r, (), rfl, trivial, (by rw [← ht] at hS; exact hS.1)⟩, sx_F hh (by rw [ht]; exact hS.1)⟩) hS.2.2 hd
theorem sx_ml (hy : plainName y.cls = true) (ho : y.cls = own) (hc : rm.cells = 0) (hs : rm.slots = 0) (hlen : (lg_sl vs).length ≤ maxL)
    (body : ∀ (p : Program) (e : Env) (s : State) (m : MethodId) (args : Array Value) (below : List Frame) (meth : Method) (c : Code) (Q : State → Prop) (ls : Array Slot), sx_E p s m args c cc maxL own D g → lv_has ls maxL (lv_args 0 vs) →
      (∀ (H : Heap) (locs : List Loc) (ls : Array Slot) (pc : Nat) (r : Int64), sx_S g E E H0 H locs → decode cc pc = .ok (.lreturn, 1) → W p l e rm s m args below meth c H locs 0 0 Q (F0 m pc ls [.long r])) → W p l e rm s m args below meth c H0 [] 0 0 Q (F0 m 0 ls [])) :
    Met l y (.code y cc maxL (some .long) :: G_) rm (sx_Pc vs H0 D g) (sx_Ql g E H0) 0 0 E := by
  refine Met.ofW (cc := cc) (maxL := maxL) (ret := some .long) hy rfl ?_
  intro p e s m args below meth c s₁ B hml hv
  obtain ⟨rfl, hh, hU⟩ := hv
  have hl := lv_entry vs (n := maxL) hlen
  rw [lg_entry_eq]
  generalize (lg_sl vs ++ List.replicate (maxL - (lg_sl vs).length) Slot.unset).toArray = ls at hl ⊢
  have hb := B.bytes
  rw [hh]
  refine body p e s m _ below meth c _ ls ⟨B.exec, hb, hml, ho ▸ findClass_of_methodNamed B.named, fun w h => atoms_spec B.pre w (List.mem_cons_of_mem _ h), hU⟩ hl (fun H locs ls pc r hS hd => ?_)
  exact W.lret (v := r) B.exec hb B.returns (fun t ht hW => ⟨⟨r, (), rfl, trivial, (by rw [← ht] at hS; exact hS.1)⟩, sx_F hh (by rw [ht]; exact hS.1)⟩) hS.2.2 hd
theorem sx_mn {post : Nat → Prop} (hy : plainName y.cls = true) (ho : y.cls = own) (hc : rm.cells = 0) (hs : rm.slots = 0) (hlen : (lg_sl vs).length ≤ maxL)
    (body : ∀ (p : Program) (e : Env) (s : State) (m : MethodId) (args : Array Value) (below : List Frame) (meth : Method) (c : Code) (Q : State → Prop) (ls : Array Slot), sx_E p s m args c cc maxL own D g → lv_has ls maxL (lv_args 0 vs) →
      (∀ (H : Heap) (locs : List Loc) (ls : Array Slot) (pc : Nat) (z : Nat), post z → sx_S g E E H0 H locs → decode cc pc = .ok (.ireturn, 1) → W p l e rm s m args below meth c H locs 0 0 Q (F0 m pc ls [.int (nI z)])) → W p l e rm s m args below meth c H0 [] 0 0 Q (F0 m 0 ls [])) :
    Met l y (.code y cc maxL (some .int) :: G_) rm (sx_Pc vs H0 D g) (sx_Qn g E H0 post) 0 0 E := by
  refine Met.ofW (cc := cc) (maxL := maxL) (ret := some .int) hy rfl ?_
  intro p e s m args below meth c s₁ B hml hv
  obtain ⟨rfl, hh, hU⟩ := hv
  have hl := lv_entry vs (n := maxL) hlen
  rw [lg_entry_eq]
  generalize (lg_sl vs ++ List.replicate (maxL - (lg_sl vs).length) Slot.unset).toArray = ls at hl ⊢
  have hb := B.bytes
  rw [hh]
  refine body p e s m _ below meth c _ ls ⟨B.exec, hb, hml, ho ▸ findClass_of_methodNamed B.named, fun w h => atoms_spec B.pre w (List.mem_cons_of_mem _ h), hU⟩ hl (fun H locs ls pc z hz hS hd => ?_)
  exact W.iret (v := nI z) B.exec hb B.returns (fun t ht hW => ⟨⟨nI z, (), rfl, ⟨z, hz, rfl⟩, (by rw [← ht] at hS; exact hS.1)⟩, sx_F hh (by rw [ht]; exact hS.1)⟩) hS.2.2 hd
theorem sx_mz (hy : plainName y.cls = true) (ho : y.cls = own) (hc : rm.cells = 0) (hs : rm.slots = 0) (hlen : (lg_sl vs).length ≤ maxL)
    (body : ∀ (p : Program) (e : Env) (s : State) (m : MethodId) (args : Array Value) (below : List Frame) (meth : Method) (c : Code) (Q : State → Prop) (ls : Array Slot), sx_E p s m args c cc maxL own D g → lv_has ls maxL (lv_args 0 vs) →
      (∀ (H : Heap) (locs : List Loc) (ls : Array Slot) (pc : Nat) (z : Nat), z ≤ 1 → sx_S g E E H0 H locs → decode cc pc = .ok (.ireturn, 1) → W p l e rm s m args below meth c H locs 0 0 Q (F0 m pc ls [.int (nI z)])) → W p l e rm s m args below meth c H0 [] 0 0 Q (F0 m 0 ls [])) :
    Met l y (.code y cc maxL (some .boolean) :: G_) rm (sx_Pc vs H0 D g) (sx_Qz g E H0) 0 0 E := by
  refine Met.ofW (cc := cc) (maxL := maxL) (ret := some .boolean) hy rfl ?_
  intro p e s m args below meth c s₁ B hml hv
  obtain ⟨rfl, hh, hU⟩ := hv
  have hl := lv_entry vs (n := maxL) hlen
  rw [lg_entry_eq]
  generalize (lg_sl vs ++ List.replicate (maxL - (lg_sl vs).length) Slot.unset).toArray = ls at hl ⊢
  have hb := B.bytes
  rw [hh]
  refine body p e s m _ below meth c _ ls ⟨B.exec, hb, hml, ho ▸ findClass_of_methodNamed B.named, fun w h => atoms_spec B.pre w (List.mem_cons_of_mem _ h), hU⟩ hl (fun H locs ls pc z hz hS hd => ?_)
  exact W.zret (v := nI z) (ty := .boolean) B.exec hb B.returns (sx_nz hz) (fun t ht hW => ⟨⟨nI z, (), rfl, ⟨z, hz, rfl⟩, (by rw [← ht] at hS; exact hS.1)⟩, sx_F hh (by rw [ht]; exact hS.1)⟩) hS.2.2 hd
end SXM
section SXC
variable {p : Program} {l : Launch} {e : Env} {R : Room} {s : State} {m : MethodId} {args : Array Value} {below : List Frame} {meth : Method} {c : Code} {H H0 : Heap} {locs : List Loc} {cells slots : Nat} {Q : State → Prop}
variable {cc : ByteArray} {pc : Nat} {ls : Array Slot} {g : ClassId → FieldType → Prop} {E F : Nat → Prop} {D : va_G}
variable {y : MethodName} {bytes : ByteArray} {maxL nL n index : Nat} {ret : Option FieldType} {rm : Room} {own : String} {As rest st : List Value} {Qc : Array Value → State → Outcome → State → Prop}
/-- a static call's run -/
theorem sx_runS (EE : sx_E p s m args c cc nL own D g) (hM : Met l y (.code y bytes maxL ret :: G_) rm (sx_Pc As H D g) Qc 0 0 E) (hw : sx_w [.methodLink own index y, .static y, .initialized y.cls, .code y bytes maxL ret] y n) (hn : As.length = n) (hrm : rm.cells = 0 ∧ rm.slots = 0) (hR : rm.frames + 1 ≤ R.frames ∧ 8 + (maxL + 11) + rm.locals ≤ R.locals) (hcs : cells ≤ R.cells ∧ slots ≤ R.slots)
    (hsz : ls.size = nL) (hst : st = As.reverse ++ rest) (hrest : (rest.map fun v => v.category).sum ≤ 8) (hdg : decode cc pc = .ok (.invokestatic index, 3)) :
    va_Run p l e R s m args below meth c H locs cells slots 0 0 (F0 m pc ls st) rest (Qc As.toArray) E := by
  obtain ⟨hx, hb, hml, hown, hts, hU⟩ := EE
  have hin : ∀ w ∈ ([.methodLink own index y, .static y, .initialized y.cls, .code y bytes maxL ret] : List Cond), w ∈ G_ := fun w h => G_in (hw.1 w h)
  exact va_runS (As := As) (rest := rest) ⟨hx, hb, hml, hown, hts⟩ hM (va_cwS n hts (G_good (fun w h => by
      simp only [va_wsS, List.cons_append, List.nil_append, List.mem_cons] at h
      rcases h with rfl | rfl | rfl | rfl | h
      · exact hin _ (by simp)
      · exact hin _ (by simp)
      · exact hin _ (by simp)
      · exact hin _ (by simp)
      · exact h)) rfl hrm.1 hrm.2 hw.2 hR) ⟨sx_blind, fun U hU' hW => ⟨rfl, hU', hU.moved hW⟩⟩ rfl hn hsz hst (lv_room hrest) hdg hcs
/-- behind a call -/
theorem sx_Sm {H1 : Heap} {locs1 : List Loc} (hS : sx_S g E F H0 H locs) (hJ : sx_J g E H H1) (h1 : va_S F H H1 locs1) : sx_S g E F H0 H1 locs1 := ⟨hS.1.tr hJ, hS.2.1, h1.2.2⟩
theorem sx_vS (hS : sx_S g E F H0 H locs) : va_S F H H locs := ⟨Nat.le_refl _, fun _ _ _ => rfl, hS.2.2⟩
theorem sx_gv (hr : va_Run p l e R s m args below meth c H locs cells slots 0 0 (F0 m pc ls st) rest (sx_Qv g E H As.toArray) E) (hS : sx_S g E F H0 H locs)
    (k : ∀ (H1 : Heap) (locs1 : List Loc), sx_S g E F H0 H1 locs1 → W p l e R s m args below meth c H1 locs1 cells slots Q (F0 m (pc + 3) ls rest)) : W p l e R s m args below meth c H locs cells slots Q (F0 m pc ls st) :=
  va_callv hr (sx_vS hS) (fun _ _ h => hS.2.1 _ h) (fun _ h => hS.2.1 _ h) (fun u t H1 locs1 ht hvm hw hB hz hk hS1 => k H1 locs1 (sx_Sm hS (ht ▸ hB) hS1))
theorem sx_gi (hr : va_Run p l e R s m args below meth c H locs cells slots 0 0 (F0 m pc ls st) rest (sx_Qi g E H As.toArray) E) (hS : sx_S g E F H0 H locs)
    (k : ∀ (x : Int32) (H1 : Heap) (locs1 : List Loc), sx_S g E F H0 H1 locs1 → W p l e R s m args below meth c H1 locs1 cells slots Q (F0 m (pc + 3) ls (.int x :: rest))) : W p l e R s m args below meth c H locs cells slots Q (F0 m pc ls st) :=
  va_calli hr (sx_vS hS) (fun _ _ h => hS.2.1 _ h) (fun _ h => hS.2.1 _ h) (fun r u t H1 locs1 ht hvm hw hB hz hk hS1 => k r H1 locs1 (sx_Sm hS (ht ▸ hB) hS1))
theorem sx_gl (hr : va_Run p l e R s m args below meth c H locs cells slots 0 0 (F0 m pc ls st) rest (sx_Ql g E H As.toArray) E) (hS : sx_S g E F H0 H locs)
    (k : ∀ (x : Int64) (H1 : Heap) (locs1 : List Loc), sx_S g E F H0 H1 locs1 → W p l e R s m args below meth c H1 locs1 cells slots Q (F0 m (pc + 3) ls (.long x :: rest))) : W p l e R s m args below meth c H locs cells slots Q (F0 m pc ls st) :=
  va_calll hr (sx_vS hS) (fun _ _ h => hS.2.1 _ h) (fun _ h => hS.2.1 _ h) (fun r u t H1 locs1 ht hvm hw hB hz hk hS1 => k r H1 locs1 (sx_Sm hS (ht ▸ hB) hS1))
theorem sx_gn {post : Nat → Prop} (hr : va_Run p l e R s m args below meth c H locs cells slots 0 0 (F0 m pc ls st) rest (sx_Qn g E H post As.toArray) E) (hS : sx_S g E F H0 H locs)
    (k : ∀ (z : Nat) (_ : post z) (H1 : Heap) (locs1 : List Loc), sx_S g E F H0 H1 locs1 → W p l e R s m args below meth c H1 locs1 cells slots Q (F0 m (pc + 3) ls (.int (nI z) :: rest))) : W p l e R s m args below meth c H locs cells slots Q (F0 m pc ls st) :=
  va_calli hr (sx_vS hS) (fun _ _ h => hS.2.1 _ h) (fun _ h => hS.2.1 _ h) (fun r u t H1 locs1 ht hvm hw hB hz hk hS1 => by
    obtain ⟨z, hz, rfl⟩ := hw
    exact k z hz H1 locs1 (sx_Sm hS (ht ▸ hB) hS1))
end SXC
