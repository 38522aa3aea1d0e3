/-! new cells, and what the arrays hold; contracts of methods that make cells -/
theorem mm_grw {g : ClassId → FieldType → Prop} {H H1 : Heap} (ho : ∀ z : Nat, z < H.size → H1[z]? = H[z]?) (h0 : ∀ z : Nat, H.size ≤ z → ∀ j, mml g H1 z j = 0 ∧ mmi g H1 z j = 0) : mm g H1 = mm g H := by
  have hn : ∀ z : Nat, H.size ≤ z → H[z]? = none := fun z hz => Array.getElem?_eq_none hz
  refine Prod.ext (funext fun b => funext fun k => ?_) (funext fun b => funext fun k => ?_)
  · show mml g H1 b k = mml g H b k
    by_cases hb : b < H.size
    · exact mml_same (ho b hb) k
    · rw [(h0 b (by omega) k).1]
      simp only [mml, hn b (by omega)]
  · show mmi g H1 b k = mmi g H b k
    by_cases hb : b < H.size
    · exact mmi_same (ho b hb) k
    · rw [(h0 b (by omega) k).2]
      simp only [mmi, hn b (by omega)]
theorem mm_none {g : ClassId → FieldType → Prop} {H1 : Heap} {z : Nat} (h : H1[z]? = none) (j : Nat) : mml g H1 z j = 0 ∧ mmi g H1 z j = 0 := by
  constructor
  · simp only [mml, h]
  · simp only [mmi, h]
theorem mm_arr0 {g : ClassId → FieldType → Prop} {H1 : Heap} {z n : Nat} {cA : ClassId} {ty : FieldType} (hp : ty = .long ∨ ty = .byte ∨ ty = .int) (h : H1[z]? = some (arrV cA n (fun _ => defaultValue ty))) (j : Nat) : mml g H1 z j = 0 ∧ mmi g H1 z j = 0 := by
  have e : (arrV cA n (fun _ => defaultValue ty)).slots[j]? = none ∨ (arrV cA n (fun _ => defaultValue ty)).slots[j]? = some (defaultValue ty) := by
    by_cases hj : j < n
    · exact Or.inr (arrV_read _ _ hj)
    · exact Or.inl (Array.getElem?_eq_none (by rw [arrV_size]; omega))
  simp only [mml, mmi, h]
  constructor
  · split
    · rcases e with e | e
      · rw [e]
      · rw [e]
        rcases hp with rfl | rfl | rfl <;> rfl
    · rfl
  · split
    · rcases e with e | e
      · rw [e]
      · rw [e]
        rcases hp with rfl | rfl | rfl <;> rfl
    · rfl
theorem mm_obj0 {s : State} {g : ClassId → FieldType → Prop} {D : va_G} {o ci : Nat} {fs : List Value} {H1 : Heap} (hG : sx_G s g) (hK : va_K D classes [] s) (hP : va_P D classes [(o, .inr (ci, fs))] H1) (j : Nat) : mml g H1 o j = 0 ∧ mmi g H1 o j = 0 := by
  obtain ⟨r, q1, c1, q2, q3, -⟩ := hP 0 _ rfl
  have hn : ¬ ∃ t, g c1.cls t := fun ⟨t, h⟩ => sx_noarr hG hK q1 t (by rw [← q3]; exact h)
  simp only [mml, mmi, q2]
  exact ⟨if_neg hn, if_neg hn⟩
section VXN
variable {p : Program} {l : Launch} {e : Env} {R : Room} {s : State} {m : MethodId} {args : Array Value} {below : List Frame} {meth : Method} {c : Code} {H H0 : Heap} {locs : List Loc} {cells slots : Nat} {Q : State → Prop}
variable {cc : ByteArray} {pc : Nat} {ls : Array Slot} {g : ClassId → FieldType → Prop} {E F : Nat → Prop} {rest : List Value} {X : vM}
theorem vx_newa {t : ArrayType} {ty : FieldType} {n cells' slots' : Nat} (hx : p.tables.exec = Jvm.exec) (hb : c.code = cc) (hG : sx_G s g) (hts : ∀ w ∈ G_, w.before args s = true) (hty : newarray.typeOf t = ty) (hp : ty = .long ∨ ty = .byte ∨ ty = .int) (hw : Cond.arrayClass ty ∈ lw_tbl) (hn : n < 2 ^ 31) (hbytes : n * componentBytes ty ≤ 536870912) (hc1 : cells + 1 = cells') (hs1 : slots + n = slots') (hcells : cells' ≤ R.cells) (hslots : slots' ≤ R.slots) (hS : sx_S g E F H0 H locs) (hV : mm g H = X) (hdg : decode cc pc = .ok (.newarray t, 2))
    (kk : ∀ (q : Nat) (H1 : Heap), H.size = q → H1.size = q + 1 → sx_A g ty H1 q n → sx_L H1 q n → sx_J g E H H1 → (∀ z : Nat, z < H.size → H1[z]? = H[z]?) → sx_S g E F H0 H1 locs → mm g H1 = X → W p l e R s m args below meth c H1 locs cells' slots' Q (F0 m (pc + 2) ls (.ref q :: rest))) : W p l e R s m args below meth c H locs cells slots Q (F0 m pc ls (.int (nI n) :: rest)) := by
  subst hty
  subst hc1
  subst hs1
  refine W.newaK hx hb (hts _ (G_in ⟨hw, by simp [sx_okw]⟩)) (n := nI n) rfl hdg rfl (nI_pos hn) (nI_clamp hn) hbytes hcells hslots rfl (fun H' cA h1 h2 h3 h4 => ?_)
  have hJ : sx_J g E H H' := sx_J.grow (by omega) h3
  refine kk H.size H' rfl h2 ?_ ⟨_, h1, arrV_size _ _ _⟩ hJ h3 ⟨hS.1.tr hJ, hS.2⟩ ?_
  · obtain ⟨w1, w2⟩ := h4 n (fun _ => defaultValue (newarray.typeOf t))
    refine ⟨_, h1, (hG _ _).mpr w2, w1, (fun h => by cases h), by rw [arrV_size]; exact Nat.le_refl _, fun j hj => ⟨_, arrV_read _ _ hj, ?_⟩⟩
    rcases hp with h | h | h <;> rw [h]
    · exact ⟨0, rfl⟩
    · exact ⟨0, rfl, by decide +kernel⟩
    · exact ⟨0, rfl⟩
  · rw [← hV]
    refine mm_grw h3 (fun z hz j => ?_)
    by_cases hq : z = H.size
    · rw [hq]
      exact mm_arr0 hp h1 j
    · exact mm_none (Array.getElem?_eq_none (by omega)) j
end VXN
section PXA
variable {l : Launch} {D : va_G} {g : ClassId → FieldType → Prop} {E : Nat → Prop} {H0 : Heap} {y : MethodName} {cc : ByteArray} {maxL mc ms : Nat} {own : String} {vs : List Value} {rm : Room}
theorem px_mvA {P : Heap → Prop} (hy : plainName y.cls = true) (ho : y.cls = own) (hlen : (lg_sl vs).length ≤ maxL)
    (body : ∀ (p : Program) (e : Env) (s : State) (m : MethodId) (args : Array Value) (below : List Frame) (meth : Method) (c : Code) (Q : State → Prop) (ls : Array Slot), sx_E p s m args c cc maxL own D g → lv_has ls maxL (lv_args 0 vs) →
      (∀ (H : Heap) (locs : List Loc) (ls : Array Slot) (pc : Nat), P H → sx_S g E E H0 H locs → decode cc pc = .ok (.return_, 1) → W p l e rm s m args below meth c H locs mc ms Q (F0 m pc ls [])) → W p l e rm s m args below meth c H0 [] 0 0 Q (F0 m 0 ls [])) :
    Met l y (.code y cc maxL none :: G_) rm (sx_Pc vs H0 D g) (px_Qv g E H0 P) mc ms E :=
  sx_mva (mc := mc) (ms := ms) (P := P) hy ho hlen (fun p e s m args below meth c Q ls EE _ hl hret => body p e s m args below meth c Q ls EE hl (fun H locs ls pc hP hS hd => hret H locs ls pc hP hS.1 hS.2.2 hd))
theorem px_miA {V : Int32} {P : Heap → Prop} (hy : plainName y.cls = true) (ho : y.cls = own) (hlen : (lg_sl vs).length ≤ maxL)
    (body : ∀ (p : Program) (e : Env) (s : State) (m : MethodId) (args : Array Value) (below : List Frame) (meth : Method) (c : Code) (Q : State → Prop) (ls : Array Slot), sx_E p s m args c cc maxL own D g → lv_has ls maxL (lv_args 0 vs) →
      (∀ (H : Heap) (locs : List Loc) (ls : Array Slot) (pc : Nat), P H → sx_S g E E H0 H locs → decode cc pc = .ok (.ireturn, 1) → W p l e rm s m args below meth c H locs mc ms Q (F0 m pc ls [.int V])) → W p l e rm s m args below meth c H0 [] 0 0 Q (F0 m 0 ls [])) :
    Met l y (.code y cc maxL (some .int) :: G_) rm (sx_Pc vs H0 D g) (px_Q g E H0 V P) mc ms E := by
  refine Met.ofW (cc := cc) (maxL := maxL) (ret := some .int) hy rfl ?_
  intro p e s m args below meth c s₁ B hml hv
  obtain ⟨rfl, hh, hU⟩ := hv
  have hl := lv_entry vs (n := maxL) hlen
  rw [lg_entry_eq]
  generalize (lg_sl vs ++ List.replicate (maxL - (lg_sl vs).length) Slot.unset).toArray = ls at hl ⊢
  have hb := B.bytes
  rw [hh]
  refine body p e s m _ below meth c _ ls ⟨B.exec, hb, hml, ho ▸ findClass_of_methodNamed B.named, fun w h => atoms_spec B.pre w (List.mem_cons_of_mem _ h), hU⟩ hl (fun H locs ls pc hP hS hd => ?_)
  exact W.iret (v := V) B.exec hb B.returns (fun t ht hW => ⟨⟨V, (), rfl, rfl, (by rw [← ht] at hS hP; exact ⟨hS.1, hP⟩)⟩, sx_F hh (by rw [ht]; exact hS.1)⟩) hS.2.2 hd
/-- a method that returns an object or an array -/
abbrev px_Qr (g : ClassId → FieldType → Prop) (E : Nat → Prop) (H0 : Heap) (P : Nat → Heap → Prop) : Array Value → State → Outcome → State → Prop := va_Qr (fun _ : Unit => True) (fun _ r t => sx_J g E H0 t.heap ∧ P r t.heap) E
theorem px_mrA {rt : FieldType} {P : Nat → Heap → Prop} (hrt : (∃ n, rt = .object n) ∨ ∃ t, rt = .array t) (hy : plainName y.cls = true) (ho : y.cls = own) (hlen : (lg_sl vs).length ≤ maxL)
    (body : ∀ (p : Program) (e : Env) (s : State) (m : MethodId) (args : Array Value) (below : List Frame) (meth : Method) (c : Code) (Q : State → Prop) (ls : Array Slot), sx_E p s m args c cc maxL own D g → lv_has ls maxL (lv_args 0 vs) →
      (∀ (H : Heap) (locs : List Loc) (ls : Array Slot) (pc r : Nat), P r H → sx_S g E E H0 H locs → decode cc pc = .ok (.areturn, 1) → W p l e rm s m args below meth c H locs mc ms Q (F0 m pc ls [.ref r])) → W p l e rm s m args below meth c H0 [] 0 0 Q (F0 m 0 ls [])) :
    Met l y (.code y cc maxL (some rt) :: G_) rm (sx_Pc vs H0 D g) (px_Qr g E H0 P) mc ms E := by
  refine Met.ofW (cc := cc) (maxL := maxL) (ret := some rt) hy rfl ?_
  intro p e s m args below meth c s₁ B hml hv
  obtain ⟨rfl, hh, hU⟩ := hv
  have hl := lv_entry vs (n := maxL) hlen
  rw [lg_entry_eq]
  generalize (lg_sl vs ++ List.replicate (maxL - (lg_sl vs).length) Slot.unset).toArray = ls at hl ⊢
  have hb := B.bytes
  rw [hh]
  refine body p e s m _ below meth c _ ls ⟨B.exec, hb, hml, ho ▸ findClass_of_methodNamed B.named, fun w h => atoms_spec B.pre w (List.mem_cons_of_mem _ h), hU⟩ hl (fun H locs ls pc r hP hS hd => ?_)
  exact W.aret (v := .ref r) B.exec hb B.returns hrt (Or.inr ⟨r, rfl⟩) (fun t ht hW => ⟨⟨(), r, rfl, trivial, (by rw [← ht] at hS hP; exact ⟨hS.1, hP⟩)⟩, sx_F hh (by rw [ht]; exact hS.1)⟩) hS.2.2 hd
end PXA
section PXB
variable {p : Program} {l : Launch} {e : Env} {R : Room} {s : State} {m : MethodId} {args : Array Value} {below : List Frame} {meth : Method} {c : Code} {H H0 : Heap} {locs : List Loc} {cells slots : Nat} {Q : State → Prop}
variable {cc : ByteArray} {pc : Nat} {ls : Array Slot} {g : ClassId → FieldType → Prop} {E E' F : Nat → Prop} {D : va_G} {rest st As : List Value} {aa : Array Value}
variable {y : MethodName} {bytes : ByteArray} {maxL nL n index mc ms cells' slots' : Nat} {ret : Option FieldType} {rm : Room} {own C : String} {Qc : Array Value → State → Outcome → State → Prop} {b ci : Nat} {fs : List Value} {T : u_T} {N : Nat}
theorem sx_runVA (EE : sx_E p s m args c cc nL own D g) (hP : va_P D classes [(b, .inr (ci, fs))] H) (hc : classes[ci]? = some (C, T, N)) (hC : y.cls = C) (hM : Met l y (.code y bytes maxL ret :: G_) rm (sx_Pc (.ref b :: As) H D g) Qc mc ms E) (hw : sx_w [.methodLink own index y, .instanceMethod y, .selects C y y, .initialized C, .code y bytes maxL ret] y n) (hn : As.length = n) (hrm : rm.cells = mc ∧ rm.slots = ms) (hR : rm.frames + 1 ≤ R.frames ∧ 8 + (maxL + 11) + rm.locals ≤ R.locals) (hcs : cells + mc ≤ R.cells ∧ slots + ms ≤ R.slots)
    (hsz : ls.size = nL) (hst : st = As.reverse ++ .ref b :: rest) (hrest : (rest.map fun v => v.category).sum ≤ 8) (hdg : decode cc pc = .ok (.invokevirtual index, 3)) :
    va_Run p l e R s m args below meth c H locs cells slots mc ms (F0 m pc ls st) rest (Qc (Value.ref b :: As).toArray) E := by
  obtain ⟨hx, hb, hml, hown, hts, hU⟩ := EE
  have hin : ∀ w ∈ ([.methodLink own index y, .instanceMethod y, .selects C y y, .initialized C, .code y bytes maxL ret] : List Cond), w ∈ G_ := fun w h => G_in (hw.1 w h)
  exact va_runV (As := As) (rest := rest) ⟨hx, hb, hml, hown, hts⟩ hM (cwV n hts (G_good (fun w h => by
      simp only [wsV, List.cons_append, List.nil_append, List.mem_cons] at h
      rcases h with rfl | rfl | rfl | rfl | rfl | h
      · exact hin _ (by simp)
      · exact hin _ (by simp)
      · exact hin _ (by simp)
      · exact hin _ (by simp)
      · exact hin _ (by simp)
      · exact h)) rfl hrm.1 hrm.2 ⟨hC, hw.2⟩ hR) ⟨sx_blind, va_recv hU.2.1 hP (ci := ci) (q0 := 0) hc rfl, fun U hU' hW => ⟨rfl, hU', hU.moved hW⟩⟩ rfl hn hsz hst (lv_room hrest) hdg hcs
theorem sx_runSA (EE : sx_E p s m args c cc nL own D g) (hM : Met l y (.code y bytes maxL ret :: G_) rm (sx_Pc As H D g) Qc mc ms E) (hw : sx_w [.methodLink own index y, .static y, .initialized y.cls, .code y bytes maxL ret] y n) (hn : As.length = n) (hrm : rm.cells = mc ∧ rm.slots = ms) (hR : rm.frames + 1 ≤ R.frames ∧ 8 + (maxL + 11) + rm.locals ≤ R.locals) (hcs : cells + mc ≤ R.cells ∧ slots + ms ≤ R.slots)
    (hsz : ls.size = nL) (hst : st = As.reverse ++ rest) (hrest : (rest.map fun v => v.category).sum ≤ 8) (hdg : decode cc pc = .ok (.invokestatic index, 3)) :
    va_Run p l e R s m args below meth c H locs cells slots mc ms (F0 m pc ls st) rest (Qc As.toArray) E := by
  obtain ⟨hx, hb, hml, hown, hts, hU⟩ := EE
  have hin : ∀ w ∈ ([.methodLink own index y, .static y, .initialized y.cls, .code y bytes maxL ret] : List Cond), w ∈ G_ := fun w h => G_in (hw.1 w h)
  exact va_runS (As := As) (rest := rest) ⟨hx, hb, hml, hown, hts⟩ hM (va_cwS n hts (G_good (fun w h => by
      simp only [va_wsS, List.cons_append, List.nil_append, List.mem_cons] at h
      rcases h with rfl | rfl | rfl | rfl | h
      · exact hin _ (by simp)
      · exact hin _ (by simp)
      · exact hin _ (by simp)
      · exact hin _ (by simp)
      · exact h)) rfl hrm.1 hrm.2 hw.2 hR) ⟨sx_blind, fun U hU' hW => ⟨rfl, hU', hU.moved hW⟩⟩ rfl hn hsz hst (lv_room hrest) hdg hcs
theorem px_gvA {P : Heap → Prop} (hr : va_Run p l e R s m args below meth c H locs cells slots mc ms (F0 m pc ls st) rest (px_Qv g E' H P aa) E') (hF : ∀ q, E' q → E q) (hS : sx_S g E F H0 H locs) (hc1 : cells + mc = cells') (hs1 : slots + ms = slots')
    (k : ∀ (H1 : Heap) (locs1 : List Loc), sx_J g E' H H1 → P H1 → sx_S g E F H0 H1 locs1 → W p l e R s m args below meth c H1 locs1 cells' slots' Q (F0 m (pc + 3) ls rest)) : W p l e R s m args below meth c H locs cells slots Q (F0 m pc ls st) := by
  subst hc1; subst hs1
  exact va_callv hr (sx_vS hS) (fun _ _ h => hS.2.1 _ (hF _ h)) (fun _ h => hS.2.1 _ (hF _ h)) (fun u t H1 locs1 ht hvm hw hB hz hk hS1 => by
    rw [ht] at hB
    exact k H1 locs1 hB.1 hB.2 (sx_Sm hS (hB.1.mono hF) hS1))
theorem px_giA {V : Int32} {P : Heap → Prop} (hr : va_Run p l e R s m args below meth c H locs cells slots mc ms (F0 m pc ls st) rest (px_Q g E' H V P aa) E') (hF : ∀ q, E' q → E q) (hS : sx_S g E F H0 H locs) (hc1 : cells + mc = cells') (hs1 : slots + ms = slots')
    (k : ∀ (H1 : Heap) (locs1 : List Loc), sx_J g E' H H1 → P H1 → sx_S g E F H0 H1 locs1 → W p l e R s m args below meth c H1 locs1 cells' slots' Q (F0 m (pc + 3) ls (.int V :: rest))) : W p l e R s m args below meth c H locs cells slots Q (F0 m pc ls st) := by
  subst hc1; subst hs1
  exact va_calli hr (sx_vS hS) (fun _ _ h => hS.2.1 _ (hF _ h)) (fun _ h => hS.2.1 _ (hF _ h)) (fun r u t H1 locs1 ht hvm hw hB hz hk hS1 => by
    subst hw
    rw [ht] at hB
    exact k H1 locs1 hB.1 hB.2 (sx_Sm hS (hB.1.mono hF) hS1))
theorem px_grA {P : Nat → Heap → Prop} (hr : va_Run p l e R s m args below meth c H locs cells slots mc ms (F0 m pc ls st) rest (px_Qr g E' H P aa) E') (hF : ∀ q, E' q → E q) (hS : sx_S g E F H0 H locs) (hc1 : cells + mc = cells') (hs1 : slots + ms = slots')
    (k : ∀ (H1 : Heap) (locs1 : List Loc) (r : Nat), sx_J g E' H H1 → P r H1 → sx_S g E F H0 H1 locs1 → W p l e R s m args below meth c H1 locs1 cells' slots' Q (F0 m (pc + 3) ls (.ref r :: rest))) : W p l e R s m args below meth c H locs cells slots Q (F0 m pc ls st) := by
  subst hc1; subst hs1
  exact va_callr hr (sx_vS hS) (fun _ _ h => hS.2.1 _ (hF _ h)) (fun _ h => hS.2.1 _ (hF _ h)) (fun u ra t H1 locs1 ht hvm hw hB hz hk hS1 => by
    rw [ht] at hB
    exact k H1 locs1 ra hB.1 hB.2 (sx_Sm hS (hB.1.mono hF) hS1))
end PXB
/-! the row's room -/
def gC (t k n : Nat) : Nat := if n < t + k then 1 else 0
def gS (t k n : Nat) : Nat := if n < t + k then 2 * n else 0
theorem nI_min {n m : Nat} (h : n < m) (hm : m < 2147483648) : (if nI m < nI n then nI m else nI n) = nI n := if_neg (fun z => absurd ((nI_ltI (by omega) (by omega)).mp z) (by omega))
/-- a row after it has grown, if it had to -/
def RwG (D : va_G) (g : ClassId → FieldType → Prop) (H0 : Heap) (X : vM) (ro b n t k : Nat) (H : Heap) : Prop := ∃ q n' : Nat, va_P D classes [(ro, .inr (9, [.ref q, .int (nI t)]))] H ∧ sx_A g .byte H q n' ∧ sx_L H q n' ∧ (t + k ≤ n → q = b ∧ n' = n) ∧ (n < t + k → H0.size ≤ q ∧ n' = 2 * n) ∧ (∀ j, j < t → (mm g H).2 q j = X.2 b j) ∧ ∀ c, c < H0.size → (mm g H).1 c = X.1 c ∧ (mm g H).2 c = X.2 c
/-- a row after k bytes more -/
def RwP (D : va_G) (g : ClassId → FieldType → Prop) (H0 : Heap) (X : vM) (ro b n t k : Nat) (f : Nat → Int32) (H : Heap) : Prop := ∃ q n' : Nat, va_P D classes [(ro, .inr (9, [.ref q, .int (nI (t + k))]))] H ∧ sx_A g .byte H q n' ∧ sx_L H q n' ∧ (t + k ≤ n → q = b ∧ n' = n) ∧ (n < t + k → H0.size ≤ q ∧ n' = 2 * n) ∧ (∀ j, j < t → (mm g H).2 q j = X.2 b j) ∧ (∀ j, j < k → (mm g H).2 q (t + j) = f j) ∧ ∀ c, c < H0.size → c ≠ b → (mm g H).1 c = X.1 c ∧ (mm g H).2 c = X.2 c
/-- the bytes of a number, the highest first -/
def nb4 (v : Int32) (j : Nat) : Int32 := (v >>> ((nI (8 * (3 - j))) &&& 31)).toInt8.toInt32
