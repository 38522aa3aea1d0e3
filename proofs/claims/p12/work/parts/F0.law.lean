/-! THE LAW: what stands at its loop; calls of the class's helpers and of the reference -/
abbrev b_L_law : ByteArray := code
theorem sx_wcW {ws : List Cond} {y : MethodName} {b : ByteArray} {n : Nat} {r : Option FieldType} {hh : List (Nat × Nat × Nat × Nat)} (h : ∀ w ∈ ws, w ∈ lw_tbl ∧ sx_okw w = true) (hc : Cond.codeWith y b n r hh ∈ lw_tbl) : ∀ w ∈ ws ++ [Cond.codeWith y b n r hh], w ∈ lw_tbl ∧ sx_okw w = true := fun w hw => by
  rcases List.mem_append.mp hw with hw | hw
  · exact h w hw
  · rw [List.mem_singleton.mp hw]; exact ⟨hc, rfl⟩
section LWK
variable {p : Program} {l : Launch} {e : Env} {s : State} {m : MethodId} {args : Array Value} {below : List Frame} {meth : Method} {c : Code} {H : Heap} {locs : List Loc} {cells slots : Nat} {Q : State → Prop}
variable {cc : ByteArray} {pc : Nat} {ls : Array Slot} {rest st : List Value} {D : va_G} {g : ClassId → FieldType → Prop} {nL index n : Nat} {own : String}
theorem lw_ld {R : Room} {b k L : Nat} {xs : Nat → Int32} (hx : p.tables.exec = Jvm.exec) (hb : c.code = cc) (hX : va_X b L xs s s.heap) (hL : L ≤ 3072) (hbl : b < s.heap.size) (h0 : ∀ q : Nat, q < s.heap.size → H[q]? = s.heap[q]?) (hk : k < L) (hdg : decode cc pc = .ok (.iaload, 1))
    (kk : W p l e R s m args below meth c H locs cells slots Q (F0 m (pc + 1) ls (.int (xs k) :: rest))) : W p l e R s m args below meth c H locs cells slots Q (F0 m pc ls (.int (nI k) :: .ref b :: rest)) := by
  obtain ⟨scr, h1, h2, h3, h4, h5⟩ := hX
  have hc : (nI k).toNatClampNeg = k := nI_clamp (by omega)
  exact W.iald (v := .int (xs k)) hx hb (by rw [h0 b hbl]; exact h1) h2 h3 (by rw [h4, hc]; rintro (z | z); exact nI_pos (by omega) z; omega) (by rw [hc]; exact h5 _ hk) rfl rfl hdg kk
theorem lw_len {R : Room} {b L : Nat} {xs : Nat → Int32} (hx : p.tables.exec = Jvm.exec) (hb : c.code = cc) (hX : va_X b L xs s s.heap) (hbl : b < s.heap.size) (h0 : ∀ q : Nat, q < s.heap.size → H[q]? = s.heap[q]?) (hdg : decode cc pc = .ok (.arraylength, 1))
    (kk : W p l e R s m args below meth c H locs cells slots Q (F0 m (pc + 1) ls (.int (nI L) :: rest))) : W p l e R s m args below meth c H locs cells slots Q (F0 m pc ls (.ref b :: rest)) := by
  obtain ⟨scr, h1, h2, h3, h4, h5⟩ := hX
  exact W.alen (n := nI L) hx hb (by rw [h0 b hbl]; exact h1) h2 (by rw [h4]; rfl) rfl rfl hdg kk
/-- a call of a helper of the law's own -/
theorem go_c {y : MethodName} {bL : ByteArray} {mL k cap ou a1 a3 : Nat} {hh : List (Nat × Nat × Nat × Nat)} {vs : List Value} {R : Nat → Heap → Prop} (EE : sx_E p s m args c cc nL own D g) (hK : tx_K s) (h0 : ∀ q : Nat, q < s.heap.size → H[q]? = s.heap[q]?) (hz : s.heap.size ≤ H.size) (hlo : ∀ q ∈ locs, s.heap.size ≤ q.base) (hou : s.heap.size ≤ ou) (ha3 : s.heap.size ≤ a3) (hC : CStep l D g y bL mL hh vs H ou s.heap.size a1 a3 k cap R) (hw : sx_w [.methodLink own index y, .static y, .initialized y.cls, .codeWith y bL mL (some .int) hh] y n) (hn : vs.length = n) (hmL : mL ≤ 20) (hcl : cells + 5 ≤ 601024) (hsl : slots + 131205 ≤ 7293034) (hsz : ls.size = nL) (hst : st = vs.reverse ++ rest) (hrest : (rest.map fun v => v.category).sum ≤ 8) (hdg : decode cc pc = .ok (.invokestatic index, 3))
    (kk : ∀ (H1 : Heap) (locs1 : List Loc) (c' cells' slots' : Nat), R c' H1 → sx_J g (fun z => CZ s.heap.size a1 a3 z ∨ z = ou) H H1 → (∀ q : Nat, q < s.heap.size → H1[q]? = s.heap[q]?) → s.heap.size ≤ H1.size → (∀ q ∈ locs1, s.heap.size ≤ q.base) → cells' ≤ cells + 5 → slots' + 2 * cap ≤ slots + 2 * c' + 133 → c' ≤ cap + 65536 → W p l e room_1 s m args below meth c H1 locs1 cells' slots' Q (F0 m (pc + 3) ls (.int (nI k) :: rest))) : W p l e room_1 s m args below meth c H locs cells slots Q (F0 m pc ls st) := by
  obtain ⟨E, P, fr, lo, mc, mS, cap', h1, h2, h3, ⟨h4, h4'⟩, hM, hE, hP⟩ := hC
  have hF : ∀ q, E q → s.heap.size ≤ q := fun q h => (hE q h).elim (fun z => by rcases z with z | z <;> omega) (fun z => by omega)
  refine px_gW (E' := E) (F := fun q => s.heap.size ≤ q) (V := nI k) (P := P) (mc := mc) (ms := mS) (cells' := cells + mc) (slots' := slots + mS) (px_runSW (As := vs) (rest := rest) EE hK h0 hM hw hn ⟨rfl, rfl⟩ ⟨by show fr + 1 ≤ 2048; omega, by show 8 + (mL + 11) + lo ≤ 84000; omega⟩ ⟨by show cells + mc ≤ 601024; omega, by show slots + mS ≤ 7293034; omega⟩ hsz hst hrest hdg) hF hlo rfl rfl (fun H1 locs1 hJ hP1 hlo1 => ?_)
  exact kk H1 locs1 cap' _ _ (hP H1 hP1 hJ) (hJ.mono hE) (fun q hq => (hJ.2.1 q (by omega) (fun h => by have := hF q h; omega)).trans (h0 q hq)) (Nat.le_trans hz hJ.1) hlo1 (by omega) (by omega) h4'
/-- a call of a method that makes nothing -/
theorem go_d {y : MethodName} {bM : ByteArray} {mM b0 ci N : Nat} {C : String} {T : u_T} {fs As : List Value} {rt : Option FieldType} {V : Int32} {Z : Nat → Prop} {R : Heap → Prop} (EE : sx_E p s m args c cc nL own D g) (hP0 : va_P D classes [(b0, .inr (ci, fs))] H) (hc : classes[ci]? = some (C, T, N)) (hC : y.cls = C) (h0 : ∀ q : Nat, q < s.heap.size → H[q]? = s.heap[q]?) (hz : s.heap.size ≤ H.size) (hlo : ∀ q ∈ locs, s.heap.size ≤ q.base) (hZ : ∀ z, Z z → s.heap.size ≤ z) (hD : DStep l D g y bM mM rt (.ref b0 :: As) H V Z R) (hw : sx_w [.methodLink own index y, .instanceMethod y, .selects C y y, .initialized C, .code y bM mM rt] y n) (hn : As.length = n) (hmL : mM ≤ 20) (hcl : cells ≤ 601024) (hsl : slots ≤ 7293034) (hsz : ls.size = nL) (hst : st = As.reverse ++ .ref b0 :: rest) (hrest : (rest.map fun v => v.category).sum ≤ 8) (hdg : decode cc pc = .ok (.invokevirtual index, 3))
    (kk : ∀ (H1 : Heap) (locs1 : List Loc), R H1 → sx_J g Z H H1 → (∀ q : Nat, q < s.heap.size → H1[q]? = s.heap[q]?) → s.heap.size ≤ H1.size → (∀ q ∈ locs1, s.heap.size ≤ q.base) → W p l e room_1 s m args below meth c H1 locs1 cells slots Q (F0 m (pc + 3) ls (.int V :: rest))) : W p l e room_1 s m args below meth c H locs cells slots Q (F0 m pc ls st) := by
  obtain ⟨E, P, fr, lo, h1, h2, hM, hE, hP⟩ := hD
  have hF : ∀ q, E q → s.heap.size ≤ q := fun q h => hZ q (hE q h)
  refine px_gW (E' := E) (F := fun q => s.heap.size ≤ q) (V := V) (P := P) (mc := 0) (ms := 0) (cells' := cells) (slots' := slots) (sx_runV (As := As) (rest := rest) EE hP0 hc hC hM hw hn ⟨rfl, rfl⟩ ⟨by show fr + 1 ≤ 2048; omega, by show 8 + (mM + 11) + lo ≤ 84000; omega⟩ ⟨hcl, hsl⟩ hsz hst hrest hdg) hF hlo rfl rfl (fun H1 locs1 hJ hP1 hlo1 => ?_)
  exact kk H1 locs1 (hP H1 hP1 hJ) (hJ.mono hE) (fun q hq => (hJ.2.1 q (by omega) (fun h => by have := hF q h; omega)).trans (h0 q hq)) (Nat.le_trans hz hJ.1) hlo1
theorem go_v {y : MethodName} {bM : ByteArray} {mM b0 ci N : Nat} {C : String} {T : u_T} {fs As : List Value} {Z : Nat → Prop} {R : Heap → Prop} (EE : sx_E p s m args c cc nL own D g) (hP0 : va_P D classes [(b0, .inr (ci, fs))] H) (hc : classes[ci]? = some (C, T, N)) (hC : y.cls = C) (h0 : ∀ q : Nat, q < s.heap.size → H[q]? = s.heap[q]?) (hz : s.heap.size ≤ H.size) (hlo : ∀ q ∈ locs, s.heap.size ≤ q.base) (hZ : ∀ z, Z z → s.heap.size ≤ z) (hD : DStepV l D g y bM mM (.ref b0 :: As) H Z R) (hw : sx_w [.methodLink own index y, .instanceMethod y, .selects C y y, .initialized C, .code y bM mM none] y n) (hn : As.length = n) (hmL : mM ≤ 20) (hcl : cells ≤ 601024) (hsl : slots ≤ 7293034) (hsz : ls.size = nL) (hst : st = As.reverse ++ .ref b0 :: rest) (hrest : (rest.map fun v => v.category).sum ≤ 8) (hdg : decode cc pc = .ok (.invokevirtual index, 3))
    (kk : ∀ (H1 : Heap) (locs1 : List Loc), R H1 → sx_J g Z H H1 → (∀ q : Nat, q < s.heap.size → H1[q]? = s.heap[q]?) → s.heap.size ≤ H1.size → (∀ q ∈ locs1, s.heap.size ≤ q.base) → W p l e room_1 s m args below meth c H1 locs1 cells slots Q (F0 m (pc + 3) ls rest)) : W p l e room_1 s m args below meth c H locs cells slots Q (F0 m pc ls st) := by
  obtain ⟨E, P, fr, lo, h1, h2, hM, hE, hP⟩ := hD
  have hF : ∀ q, E q → s.heap.size ≤ q := fun q h => hZ q (hE q h)
  refine px_gWv (E' := E) (F := fun q => s.heap.size ≤ q) (P := P) (mc := 0) (ms := 0) (cells' := cells) (slots' := slots) (sx_runV (As := As) (rest := rest) EE hP0 hc hC hM hw hn ⟨rfl, rfl⟩ ⟨by show fr + 1 ≤ 2048; omega, by show 8 + (mM + 11) + lo ≤ 84000; omega⟩ ⟨hcl, hsl⟩ hsz hst hrest hdg) hF hlo rfl rfl (fun H1 locs1 hJ hP1 hlo1 => ?_)
  exact kk H1 locs1 (hP H1 hP1 hJ) (hJ.mono hE) (fun q hq => (hJ.2.1 q (by omega) (fun h => by have := hF q h; omega)).trans (h0 q hq)) (Nat.le_trans hz hJ.1) hlo1
end LWK
theorem KS.px {D : va_G} {g : ClassId → FieldType → Prop} {kq : Nat → Nat → Nat} {ts : Nat → Nat} {x kA re ve a0 a1 a3 cap tl ml rl kc : Nat} {tp ms rs : Nat → Int32} {ks : Nat → Nat → Int32} {H : Heap} (h : KS D g kq ts x kA re ve a0 a1 a3 cap tl ml rl kc tp ms rs ks H) : ∃ fs, va_P D classes [(x, .inr (1, fs))] H := by
  obtain ⟨ta, ma, bt, nt, bm, nm, ko, q, rd, sg, za, hg⟩ := h
  exact ⟨_, hg.2.2.1⟩
theorem KS.cap {D : va_G} {g : ClassId → FieldType → Prop} {kq : Nat → Nat → Nat} {ts : Nat → Nat} {x kA re ve a0 a1 a3 cap tl ml rl kc : Nat} {tp ms rs : Nat → Int32} {ks : Nat → Nat → Int32} {H : Heap} (h : KS D g kq ts x kA re ve a0 a1 a3 cap tl ml rl kc tp ms rs ks H) : cap ≤ 131072 ∧ a3 ≤ H.size := by
  obtain ⟨ta, ma, bt, nt, bm, nm, ko, q, rd, sg, za, hg⟩ := h
  have h1 := hg.2.2.2.1.n
  have h2 := hg.2.2.2.2.1.n
  have h3 := hg.1
  exact ⟨by omega, hg.2.1⟩
theorem RelE.cap {D : va_G} {g : ClassId → FieldType → Prop} {kq : Nat → Nat → Nat} {ts : Nat → Nat} {x kA re ve ou o a0 a1 a3 cap : Nat} {r : Nat → Nat} {H : Heap} (h : RelE D g kq ts x kA re ve ou o a0 a1 a3 cap r H) : cap ≤ 131072 ∧ a3 ≤ H.size := by
  obtain ⟨th, tl, ml, rl, kc, tp, ms, rs, ks, hR⟩ := h
  exact hR.1.cap
/-- what the loop's end asks for -/
abbrev LQ_ (p : Program) (l : Launch) (e : Env) (s : State) (m : MethodId) (args : Array Value) (below : List Frame) (meth : Method) (c : Code) (Q : State → Prop) (D : va_G) (g : ClassId → FieldType → Prop) (kq : Nat → Nat → Nat) (ts : Nat → Nat) (x kA re ve ou o a1 a3 : Nat) (r : Nat → Nat) (b n : Nat) : Prop := ∀ (H : Heap) (locs : List Loc) (ls : Array Slot) (cap cells slots : Nat), RelE D g kq ts x kA re ve ou o s.heap.size a1 a3 cap r H → (∀ q : Nat, q < s.heap.size → H[q]? = s.heap[q]?) → s.heap.size ≤ H.size → (∀ q ∈ locs, s.heap.size ≤ q.base) → cells ≤ 274 + 5 * (n + 1) → slots ≤ 206097 + 2 * cap + 133 * (n + 1) → lv_has ls 7 [(4, .int (nI (6 * n))), (3, .ref ou), (2, .ref o), (1, .ref x), (0, .ref b)] → W p l e room_1 s m args below meth c H locs cells slots Q (F0 m 480 ls [])
