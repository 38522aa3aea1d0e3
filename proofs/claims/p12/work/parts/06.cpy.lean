/-! System.arraycopy of longs or bytes, with values -/
section VCP
variable {p : Program} {l : Launch} {e : Env} {R : Room} {s : State} {m : MethodId} {args : Array Value} {below : List Frame} {meth : Method} {c : Code} {H H0 : Heap} {locs : List Loc} {cells slots : Nat} {Q : State → Prop}
variable {cc : ByteArray} {pc : Nat} {ls : Array Slot} {rest : List Value} {g : ClassId → FieldType → Prop} {E F : Nat → Prop} {X : vM}
theorem vx_cpy0 {t : FieldType} {a0 a i j k n0 n1 : Nat} {own : String} {index : Nat} (ht : t = .long ∨ t = .byte) (hx : p.tables.exec = Jvm.exec) (hb : c.code = cc) (hml : c.maxLocals = ls.size) (hown : s.vm.findClass own = some m.cls) (hlink : (Cond.methodLink own index arraycopyName).before args s = true) (hnat : (Cond.native arraycopyName).before args s = true) (hstat : (Cond.static arraycopyName).before args s = true) (hini : (Cond.initialized "java/lang/System").before args s = true)
    (hG : sx_G s g) (hS : sx_S g E F H0 H locs) (h0 : sx_A g t H0 a0 n0) (h1 : sx_A g t H0 a n1) (hlo : E a) (hi : i + k ≤ n0) (hj : j + k ≤ n1) (hn0 : n0 < 2 ^ 31) (hn1 : n1 < 2 ^ 31) (hframes : 1 ≤ R.frames) (hlocals : (rest.map fun v => v.category).sum + (nativeFrameWords "java/lang/System" "arraycopy" 5 + 11) ≤ R.locals) (hdg : decode cc pc = .ok (.invokestatic index, 3))
    (kk : ∀ (H1 : Heap) (locs1 : List Loc) (c0 c1 c2 : Cell), sx_S g E F H0 H1 locs1 → sx_c g t n0 c0 → sx_c g t n1 c1 → H[a0]? = some c0 → H[a]? = some c1 → H1[a]? = some c2 → c2.cls = c1.cls → (∀ q : Nat, q ≠ a → H1[q]? = H[q]?) → (∀ u : Nat, c2.slots[u]? = if j ≤ u ∧ u < j + k then c0.slots[i + (u - j)]? else c1.slots[u]?) → W p l e R s m args below meth c H1 locs1 cells slots Q (F0 m (pc + 3) ls rest)) : W p l e R s m args below meth c H locs cells slots Q (F0 m pc ls (.int (nI k) :: .int (nI j) :: .ref a :: .int (nI i) :: .ref a0 :: rest)) := by
  intro T hT X
  obtain ⟨c0, q1, q0⟩ := hS.a h0
  obtain ⟨c1, w1, w0⟩ := hS.a h1
  obtain ⟨q2, q3, q4, q5, q6⟩ := id q0
  obtain ⟨w2, w3, w4, w5, w6⟩ := id w0
  obtain ⟨k0, hk0, cm0, hkk0⟩ := (hG _ _).mp q2
  obtain ⟨k1, hk1, cm1, hkk1⟩ := (hG _ _).mp w2
  have zi : (nI i).toNatClampNeg = i := nI_clamp (by omega)
  have zj : (nI j).toNatClampNeg = j := nI_clamp (by omega)
  have zk : (nI k).toNatClampNeg = k := nI_clamp (by omega)
  have ii : (nI i).toInt = (i : Int) := nI_toInt (by omega)
  have ij : (nI j).toInt = (j : Int) := nI_toInt (by omega)
  have ik : (nI k).toInt = (k : Int) := nI_toInt (by omega)
  have hval : ∀ u, u < n0 → sx_V t (c0.slots.getD u .null) ∧ c0.slots[u]? = some (c0.slots.getD u .null) := fun u hu => by
    obtain ⟨v, v1, v2⟩ := q6 u hu
    rw [Array.getD_eq_getD_getElem?, v1]
    exact ⟨v2, rfl⟩
  have hprim : ∀ v, sx_V t v → fits t v = true ∧ ((∃ x, v = .long x) ∨ ∃ x, v = .int x) := fun v hv => by
    rcases ht with rfl | rfl
    · obtain ⟨x, rfl⟩ := hv
      exact ⟨rfl, Or.inl ⟨x, rfl⟩⟩
    · obtain ⟨x, rfl, hf⟩ := hv
      exact ⟨hf, Or.inr ⟨x, rfl⟩⟩
  obtain ⟨vm', X', step⟩ := X.arraycopy hx hown hlink hnat hstat hini (src := a0) (dst := a) (cs := c0) (cd := c1) (srcPos := nI i) (destPos := nI j) (n := nI k) (by rw [hT]; exact q1) (by rw [hT]; exact w1) q3 w3 q4 w4 hk0 hk1 hkk0 hkk1 (by rcases ht with rfl | rfl <;> decide) (nI_pos (by omega)) (nI_pos (by omega)) (nI_pos (by omega))
    (by rw [ii, ik]; omega) (by rw [ij, ik]; omega)
    (fun vm₁ _ u hu => by
      rw [zk] at hu
      rw [zi]
      obtain ⟨hf, hor⟩ := hprim _ (hval (i + u) (by omega)).1
      refine ⟨hf, ?_⟩
      rcases hor with ⟨x, hx⟩ | ⟨x, hx⟩ <;> rw [hx] <;> exact trivial)
    (g := F0 m pc ls (.int (nI k) :: .int (nI j) :: .ref a :: .int (nI i) :: .ref a0 :: rest)) rfl (by rw [hml]) (rest := rest) rfl (by rw [hb]; exact hdg) hframes (by show 2 * 0 + _ + _ ≤ _; omega)
  have hl : a < H.size := (Array.getElem?_eq_some_iff.mp w1).1
  have hheap : ((T.setVm vm').setCell a (copied c0 c1 (nI i) (nI j) (nI k))).heap = H.setIfInBounds a (copied c0 c1 (nI i) (nI j) (nI k)) := by rw [← hT]; rfl
  have hval2 : ∀ q ∈ (c0.stretch (nI i).toNatClampNeg (nI k).toNatClampNeg).zipIdx, sx_V t q.1 := fun q hq => by
    have h1 : q.1 ∈ c0.stretch (nI i).toNatClampNeg (nI k).toNatClampNeg := by
      have := List.mem_map_of_mem (f := Prod.fst) hq
      rwa [List.zipIdx_map_fst] at this
    unfold Cell.stretch at h1
    obtain ⟨u, hu, e1⟩ := List.mem_map.mp h1
    rw [zi, zk] at *
    rw [← e1]
    have := List.mem_range.mp hu
    exact (hval (i + u) (by omega)).1
  have hJ : sx_J g E H (H.setIfInBounds a (copied c0 c1 (nI i) (nI j) (nI k))) := sx_J.cell (cell' := copied c0 c1 (nI i) (nI j) (nI k)) hG w1 w2 (Cell.storePairs_facts _ _ _).2.2.1 (fun n hn => sx_c.pairs _ _ hn hval2) hlo (by simp [Array.getElem?_setIfInBounds, hl]) (by simp) (fun q hq => by simp [Array.getElem?_setIfInBounds, Ne.symm hq])
  have hlen : (c0.stretch (nI i).toNatClampNeg (nI k).toNatClampNeg).length = k := by simp [Cell.stretch, zk]
  obtain ⟨t, a1, b1⟩ := kk _ _ c0 c1 (copied c0 c1 (nI i) (nI j) (nI k)) ⟨hS.1.tr hJ, hS.2.1, fun q hq => by
      rcases List.mem_append.mp hq with h | h
      · exact hS.2.2 q h
      · obtain ⟨z, -, hz⟩ := List.mem_map.mp h
        rw [← hz]
        exact hS.2.1 _ hlo⟩ q0 w0 q1 w1 (by simp [Array.getElem?_setIfInBounds, hl]) (Cell.storePairs_facts _ _ _).1 (fun q hq => by simp [Array.getElem?_setIfInBounds, Ne.symm hq]) (fun u => by
      show (c1.storePairs (nI j).toNatClampNeg ((c0.stretch (nI i).toNatClampNeg (nI k).toNatClampNeg).zipIdx 0)).slots[u]? = _
      rw [Cell.storePairs_get _ _ _ _ _ (by rw [hlen, zj]; omega), hlen, zj, Nat.add_zero]
      by_cases hu : j ≤ u ∧ u < j + k
      · rw [if_pos hu, if_pos hu, (hval (i + (u - j)) (by omega)).2]
        have : u - j < k := by omega
        simp [Cell.stretch, zi, zk, this]
      · rw [if_neg hu, if_neg hu]) _ hheap X'
  exact ⟨t, step t a1, b1⟩
theorem vx_cpyL {a0 a i j k n0 n1 : Nat} {own : String} {index : Nat} (hx : p.tables.exec = Jvm.exec) (hb : c.code = cc) (hml : c.maxLocals = ls.size) (hown : s.vm.findClass own = some m.cls) (hlink : (Cond.methodLink own index arraycopyName).before args s = true) (hnat : (Cond.native arraycopyName).before args s = true) (hstat : (Cond.static arraycopyName).before args s = true) (hini : (Cond.initialized "java/lang/System").before args s = true)
    (hG : sx_G s g) (hS : sx_S g E F H0 H locs) (hV : mm g H = X) (h0 : sx_A g .long H0 a0 n0) (h1 : sx_A g .long H0 a n1) (hlo : E a) (hi : i + k ≤ n0) (hj : j + k ≤ n1) (hn0 : n0 < 2 ^ 31) (hn1 : n1 < 2 ^ 31) (hframes : 1 ≤ R.frames) (hlocals : (rest.map fun v => v.category).sum + (nativeFrameWords "java/lang/System" "arraycopy" 5 + 11) ≤ R.locals) (hdg : decode cc pc = .ok (.invokestatic index, 3))
    (kk : ∀ (H1 : Heap) (locs1 : List Loc) (X1 : vM), cpL X a0 i a j k = X1 → sx_S g E F H0 H1 locs1 → mm g H1 = X1 → W p l e R s m args below meth c H1 locs1 cells slots Q (F0 m (pc + 3) ls rest)) : W p l e R s m args below meth c H locs cells slots Q (F0 m pc ls (.int (nI k) :: .int (nI j) :: .ref a :: .int (nI i) :: .ref a0 :: rest)) := by
  subst hV
  refine vx_cpy0 (Or.inl rfl) hx hb hml hown hlink hnat hstat hini hG hS h0 h1 hlo hi hj hn0 hn1 hframes hlocals hdg (fun H1 locs1 c0 c1 c2 hS1 q0 w0 e0 e1 e2 ec oq hsl => kk H1 locs1 _ rfl hS1 ?_)
  have g2 : ∃ t, g c2.cls t := by rw [ec]; exact ⟨_, w0.1⟩
  have hL : ∀ u, u < n0 → c0.slots[u]? = some (.long (mml g H a0 u)) := fun u hu => by
    obtain ⟨v, v1, x, rfl⟩ := q0.2.2.2.2 u hu
    rw [v1, mml_read e0 ⟨_, q0.1⟩ v1]
  have hL1 : ∀ u, u < n1 → c1.slots[u]? = some (.long (mml g H a u)) := fun u hu => by
    obtain ⟨v, v1, x, rfl⟩ := w0.2.2.2.2 u hu
    rw [v1, mml_read e1 ⟨_, w0.1⟩ v1]
  refine Prod.ext (funext fun b => funext fun u => ?_) (funext fun b => funext fun u => ?_)
  · show mml g H1 b u = if b = a ∧ j ≤ u ∧ u < j + k then mml g H a0 (i + (u - j)) else mml g H b u
    by_cases hba : b = a
    · subst hba
      by_cases hu : j ≤ u ∧ u < j + k
      · rw [if_pos ⟨rfl, hu⟩]
        refine mml_read e2 g2 ?_
        rw [hsl, if_pos hu, hL _ (by omega)]
      · rw [if_neg (fun z => hu z.2)]
        rw [mml_arr e2 g2, mml_arr e1 ⟨_, w0.1⟩, hsl, if_neg hu]
    · rw [if_neg (fun z => hba z.1)]
      exact mml_same (oq b hba) u
  · show mmi g H1 b u = mmi g H b u
    by_cases hba : b = a
    · subst hba
      by_cases hu : j ≤ u ∧ u < j + k
      · rw [mmi_arr e2 g2, mmi_arr e1 ⟨_, w0.1⟩, hsl, if_pos hu, hL (i + (u - j)) (by omega), hL1 u (by omega)]
      · rw [mmi_arr e2 g2, mmi_arr e1 ⟨_, w0.1⟩, hsl, if_neg hu]
    · exact mmi_same (oq b hba) u
theorem vx_cpyB {a0 a i j k n0 n1 : Nat} {own : String} {index : Nat} (hx : p.tables.exec = Jvm.exec) (hb : c.code = cc) (hml : c.maxLocals = ls.size) (hown : s.vm.findClass own = some m.cls) (hlink : (Cond.methodLink own index arraycopyName).before args s = true) (hnat : (Cond.native arraycopyName).before args s = true) (hstat : (Cond.static arraycopyName).before args s = true) (hini : (Cond.initialized "java/lang/System").before args s = true)
    (hG : sx_G s g) (hS : sx_S g E F H0 H locs) (hV : mm g H = X) (h0 : sx_A g .byte H0 a0 n0) (h1 : sx_A g .byte H0 a n1) (hlo : E a) (hi : i + k ≤ n0) (hj : j + k ≤ n1) (hn0 : n0 < 2 ^ 31) (hn1 : n1 < 2 ^ 31) (hframes : 1 ≤ R.frames) (hlocals : (rest.map fun v => v.category).sum + (nativeFrameWords "java/lang/System" "arraycopy" 5 + 11) ≤ R.locals) (hdg : decode cc pc = .ok (.invokestatic index, 3))
    (kk : ∀ (H1 : Heap) (locs1 : List Loc) (X1 : vM), cpI X a0 i a j k = X1 → sx_S g E F H0 H1 locs1 → mm g H1 = X1 → W p l e R s m args below meth c H1 locs1 cells slots Q (F0 m (pc + 3) ls rest)) : W p l e R s m args below meth c H locs cells slots Q (F0 m pc ls (.int (nI k) :: .int (nI j) :: .ref a :: .int (nI i) :: .ref a0 :: rest)) := by
  subst hV
  refine vx_cpy0 (Or.inr rfl) hx hb hml hown hlink hnat hstat hini hG hS h0 h1 hlo hi hj hn0 hn1 hframes hlocals hdg (fun H1 locs1 c0 c1 c2 hS1 q0 w0 e0 e1 e2 ec oq hsl => kk H1 locs1 _ rfl hS1 ?_)
  have g2 : ∃ t, g c2.cls t := by rw [ec]; exact ⟨_, w0.1⟩
  have hL : ∀ u, u < n0 → c0.slots[u]? = some (.int (mmi g H a0 u)) := fun u hu => by
    obtain ⟨v, v1, x, rfl, -⟩ := q0.2.2.2.2 u hu
    rw [v1, mmi_read e0 ⟨_, q0.1⟩ v1]
  have hL1 : ∀ u, u < n1 → c1.slots[u]? = some (.int (mmi g H a u)) := fun u hu => by
    obtain ⟨v, v1, x, rfl, -⟩ := w0.2.2.2.2 u hu
    rw [v1, mmi_read e1 ⟨_, w0.1⟩ v1]
  refine Prod.ext (funext fun b => funext fun u => ?_) (funext fun b => funext fun u => ?_)
  · show mml g H1 b u = mml g H b u
    by_cases hba : b = a
    · subst hba
      by_cases hu : j ≤ u ∧ u < j + k
      · rw [mml_arr e2 g2, mml_arr e1 ⟨_, w0.1⟩, hsl, if_pos hu, hL (i + (u - j)) (by omega), hL1 u (by omega)]
      · rw [mml_arr e2 g2, mml_arr e1 ⟨_, w0.1⟩, hsl, if_neg hu]
    · exact mml_same (oq b hba) u
  · show mmi g H1 b u = if b = a ∧ j ≤ u ∧ u < j + k then mmi g H a0 (i + (u - j)) else mmi g H b u
    by_cases hba : b = a
    · subst hba
      by_cases hu : j ≤ u ∧ u < j + k
      · rw [if_pos ⟨rfl, hu⟩]
        refine mmi_read e2 g2 ?_
        rw [hsl, if_pos hu, hL _ (by omega)]
      · rw [if_neg (fun z => hu z.2)]
        rw [mmi_arr e2 g2, mmi_arr e1 ⟨_, w0.1⟩, hsl, if_neg hu]
    · rw [if_neg (fun z => hba z.1)]
      exact mmi_same (oq b hba) u
end VCP
