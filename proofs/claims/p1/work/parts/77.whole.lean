theorem px_16 (v : Int32) : (v &&& nI 15) = nI 0 ∨ (v &&& nI 15) = nI 1 ∨ (v &&& nI 15) = nI 2 ∨ (v &&& nI 15) = nI 3 ∨ (v &&& nI 15) = nI 4 ∨ (v &&& nI 15) = nI 5 ∨ (v &&& nI 15) = nI 6 ∨ (v &&& nI 15) = nI 7 ∨ (v &&& nI 15) = nI 8 ∨ (v &&& nI 15) = nI 9 ∨ (v &&& nI 15) = nI 10 ∨ (v &&& nI 15) = nI 11 ∨ (12 ≤ (v &&& nI 15).toInt) := by
  have h1 : (v &&& nI 15).toBitVec.toNat ≤ 15 := by
    rw [Int32.toBitVec_and, BitVec.toNat_and]
    exact Nat.le_trans Nat.and_le_right (by decide +kernel)
  generalize (v &&& nI 15) = w at h1 ⊢
  have key : ∀ k : Nat, k < 2 ^ 31 → w.toBitVec.toNat = k → w = nI k := fun k hk e => by
    apply Int32.toBitVec_inj.mp
    apply BitVec.eq_of_toNat_eq
    rw [e]
    show k = (BitVec.ofNat 32 k).toNat
    rw [BitVec.toNat_ofNat, Nat.mod_eq_of_lt (by omega)]
  by_cases h12 : 12 ≤ w.toBitVec.toNat
  · have : w = nI w.toBitVec.toNat := key _ (by omega) rfl
    have h2 : w.toInt = (w.toBitVec.toNat : Int) := by
      have e := nI_toInt (n := w.toBitVec.toNat) (by omega)
      rw [← this] at e
      exact e
    omega
  · rcases (show w.toBitVec.toNat = 0 ∨ w.toBitVec.toNat = 1 ∨ w.toBitVec.toNat = 2 ∨ w.toBitVec.toNat = 3 ∨ w.toBitVec.toNat = 4 ∨ w.toBitVec.toNat = 5 ∨ w.toBitVec.toNat = 6 ∨ w.toBitVec.toNat = 7 ∨ w.toBitVec.toNat = 8 ∨ w.toBitVec.toNat = 9 ∨ w.toBitVec.toNat = 10 ∨ w.toBitVec.toNat = 11 by omega) with h | h | h | h | h | h | h | h | h | h | h | h
    · exact Or.inl (key 0 (by decide) h)
    · exact Or.inr (Or.inl (key 1 (by decide) h))
    · exact Or.inr (Or.inr (Or.inl (key 2 (by decide) h)))
    · exact Or.inr (Or.inr (Or.inr (Or.inl (key 3 (by decide) h))))
    · exact Or.inr (Or.inr (Or.inr (Or.inr (Or.inl (key 4 (by decide) h)))))
    · exact Or.inr (Or.inr (Or.inr (Or.inr (Or.inr (Or.inl (key 5 (by decide) h))))))
    · exact Or.inr (Or.inr (Or.inr (Or.inr (Or.inr (Or.inr (Or.inl (key 6 (by decide) h)))))))
    · exact Or.inr (Or.inr (Or.inr (Or.inr (Or.inr (Or.inr (Or.inr (Or.inl (key 7 (by decide) h))))))))
    · exact Or.inr (Or.inr (Or.inr (Or.inr (Or.inr (Or.inr (Or.inr (Or.inr (Or.inl (key 8 (by decide) h)))))))))
    · exact Or.inr (Or.inr (Or.inr (Or.inr (Or.inr (Or.inr (Or.inr (Or.inr (Or.inr (Or.inl (key 9 (by decide) h))))))))))
    · exact Or.inr (Or.inr (Or.inr (Or.inr (Or.inr (Or.inr (Or.inr (Or.inr (Or.inr (Or.inr (Or.inl (key 10 (by decide) h)))))))))))
    · exact Or.inr (Or.inr (Or.inr (Or.inr (Or.inr (Or.inr (Or.inr (Or.inr (Or.inr (Or.inr (Or.inr (Or.inl (key 11 (by decide) h))))))))))))
theorem lw_len {p : Program} {l : Launch} {e : Env} {R : Room} {s : State} {m : MethodId} {args : Array Value} {below : List Frame} {meth : Method} {c : Code} {H : Heap} {locs : List Loc} {cells slots : Nat} {Q : State → Prop} {cc : ByteArray} {pc : Nat} {ls : Array Slot} {rest : List Value} {b L : Nat} {xs : Nat → Int32} (hx : p.tables.exec = Jvm.exec) (hb : c.code = cc) (hX : va_X b L xs s s.heap) (hbl : b < s.heap.size) (h0 : ∀ q : Nat, q < s.heap.size → H[q]? = s.heap[q]?) (hdg : decode cc pc = .ok (.arraylength, 1))
    (kk : W p l e R s m args below meth c H locs cells slots Q (F0 m (pc + 1) ls (.int (nI L) :: rest))) : W p l e R s m args below meth c H locs cells slots Q (F0 m pc ls (.ref b :: rest)) := by
  obtain ⟨scr, h1, h2, h3, h4, h5⟩ := hX
  exact W.alen (n := nI L) hx hb (by rw [h0 b hbl]; exact h1) h2 (by rw [h4]; rfl) rfl rfl hdg kk
theorem lw_small {L : Nat} (h : L < 6) : nI L - nI 6 < nI 0 := by
  rcases (show L = 0 ∨ L = 1 ∨ L = 2 ∨ L = 3 ∨ L = 4 ∨ L = 5 by omega) with rfl | rfl | rfl | rfl | rfl | rfl <;> decide +kernel
theorem lo_of {g : ClassId → FieldType → Prop} {H : Heap} {q : Nat} (h1 : ∃ cA : ClassId, H[q]? = some (arrV cA 1 (fun _ => defaultValue .long))) (h2 : sx_A g .long H q 1) : lo_ g H q 0 := by
  obtain ⟨cA, e⟩ := h1
  obtain ⟨cell, q1, q2, -⟩ := h2
  cases Option.some.inj (e.symm.trans q1)
  exact ⟨cA, _, e, rfl, q2⟩
theorem sx_A.lt {g : ClassId → FieldType → Prop} {t : FieldType} {H : Heap} {a n : Nat} (h : sx_A g t H a n) : a < H.size := by
  obtain ⟨cell, h1, -⟩ := h
  exact (Array.getElem?_eq_some_iff.mp h1).1
/-! THE CLAIM OUT OF ONE WALK OF THE LAW'S BODY. Your part is whole_start (and what it stands on); all else here is the same for every law, but numbers. -/
def R_law : String := "CurveKeysLaw"
def lw_P (b : Addr) (xs : List Int32) (args : Array Value) (s : State) : Prop := args = #[.ref b] ∧ s.IntsAt b xs ∧ xs.length ≤ 6 ∧ (Jvm.Cond.and given_1 narrow_1).before args s = true
def lw_Q (_ : Array Value) (s : State) (o : Outcome) (t : State) : Prop := o = .returned (some (.int 1)) ∧ Framed s o t [] 600002 7302231
def lw_Z (below : List Frame) (a : Array Value) (s : State) : State → Prop := fun t => ∃ o, t.status = .running ∧ Ended t below o ∧ lw_Q a s o t
/-- the law's own end, with 1 on the stack, nothing written that was there before, its room as the claim has it -/
theorem lw_ret {p : Program} {l : Launch} {e : Env} {s : State} {m : MethodId} {below : List Frame} {meth : Method} {c : Code} {b : Nat} (hx : p.tables.exec = Jvm.exec) (hb : c.code = code) (hr : meth.sig.returnType = ret) (hlocks : meth.locks = false) {pc : Nat} {H : Heap} {ls : Array Slot} (hdg : decode code pc = .ok (.ireturn, 1)) : W p l e room_1 s m #[Value.ref b] below meth c H [] 600002 7302231 (lw_Z below #[Value.ref b] s) (F0 m pc ls [.int 1]) := by
  intro T hT X
  obtain ⟨fs, hret, hrun, hended, hW, hframe⟩ := X.leave (v := some (.int 1)) (hlocks := hlocks) (fun h => by rw [hr] at h; cases h)
  have hmeth' : T.vm.method? m = some meth := X.method'
  refine ⟨T.setFrames fs, ?_, .returned (some (.int 1)), hrun, hended, rfl, ⟨_, rfl⟩, hW, hframe⟩
  jvm_step X.here [X.here.top, hx, hb, hdg, hmeth', hr, ret, narrow_b1]
  (try refine ⟨rfl, ?_⟩); (try refine ⟨rfl, ?_⟩)
  first | (intro acts; rw [hret _ acts rfl rfl rfl]) | rw [hret _ _ rfl rfl rfl]
  exact Steps.refl _
/-- what holds at the law's entry: the machine, the code, the tables' words (any of lw_tbl by 'hts w (by decide +kernel)'), the script of L ints xs at the cell b, what the Statement gives of the start (any of its parts by flat_of_before) -/
def lw_At (p : Program) (s : State) (m : MethodId) (meth : Method) (c : Code) (b L : Nat) (xs : Nat → Int32) : Prop :=
  p.tables.exec = Jvm.exec ∧ c.code = code ∧ meth.sig.returnType = ret ∧ c.maxLocals = 7 ∧ s.vm.findClass R_law = some m.cls ∧ (∀ w ∈ lw_tbl, w.before #[Value.ref b] s = true) ∧ va_X b L xs s s.heap ∧ b < s.heap.size ∧ meth.locks = false ∧ (Jvm.Cond.and given_1 narrow_1).before #[Value.ref b] s = true
set_option maxHeartbeats 4000000 in
set_option maxRecDepth 100000 in
theorem law_end {p : Program} {l : Launch} {e : Env} {s : State} {m : MethodId} {below : List Frame} {meth : Method} {c : Code} {b : Nat} {xs : Nat → Int32} (hx : p.tables.exec = Jvm.exec) (hb : c.code = code) (hr : meth.sig.returnType = ret) (hlocks : meth.locks = false) (hX : va_X b 6 xs s s.heap) (hbl : b < s.heap.size) : LQ_ p l e s m #[Value.ref b] below meth c b (lw_Z below #[Value.ref b] s) := by
  intro H locs ls cells slots h0 hlo hc1 hs1 hl
  refine lv_iinc (v := nI 6) (lv' := [(4, .int (nI 6)), (0, .ref b)]) hx hb d_L_law_712 hl (k := 0) rfl (sx_inc _ _) (by decide) rfl (fun ls hl => ?_)
  refine lv_goto (tgt := 23) hx hb d_L_law_715 (by decide) ?_
  refine lv_iload hx hb d_L_law_23 (lv_at hl 0 rfl) ?_
  refine lv_aload_n hx hb d_L_law_25 rfl (lv_at hl 1 rfl) ?_
  refine lw_len hx hb hX hbl h0 d_L_law_26 ?_
  refine lv_bipush (v := nI 6) hx hb d_L_law_27 (by decide +kernel) ?_
  refine lv_isub hx hb d_L_law_29 ?_
  refine lv_icmp_gt (tgt := 718) hx hb d_L_law_30 (by decide) (fun _ => ?_) (fun q => absurd (by decide +kernel) q)
  refine lv_iconst (v := 1) hx hb d_L_law_718 (by decide +kernel) ?_
  refine va_forget hlo ?_
  refine W.widen (k := 600002) (n := 7302231) hc1 hs1 ?_
  exact lw_ret hx hb hr hlocks d_L_law_719
set_option maxHeartbeats 8000000 in
set_option maxRecDepth 100000 in
theorem whole_start {p : Program} {e : Env} {s : State} {m : MethodId} {below : List Frame} {meth : Method} {c : Code} (l : Launch) (htr : l.stackTraces = false) {b L : Nat} {xs : Nat → Int32} (hL : L ≤ 6) (C0 : lw_At p s m meth c b L xs) : W p l e room_1 s m #[Value.ref b] below meth c s.heap [] 0 0 (lw_Z below #[Value.ref b] s) (entryFrame m ([Value.ref b] : List Value).toArray 7) := by
  obtain ⟨hx, hb, hr, hml, hown, hts0, hX, hbl, hlocks, hgv⟩ := id C0
  obtain ⟨D, ts, hU, hKx, hst⟩ := ls_start hts0 hgv
  have hts : ∀ w ∈ G_, w.before #[Value.ref b] s = true := fun w h => hts0 w (List.mem_filter.mp h).1
  have EE : sx_E p s m #[Value.ref b] c code 7 R_L D (ls_g s) := ⟨hx, hb, hml, hown, hts, hU⟩
  generalize ls_g s = g at hU hst EE
  obtain ⟨hG, hK⟩ := id hU
  have hl := lv_entry ([.ref b]) (n := 7) (Nat.le_of_ble_eq_true rfl)
  rw [lg_entry_eq]
  generalize (lg_sl ([.ref b]) ++ List.replicate (7 - (lg_sl ([.ref b])).length) Slot.unset).toArray = ls at hl ⊢
  have hl : lv_has ls 7 [(0, .ref b)] := hl
  refine sx_newo (ci := 1) (fs := [.null,.null,.null,.null,.null,.null,.null,.null,.int 0,.int 0,.int 0,.int 0]) (cells' := 1) (slots' := 12) EE rfl i_K t_K tok_K nw_L_8 (by decide) rfl rfl (Nat.le_of_ble_eq_true rfl) (Nat.le_of_ble_eq_true rfl) d_L_law_0 (fun x Hx ex hN s0 k1 => ?_)
  refine lv_dup hx hb d_L_law_3 rfl ?_
  refine sx_gI (E' := fun z => z = x ∨ Array.size Hx ≤ z) (P := fun H => ∃ r : Nat → Nat, va_P D classes [(x, .inr (1, [.ref (r 0), .ref (r 1), .ref (r 2), .ref (r 3), .ref (r 4), .ref (r 5), .ref (r 6), .ref (r 7), .int 0, .int 0, .int 0, .int 0]))] H ∧ sx_AR g H [(r 1, .byte, 64), (r 2, .int, 4)] ∧ (∀ k, Array.size Hx ≤ r k) ∧ zi_ H (r 2) 4 ∧ r 6 ≠ r 7 ∧ ∃ rt rm : Nat → Nat, va_P D classes [(r 6, .inr (9, [.ref (rt 0), .int 0]))] H ∧ va_P D classes [(r 7, .inr (9, [.ref (rm 0), .int 0]))] H ∧ sx_AR g H [(rt 0, .byte, 1024)] ∧ sx_AR g H [(rm 0, .byte, 1024)] ∧ (∀ k, Array.size Hx ≤ rt k) ∧ ∀ k, Array.size Hx ≤ rm k) (F := fun q => s.heap.size ≤ q) (mc := 223) (ms := 4669) (cells' := 224) (slots' := 4681) (sx_runI (As := []) (rest := [.ref x]) EE (c_K_init (E := fun z => z = x ∨ Array.size Hx ≤ z) (Or.inl rfl) (fun z h => Or.inr h) hN (hst.news (sx_J.grow (by omega) k1) (fun z h => by rcases h with h | h <;> omega))) iw_L_55 rfl rfl ⟨rfl, rfl⟩ ⟨Nat.le_of_ble_eq_true rfl, Nat.le_of_ble_eq_true rfl⟩ ⟨Nat.le_of_ble_eq_true rfl, Nat.le_of_ble_eq_true rfl⟩ hl.1 rfl (Nat.le_of_ble_eq_true rfl) d_L_law_4) (fun z h => by rcases h with h | h <;> omega) (fun q h => by cases h) rfl rfl (fun H1 locs hJ1 hP1 hlo => ?_)
  obtain ⟨r, k_x, aK, bK, z_r2, n67, rt, rm, k_r6, k_r7, aT, aM, bT, bM⟩ := hP1
  have hk1 : ∀ q : Nat, q < s.heap.size → H1[q]? = s.heap[q]? := sx_J.news ex k1 (by omega) hJ1 (fun _ h => h)
  have z1 : s.heap.size ≤ H1.size := Nat.le_trans (by omega) hJ1.1
  refine lv_astore_n (lv' := [(1, .ref x), (0, .ref b)]) hx hb d_L_law_7 rfl hl (by decide) rfl (fun ls hl => ?_)
  refine sx_newo (ci := 0) (fs := [.int 0,.null,.null,.null,.null,.int 0,.int 0,.int 0,.int 0,.null,.null,.null,.null,.null,.null,.null,.null,.null,.null,.null,.null,.null,.null,.null,.null,.null,.null,.null,.null,.null,.null,.null,.null,.null,.null,.null,.null,.null,.null,.null,.null,.null,.null,.null,.null,.null,.null,.null,.null,.null,.null,.null,.null]) (cells' := 225) (slots' := 4734) EE rfl i_M t_M tok_M nw_L_56 (by decide) rfl rfl (Nat.le_of_ble_eq_true rfl) (Nat.le_of_ble_eq_true rfl) d_L_law_8 (fun o Ho eo hNo so k2 => ?_)
  refine lv_dup hx hb d_L_law_11 rfl ?_
  refine sx_gI (E' := fun z => z = o ∨ Array.size Ho ≤ z) (P := fun H => ∃ r : Nat → Nat, mo_ D g H o r (fun _ => 0) ∧ zi_ H (r 9) 6 ∧ ∀ q ∈ mo_arr, Array.size Ho ≤ r q.1) (F := fun q => s.heap.size ≤ q) (mc := 48) (ms := 201362) (cells' := 273) (slots' := 206096) (sx_runI (As := []) (rest := [.ref o]) EE (c_M_init (E := fun z => z = o ∨ Array.size Ho ≤ z) (Or.inl rfl) (fun z h => Or.inr h) hNo) iw_L_58 rfl rfl ⟨rfl, rfl⟩ ⟨Nat.le_of_ble_eq_true rfl, Nat.le_of_ble_eq_true rfl⟩ ⟨Nat.le_of_ble_eq_true rfl, Nat.le_of_ble_eq_true rfl⟩ hl.1 rfl (Nat.le_of_ble_eq_true rfl) d_L_law_12) (fun z h => by rcases h with h | h <;> omega) hlo rfl rfl (fun H2 locs hJ2 hP2 hlo => ?_)
  obtain ⟨ro, hM, z_o9, bO⟩ := hP2
  have hk2 : ∀ q : Nat, q < H1.size → H2[q]? = H1[q]? := sx_J.news eo k2 (by omega) hJ2 (fun _ h => h)
  have z2 : H1.size ≤ H2.size := Nat.le_trans (by omega) hJ2.1
  refine lv_astore_n (lv' := [(2, .ref o), (1, .ref x), (0, .ref b)]) hx hb d_L_law_15 rfl hl (by decide) rfl (fun ls hl => ?_)
  refine lv_iconst (v := nI 1) hx hb d_L_law_16 (by decide +kernel) ?_
  have hS2 : sx_S g (fun q => s.heap.size ≤ q) (fun q => s.heap.size ≤ q) H2 H2 locs := ⟨sx_J.rf, fun _ h => h, hlo⟩
  refine sx_newa (cells' := 274) (slots' := 206097) hx hb hG hts rfl (Or.inl rfl) (by decide +kernel) (by decide) (by decide) rfl rfl (Nat.le_of_ble_eq_true rfl) (Nat.le_of_ble_eq_true rfl) hS2 d_L_law_17 (fun ou H3 eu a3 l3 y3 hJ3 hk3 hS3 => ?_)
  refine lv_astore_n (lv' := [(3, .ref ou), (2, .ref o), (1, .ref x), (0, .ref b)]) hx hb d_L_law_19 rfl hl (by decide) rfl (fun ls hl => ?_)
  have hlo := hS3.2.2
  have hk13 : ∀ q : Nat, q < H1.size → H3[q]? = H1[q]? := fun q hq => (hk3 q (Nat.lt_of_lt_of_le hq z2)).trans (hk2 q hq)
  have hJ13 : sx_J g (fun q => s.heap.size ≤ q) H1 H3 := sx_J.grow (Nat.le_trans z2 hJ3.1) hk13
  have f1 := mo_1 hM
  have f9 := mo_9 hM
  have lx := (k_x 0 _ rfl).lt
  have l6 := (k_r6 0 _ rfl).lt
  have l7 := (k_r7 0 _ rfl).lt
  have lt0 := (aT (rt 0, .byte, 1024) (by simp)).1.lt
  have l1 := f1.lt
  have lo2 := (hM.1 0 _ rfl).lt
  have xlt : x < Hx.size := by omega
  have b6 := bK 6
  have b7 := bK 7
  have bt := bT 0
  have b1 : Array.size Ho ≤ ro 1 := bO (1, .byte, 65536) (by decide +kernel)
  have hI : LI_ D g s H3 x r rt rm o ro ou := ⟨Nat.le_trans z1 (Nat.le_trans z2 hJ3.1), fun q hq => (hk13 q (Nat.lt_of_lt_of_le hq z1)).trans (hk1 q hq), k_x.grown hk13, k_r6.grown hk13, k_r7.grown hk13, hJ13.2.2.1 _ _ _ (aT (rt 0, .byte, 1024) (by simp)).1, hJ13.2.2.2 _ _ (aT (rt 0, .byte, 1024) (by simp)).2, hJ13.2.2.1 _ _ _ (aK (r 1, .byte, 64) (by simp)).1, Nat.ne_of_lt (Nat.lt_of_lt_of_le xlt b6), Nat.ne_of_lt (Nat.lt_of_lt_of_le xlt b7), n67, hJ13.2.2.1 _ _ _ (aK (r 2, .int, 4) (by simp)).1, z_r2.kept (hk13 _ z_r2.lt), hM.1.grown hk3, hJ3.2.2.1 _ _ _ f1, hJ3.2.2.1 _ _ _ f9, z_o9.kept (hk3 _ z_o9.lt), lo_of y3 a3, (by omega), (by omega), (by omega), (by omega), (by omega), (by omega), (by omega), (by omega), (by omega), (by omega), (by omega), (by omega), (by omega), (by omega)⟩
  refine lv_iconst (v := nI 0) hx hb d_L_law_20 (by decide +kernel) ?_
  refine lv_istore (lv' := [(4, .int (nI 0)), (3, .ref ou), (2, .ref o), (1, .ref x), (0, .ref b)]) hx hb d_L_law_21 hl (by decide) rfl (fun ls hl => ?_)
  have h0 := hI.2.1
  refine lv_iload hx hb d_L_law_23 (lv_at hl 0 rfl) ?_
  refine lv_aload_n hx hb d_L_law_25 rfl (lv_at hl 4 rfl) ?_
  refine lw_len hx hb hX hbl h0 d_L_law_26 ?_
  refine lv_bipush (v := nI 6) hx hb d_L_law_27 (by decide +kernel) ?_
  refine lv_isub hx hb d_L_law_29 ?_
  by_cases h6 : L = 6
  · subst h6
    have hend := law_end (l := l) (e := e) (p := p) (m := m) (below := below) (xs := xs) hx hb hr hlocks hX hbl
    refine lv_icmp_gt (tgt := 718) hx hb d_L_law_30 (by decide) (fun q => absurd q (by decide +kernel)) (fun _ => ?_)
    refine lv_aload_n hx hb d_L_law_33 rfl (lv_at hl 4 rfl) ?_
    refine lv_iload hx hb d_L_law_34 (lv_at hl 0 rfl) ?_
    refine lw_ld hx hb hX hbl h0 (by decide) d_L_law_36 ?_
    refine lv_bipush (v := nI 15) hx hb d_L_law_37 (by decide +kernel) ?_
    refine lv_iand hx hb d_L_law_39 ?_
    rcases px_16 (xs 0) with ek | ek | ek | ek | ek | ek | ek | ek | ek | ek | ek | ek | ek
    · refine sx_ti ek ?_
      refine lv_tableIn (off := 64) (tgt := 104) hx hb d_L_law_40 (by decide +kernel) (by decide +kernel) (by decide +kernel) (by decide) ?_
      exact lr_feed htr EE hKx hX hbl hI hlo hl hend
    · refine sx_ti ek ?_
      refine lv_tableIn (off := 168) (tgt := 208) hx hb d_L_law_40 (by decide +kernel) (by decide +kernel) (by decide +kernel) (by decide) ?_
      by_cases hv : xs 1 = 0
      · exact lr_end0 htr EE hKx hX hbl hI hlo hl hend hv
      · exact lr_end htr EE hKx hX hbl hI hlo hl hend hv
    · refine sx_ti ek ?_
      refine lv_tableIn (off := 224) (tgt := 264) hx hb d_L_law_40 (by decide +kernel) (by decide +kernel) (by decide +kernel) (by decide) ?_
      exact lr_key htr EE hKx hX hbl hI hlo hl hend
    · refine sx_ti ek ?_
      refine lv_tableIn (off := 268) (tgt := 308) hx hb d_L_law_40 (by decide +kernel) (by decide +kernel) (by decide +kernel) (by decide) ?_
      exact lr_open htr EE hKx hX hbl hI hlo hl hend
    · refine sx_ti ek ?_
      refine lv_tableIn (off := 316) (tgt := 356) hx hb d_L_law_40 (by decide +kernel) (by decide +kernel) (by decide +kernel) (by decide) ?_
      exact lr_agree htr EE hKx hX hbl hI hlo hl hend
    · refine sx_ti ek ?_
      refine lv_tableIn (off := 379) (tgt := 419) hx hb d_L_law_40 (by decide +kernel) (by decide +kernel) (by decide +kernel) (by decide) ?_
      exact lr_message htr EE hKx hX hbl hI hlo hl hend
    · refine sx_ti ek ?_
      refine lv_tableIn (off := 392) (tgt := 432) hx hb d_L_law_40 (by decide +kernel) (by decide +kernel) (by decide +kernel) (by decide) ?_
      exact lr_sign htr EE hKx hX hbl hI hlo hl hend
    · refine sx_ti ek ?_
      refine lv_tableIn (off := 428) (tgt := 468) hx hb d_L_law_40 (by decide +kernel) (by decide +kernel) (by decide +kernel) (by decide) ?_
      exact lr_verify htr EE hKx hX hbl hI hlo hl hend
    · refine sx_ti ek ?_
      refine lv_tableIn (off := 472) (tgt := 512) hx hb d_L_law_40 (by decide +kernel) (by decide +kernel) (by decide +kernel) (by decide) ?_
      exact lr_point htr EE hKx hX hbl hI hlo hl hend
    · refine sx_ti ek ?_
      refine lv_tableIn (off := 523) (tgt := 563) hx hb d_L_law_40 (by decide +kernel) (by decide +kernel) (by decide +kernel) (by decide) ?_
      by_cases hv : xs 1 = -1
      · exact lr_back0 htr EE hKx hX hbl hI hlo hl hend hv
      · exact lr_back htr EE hKx hX hbl hI hlo hl hend hv
    · refine sx_ti ek ?_
      refine lv_tableIn (off := 591) (tgt := 631) hx hb d_L_law_40 (by decide +kernel) (by decide +kernel) (by decide +kernel) (by decide) ?_
      exact lr_result htr EE hKx hX hbl hI hlo hl hend
    · refine sx_ti ek ?_
      refine lv_tableIn (off := 647) (tgt := 687) hx hb d_L_law_40 (by decide +kernel) (by decide +kernel) (by decide +kernel) (by decide) ?_
      exact lr_count htr EE hKx hX hbl hI hlo hl hend
    · refine lv_tableOut (tgt := 712) hx hb d_L_law_40 (Or.inr (by omega)) (by decide) ?_
      exact hend _ _ _ _ _ h0 hlo (Nat.le_of_ble_eq_true rfl) (Nat.le_of_ble_eq_true rfl) (lv_sub hl [0, 4] rfl)
  · refine lv_icmp_gt (tgt := 718) hx hb d_L_law_30 (by decide) (fun _ => ?_) (fun q => absurd (lw_small (by omega)) q)
    refine lv_iconst (v := 1) hx hb d_L_law_718 (by decide +kernel) ?_
    refine va_forget hlo ?_
    refine W.widen (k := 600002) (n := 7302231) (Nat.le_of_ble_eq_true rfl) (Nat.le_of_ble_eq_true rfl) ?_
    exact lw_ret hx hb hr hlocks d_L_law_719
