theorem px_16 (v : Int32) : (v &&& nI 15) = nI 0 ∨ (v &&& nI 15) = nI 1 ∨ (v &&& nI 15) = nI 2 ∨ (v &&& nI 15) = nI 3 ∨ (v &&& nI 15) = nI 4 ∨ (v &&& nI 15) = nI 5 ∨ (v &&& nI 15) = nI 6 ∨ (v &&& nI 15) = nI 7 ∨ (v &&& nI 15) = nI 8 ∨ (v &&& nI 15) = nI 9 ∨ (v &&& nI 15) = nI 10 ∨ (v &&& nI 15) = nI 11 ∨ (12 ≤ (v &&& nI 15).toInt) := by
  have h1 : (v &&& nI 15).toBitVec.toNat ≤ 15 := by
    rw [Int32.toBitVec_and, BitVec.toNat_and]
    exact Nat.le_trans Nat.and_le_right (by decide +kernel)
  generalize (v &&& nI 15) = w at h1 ⊢
  have key : ∀ k : Nat, k < 2 ^ 31 → w.toBitVec.toNat = k → w = nI k := fun k hk e => by
    apply Int32.toBitVec_inj.mp
    apply BitVec.eq_of_toNat_eq
    rw [e]
    show k = (BitVec.ofNat 32 k).toNat
    rw [BitVec.toNat_ofNat, Nat.mod_eq_of_lt (by omega)]
  by_cases h12 : 12 ≤ w.toBitVec.toNat
  · have : w = nI w.toBitVec.toNat := key _ (by omega) rfl
    have h2 : w.toInt = (w.toBitVec.toNat : Int) := by
      have e := nI_toInt (n := w.toBitVec.toNat) (by omega)
      rw [← this] at e
      exact e
    omega
  · rcases (show w.toBitVec.toNat = 0 ∨ w.toBitVec.toNat = 1 ∨ w.toBitVec.toNat = 2 ∨ w.toBitVec.toNat = 3 ∨ w.toBitVec.toNat = 4 ∨ w.toBitVec.toNat = 5 ∨ w.toBitVec.toNat = 6 ∨ w.toBitVec.toNat = 7 ∨ w.toBitVec.toNat = 8 ∨ w.toBitVec.toNat = 9 ∨ w.toBitVec.toNat = 10 ∨ w.toBitVec.toNat = 11 by omega) with h | h | h | h | h | h | h | h | h | h | h | h
    · exact Or.inl (key 0 (by decide) h)
    · exact Or.inr (Or.inl (key 1 (by decide) h))
    · exact Or.inr (Or.inr (Or.inl (key 2 (by decide) h)))
    · exact Or.inr (Or.inr (Or.inr (Or.inl (key 3 (by decide) h))))
    · exact Or.inr (Or.inr (Or.inr (Or.inr (Or.inl (key 4 (by decide) h)))))
    · exact Or.inr (Or.inr (Or.inr (Or.inr (Or.inr (Or.inl (key 5 (by decide) h))))))
    · exact Or.inr (Or.inr (Or.inr (Or.inr (Or.inr (Or.inr (Or.inl (key 6 (by decide) h)))))))
    · exact Or.inr (Or.inr (Or.inr (Or.inr (Or.inr (Or.inr (Or.inr (Or.inl (key 7 (by decide) h))))))))
    · exact Or.inr (Or.inr (Or.inr (Or.inr (Or.inr (Or.inr (Or.inr (Or.inr (Or.inl (key 8 (by decide) h)))))))))
    · exact Or.inr (Or.inr (Or.inr (Or.inr (Or.inr (Or.inr (Or.inr (Or.inr (Or.inr (Or.inl (key 9 (by decide) h))))))))))
    · exact Or.inr (Or.inr (Or.inr (Or.inr (Or.inr (Or.inr (Or.inr (Or.inr (Or.inr (Or.inr (Or.inl (key 10 (by decide) h)))))))))))
    · exact Or.inr (Or.inr (Or.inr (Or.inr (Or.inr (Or.inr (Or.inr (Or.inr (Or.inr (Or.inr (Or.inr (Or.inl (key 11 (by decide) h))))))))))))
theorem lw_small {L : Nat} (h : L < 6) : nI L - nI 6 < nI 0 := by
  rcases (show L = 0 ∨ L = 1 ∨ L = 2 ∨ L = 3 ∨ L = 4 ∨ L = 5 by omega) with rfl | rfl | rfl | rfl | rfl | rfl <;> decide +kernel
theorem lw_out {L n : Nat} (hL : L ≤ 3072) (hn : 6 * n ≤ 3078) (h : ¬ 6 * n + 6 ≤ L) : nI L - nI 6 < nI (6 * n) := by
  by_cases h6 : L < 6
  · have h1 := Int32.lt_iff_toInt_lt.mp (lw_small h6)
    rw [nI_toInt (by decide)] at h1
    apply Int32.lt_iff_toInt_lt.mpr
    rw [nI_toInt (by omega)]
    omega
  · rw [pk_sub (a := L) (b := 6) (by omega)]
    exact (nI_ltI (by omega) (by omega)).mpr (by omega)
theorem lw_in {L n : Nat} (hL : L ≤ 3072) (h : 6 * n + 6 ≤ L) : ¬ (nI L - nI 6 < nI (6 * n)) := by
  rw [pk_sub (a := L) (b := 6) (by omega)]
  exact fun z => absurd ((nI_ltI (by omega) (by omega)).mp z) (by omega)
theorem lo_of {g : ClassId → FieldType → Prop} {H : Heap} {q : Nat} (h1 : ∃ cA : ClassId, H[q]? = some (arrV cA 1 (fun _ => defaultValue .long))) (h2 : sx_A g .long H q 1) : lo_ g H q 0 := by
  obtain ⟨cA, e⟩ := h1
  obtain ⟨cell, q1, q2, -⟩ := h2
  cases Option.some.inj (e.symm.trans q1)
  exact ⟨cA, _, e, rfl, q2⟩
/-! THE CLAIM OUT OF ONE WALK OF THE LAW'S BODY. Your part is whole_start (and what it stands on); all else here is the same for every law, but numbers. -/
def R_law : String := "CurveKeysLaw"
def lw_P (b : Addr) (xs : List Int32) (args : Array Value) (s : State) : Prop := args = #[.ref b] ∧ s.IntsAt b xs ∧ xs.length ≤ 3072 ∧ (Jvm.Cond.and given_1 narrow_1).before args s = true
def lw_Q (_ : Array Value) (s : State) (o : Outcome) (t : State) : Prop := o = .returned (some (.int 1)) ∧ Framed s o t [] 601024 7293034
def lw_Z (below : List Frame) (a : Array Value) (s : State) : State → Prop := fun t => ∃ o, t.status = .running ∧ Ended t below o ∧ lw_Q a s o t
/-- the law's own end, with 1 on the stack, nothing written that was there before, its room as the claim has it -/
theorem lw_ret {p : Program} {l : Launch} {e : Env} {s : State} {m : MethodId} {below : List Frame} {meth : Method} {c : Code} {b : Nat} (hx : p.tables.exec = Jvm.exec) (hb : c.code = code) (hr : meth.sig.returnType = ret) (hlocks : meth.locks = false) {pc : Nat} {H : Heap} {ls : Array Slot} (hdg : decode code pc = .ok (.ireturn, 1)) : W p l e room_1 s m #[Value.ref b] below meth c H [] 601024 7293034 (lw_Z below #[Value.ref b] s) (F0 m pc ls [.int 1]) := by
  intro T hT X
  obtain ⟨fs, hret, hrun, hended, hW, hframe⟩ := X.leave (v := some (.int 1)) (hlocks := hlocks) (fun h => by rw [hr] at h; cases h)
  have hmeth' : T.vm.method? m = some meth := X.method'
  refine ⟨T.setFrames fs, ?_, .returned (some (.int 1)), hrun, hended, rfl, ⟨_, rfl⟩, hW, hframe⟩
  jvm_step X.here [X.here.top, hx, hb, hdg, hmeth', hr, ret, narrow_b1]
  (try refine ⟨rfl, ?_⟩); (try refine ⟨rfl, ?_⟩)
  first | (intro acts; rw [hret _ acts rfl rfl rfl]) | rw [hret _ _ rfl rfl rfl]
  exact Steps.refl _
/-- what holds at the law's entry: the machine, the code, the tables' words (any of lw_tbl by 'hts w (by decide +kernel)'), the script of L ints xs at the cell b, what the Statement gives of the start (any of its parts by flat_of_before) -/
def lw_At (p : Program) (s : State) (m : MethodId) (meth : Method) (c : Code) (b L : Nat) (xs : Nat → Int32) : Prop :=
  p.tables.exec = Jvm.exec ∧ c.code = code ∧ meth.sig.returnType = ret ∧ c.maxLocals = 7 ∧ s.vm.findClass R_law = some m.cls ∧ (∀ w ∈ lw_tbl, w.before #[Value.ref b] s = true) ∧ va_X b L xs s s.heap ∧ b < s.heap.size ∧ meth.locks = false ∧ (Jvm.Cond.and given_1 narrow_1).before #[Value.ref b] s = true
set_option maxHeartbeats 4000000 in
set_option maxRecDepth 100000 in
theorem law_loop {p : Program} {e : Env} {s : State} {m : MethodId} {below : List Frame} {meth : Method} {c : Code} {l : Launch} (htr : l.stackTraces = false) {D : va_G} {g : ClassId → FieldType → Prop} {kq : Nat → Nat → Nat} {ts : Nat → Nat} {x kA re ve ou o a1 a3 : Nat} {r : Nat → Nat} {b L : Nat} {xs : Nat → Int32} (EE : sx_E p s m #[Value.ref b] c b_L_law 7 R_L D g) (hKx : tx_K s) (hX : va_X b L xs s s.heap) (hL : L ≤ 3072) (hbl : b < s.heap.size) (hcx : Cxt D kq ts ou o s.heap.size a1 a3 r) (hr : meth.sig.returnType = ret) (hlocks : meth.locks = false) : ∀ (k n : Nat) (H : Heap) (locs : List Loc) (ls : Array Slot) (cap cells slots : Nat), L ≤ 6 * n + 6 * k → 6 * n ≤ 3078 → RelE D g kq ts x kA re ve ou o s.heap.size a1 a3 cap r H → (∀ q : Nat, q < s.heap.size → H[q]? = s.heap[q]?) → s.heap.size ≤ H.size → (∀ q ∈ locs, s.heap.size ≤ q.base) → cells ≤ 274 + 5 * n → slots ≤ 206097 + 2 * cap + 133 * n → lv_has ls 7 [(4, .int (nI (6 * n))), (3, .ref ou), (2, .ref o), (1, .ref x), (0, .ref b)] → W p l e room_1 s m #[Value.ref b] below meth c H locs cells slots (lw_Z below #[Value.ref b] s) (F0 m 23 ls []) := by
  obtain ⟨hx, hb, hml, hown, hts, hG, hK⟩ := id EE
  intro k
  induction k with
  | zero =>
    intro n H locs ls cap cells slots hk hn hR h0 hz hlo hcl hsl hl
    have hcap := hR.cap
    have hlt : ¬ 6 * n + 6 ≤ L := by omega
    refine lv_iload hx hb d_L_law_23 (lv_at hl 0 rfl) ?_
    refine lv_aload_n hx hb d_L_law_25 rfl (lv_at hl 4 rfl) ?_
    refine lw_len hx hb hX hbl h0 d_L_law_26 ?_
    refine lv_bipush (v := nI 6) hx hb d_L_law_27 (by decide +kernel) ?_
    refine lv_isub hx hb d_L_law_29 ?_
    refine lv_icmp_gt (tgt := 486) hx hb d_L_law_30 (by decide) (fun _ => ?_) (fun q => absurd (lw_out hL hn hlt) q)
    refine lv_iconst (v := 1) hx hb d_L_law_486 (by decide +kernel) ?_
    refine va_forget hlo ?_
    refine W.widen (k := 601024) (n := 7293034) (by omega) (by omega) ?_
    exact lw_ret hx hb hr hlocks d_L_law_487
  | succ k ih =>
    intro n H locs ls cap cells slots hk hn hR h0 hz hlo hcl hsl hl
    have hcap := hR.cap
    refine lv_iload hx hb d_L_law_23 (lv_at hl 0 rfl) ?_
    refine lv_aload_n hx hb d_L_law_25 rfl (lv_at hl 4 rfl) ?_
    refine lw_len hx hb hX hbl h0 d_L_law_26 ?_
    refine lv_bipush (v := nI 6) hx hb d_L_law_27 (by decide +kernel) ?_
    refine lv_isub hx hb d_L_law_29 ?_
    by_cases hlt : 6 * n + 6 ≤ L
    · refine lv_icmp_gt (tgt := 486) hx hb d_L_law_30 (by decide) (fun q => absurd q (lw_in hL hlt)) (fun _ => ?_)
      have hend : LQ_ p l e s m #[Value.ref b] below meth c (lw_Z below #[Value.ref b] s) D g kq ts x kA re ve ou o a1 a3 r b n := by
        intro H2 locs2 ls2 cap2 cells2 slots2 hR2 h02 hz2 hlo2 hc2 hs2 hl2
        refine lv_iinc (v := nI (6 * (n + 1))) (lv' := [(4, .int (nI (6 * (n + 1)))), (3, .ref ou), (2, .ref o), (1, .ref x), (0, .ref b)]) hx hb d_L_law_480 hl2 (k := 0) rfl (sx_inc _ _) (by decide) rfl (fun ls3 hl3 => ?_)
        refine lv_goto (tgt := 23) hx hb d_L_law_483 (by decide) ?_
        exact ih (n + 1) _ _ _ _ _ _ (by omega) (by omega) hR2 h02 hz2 hlo2 hc2 hs2 hl3
      refine lv_aload_n hx hb d_L_law_33 rfl (lv_at hl 4 rfl) ?_
      refine lv_iload hx hb d_L_law_34 (lv_at hl 0 rfl) ?_
      refine lw_ld (k := 6 * n) hx hb hX hL hbl h0 (by omega) d_L_law_36 ?_
      refine lv_bipush (v := nI 15) hx hb d_L_law_37 (by decide +kernel) ?_
      refine lv_iand hx hb d_L_law_39 ?_
      rcases px_16 (xs (6 * n)) with ek | ek | ek | ek | ek | ek | ek | ek | ek | ek | ek | ek | ek
      · refine sx_ti ek ?_
        refine lv_tableIn (off := 64) (tgt := 104) hx hb d_L_law_40 (by decide +kernel) (by decide +kernel) (by decide +kernel) (by decide) ?_
        exact lr_feed htr EE hKx hX hL hbl hlt hcx hR h0 hz hlo hcl hsl hl hend
      · refine sx_ti ek ?_
        refine lv_tableIn (off := 140) (tgt := 180) hx hb d_L_law_40 (by decide +kernel) (by decide +kernel) (by decide +kernel) (by decide) ?_
        exact lr_end htr EE hKx hX hL hbl hlt hcx hR h0 hz hlo hcl hsl hl hend
      · refine sx_ti ek ?_
        refine lv_tableIn (off := 168) (tgt := 208) hx hb d_L_law_40 (by decide +kernel) (by decide +kernel) (by decide +kernel) (by decide) ?_
        exact lr_key htr EE hKx hX hL hbl hlt hcx hR h0 hz hlo hcl hsl hl hend
      · refine sx_ti ek ?_
        refine lv_tableIn (off := 184) (tgt := 224) hx hb d_L_law_40 (by decide +kernel) (by decide +kernel) (by decide +kernel) (by decide) ?_
        exact lr_open htr EE hKx hX hL hbl hlt hcx hR h0 hz hlo hcl hsl hl hend
      · refine sx_ti ek ?_
        refine lv_tableIn (off := 221) (tgt := 261) hx hb d_L_law_40 (by decide +kernel) (by decide +kernel) (by decide +kernel) (by decide) ?_
        exact lr_agree htr EE hKx hX hL hbl hlt hcx hR h0 hz hlo hcl hsl hl hend
      · refine sx_ti ek ?_
        refine lv_tableIn (off := 249) (tgt := 289) hx hb d_L_law_40 (by decide +kernel) (by decide +kernel) (by decide +kernel) (by decide) ?_
        exact lr_message htr EE hKx hX hL hbl hlt hcx hR h0 hz hlo hcl hsl hl hend
      · refine sx_ti ek ?_
        refine lv_tableIn (off := 262) (tgt := 302) hx hb d_L_law_40 (by decide +kernel) (by decide +kernel) (by decide +kernel) (by decide) ?_
        exact lr_sign htr EE hKx hX hL hbl hlt hcx hR h0 hz hlo hcl hsl hl hend
      · refine sx_ti ek ?_
        refine lv_tableIn (off := 287) (tgt := 327) hx hb d_L_law_40 (by decide +kernel) (by decide +kernel) (by decide +kernel) (by decide) ?_
        exact lr_verify htr EE hKx hX hL hbl hlt hcx hR h0 hz hlo hcl hsl hl hend
      · refine sx_ti ek ?_
        refine lv_tableIn (off := 303) (tgt := 343) hx hb d_L_law_40 (by decide +kernel) (by decide +kernel) (by decide +kernel) (by decide) ?_
        exact lr_point htr EE hKx hX hL hbl hlt hcx hR h0 hz hlo hcl hsl hl hend
      · refine sx_ti ek ?_
        refine lv_tableIn (off := 319) (tgt := 359) hx hb d_L_law_40 (by decide +kernel) (by decide +kernel) (by decide +kernel) (by decide) ?_
        exact lr_back htr EE hKx hX hL hbl hlt hcx hR h0 hz hlo hcl hsl hl hend
      · refine sx_ti ek ?_
        refine lv_tableIn (off := 359) (tgt := 399) hx hb d_L_law_40 (by decide +kernel) (by decide +kernel) (by decide +kernel) (by decide) ?_
        exact lr_result htr EE hKx hX hL hbl hlt hcx hR h0 hz hlo hcl hsl hl hend
      · refine sx_ti ek ?_
        refine lv_tableIn (off := 415) (tgt := 455) hx hb d_L_law_40 (by decide +kernel) (by decide +kernel) (by decide +kernel) (by decide) ?_
        exact lr_count htr EE hKx hX hL hbl hlt hcx hR h0 hz hlo hcl hsl hl hend
      · refine lv_tableOut (tgt := 480) hx hb d_L_law_40 (Or.inr (by omega)) (by decide) ?_
        exact hend _ _ _ _ _ _ hR h0 hz hlo (by omega) (by omega) hl
    · skip
      refine lv_icmp_gt (tgt := 486) hx hb d_L_law_30 (by decide) (fun _ => ?_) (fun q => absurd (lw_out hL hn hlt) q)
      refine lv_iconst (v := 1) hx hb d_L_law_486 (by decide +kernel) ?_
      refine va_forget hlo ?_
      refine W.widen (k := 601024) (n := 7293034) (by omega) (by omega) ?_
      exact lw_ret hx hb hr hlocks d_L_law_487
set_option maxHeartbeats 4000000 in
set_option maxRecDepth 100000 in
theorem whole_start {p : Program} {e : Env} {s : State} {m : MethodId} {below : List Frame} {meth : Method} {c : Code} (l : Launch) (htr : l.stackTraces = false) {b L : Nat} {xs : Nat → Int32} (hL : L ≤ 3072) (C0 : lw_At p s m meth c b L xs) : W p l e room_1 s m #[Value.ref b] below meth c s.heap [] 0 0 (lw_Z below #[Value.ref b] s) (entryFrame m ([Value.ref b] : List Value).toArray 7) := by
  obtain ⟨hx, hb, hr, hml, hown, hts0, hX, hbl, hlocks, hgv⟩ := id C0
  obtain ⟨D, ts, hU, hKx, hst⟩ := ls_start hts0 hgv
  have hts : ∀ w ∈ G_, w.before #[Value.ref b] s = true := fun w h => hts0 w (List.mem_filter.mp h).1
  have EE : sx_E p s m #[Value.ref b] c b_L_law 7 R_L D (ls_g s) := ⟨hx, hb, hml, hown, hts, hU⟩
  generalize ls_g s = g at hU hst EE
  obtain ⟨hG, hK⟩ := id hU
  have hl := lv_entry ([.ref b]) (n := 7) (Nat.le_of_ble_eq_true rfl)
  rw [lg_entry_eq]
  generalize (lg_sl ([.ref b]) ++ List.replicate (7 - (lg_sl ([.ref b])).length) Slot.unset).toArray = ls at hl ⊢
  have hl : lv_has ls 7 [(0, .ref b)] := hl
  refine sx_newo (ci := 1) (fs := [.null, .null, .null, .null, .null, .null, .null, .null, .int 0, .int 0, .int 0, .int 0]) (cells' := 1) (slots' := 12) EE rfl i_K t_K tok_K nw_L_8 (by decide) rfl rfl (Nat.le_of_ble_eq_true rfl) (Nat.le_of_ble_eq_true rfl) d_L_law_0 (fun x Hx ex hN s0 k1 => ?_)
  obtain ⟨XX, hVx⟩ : ∃ Y, mm g Hx = Y := ⟨_, rfl⟩
  refine lv_dup hx hb d_L_law_3 rfl ?_
  have hst1 : st_H D g (fun z => z = x ∨ x + 1 ≤ z) Hx ts := hst.news (sx_J.grow (le_1 ex s0) k1) (nE_ge (b := x) ex (Nat.le_refl x))
  refine sx_gI (E' := (fun z => z = x ∨ x + 1 ≤ z)) (P := up_K D g (x + 1) x XX ts) (F := fun q => s.heap.size ≤ q) (mc := 223) (ms := 4669) (cells' := 224) (slots' := 4681) (sx_runI (As := []) (rest := [.ref x]) EE (u_K_init (E := (fun z => z = x ∨ x + 1 ≤ z)) (b := x + 1) (X := XX) (Or.inl rfl) (fun z h => Or.inr h) hN s0 hVx hst1) iw_L_55 rfl rfl ⟨rfl, rfl⟩ ⟨Nat.le_of_ble_eq_true rfl, Nat.le_of_ble_eq_true rfl⟩ ⟨Nat.le_of_ble_eq_true rfl, Nat.le_of_ble_eq_true rfl⟩ hl.1 rfl (Nat.le_of_ble_eq_true rfl) d_L_law_4) (fun z h => by rcases h with h | h <;> omega) (fun q h => by cases h) rfl rfl (fun H1 locs hJ1 hP1 hlo => ?_)
  have hk1 : ∀ q : Nat, q < s.heap.size → H1[q]? = s.heap[q]? := sx_J.news ex k1 (le_1 ex s0) hJ1 (nE_to s0)
  have z1 : s.heap.size < H1.size := by have := hJ1.1; omega
  refine lv_astore_n (lv' := [(1, .ref x), (0, .ref b)]) hx hb d_L_law_7 rfl hl (by decide) rfl (fun ls hl => ?_)
  refine sx_newo (ci := 0) (fs := [.int 0, .null, .null, .null, .null, .int 0, .int 0, .int 0, .int 0, .null, .null, .null, .null, .null, .null, .null, .null, .null, .null, .null, .null, .null, .null, .null, .null, .null, .null, .null, .null, .null, .null, .null, .null, .null, .null, .null, .null, .null, .null, .null, .null, .null, .null, .null, .null, .null, .null, .null, .null, .null, .null, .null, .null]) (cells' := 225) (slots' := 4734) EE rfl i_M t_M tok_M nw_L_56 (by decide) rfl rfl (Nat.le_of_ble_eq_true rfl) (Nat.le_of_ble_eq_true rfl) d_L_law_8 (fun o Ho eo hNo so k2 => ?_)
  obtain ⟨XM, hVm⟩ : ∃ Y, mm g Ho = Y := ⟨_, rfl⟩
  refine lv_dup hx hb d_L_law_11 rfl ?_
  refine sx_gI (E' := (fun z => z = o ∨ o + 1 ≤ z)) (P := up_M D g (o + 1) o XM) (F := fun q => s.heap.size ≤ q) (mc := 48) (ms := 201362) (cells' := 273) (slots' := 206096) (sx_runI (As := []) (rest := [.ref o]) EE (u_M_init (E := (fun z => z = o ∨ o + 1 ≤ z)) (b := o + 1) (X := XM) (Or.inl rfl) (fun z h => Or.inr h) hNo so hVm) iw_L_58 rfl rfl ⟨rfl, rfl⟩ ⟨Nat.le_of_ble_eq_true rfl, Nat.le_of_ble_eq_true rfl⟩ ⟨Nat.le_of_ble_eq_true rfl, Nat.le_of_ble_eq_true rfl⟩ hl.1 rfl (Nat.le_of_ble_eq_true rfl) d_L_law_12) (fun z h => by rcases h with h | h <;> omega) hlo rfl rfl (fun H2 locs hJ2 hP2 hlo => ?_)
  have hk2 : ∀ q : Nat, q < H1.size → H2[q]? = H1[q]? := sx_J.news eo k2 (le_1 eo so) hJ2 (nE_to so)
  have z2 : H1.size < H2.size := by have := hJ2.1; omega
  refine lv_astore_n (lv' := [(2, .ref o), (1, .ref x), (0, .ref b)]) hx hb d_L_law_15 rfl hl (by decide) rfl (fun ls hl => ?_)
  refine lv_iconst (v := nI 1) hx hb d_L_law_16 (by decide +kernel) ?_
  have hS2 : sx_S g (fun q => s.heap.size ≤ q) (fun q => s.heap.size ≤ q) H2 H2 locs := ⟨sx_J.rf, fun _ h => h, hlo⟩
  obtain ⟨X2, hV2⟩ : ∃ Y, mm g H2 = Y := ⟨_, rfl⟩
  refine sx_newa (cells' := 274) (slots' := 206097) hx hb hG hts rfl (Or.inl rfl) (by decide +kernel) (by decide) (by decide) rfl rfl (Nat.le_of_ble_eq_true rfl) (Nat.le_of_ble_eq_true rfl) hS2 d_L_law_17 (fun ou H3 eu a3 l3 y3 hJ3 hk3 hS3 => ?_)
  refine lv_astore_n (lv' := [(3, .ref ou), (2, .ref o), (1, .ref x), (0, .ref b)]) hx hb d_L_law_19 rfl hl (by decide) rfl (fun ls hl => ?_)
  have hlo := hS3.2.2
  have lou := a3.lt
  have hk13 : ∀ q : Nat, q < H1.size → H3[q]? = H1[q]? := fun q hq => (hk3 q (by omega)).trans (hk2 q hq)
  have h03 : ∀ q : Nat, q < s.heap.size → H3[q]? = s.heap[q]? := fun q hq => (hk13 q (by omega)).trans (hk1 q hq)
  have hv0 : ∀ k, k < 9 → ∀ j, j < st_l k → XX.1 (ts k) j = st_v k j := fun k hk j hj => by
    rw [← hVx]
    exact ((hst1 k hk).2.2.2.2 j hj).1
  have hx0 : ∀ z j, x + 1 ≤ z → XX.2 z j = 0 := fun z j hz => by
    rw [← hVx]
    exact (mm_none (Array.getElem?_eq_none (by omega)) j).2
  obtain ⟨c_, hbc, hs1, hC0, hKS⟩ := ks_new (H0 := s.heap) (H3 := H3) (tp := fun _ => 0) (ms := fun _ => 0) (rs := fun _ => 0) (ks := fun _ _ => 0) hP1 rfl ex hst (sx_J.grow (by omega) h03) hk13 (by omega) hv0 hx0
  have hMS := ms_new (H3 := H3) (tp := fun _ => 0) (ms := fun _ => 0) (rs := fun _ => 0) (ks := fun _ _ => 0) hP2 hk3 (by omega)
  have hmE : ∀ z, mE o (mrr (o + 1)) z → c_ + 17 ≤ z ∧ z < H2.size := fun z h => by
    have l2 := (hP2.2.1 0 _ rfl).lt
    rcases h with rfl | ⟨q, hq, rfl⟩
    · omega
    · have := (mrr_ge (o + 1) q hq).1
      have := (hP2.2.2.1 q hq).lt
      omega
  subst ex
  have hcx : Cxt D (kqF (s.heap.size + 1) c_) ts ou o s.heap.size (c_ + 17) H3.size (mrr (o + 1)) := by
    refine ⟨hC0, mrr_inj _, fun z h => ?_, ?_, by omega, fun h => ?_⟩
    · have := hmE z h
      exact ⟨by omega, fun h2 => by rcases h2 with h2 | h2 <;> omega⟩
    · rintro (h2 | h2) <;> omega
    · have := hmE _ h
      omega
  refine lv_iconst (v := nI 0) hx hb d_L_law_20 (by decide +kernel) ?_
  refine lv_istore (lv' := [(4, .int (nI (6 * 0))), (3, .ref ou), (2, .ref o), (1, .ref s.heap.size), (0, .ref b)]) hx hb d_L_law_21 hl (by decide) rfl (fun ls hl => ?_)
  exact law_loop htr EE hKx hX hL hbl hcx hr hlocks L 0 H3 locs ls 2048 274 206097 (by omega) (by omega) ⟨nI 0, 0, 0, 0, 0, fun _ => 0, fun _ => 0, fun _ => 0, fun _ _ => 0, hKS, hMS, ⟨by decide, by decide, by decide, by decide, fun j hj => absurd hj (Nat.not_lt_zero j), fun j hj => absurd hj (Nat.not_lt_zero j), fun j hj => absurd hj (Nat.not_lt_zero j), fun k hk => absurd hk (Nat.not_lt_zero k)⟩, 0, lo_of y3 a3⟩ h03 (by omega) hlo (by omega) (by omega) hl
