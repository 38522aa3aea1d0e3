abbrev rm_Ed_init : Room := { frames := 5, cells := 182, slots := 1672, locals := 165 }
set_option maxHeartbeats 4000000 in
set_option maxRecDepth 100000 in
theorem e_Ed_init2 {l : Launch} {D : va_G} {g : ClassId → FieldType → Prop} {E F : Nat → Prop} {H0 : Heap} {o : Nat} {r r2 ts : Nat → Nat} (hM : ed_ D g H0 o r) (hE : ¬ E o) (hW : ∀ k, 7 ≤ k → k < 15 → E (r k)) (h2 : o4_ D g H0 4 (r 2) r2) (n2 : ¬ E (r 2)) (w2 : ∀ k, k < 4 → E (r2 k)) (h3 : ra_ D g E H0 (r 3)) (hz : st_H D g E H0 ts) {p : Program} {e : Env} {s : State} {m : MethodId} {args : Array Value} {below : List Frame} {meth : Method} {c : Code} {Q : State → Prop} {ls : Array Slot} {locs : List Loc} (EE : sx_E p s m args c b_Ed_init 3 R_Ed D g) (hl : lv_has ls 3 [(0, .ref o)]) (hS : sx_S g E F H0 H0 locs) (hret : ∀ (H : Heap) (locs : List Loc) (ls : Array Slot) (pc : Nat), sx_S g E F H0 H locs → decode b_Ed_init pc = .ok (.return_, 1) → W p l e rm_Ed_init s m args below meth c H locs 182 1672 Q (F0 m pc ls [])) : W p l e rm_Ed_init s m args below meth c H0 locs 182 1672 Q (F0 m 169 ls []) := by
  obtain ⟨hx, hb, hml, hown, hts, hG, hK⟩ := id EE
  refine lv_aload_n hx hb d_Ed_init_169 rfl (lv_at hl 0 rfl) ?_
  refine sx_get EE (hS.1.ob hE hM.1) rfl i_Ed 2 (by decide) rfl fl_Ed_18 rfl d_Ed_init_170 ?_
  obtain ⟨cz, z1, z2, z3, z4, z5⟩ := (hz.kept hS.1).2.1
  refine sx_gets EE hK.2.2.2.1 z1 z2 z4 fl_Ed_69 d_Ed_init_173 ?_
  obtain ⟨cz, z1, z2, z3, z4, z5⟩ := (hz.kept hS.1).2.1
  refine sx_gets EE hK.2.2.2.2.1 z1 z2 z5 fl_Ed_72 d_Ed_init_176 ?_
  refine sx_gv (sx_runV (As := [.ref (ts 2), .ref (ts 3)]) (rest := []) EE (hS.1.ob n2 h2.1) rfl rfl (c_Pt_setAffine (h2.kept hS.1 n2) n2 w2 (hS.a hz.2.2.2.1) (hS.a hz.2.2.2.2)) w_Ed_75 rfl ⟨rfl, rfl⟩ ⟨Nat.le_of_ble_eq_true rfl, Nat.le_of_ble_eq_true rfl⟩ ⟨Nat.le_of_ble_eq_true rfl, Nat.le_of_ble_eq_true rfl⟩ hl.1 rfl (Nat.le_of_ble_eq_true rfl) d_Ed_init_179) hS (fun H locs hS => ?_)
  refine lv_aload_n hx hb d_Ed_init_182 rfl (lv_at hl 0 rfl) ?_
  refine lv_aload_n hx hb d_Ed_init_183 rfl (lv_at hl 0 rfl) ?_
  refine sx_get EE (hS.1.ob hE hM.1) rfl i_Ed 3 (by decide) rfl fl_Ed_23 rfl d_Ed_init_184 ?_
  refine lv_aload_n hx hb d_Ed_init_187 rfl (lv_at hl 0 rfl) ?_
  refine sx_get EE (hS.1.ob hE hM.1) rfl i_Ed 2 (by decide) rfl fl_Ed_18 rfl d_Ed_init_188 ?_
  refine sx_gv (sx_runV (As := [.ref (r 3), .ref (r 2)]) (rest := []) EE (hS.1.ob hE hM.1) rfl rfl (c_Ed_fillMultiples (hM.kept hS.1 hE) hE hW (h3.kept hS.1) (h2.kept hS.1 n2) n2 w2 (hz.kept hS.1)) w_Ed_79 rfl ⟨rfl, rfl⟩ ⟨Nat.le_of_ble_eq_true rfl, Nat.le_of_ble_eq_true rfl⟩ ⟨Nat.le_of_ble_eq_true rfl, Nat.le_of_ble_eq_true rfl⟩ hl.1 rfl (Nat.le_of_ble_eq_true rfl) d_Ed_init_191) hS (fun H locs hS => ?_)
  exact hret _ _ _ _ hS d_Ed_init_194
set_option maxHeartbeats 4000000 in
set_option maxRecDepth 100000 in
theorem e_Ed_init1 {l : Launch} {D : va_G} {g : ClassId → FieldType → Prop} {E : Nat → Prop} {Hb : Heap} {B o : Nat} {r r2 ts : Nat → Nat} (hB : B ≤ Hb.size) (ho : o < B) (hEn : ∀ q, B ≤ q → E q) (hr : ∀ k, 1 ≤ k → k < 15 → B ≤ r k) (hr2 : ∀ k, B ≤ r2 k) (d34 : r 3 ≠ r 4) (d23 : r 2 ≠ r 3) (d24 : r 2 ≠ r 4) (l3 : r 3 < Hb.size) (l4 : r 4 < Hb.size) (hst : st_H D g E Hb ts) {p : Program} {e : Env} {s : State} {m : MethodId} {args : Array Value} {below : List Frame} {meth : Method} {c : Code} {Q : State → Prop} (EE : sx_E p s m args c b_Ed_init 3 R_Ed D g) (hret : ∀ (H : Heap) (locs : List Loc) (ls : Array Slot) (pc : Nat), va_P D classes [(o, .inr (6, [.ref (r 0), .ref (r 1), .ref (r 2), .ref (r 3), .ref (r 4), .ref (r 5), .ref (r 6), .ref (r 7), .ref (r 8), .ref (r 9), .ref (r 10), .ref (r 11), .ref (r 12), .ref (r 13), .ref (r 14)]))] H → sx_J g E Hb H → (∀ q ∈ locs, E q.base) → decode b_Ed_init pc = .ok (.return_, 1) → W p l e rm_Ed_init s m args below meth c H locs 182 1672 Q (F0 m pc ls [])) : ∀ (k i : Nat) (H : Heap) (locs : List Loc) (ls : Array Slot) (f3 f4 : Nat → Value), i + k = 16 → va_P D classes [(o, .inr (6, [.ref (r 0), .ref (r 1), .ref (r 2), .ref (r 3), .ref (r 4), .ref (r 5), .ref (r 6), .ref (r 7), .ref (r 8), .ref (r 9), .ref (r 10), .ref (r 11), .ref (r 12), .ref (r 13), .ref (r 14)]))] H → (∀ k, 7 ≤ k → k < 15 → sx_A g .long H (r k) 10) → o4_ D g H 4 (r 2) r2 → rf_ s R_Ad H (r 3) 16 f3 → rf_ s R_Ad H (r 4) 16 f4 → (∀ j, j < i → ∃ (b : Nat) (rb : Nat → Nat), f3 j = .ref b ∧ o4_ D g H 5 b rb ∧ Hb.size ≤ b ∧ ∀ k, Hb.size ≤ rb k) → Hb.size ≤ H.size → sx_J g E Hb H → (∀ q ∈ locs, E q.base) → lv_has ls 3 [(2, .int (nI i)), (0, .ref o)] → W p l e rm_Ed_init s m args below meth c H locs (22 + 10 * i) (264 + 88 * i) Q (F0 m 131 ls []) := by
  obtain ⟨hx, hb, hml, hown, hts, hG, hK⟩ := id EE
  intro k
  induction k with
  | zero =>
    intro i H locs ls f3 f4 hi hO hL hF y3 y4 hI hz hJ hlo hl
    have hi : i = 16 := by omega
    subst hi
    refine lv_iload_n hx hb d_Ed_init_131 rfl (lv_at hl 0 rfl) ?_
    refine lv_bipush (v := nI 16) hx hb d_Ed_init_132 (by decide +kernel) ?_
    refine lv_icmp_ge (tgt := 169) hx hb d_Ed_init_134 (by decide) (fun _ => ?_) (fun q => absurd (nI_le (by omega) (by omega)) q)
    have hf : ∀ z, E z ∧ sx_A g .long H z 10 → E z := fun z h => h.1
    have st2 : st_H D g (fun z => E z ∧ sx_A g .long H z 10) H ts := (hst.kept hJ).mono (fun z h => h.1)
    refine e_Ed_init2 (E := fun z => E z ∧ sx_A g .long H z 10) (F := E) ⟨hO, hL⟩ (fun h => sx_nob hG hK.1 hO h.2) (fun k h1 h2 => ⟨hEn _ (hr k (by omega) h2), hL k h1 h2⟩) hF (fun h => sx_nob hG hK.1 hF.1 h.2) (fun k hk => ⟨hEn _ (hr2 k), (hF.2 k hk).1⟩) ?_ st2 EE (lv_sub hl [1] rfl) ⟨sx_J.rf, hf, hlo⟩ (fun H2 locs2 ls pc hS2 hd => ?_)
    · obtain ⟨cA, kA, comp, w1, w2, w3, w4⟩ := y3
      refine ⟨fun h => ?_, _, w1, (hG _ _).mpr ⟨kA, w2, comp, w3⟩, (fun k h => by cases h), (fun h => by cases h), by rw [arrV_size]; exact Nat.le_refl _, fun j hj => ?_⟩
      · obtain ⟨c0, u1, u2, -⟩ := h.2
        cases Option.some.inj (u1.symm.trans w1)
        have := hG.uniq u2 ((hG _ _).mpr ⟨kA, w2, comp, w3⟩)
        cases this
      · obtain ⟨b, rb, u1, u2, u3, u4⟩ := hI j hj
        exact ⟨b, rb, by rw [arrV_read _ _ hj, u1], u2, fun h => sx_nob hG hK.1 u2.1 h.2, fun k hk => ⟨hEn _ (Nat.le_trans hB (u4 k)), (u2.2 k hk).1⟩⟩
    · exact hret H2 locs2 ls pc (hS2.1.ob (fun h => sx_nob hG hK.1 hO h.2) hO) (hJ.tr (hS2.1.mono hf)) hS2.2.2 hd
  | succ k ih =>
    intro i H locs ls f3 f4 hi hO hL hF y3 y4 hI hz hJ hlo hl
    refine lv_iload_n hx hb d_Ed_init_131 rfl (lv_at hl 0 rfl) ?_
    refine lv_bipush (v := nI 16) hx hb d_Ed_init_132 (by decide +kernel) ?_
    refine lv_icmp_ge (tgt := 169) hx hb d_Ed_init_134 (by decide) (fun q => absurd q (nI_ge (by omega) (by omega))) (fun _ => ?_)
    refine lv_aload_n hx hb d_Ed_init_137 rfl (lv_at hl 1 rfl) ?_
    refine sx_get EE hO rfl i_Ed 3 (by decide) rfl fl_Ed_23 rfl d_Ed_init_138 ?_
    refine lv_iload_n hx hb d_Ed_init_141 rfl (lv_at hl 0 rfl) ?_
    refine sx_newo (ci := 5) (fs := [.null, .null, .null, .null]) (cells' := 22 + 10 * i + 1) (slots' := 264 + 88 * i + 4) EE rfl i_Ad t_Ad tok_Ad nw_Ed_21 (by decide) (by omega) (by omega) (by show _ ≤ 182; omega) (by show _ ≤ 1672; omega) d_Ed_init_142 (fun q142 H142 e0 hN s0 k1 => ?_)
    have hq : Hb.size ≤ q142 := e0 ▸ hz
    refine lv_dup hx hb d_Ed_init_145 rfl ?_
    refine sx_gI (E' := fun z => z = q142 ∨ Array.size H142 ≤ z) (P := fun H => ∃ r : Nat → Nat, va_P D classes [(q142, .inr (5, [.ref (r 0), .ref (r 1), .ref (r 2), .ref (r 3)]))] H ∧ sx_AR g H [(r 0, .long, 10), (r 1, .long, 10), (r 2, .long, 10), (r 3, .long, 10)] ∧ (∀ k, Array.size H142 ≤ r k)) (F := E) (mc := 4) (ms := 40) (cells' := 22 + 10 * i + 5) (slots' := 264 + 88 * i + 44) (sx_runIN (As := []) (rest := [.ref q142, .int (nI i), .ref (r 3)]) EE (c_Ad_init (E := fun z => z = q142 ∨ Array.size H142 ≤ z) (Or.inl rfl) (fun z h => Or.inr h) hN) il_Ed_68 iw_Ed_68 rfl rfl ⟨rfl, rfl⟩ ⟨Nat.le_of_ble_eq_true rfl, Nat.le_of_ble_eq_true rfl⟩ ⟨by show _ ≤ 182; show 22 + 10 * i + 1 + 4 ≤ _; omega, by show _ ≤ 1672; show 264 + 88 * i + 4 + 40 ≤ _; omega⟩ hl.1 rfl (Nat.le_of_ble_eq_true rfl) d_Ed_init_146) (fun z h => hEn _ (by rcases h with h | h <;> omega)) hlo (by omega) (by omega) (fun H146 locs hJc hPc hlo => ?_)
    have hk := sx_J.news e0 k1 (by omega) hJc (fun _ h => h)
    have hJ1 : sx_J g E H H146 := (sx_J.grow (by omega) k1).tr (hJc.mono (fun z h => hEn _ (by rcases h with h | h <;> omega)))
    have hJ := hJ.tr hJ1
    have hz := Nat.le_trans hz hJ1.1
    have hO := hO.grown hk
    have hL : ∀ k, 7 ≤ k → k < 15 → sx_A g .long H146 (r k) 10 := fun k h1 h2 => hJ1.2.2.1 _ _ _ (hL k h1 h2)
    have hF := hF.grown hJ1.1 hk
    have y3 := y3.grown hk
    have y4 := y4.grown hk
    have hI : ∀ j, j < i → ∃ (b : Nat) (rb : Nat → Nat), f3 j = .ref b ∧ o4_ D g H146 5 b rb ∧ Hb.size ≤ b ∧ ∀ k, Hb.size ≤ rb k := fun j hj => by obtain ⟨b, rb, u1, u2, u3⟩ := hI j hj; exact ⟨b, rb, u1, u2.grown hJ1.1 hk, u3⟩
    obtain ⟨rb, pb, ab, bb⟩ := hPc
    have hb4 : o4_ D g H146 5 q142 rb := o4_.of pb ab
    have bb : ∀ k, Hb.size ≤ rb k := fun k => Nat.le_trans (by omega) (bb k)
    refine sx_aast (ci := 5) EE y3 rfl hb4.1 (by omega) (by decide) (hEn _ (hr 3 (by decide) (by decide))) ⟨hJ, fun _ h => h, hlo⟩ d_Ed_init_149 (fun H149 locs y3 hJ2 hs hS2 => ?_)
    have hJ := hS2.1
    have hlo := hS2.2.2
    have hz := Nat.le_trans hz hJ2.1
    have hO := hO.one hs (Nat.ne_of_lt (Nat.lt_of_lt_of_le ho (hr 3 (by decide) (by decide))))
    have hL : ∀ k, 7 ≤ k → k < 15 → sx_A g .long H149 (r k) 10 := fun k h1 h2 => hJ2.2.2.1 _ _ _ (hL k h1 h2)
    have hF := hF.put hJ2 hs d23
    have y4 := y4.kept (hs _ (Ne.symm d34))
    have hb4 := hb4.put hJ2 hs (Nat.ne_of_gt (by omega))
    have hI : ∀ j, j < i + 1 → ∃ (b : Nat) (rb : Nat → Nat), (updV f3 i (.ref q142)) j = .ref b ∧ o4_ D g H149 5 b rb ∧ Hb.size ≤ b ∧ ∀ k, Hb.size ≤ rb k := fun j hj => by
      by_cases hji : j = i
      · subst hji
        exact ⟨_, rb, by simp [updV], hb4, hq, bb⟩
      · obtain ⟨b, rb2, u1, u2, u3, u4⟩ := hI j (by omega)
        exact ⟨b, rb2, by simp [updV, hji, u1], u2.put hJ2 hs (Nat.ne_of_gt (by omega)), u3, u4⟩
    refine lv_aload_n hx hb d_Ed_init_150 rfl (lv_at hl 1 rfl) ?_
    refine sx_get EE hO rfl i_Ed 4 (by decide) rfl fl_Ed_27 rfl d_Ed_init_151 ?_
    refine lv_iload_n hx hb d_Ed_init_154 rfl (lv_at hl 0 rfl) ?_
    refine sx_newo (ci := 5) (fs := [.null, .null, .null, .null]) (cells' := 22 + 10 * i + 6) (slots' := 264 + 88 * i + 48) EE rfl i_Ad t_Ad tok_Ad nw_Ed_21 (by decide) (by omega) (by omega) (by show _ ≤ 182; omega) (by show _ ≤ 1672; omega) d_Ed_init_155 (fun q155 H155 e0 hN s0 k1 => ?_)
    have hq : Hb.size ≤ q155 := e0 ▸ hz
    refine lv_dup hx hb d_Ed_init_158 rfl ?_
    refine sx_gI (E' := fun z => z = q155 ∨ Array.size H155 ≤ z) (P := fun H => ∃ r : Nat → Nat, va_P D classes [(q155, .inr (5, [.ref (r 0), .ref (r 1), .ref (r 2), .ref (r 3)]))] H ∧ sx_AR g H [(r 0, .long, 10), (r 1, .long, 10), (r 2, .long, 10), (r 3, .long, 10)] ∧ (∀ k, Array.size H155 ≤ r k)) (F := E) (mc := 4) (ms := 40) (cells' := 22 + 10 * i + 10) (slots' := 264 + 88 * i + 88) (sx_runIN (As := []) (rest := [.ref q155, .int (nI i), .ref (r 4)]) EE (c_Ad_init (E := fun z => z = q155 ∨ Array.size H155 ≤ z) (Or.inl rfl) (fun z h => Or.inr h) hN) il_Ed_68 iw_Ed_68 rfl rfl ⟨rfl, rfl⟩ ⟨Nat.le_of_ble_eq_true rfl, Nat.le_of_ble_eq_true rfl⟩ ⟨by show _ ≤ 182; show 22 + 10 * i + 6 + 4 ≤ _; omega, by show _ ≤ 1672; show 264 + 88 * i + 48 + 40 ≤ _; omega⟩ hl.1 rfl (Nat.le_of_ble_eq_true rfl) d_Ed_init_159) (fun z h => hEn _ (by rcases h with h | h <;> omega)) hlo (by omega) (by omega) (fun H159 locs hJc hPc hlo => ?_)
    have hk := sx_J.news e0 k1 (by omega) hJc (fun _ h => h)
    have hJ1 : sx_J g E H149 H159 := (sx_J.grow (by omega) k1).tr (hJc.mono (fun z h => hEn _ (by rcases h with h | h <;> omega)))
    have hJ := hJ.tr hJ1
    have hz := Nat.le_trans hz hJ1.1
    have hO := hO.grown hk
    have hL : ∀ k, 7 ≤ k → k < 15 → sx_A g .long H159 (r k) 10 := fun k h1 h2 => hJ1.2.2.1 _ _ _ (hL k h1 h2)
    have hF := hF.grown hJ1.1 hk
    have y3 := y3.grown hk
    have y4 := y4.grown hk
    have hI : ∀ j, j < (i + 1) → ∃ (b : Nat) (rb : Nat → Nat), (updV f3 i (.ref q142)) j = .ref b ∧ o4_ D g H159 5 b rb ∧ Hb.size ≤ b ∧ ∀ k, Hb.size ≤ rb k := fun j hj => by obtain ⟨b, rb, u1, u2, u3⟩ := hI j hj; exact ⟨b, rb, u1, u2.grown hJ1.1 hk, u3⟩
    obtain ⟨rb, pb, ab, bb⟩ := hPc
    have hb4 : o4_ D g H159 5 q155 rb := o4_.of pb ab
    have bb : ∀ k, Hb.size ≤ rb k := fun k => Nat.le_trans (by omega) (bb k)
    refine sx_aast (ci := 5) EE y4 rfl hb4.1 (by omega) (by decide) (hEn _ (hr 4 (by decide) (by decide))) ⟨hJ, fun _ h => h, hlo⟩ d_Ed_init_162 (fun H162 locs y4 hJ2 hs hS2 => ?_)
    have hJ := hS2.1
    have hlo := hS2.2.2
    have hz := Nat.le_trans hz hJ2.1
    have hO := hO.one hs (Nat.ne_of_lt (Nat.lt_of_lt_of_le ho (hr 4 (by decide) (by decide))))
    have hL : ∀ k, 7 ≤ k → k < 15 → sx_A g .long H162 (r k) 10 := fun k h1 h2 => hJ2.2.2.1 _ _ _ (hL k h1 h2)
    have hF := hF.put hJ2 hs d24
    have y3 := y3.kept (hs _ d34)
    have hb4 := hb4.put hJ2 hs (Nat.ne_of_gt (by omega))
    have hI : ∀ j, j < i + 1 → ∃ (b : Nat) (rb : Nat → Nat), (updV f3 i (.ref q142)) j = .ref b ∧ o4_ D g H162 5 b rb ∧ Hb.size ≤ b ∧ ∀ k, Hb.size ≤ rb k := fun j hj => by
      obtain ⟨b, rb2, u1, u2, u3, u4⟩ := hI j hj
      exact ⟨b, rb2, u1, u2.put hJ2 hs (Nat.ne_of_gt (by omega)), u3, u4⟩
    refine lv_iinc (v := nI (i + 1)) (lv' := [(2, .int (nI (i + 1))), (0, .ref o)]) hx hb d_Ed_init_163 hl (k := 0) rfl (sx_inc _ _) (by decide) rfl (fun ls hl => ?_)
    refine lv_goto (tgt := 131) hx hb d_Ed_init_166 (by decide) ?_
    refine W.widen (k := 22 + 10 * (i + 1)) (n := 264 + 88 * (i + 1)) (by omega) (by omega) ?_
    exact ih (i + 1) _ _ ls _ _ (by omega) hO hL hF y3 y4 hI hz hJ hlo hl
set_option maxHeartbeats 4000000 in
set_option maxRecDepth 100000 in
theorem c_Ed_init {l : Launch} {D : va_G} {g : ClassId → FieldType → Prop} {E : Nat → Prop} {H0 : Heap} {o : Nat} {a0 : Nat} {ts : Nat → Nat} (hEo : E o) (hEn : ∀ q, H0.size ≤ q → E q) (hO : va_P D classes [(o, .inr (6, [.null, .null, .null, .null, .null, .null, .null, .null, .null, .null, .null, .null, .null, .null, .null]))] H0) (hst : st_H D g E H0 ts) : Met l y_Ed_init (.code y_Ed_init b_Ed_init 3 none :: G_) rm_Ed_init (sx_Pc [.ref o, .ref a0] H0 D g) (va_Qv (fun _ : Unit => True) (fun _ t => sx_J g E H0 t.heap ∧ ∃ r : Nat → Nat, va_P D classes [(o, .inr (6, [.ref a0, .ref (r 1), .ref (r 2), .ref (r 3), .ref (r 4), .ref (r 5), .ref (r 6), .ref (r 7), .ref (r 8), .ref (r 9), .ref (r 10), .ref (r 11), .ref (r 12), .ref (r 13), .ref (r 14)]))] t.heap ∧ sx_AR g t.heap [] ∧ True) E) 182 1672 E := by
  refine sx_mva (own := R_Ed) (P := fun H => ∃ r : Nat → Nat, va_P D classes [(o, .inr (6, [.ref a0, .ref (r 1), .ref (r 2), .ref (r 3), .ref (r 4), .ref (r 5), .ref (r 6), .ref (r 7), .ref (r 8), .ref (r 9), .ref (r 10), .ref (r 11), .ref (r 12), .ref (r 13), .ref (r 14)]))] H ∧ sx_AR g H [] ∧ True) (by decide) rfl (Nat.le_of_ble_eq_true rfl) ?_
  intro p e s m args below meth c Q ls EE hin hl hret
  obtain ⟨hx, hb, hml, hown, hts, hG, hK⟩ := id EE
  have hS : sx_S g E E H0 H0 [] := sx_S.rf
  have hA : sx_AR g H0 [] := sx_AR.nil
  have hZ : ∀ x ∈ ([] : List Nat), H0.size ≤ x := sx_nilZ
  have ho : o < H0.size := (hO 0 _ rfl).lt
  have hl : lv_has ls 3 [(0, .ref o), (1, .ref a0)] := hl
  refine lv_aload_n hx hb d_Ed_init_0 rfl (lv_at hl 0 rfl) ?_
  refine W.objInit hx hb hown (hts (.methodLink R_Ed 3 objectInit) (by decide +kernel)) (hts (.instanceMethod objectInit) (by decide +kernel)) (hts (.code objectInit ⟨#[0xb1]⟩ 1 none) (by decide +kernel)) rfl (by rw [hml]; exact hl.1) rfl d_Ed_init_1 (Nat.le_of_ble_eq_true rfl) (Nat.le_of_ble_eq_true rfl) ?_
  refine W.eq (g2 := F0 m 4 ls []) rfl ?_
  refine lv_aload_n hx hb d_Ed_init_4 rfl (lv_at hl 0 rfl) ?_
  have hz := hS.1.1
  refine sx_newo (ci := 4) (fs := [.null, .null, .null, .null]) (cells' := 1) (slots' := 4) EE rfl i_Pt t_Pt tok_Pt nw_Ed_9 (by decide) rfl rfl (Nat.le_of_ble_eq_true rfl) (Nat.le_of_ble_eq_true rfl) d_Ed_init_5 (fun q5 H5 e0 hN s0 k1 => ?_)
  have z_q5 : H0.size ≤ q5 := e0 ▸ hz
  have hZ := sx_consZ hZ z_q5
  refine lv_dup hx hb d_Ed_init_8 rfl ?_
  refine sx_gI (E' := fun z => z = q5 ∨ Array.size H5 ≤ z) (P := fun H => ∃ r : Nat → Nat, va_P D classes [(q5, .inr (4, [.ref (r 0), .ref (r 1), .ref (r 2), .ref (r 3)]))] H ∧ sx_AR g H [(r 0, .long, 10), (r 1, .long, 10), (r 2, .long, 10), (r 3, .long, 10)] ∧ (∀ k, Array.size H5 ≤ r k)) (F := E) (mc := 4) (ms := 40) (cells' := 5) (slots' := 44) (sx_runIN (As := []) (rest := [.ref q5, .ref o]) EE (c_Pt_init (E := fun z => z = q5 ∨ Array.size H5 ≤ z) (Or.inl rfl) (fun z h => Or.inr h) hN) il_Ed_11 iw_Ed_11 rfl rfl ⟨rfl, rfl⟩ ⟨Nat.le_of_ble_eq_true rfl, Nat.le_of_ble_eq_true rfl⟩ ⟨Nat.le_of_ble_eq_true rfl, Nat.le_of_ble_eq_true rfl⟩ hl.1 rfl (Nat.le_of_ble_eq_true rfl) d_Ed_init_9) (fun z h => hEn _ (by rcases h with h | h <;> omega)) hS.2.2 rfl rfl (fun H9 locs hJc hPc hlo => ?_)
  have hk := sx_J.news e0 k1 (by omega) hJc (fun _ h => h)
  have hJ : sx_J g E H0 H9 := (sx_J.grow (by omega) k1).tr (hJc.mono (fun z h => hEn _ (by rcases h with h | h <;> omega)))
  have hS : sx_S g E E H0 H9 locs := ⟨hS.1.tr hJ, fun _ h => h, hlo⟩
  have hA := hA.kept hJ
  have hO := hO.grown hk
  refine sx_putF EE hin hO rfl i_Ed t_Ed tok_Ed n_Ed 1 (by decide) rfl fl_Ed_12 (ty := t_Ed 1) (by decide +kernel) rfl rfl (Nat.le_of_ble_eq_true rfl) hEo hS d_Ed_init_12 (fun H12 locs hO hJ hs hS => ?_)
  have hA := hA.kept hJ
  have hO : va_P D classes [(o, .inr (6, [.null, .ref q5, .null, .null, .null, .null, .null, .null, .null, .null, .null, .null, .null, .null, .null]))] H12 := hO
  refine lv_aload_n hx hb d_Ed_init_15 rfl (lv_at hl 0 rfl) ?_
  have hz := hS.1.1
  refine sx_newo (ci := 4) (fs := [.null, .null, .null, .null]) (cells' := 6) (slots' := 48) EE rfl i_Pt t_Pt tok_Pt nw_Ed_9 (by decide) rfl rfl (Nat.le_of_ble_eq_true rfl) (Nat.le_of_ble_eq_true rfl) d_Ed_init_16 (fun q16 H16 e0 hN s0 k1 => ?_)
  have z_q16 : H0.size ≤ q16 := e0 ▸ hz
  have hZ := sx_consZ hZ z_q16
  refine lv_dup hx hb d_Ed_init_19 rfl ?_
  refine sx_gI (E' := fun z => z = q16 ∨ Array.size H16 ≤ z) (P := fun H => ∃ r : Nat → Nat, va_P D classes [(q16, .inr (4, [.ref (r 0), .ref (r 1), .ref (r 2), .ref (r 3)]))] H ∧ sx_AR g H [(r 0, .long, 10), (r 1, .long, 10), (r 2, .long, 10), (r 3, .long, 10)] ∧ (∀ k, Array.size H16 ≤ r k)) (F := E) (mc := 4) (ms := 40) (cells' := 10) (slots' := 88) (sx_runIN (As := []) (rest := [.ref q16, .ref o]) EE (c_Pt_init (E := fun z => z = q16 ∨ Array.size H16 ≤ z) (Or.inl rfl) (fun z h => Or.inr h) hN) il_Ed_11 iw_Ed_11 rfl rfl ⟨rfl, rfl⟩ ⟨Nat.le_of_ble_eq_true rfl, Nat.le_of_ble_eq_true rfl⟩ ⟨Nat.le_of_ble_eq_true rfl, Nat.le_of_ble_eq_true rfl⟩ hl.1 rfl (Nat.le_of_ble_eq_true rfl) d_Ed_init_20) (fun z h => hEn _ (by rcases h with h | h <;> omega)) hS.2.2 rfl rfl (fun H20 locs hJc hPc hlo => ?_)
  have hk := sx_J.news e0 k1 (by omega) hJc (fun _ h => h)
  have hJ : sx_J g E H12 H20 := (sx_J.grow (by omega) k1).tr (hJc.mono (fun z h => hEn _ (by rcases h with h | h <;> omega)))
  have hS : sx_S g E E H0 H20 locs := ⟨hS.1.tr hJ, fun _ h => h, hlo⟩
  have hA := hA.kept hJ
  have hO := hO.grown hk
  obtain ⟨rF, pF, aF, bF⟩ := hPc
  have hF : o4_ D g H20 4 q16 rF := o4_.of pF aF
  have bF : ∀ k, H0.size ≤ rF k := fun k => Nat.le_trans (Nat.le_trans z_q16 (by omega)) (bF k)
  refine sx_putF EE hin hO rfl i_Ed t_Ed tok_Ed n_Ed 2 (by decide) rfl fl_Ed_18 (ty := t_Ed 2) (by decide +kernel) rfl rfl (Nat.le_of_ble_eq_true rfl) hEo hS d_Ed_init_23 (fun H23 locs hO hJ hs hS => ?_)
  have hA := hA.kept hJ
  have hO : va_P D classes [(o, .inr (6, [.null, .ref q5, .ref q16, .null, .null, .null, .null, .null, .null, .null, .null, .null, .null, .null, .null]))] H23 := hO
  have hF := hF.put hJ hs (Nat.ne_of_gt (Nat.lt_of_lt_of_le ho z_q16))
  refine lv_aload_n hx hb d_Ed_init_26 rfl (lv_at hl 0 rfl) ?_
  refine lv_bipush (v := nI 16) hx hb d_Ed_init_27 (by decide +kernel) ?_
  have hz := hS.1.1
  have lF := (hF.1 0 _ rfl).lt
  refine sx_newr (C := R_Ad) (cells' := 11) (slots' := 104) EE (by decide +kernel) hK.2.2.2.2.2.1 (by decide) (by decide) rfl rfl (Nat.le_of_ble_eq_true rfl) (Nat.le_of_ble_eq_true rfl) hS d_Ed_init_29 (fun q29 H29 e0 y_q29 hJ hk hS => ?_)
  have hA := hA.kept hJ
  have hO := hO.grown hk
  have hF := hF.grown hJ.1 hk
  have z_q29 : H0.size ≤ q29 := e0 ▸ hz
  have v_q29 : q16 < q29 := e0 ▸ lF
  have hZ := sx_consZ hZ z_q29
  refine sx_putF EE hin hO rfl i_Ed t_Ed tok_Ed n_Ed 3 (by decide) rfl fl_Ed_23 (ty := t_Ed 3) (by decide +kernel) rfl rfl (Nat.le_of_ble_eq_true rfl) hEo hS d_Ed_init_32 (fun H32 locs hO hJ hs hS => ?_)
  have hA := hA.kept hJ
  have hO : va_P D classes [(o, .inr (6, [.null, .ref q5, .ref q16, .ref q29, .null, .null, .null, .null, .null, .null, .null, .null, .null, .null, .null]))] H32 := hO
  have hF := hF.put hJ hs (Nat.ne_of_gt (Nat.lt_of_lt_of_le ho z_q16))
  have y_q29 := y_q29.kept (hs _ (Nat.ne_of_gt (Nat.lt_of_lt_of_le ho z_q29)))
  refine lv_aload_n hx hb d_Ed_init_35 rfl (lv_at hl 0 rfl) ?_
  refine lv_bipush (v := nI 16) hx hb d_Ed_init_36 (by decide +kernel) ?_
  have hz := hS.1.1
  have lF := (hF.1 0 _ rfl).lt
  have l29 := y_q29.lt
  refine sx_newr (C := R_Ad) (cells' := 12) (slots' := 120) EE (by decide +kernel) hK.2.2.2.2.2.1 (by decide) (by decide) rfl rfl (Nat.le_of_ble_eq_true rfl) (Nat.le_of_ble_eq_true rfl) hS d_Ed_init_38 (fun q38 H38 e0 y_q38 hJ hk hS => ?_)
  have hA := hA.kept hJ
  have hO := hO.grown hk
  have hF := hF.grown hJ.1 hk
  have y_q29 := y_q29.grown hk
  have z_q38 : H0.size ≤ q38 := e0 ▸ hz
  have v_q38 : q16 < q38 := e0 ▸ lF
  have u_q38 : q29 < q38 := e0 ▸ l29
  have hZ := sx_consZ hZ z_q38
  refine sx_putF EE hin hO rfl i_Ed t_Ed tok_Ed n_Ed 4 (by decide) rfl fl_Ed_27 (ty := t_Ed 4) (by decide +kernel) rfl rfl (Nat.le_of_ble_eq_true rfl) hEo hS d_Ed_init_41 (fun H41 locs hO hJ hs hS => ?_)
  have hA := hA.kept hJ
  have hO : va_P D classes [(o, .inr (6, [.null, .ref q5, .ref q16, .ref q29, .ref q38, .null, .null, .null, .null, .null, .null, .null, .null, .null, .null]))] H41 := hO
  have hF := hF.put hJ hs (Nat.ne_of_gt (Nat.lt_of_lt_of_le ho z_q16))
  have y_q29 := y_q29.kept (hs _ (Nat.ne_of_gt (Nat.lt_of_lt_of_le ho z_q29)))
  have y_q38 := y_q38.kept (hs _ (Nat.ne_of_gt (Nat.lt_of_lt_of_le ho z_q38)))
  refine lv_aload_n hx hb d_Ed_init_44 rfl (lv_at hl 0 rfl) ?_
  refine lv_bipush (v := nI 32) hx hb d_Ed_init_45 (by decide +kernel) ?_
  have hz := hS.1.1
  refine sx_newa (cells' := 13) (slots' := 152) hx hb hG hts rfl (Or.inr (Or.inl rfl)) (by decide +kernel) (by decide) (by decide) rfl rfl (Nat.le_of_ble_eq_true rfl) (Nat.le_of_ble_eq_true rfl) hS d_Ed_init_47 (fun q47 H47 e0 a0' l0 y0 hJ hk hS => ?_)
  have hA := hA.kept hJ
  have hO := hO.grown hk
  have hF := hF.grown hJ.1 hk
  have y_q29 := y_q29.grown hk
  have y_q38 := y_q38.grown hk
  have hA : sx_AR g H47 [(q47, .byte, 32)] := hA.cons a0' l0
  have z_q47 : H0.size ≤ q47 := e0 ▸ hz
  have hZ := sx_consZ hZ z_q47
  refine sx_putF EE hin hO rfl i_Ed t_Ed tok_Ed n_Ed 5 (by decide) rfl fl_Ed_30 (ty := t_Ed 5) (by decide +kernel) rfl rfl (Nat.le_of_ble_eq_true rfl) hEo hS d_Ed_init_49 (fun H49 locs hO hJ hs hS => ?_)
  have hA := hA.kept hJ
  have hO : va_P D classes [(o, .inr (6, [.null, .ref q5, .ref q16, .ref q29, .ref q38, .ref q47, .null, .null, .null, .null, .null, .null, .null, .null, .null]))] H49 := hO
  have hF := hF.put hJ hs (Nat.ne_of_gt (Nat.lt_of_lt_of_le ho z_q16))
  have y_q29 := y_q29.kept (hs _ (Nat.ne_of_gt (Nat.lt_of_lt_of_le ho z_q29)))
  have y_q38 := y_q38.kept (hs _ (Nat.ne_of_gt (Nat.lt_of_lt_of_le ho z_q38)))
  refine lv_aload_n hx hb d_Ed_init_52 rfl (lv_at hl 0 rfl) ?_
  refine lv_bipush (v := nI 32) hx hb d_Ed_init_53 (by decide +kernel) ?_
  have hz := hS.1.1
  refine sx_newa (cells' := 14) (slots' := 184) hx hb hG hts rfl (Or.inr (Or.inl rfl)) (by decide +kernel) (by decide) (by decide) rfl rfl (Nat.le_of_ble_eq_true rfl) (Nat.le_of_ble_eq_true rfl) hS d_Ed_init_55 (fun q55 H55 e0 a0' l0 y0 hJ hk hS => ?_)
  have hA := hA.kept hJ
  have hO := hO.grown hk
  have hF := hF.grown hJ.1 hk
  have y_q29 := y_q29.grown hk
  have y_q38 := y_q38.grown hk
  have hA : sx_AR g H55 [(q55, .byte, 32), (q47, .byte, 32)] := hA.cons a0' l0
  have z_q55 : H0.size ≤ q55 := e0 ▸ hz
  have hZ := sx_consZ hZ z_q55
  refine sx_putF EE hin hO rfl i_Ed t_Ed tok_Ed n_Ed 6 (by decide) rfl fl_Ed_34 (ty := t_Ed 6) (by decide +kernel) rfl rfl (Nat.le_of_ble_eq_true rfl) hEo hS d_Ed_init_57 (fun H57 locs hO hJ hs hS => ?_)
  have hA := hA.kept hJ
  have hO : va_P D classes [(o, .inr (6, [.null, .ref q5, .ref q16, .ref q29, .ref q38, .ref q47, .ref q55, .null, .null, .null, .null, .null, .null, .null, .null]))] H57 := hO
  have hF := hF.put hJ hs (Nat.ne_of_gt (Nat.lt_of_lt_of_le ho z_q16))
  have y_q29 := y_q29.kept (hs _ (Nat.ne_of_gt (Nat.lt_of_lt_of_le ho z_q29)))
  have y_q38 := y_q38.kept (hs _ (Nat.ne_of_gt (Nat.lt_of_lt_of_le ho z_q38)))
  refine lv_aload_n hx hb d_Ed_init_60 rfl (lv_at hl 0 rfl) ?_
  refine lv_bipush (v := nI 10) hx hb d_Ed_init_61 (by decide +kernel) ?_
  have hz := hS.1.1
  refine sx_newa (cells' := 15) (slots' := 194) hx hb hG hts rfl (Or.inl rfl) (by decide +kernel) (by decide) (by decide) rfl rfl (Nat.le_of_ble_eq_true rfl) (Nat.le_of_ble_eq_true rfl) hS d_Ed_init_63 (fun q63 H63 e0 a0' l0 y0 hJ hk hS => ?_)
  have hA := hA.kept hJ
  have hO := hO.grown hk
  have hF := hF.grown hJ.1 hk
  have y_q29 := y_q29.grown hk
  have y_q38 := y_q38.grown hk
  have hA : sx_AR g H63 [(q63, .long, 10), (q55, .byte, 32), (q47, .byte, 32)] := hA.cons a0' l0
  have z_q63 : H0.size ≤ q63 := e0 ▸ hz
  have hZ := sx_consZ hZ z_q63
  refine sx_putF EE hin hO rfl i_Ed t_Ed tok_Ed n_Ed 7 (by decide) rfl fl_Ed_39 (ty := t_Ed 7) (by decide +kernel) rfl rfl (Nat.le_of_ble_eq_true rfl) hEo hS d_Ed_init_65 (fun H65 locs hO hJ hs hS => ?_)
  have hA := hA.kept hJ
  have hO : va_P D classes [(o, .inr (6, [.null, .ref q5, .ref q16, .ref q29, .ref q38, .ref q47, .ref q55, .ref q63, .null, .null, .null, .null, .null, .null, .null]))] H65 := hO
  have hF := hF.put hJ hs (Nat.ne_of_gt (Nat.lt_of_lt_of_le ho z_q16))
  have y_q29 := y_q29.kept (hs _ (Nat.ne_of_gt (Nat.lt_of_lt_of_le ho z_q29)))
  have y_q38 := y_q38.kept (hs _ (Nat.ne_of_gt (Nat.lt_of_lt_of_le ho z_q38)))
  refine lv_aload_n hx hb d_Ed_init_68 rfl (lv_at hl 0 rfl) ?_
  refine lv_bipush (v := nI 10) hx hb d_Ed_init_69 (by decide +kernel) ?_
  have hz := hS.1.1
  refine sx_newa (cells' := 16) (slots' := 204) hx hb hG hts rfl (Or.inl rfl) (by decide +kernel) (by decide) (by decide) rfl rfl (Nat.le_of_ble_eq_true rfl) (Nat.le_of_ble_eq_true rfl) hS d_Ed_init_71 (fun q71 H71 e0 a0' l0 y0 hJ hk hS => ?_)
  have hA := hA.kept hJ
  have hO := hO.grown hk
  have hF := hF.grown hJ.1 hk
  have y_q29 := y_q29.grown hk
  have y_q38 := y_q38.grown hk
  have hA : sx_AR g H71 [(q71, .long, 10), (q63, .long, 10), (q55, .byte, 32), (q47, .byte, 32)] := hA.cons a0' l0
  have z_q71 : H0.size ≤ q71 := e0 ▸ hz
  have hZ := sx_consZ hZ z_q71
  refine sx_putF EE hin hO rfl i_Ed t_Ed tok_Ed n_Ed 8 (by decide) rfl fl_Ed_43 (ty := t_Ed 8) (by decide +kernel) rfl rfl (Nat.le_of_ble_eq_true rfl) hEo hS d_Ed_init_73 (fun H73 locs hO hJ hs hS => ?_)
  have hA := hA.kept hJ
  have hO : va_P D classes [(o, .inr (6, [.null, .ref q5, .ref q16, .ref q29, .ref q38, .ref q47, .ref q55, .ref q63, .ref q71, .null, .null, .null, .null, .null, .null]))] H73 := hO
  have hF := hF.put hJ hs (Nat.ne_of_gt (Nat.lt_of_lt_of_le ho z_q16))
  have y_q29 := y_q29.kept (hs _ (Nat.ne_of_gt (Nat.lt_of_lt_of_le ho z_q29)))
  have y_q38 := y_q38.kept (hs _ (Nat.ne_of_gt (Nat.lt_of_lt_of_le ho z_q38)))
  refine lv_aload_n hx hb d_Ed_init_76 rfl (lv_at hl 0 rfl) ?_
  refine lv_bipush (v := nI 10) hx hb d_Ed_init_77 (by decide +kernel) ?_
  have hz := hS.1.1
  refine sx_newa (cells' := 17) (slots' := 214) hx hb hG hts rfl (Or.inl rfl) (by decide +kernel) (by decide) (by decide) rfl rfl (Nat.le_of_ble_eq_true rfl) (Nat.le_of_ble_eq_true rfl) hS d_Ed_init_79 (fun q79 H79 e0 a0' l0 y0 hJ hk hS => ?_)
  have hA := hA.kept hJ
  have hO := hO.grown hk
  have hF := hF.grown hJ.1 hk
  have y_q29 := y_q29.grown hk
  have y_q38 := y_q38.grown hk
  have hA : sx_AR g H79 [(q79, .long, 10), (q71, .long, 10), (q63, .long, 10), (q55, .byte, 32), (q47, .byte, 32)] := hA.cons a0' l0
  have z_q79 : H0.size ≤ q79 := e0 ▸ hz
  have hZ := sx_consZ hZ z_q79
  refine sx_putF EE hin hO rfl i_Ed t_Ed tok_Ed n_Ed 9 (by decide) rfl fl_Ed_46 (ty := t_Ed 9) (by decide +kernel) rfl rfl (Nat.le_of_ble_eq_true rfl) hEo hS d_Ed_init_81 (fun H81 locs hO hJ hs hS => ?_)
  have hA := hA.kept hJ
  have hO : va_P D classes [(o, .inr (6, [.null, .ref q5, .ref q16, .ref q29, .ref q38, .ref q47, .ref q55, .ref q63, .ref q71, .ref q79, .null, .null, .null, .null, .null]))] H81 := hO
  have hF := hF.put hJ hs (Nat.ne_of_gt (Nat.lt_of_lt_of_le ho z_q16))
  have y_q29 := y_q29.kept (hs _ (Nat.ne_of_gt (Nat.lt_of_lt_of_le ho z_q29)))
  have y_q38 := y_q38.kept (hs _ (Nat.ne_of_gt (Nat.lt_of_lt_of_le ho z_q38)))
  refine lv_aload_n hx hb d_Ed_init_84 rfl (lv_at hl 0 rfl) ?_
  refine lv_bipush (v := nI 10) hx hb d_Ed_init_85 (by decide +kernel) ?_
  have hz := hS.1.1
  refine sx_newa (cells' := 18) (slots' := 224) hx hb hG hts rfl (Or.inl rfl) (by decide +kernel) (by decide) (by decide) rfl rfl (Nat.le_of_ble_eq_true rfl) (Nat.le_of_ble_eq_true rfl) hS d_Ed_init_87 (fun q87 H87 e0 a0' l0 y0 hJ hk hS => ?_)
  have hA := hA.kept hJ
  have hO := hO.grown hk
  have hF := hF.grown hJ.1 hk
  have y_q29 := y_q29.grown hk
  have y_q38 := y_q38.grown hk
  have hA : sx_AR g H87 [(q87, .long, 10), (q79, .long, 10), (q71, .long, 10), (q63, .long, 10), (q55, .byte, 32), (q47, .byte, 32)] := hA.cons a0' l0
  have z_q87 : H0.size ≤ q87 := e0 ▸ hz
  have hZ := sx_consZ hZ z_q87
  refine sx_putF EE hin hO rfl i_Ed t_Ed tok_Ed n_Ed 10 (by decide) rfl fl_Ed_49 (ty := t_Ed 10) (by decide +kernel) rfl rfl (Nat.le_of_ble_eq_true rfl) hEo hS d_Ed_init_89 (fun H89 locs hO hJ hs hS => ?_)
  have hA := hA.kept hJ
  have hO : va_P D classes [(o, .inr (6, [.null, .ref q5, .ref q16, .ref q29, .ref q38, .ref q47, .ref q55, .ref q63, .ref q71, .ref q79, .ref q87, .null, .null, .null, .null]))] H89 := hO
  have hF := hF.put hJ hs (Nat.ne_of_gt (Nat.lt_of_lt_of_le ho z_q16))
  have y_q29 := y_q29.kept (hs _ (Nat.ne_of_gt (Nat.lt_of_lt_of_le ho z_q29)))
  have y_q38 := y_q38.kept (hs _ (Nat.ne_of_gt (Nat.lt_of_lt_of_le ho z_q38)))
  refine lv_aload_n hx hb d_Ed_init_92 rfl (lv_at hl 0 rfl) ?_
  refine lv_bipush (v := nI 10) hx hb d_Ed_init_93 (by decide +kernel) ?_
  have hz := hS.1.1
  refine sx_newa (cells' := 19) (slots' := 234) hx hb hG hts rfl (Or.inl rfl) (by decide +kernel) (by decide) (by decide) rfl rfl (Nat.le_of_ble_eq_true rfl) (Nat.le_of_ble_eq_true rfl) hS d_Ed_init_95 (fun q95 H95 e0 a0' l0 y0 hJ hk hS => ?_)
  have hA := hA.kept hJ
  have hO := hO.grown hk
  have hF := hF.grown hJ.1 hk
  have y_q29 := y_q29.grown hk
  have y_q38 := y_q38.grown hk
  have hA : sx_AR g H95 [(q95, .long, 10), (q87, .long, 10), (q79, .long, 10), (q71, .long, 10), (q63, .long, 10), (q55, .byte, 32), (q47, .byte, 32)] := hA.cons a0' l0
  have z_q95 : H0.size ≤ q95 := e0 ▸ hz
  have hZ := sx_consZ hZ z_q95
  refine sx_putF EE hin hO rfl i_Ed t_Ed tok_Ed n_Ed 11 (by decide) rfl fl_Ed_52 (ty := t_Ed 11) (by decide +kernel) rfl rfl (Nat.le_of_ble_eq_true rfl) hEo hS d_Ed_init_97 (fun H97 locs hO hJ hs hS => ?_)
  have hA := hA.kept hJ
  have hO : va_P D classes [(o, .inr (6, [.null, .ref q5, .ref q16, .ref q29, .ref q38, .ref q47, .ref q55, .ref q63, .ref q71, .ref q79, .ref q87, .ref q95, .null, .null, .null]))] H97 := hO
  have hF := hF.put hJ hs (Nat.ne_of_gt (Nat.lt_of_lt_of_le ho z_q16))
  have y_q29 := y_q29.kept (hs _ (Nat.ne_of_gt (Nat.lt_of_lt_of_le ho z_q29)))
  have y_q38 := y_q38.kept (hs _ (Nat.ne_of_gt (Nat.lt_of_lt_of_le ho z_q38)))
  refine lv_aload_n hx hb d_Ed_init_100 rfl (lv_at hl 0 rfl) ?_
  refine lv_bipush (v := nI 10) hx hb d_Ed_init_101 (by decide +kernel) ?_
  have hz := hS.1.1
  refine sx_newa (cells' := 20) (slots' := 244) hx hb hG hts rfl (Or.inl rfl) (by decide +kernel) (by decide) (by decide) rfl rfl (Nat.le_of_ble_eq_true rfl) (Nat.le_of_ble_eq_true rfl) hS d_Ed_init_103 (fun q103 H103 e0 a0' l0 y0 hJ hk hS => ?_)
  have hA := hA.kept hJ
  have hO := hO.grown hk
  have hF := hF.grown hJ.1 hk
  have y_q29 := y_q29.grown hk
  have y_q38 := y_q38.grown hk
  have hA : sx_AR g H103 [(q103, .long, 10), (q95, .long, 10), (q87, .long, 10), (q79, .long, 10), (q71, .long, 10), (q63, .long, 10), (q55, .byte, 32), (q47, .byte, 32)] := hA.cons a0' l0
  have z_q103 : H0.size ≤ q103 := e0 ▸ hz
  have hZ := sx_consZ hZ z_q103
  refine sx_putF EE hin hO rfl i_Ed t_Ed tok_Ed n_Ed 12 (by decide) rfl fl_Ed_55 (ty := t_Ed 12) (by decide +kernel) rfl rfl (Nat.le_of_ble_eq_true rfl) hEo hS d_Ed_init_105 (fun H105 locs hO hJ hs hS => ?_)
  have hA := hA.kept hJ
  have hO : va_P D classes [(o, .inr (6, [.null, .ref q5, .ref q16, .ref q29, .ref q38, .ref q47, .ref q55, .ref q63, .ref q71, .ref q79, .ref q87, .ref q95, .ref q103, .null, .null]))] H105 := hO
  have hF := hF.put hJ hs (Nat.ne_of_gt (Nat.lt_of_lt_of_le ho z_q16))
  have y_q29 := y_q29.kept (hs _ (Nat.ne_of_gt (Nat.lt_of_lt_of_le ho z_q29)))
  have y_q38 := y_q38.kept (hs _ (Nat.ne_of_gt (Nat.lt_of_lt_of_le ho z_q38)))
  refine lv_aload_n hx hb d_Ed_init_108 rfl (lv_at hl 0 rfl) ?_
  refine lv_bipush (v := nI 10) hx hb d_Ed_init_109 (by decide +kernel) ?_
  have hz := hS.1.1
  refine sx_newa (cells' := 21) (slots' := 254) hx hb hG hts rfl (Or.inl rfl) (by decide +kernel) (by decide) (by decide) rfl rfl (Nat.le_of_ble_eq_true rfl) (Nat.le_of_ble_eq_true rfl) hS d_Ed_init_111 (fun q111 H111 e0 a0' l0 y0 hJ hk hS => ?_)
  have hA := hA.kept hJ
  have hO := hO.grown hk
  have hF := hF.grown hJ.1 hk
  have y_q29 := y_q29.grown hk
  have y_q38 := y_q38.grown hk
  have hA : sx_AR g H111 [(q111, .long, 10), (q103, .long, 10), (q95, .long, 10), (q87, .long, 10), (q79, .long, 10), (q71, .long, 10), (q63, .long, 10), (q55, .byte, 32), (q47, .byte, 32)] := hA.cons a0' l0
  have z_q111 : H0.size ≤ q111 := e0 ▸ hz
  have hZ := sx_consZ hZ z_q111
  refine sx_putF EE hin hO rfl i_Ed t_Ed tok_Ed n_Ed 13 (by decide) rfl fl_Ed_58 (ty := t_Ed 13) (by decide +kernel) rfl rfl (Nat.le_of_ble_eq_true rfl) hEo hS d_Ed_init_113 (fun H113 locs hO hJ hs hS => ?_)
  have hA := hA.kept hJ
  have hO : va_P D classes [(o, .inr (6, [.null, .ref q5, .ref q16, .ref q29, .ref q38, .ref q47, .ref q55, .ref q63, .ref q71, .ref q79, .ref q87, .ref q95, .ref q103, .ref q111, .null]))] H113 := hO
  have hF := hF.put hJ hs (Nat.ne_of_gt (Nat.lt_of_lt_of_le ho z_q16))
  have y_q29 := y_q29.kept (hs _ (Nat.ne_of_gt (Nat.lt_of_lt_of_le ho z_q29)))
  have y_q38 := y_q38.kept (hs _ (Nat.ne_of_gt (Nat.lt_of_lt_of_le ho z_q38)))
  refine lv_aload_n hx hb d_Ed_init_116 rfl (lv_at hl 0 rfl) ?_
  refine lv_bipush (v := nI 10) hx hb d_Ed_init_117 (by decide +kernel) ?_
  have hz := hS.1.1
  refine sx_newa (cells' := 22) (slots' := 264) hx hb hG hts rfl (Or.inl rfl) (by decide +kernel) (by decide) (by decide) rfl rfl (Nat.le_of_ble_eq_true rfl) (Nat.le_of_ble_eq_true rfl) hS d_Ed_init_119 (fun q119 H119 e0 a0' l0 y0 hJ hk hS => ?_)
  have hA := hA.kept hJ
  have hO := hO.grown hk
  have hF := hF.grown hJ.1 hk
  have y_q29 := y_q29.grown hk
  have y_q38 := y_q38.grown hk
  have hA : sx_AR g H119 [(q119, .long, 10), (q111, .long, 10), (q103, .long, 10), (q95, .long, 10), (q87, .long, 10), (q79, .long, 10), (q71, .long, 10), (q63, .long, 10), (q55, .byte, 32), (q47, .byte, 32)] := hA.cons a0' l0
  have z_q119 : H0.size ≤ q119 := e0 ▸ hz
  have hZ := sx_consZ hZ z_q119
  refine sx_putF EE hin hO rfl i_Ed t_Ed tok_Ed n_Ed 14 (by decide) rfl fl_Ed_61 (ty := t_Ed 14) (by decide +kernel) rfl rfl (Nat.le_of_ble_eq_true rfl) hEo hS d_Ed_init_121 (fun H121 locs hO hJ hs hS => ?_)
  have hA := hA.kept hJ
  have hO : va_P D classes [(o, .inr (6, [.null, .ref q5, .ref q16, .ref q29, .ref q38, .ref q47, .ref q55, .ref q63, .ref q71, .ref q79, .ref q87, .ref q95, .ref q103, .ref q111, .ref q119]))] H121 := hO
  have hF := hF.put hJ hs (Nat.ne_of_gt (Nat.lt_of_lt_of_le ho z_q16))
  have y_q29 := y_q29.kept (hs _ (Nat.ne_of_gt (Nat.lt_of_lt_of_le ho z_q29)))
  have y_q38 := y_q38.kept (hs _ (Nat.ne_of_gt (Nat.lt_of_lt_of_le ho z_q38)))
  refine lv_aload_n hx hb d_Ed_init_124 rfl (lv_at hl 0 rfl) ?_
  refine lv_aload_n hx hb d_Ed_init_125 rfl (lv_at hl 1 rfl) ?_
  refine sx_putF EE hin hO rfl i_Ed t_Ed tok_Ed n_Ed 0 (by decide) rfl fl_Ed_64 (ty := t_Ed 0) (by decide +kernel) rfl rfl (Nat.le_of_ble_eq_true rfl) hEo hS d_Ed_init_126 (fun H126 locs hO hJ hs hS => ?_)
  have hA := hA.kept hJ
  have hO : va_P D classes [(o, .inr (6, [.ref a0, .ref q5, .ref q16, .ref q29, .ref q38, .ref q47, .ref q55, .ref q63, .ref q71, .ref q79, .ref q87, .ref q95, .ref q103, .ref q111, .ref q119]))] H126 := hO
  have hF := hF.put hJ hs (Nat.ne_of_gt (Nat.lt_of_lt_of_le ho z_q16))
  have y_q29 := y_q29.kept (hs _ (Nat.ne_of_gt (Nat.lt_of_lt_of_le ho z_q29)))
  have y_q38 := y_q38.kept (hs _ (Nat.ne_of_gt (Nat.lt_of_lt_of_le ho z_q38)))
  refine lv_iconst (v := nI 0) hx hb d_Ed_init_129 (by decide +kernel) ?_
  refine lv_istore_n (lv' := [(2, .int (nI 0)), (0, .ref o), (1, .ref a0)]) hx hb d_Ed_init_130 rfl hl (by decide) rfl (fun ls hl => ?_)
  obtain ⟨r, hr⟩ : ∃ r : Nat → Nat, r = fun k => ([a0, q5, q16, q29, q38, q47, q55, q63, q71, q79, q87, q95, q103, q111, q119] : List Nat).getD k H0.size := ⟨_, rfl⟩
  have hO : va_P D classes [(o, .inr (6, [.ref (r 0), .ref (r 1), .ref (r 2), .ref (r 3), .ref (r 4), .ref (r 5), .ref (r 6), .ref (r 7), .ref (r 8), .ref (r 9), .ref (r 10), .ref (r 11), .ref (r 12), .ref (r 13), .ref (r 14)]))] H126 := by rw [hr]; exact hO
  have hbd : ∀ k, 1 ≤ k → k < 15 → H0.size ≤ r k := by
    intro k h1 h2
    rw [hr]
    rcases (show k = 1 ∨ k = 2 ∨ k = 3 ∨ k = 4 ∨ k = 5 ∨ k = 6 ∨ k = 7 ∨ k = 8 ∨ k = 9 ∨ k = 10 ∨ k = 11 ∨ k = 12 ∨ k = 13 ∨ k = 14 by omega) with rfl | rfl | rfl | rfl | rfl | rfl | rfl | rfl | rfl | rfl | rfl | rfl | rfl | rfl <;> assumption
  have hL : ∀ k, 7 ≤ k → k < 15 → sx_A g .long H126 (r k) 10 := by
    intro k h1 h2
    rw [hr]
    rcases (show k = 7 ∨ k = 8 ∨ k = 9 ∨ k = 10 ∨ k = 11 ∨ k = 12 ∨ k = 13 ∨ k = 14 by omega) with rfl | rfl | rfl | rfl | rfl | rfl | rfl | rfl
    · exact (hA (q63, .long, 10) (by simp)).1
    · exact (hA (q71, .long, 10) (by simp)).1
    · exact (hA (q79, .long, 10) (by simp)).1
    · exact (hA (q87, .long, 10) (by simp)).1
    · exact (hA (q95, .long, 10) (by simp)).1
    · exact (hA (q103, .long, 10) (by simp)).1
    · exact (hA (q111, .long, 10) (by simp)).1
    · exact (hA (q119, .long, 10) (by simp)).1
  have hlt := ho
  have hF : o4_ D g H126 4 (r 2) rF := by rw [hr]; exact hF
  have y3 : rf_ s R_Ad H126 (r 3) 16 (fun _ => .null) := by rw [hr]; exact y_q29
  have y4 : rf_ s R_Ad H126 (r 4) 16 (fun _ => .null) := by rw [hr]; exact y_q38
  have d23 : r 2 ≠ r 3 := by rw [hr]; exact Nat.ne_of_lt v_q29
  have d24 : r 2 ≠ r 4 := by rw [hr]; exact Nat.ne_of_lt v_q38
  have d34 : r 3 ≠ r 4 := by rw [hr]; exact Nat.ne_of_lt u_q38
  refine e_Ed_init1 (B := H0.size) (ts := ts) hS.1.1 ho hEn hbd bF d34 d23 d24 y3.lt y4.lt (hst.kept hS.1) EE (fun H2 locs2 ls pc hO2 hJ2 hlo2 hd => ?_) 16 0 _ _ ls _ _ (by omega) hO hL hF y3 y4 (fun j hj => absurd hj (Nat.not_lt_zero _)) (Nat.le_refl _) sx_J.rf hS.2.2 (lv_sub hl [0, 1] rfl)
  refine hret H2 locs2 ls pc ⟨r, ?_, (fun z hz => by cases hz), ?_⟩ (hS.1.tr hJ2) hlo2 hd
  · have e0 : r 0 = a0 := by rw [hr]; rfl
    rw [e0] at hO2
    exact hO2
  · trivial
