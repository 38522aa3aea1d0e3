/-! what the class's methods leave: values and frames together -/
def kvar (p : Nat × Nat) : Bool := !((p.1 == 2 && p.2 == 5) || (p.1 == 1 && p.2 == 2) || (Nat.ble 16 p.1 && Nat.blt p.1 32))
def KV (kq : Nat → Nat → Nat) (O : Nat → Prop) (z : Nat) : Prop := (∃ p ∈ kc_ix, kvar p = true ∧ z = kq p.1 p.2) ∨ O z
section CVL
variable {X Y : vM} {kq : Nat → Nat → Nat} {ts : Nat → Nat} {O : Nat → Prop}
theorem KV.of (c k : Nat) (h : kin (c, k) = true) (hv : kvar (c, k) = true) : KV kq O (kq c k) := Or.inl ⟨(c, k), kin_ix h, hv, rfl⟩
theorem KV.n (hI : KInj kq) (hO : ∀ z, O z → Out kq z) (c k : Nat) (h : kin (c, k) = true) (hv : kvar (c, k) = false) : ¬ KV kq O (kq c k) := by
  rintro (⟨p, hp, h1, e⟩ | h1)
  · have e2 := hI (c, k) (kin_ix h) p hp e
    rw [← e2, hv] at h1
    cases h1
  · exact hO _ h1 (c, k) (kin_ix h) rfl
theorem KV.o {a : Nat} (ho : Out kq a) (h : ¬ O a) : ¬ KV kq O a := by
  rintro (⟨p, hp, -, e⟩ | h1)
  · exact ho p hp e
  · exact h h1
theorem Cx.kv (hI : KInj kq) (h : Cx X kq ts) (o : onP (KV kq O) X Y) (hO : ∀ z, O z → OutX kq ts z) : Cx Y kq ts := by
  obtain ⟨h1, h2, h3, h4, h5, h6, h7⟩ := h
  have hO1 : ∀ z, O z → Out kq z := fun z hz => (hO z hz).1
  have ct : ∀ k, k < 9 → Y.1 (ts k) = X.1 (ts k) := fun k hk => (o _ (KV.o (h1 k hk) (fun hm => (hO _ hm).2 k hk rfl))).1
  refine ⟨h1, h2.mv (ct 3 (by decide)), h3.mv (ct 4 (by decide)), fun j hj => by rw [ct 6 (by decide)]; exact h4 j hj, fun j hj => by rw [(o _ (KV.n hI hO1 2 5 rfl rfl)).2]; exact h5 j hj, fun j j1 j2 => ?_, by rw [(o _ (KV.n hI hO1 1 2 rfl rfl)).2]; exact h7⟩
  have kv : ∀ j, j < 16 → ∀ k, k < 4 → (kin (16 + j, k) && !kvar (16 + j, k)) = true := by decide +kernel
  have ck : ∀ k, k < 4 → Y.1 (kq (16 + j) k) = X.1 (kq (16 + j) k) := fun k hk => by
    have q := kv j j2 k hk
    rw [Bool.and_eq_true, Bool.not_eq_true'] at q
    exact (o _ (KV.n hI hO1 (16 + j) k q.1 q.2)).1
  obtain ⟨l, m, k, dd, w, q0, q1, q2, q3, q4⟩ := h6 j j1 j2
  exact ⟨l, m, k, dd, w, q0.mv (ck 0 (by decide)), q1.mv (ck 1 (by decide)), q2.mv (ck 2 (by decide)), q3.mv (ck 3 (by decide)), q4⟩
def kvs (l : List (Nat × Nat)) : Bool := l.all (fun p => kin p && kvar p)
theorem kvs_K {l : List (Nat × Nat)} (hl : kvs l = true) : ∀ x ∈ l.map (fun q => kq q.1 q.2), KV kq O x := fun x hx => by
  obtain ⟨p, hp, rfl⟩ := List.mem_map.mp hx
  have h := List.all_eq_true.mp hl p hp
  rw [Bool.and_eq_true] at h
  exact KV.of p.1 p.2 h.1 h.2
theorem onP.kl {l : List (Nat × Nat)} (h : onK kq l X Y) (hl : kvs l = true) : onP (KV kq O) X Y := onP.w h (kvs_K hl)
theorem onP.kc {S : List Nat} (h : onC' kq S X Y) (hO : ∀ z ∈ S, O z) : onP (KV kq O) X Y := onP.w h (fun x hx => by
  rcases List.mem_append.mp hx with hx | hx
  · exact kvs_K (l := kW) (by decide +kernel) x hx
  · exact Or.inr (hO x hx))
theorem on_clamp {K : Nat → Prop} {a : Nat} (ha : K a) : onP K X (LF_K_clamp X a) := by
  unfold LF_K_clamp
  refine onP.si ha ?_
  refine onP.si ha ?_
  refine onP.si ha ?_
  exact onP.rf
def flL : List (Nat × Nat) := [(0, 0), (0, 1), (0, 2), (0, 3), (0, 4), (0, 5), (0, 6), (1, 3), (1, 4), (1, 5), (1, 6), (1, 7), (1, 8), (1, 9), (1, 10), (1, 11)]
theorem cv_prod {to sec oth : Nat} (hI : KInj kq) (ho : oth ≠ kq 1 1) (hb : ∀ j, j < 32 → isB (X.2 sec j)) (hto : O to) : onP (KV kq O) X (LF_La_writeProduct X kq ts to sec oth) ∧ ∀ j, j < 32 → (LF_La_writeProduct X kq ts to sec oth).2 to j = xB (X.2 sec) (leN (X.2 oth) 32) j := by
  obtain ⟨Y, e, h⟩ := x_class2 (X := X) (kq := kq) (ts := ts) (to := to) (sec := sec) (oth := oth) hI ho hb
  rw [e]
  refine ⟨onP.vi (Or.inr hto) (onP.tr (Y := xS X kq sec) ?_ (onP.l h (kvs_K (l := flL) (by decide +kernel)))), fun j hj => ?_⟩
  · unfold xS
    exact (onP.ci (KV.of 1 1 rfl rfl) onP.rf).tr (on_clamp (KV.of 1 1 rfl rfl))
  · show (if to = to ∧ j < 32 then _ else _) = _
    rw [if_pos ⟨rfl, hj⟩]
    rfl
theorem cv_pub {to sec : Nat} (hI : KInj kq) (hx : Cx X kq ts) (hb : ∀ j, j < 32 → isB (X.2 sec j)) (hto : O to) : onP (KV kq O) X (LF_La_writePublicKey X kq ts to sec) ∧ ∀ j, j < 32 → (LF_La_writePublicKey X kq ts to sec).2 to j = xB (X.2 sec) 9 j := by
  have h := cv_prod (ts := ts) (to := to) (sec := sec) (oth := kq 1 2) (X := X) (O := O) hI (hI.ne (a := (1, 2)) (b := (1, 1)) rfl) hb hto
  rw [hx.2.2.2.2.2.2] at h
  exact h
theorem xB_lt (f : Nat → Int32) (u : Nat) : (xL (nbit (clN (leN f 32))) (iF ((u % 57896044618658097711785492504343953926634992332820282019728792003956564819968 : Nat) : Int))).val < 256 ^ 32 := Nat.lt_trans (Fin.isLt _) (by decide +kernel)
theorem dec_val (w : Fp) : decide (w.val = 0) = decide (w = 0) := decide_eq_decide.mpr ⟨fun e => Fin.ext e, fun e => by rw [e]; rfl⟩
theorem cv_zero {f : Nat → Int32} {u re : Nat} (h : ∀ j, j < 32 → X.2 re j = xB f u j) : LF_K_isZeroStart X re = decide (xL (nbit (clN (leN f 32))) (iF ((u % 57896044618658097711785492504343953926634992332820282019728792003956564819968 : Nat) : Int)) = 0) := by
  rw [k_zero (V := (xL (nbit (clN (leN f 32))) (iF ((u % 57896044618658097711785492504343953926634992332820282019728792003956564819968 : Nat) : Int))).val) h (xB_lt f u)]
  exact dec_val _
theorem on_chal {a b m : Nat} (hI : KInj kq) (hx : Cx X kq ts) (ha : Out kq a) (hb : Out kq b) (h7 : ∀ i, i < 32 → isB (X.2 (kq 7 7) i)) (h0 : ∀ i, i < 32 → isB (X.2 a i)) (hm : ∀ i, i < m → isB (X.2 b i)) : onP (KV kq O) X (LF_Si_hashChallenge X kq ts a b m) := by
  obtain ⟨X1, d1⟩ : ∃ t, LF_Ha_begin X kq ts = t := ⟨_, rfl⟩
  obtain ⟨⟨X2, h2, t2⟩, d2⟩ : ∃ t, LF_Ha_take X1 kq ts (kq 7 7) 32 0 0 = t := ⟨_, rfl⟩
  obtain ⟨⟨X3, h3, t3⟩, d3⟩ : ∃ t, LF_Ha_take X2 kq ts a 32 h2 t2 = t := ⟨_, rfl⟩
  obtain ⟨⟨X4, h4, t4⟩, d4⟩ : ∃ t, LF_Ha_take X3 kq ts b m h3 t3 = t := ⟨_, rfl⟩
  obtain ⟨Y, e, ho⟩ := c_sha3 (to := kq 7 3) hI hx (hI.ni (a := (7, 7)) (l := haK) rfl) (haK_o ha) (haK_o hb) (hI.ne (a := (7, 3)) (b := (5, 0)) rfl) h7 h0 hm d1 d2 d3 d4
  have f8 : LF_Si_hashChallenge X kq ts a b m = LF_Ha_finish X4 kq ts (kq 7 3) h4 t4 := by
    unfold LF_Si_hashChallenge
    simp only [d1, d2, d3, d4]
  rw [f8, e]
  exact onP.vi (KV.of 7 3 rfl rfl) (onP.kl ho (by decide +kernel))
theorem kv_row (c n : Nat) (h : ∀ k, k < n → (kin (c, k) && kvar (c, k)) = true) : ∀ k, k < n → KV kq O (kq c k) := fun k hk => by
  have := h k hk
  rw [Bool.and_eq_true] at this
  exact KV.of c k this.1 this.2
theorem kv_32 : ∀ j, j < 16 → ∀ k, k < 4 → KV kq O (kq (32 + j) k) := fun j hj => kv_row (32 + j) 4 ((by decide +kernel : ∀ j, j < 16 → ∀ k, k < 4 → (kin (32 + j, k) && kvar (32 + j, k)) = true) j hj)
theorem kv_ed : ∀ k, 7 ≤ k → k < 15 → KV kq O (edr kq k) := fun k h1 h2 => by
  rcases (show k = 7 ∨ k = 8 ∨ k = 9 ∨ k = 10 ∨ k = 11 ∨ k = 12 ∨ k = 13 ∨ k = 14 by omega) with rfl | rfl | rfl | rfl | rfl | rfl | rfl | rfl
  · exact KV.of 2 7 rfl rfl
  · exact KV.of 2 8 rfl rfl
  · exact KV.of 2 9 rfl rfl
  · exact KV.of 2 10 rfl rfl
  · exact KV.of 2 11 rfl rfl
  · exact KV.of 2 12 rfl rfl
  · exact KV.of 2 13 rfl rfl
  · exact KV.of 2 14 rfl rfl
theorem cv_judge {bt bm ml : Nat} (hI : KInj kq) (hx : Cx X kq ts) (hbt : OutX kq ts bt) (hbm : OutX kq ts bm) (hb : ∀ j, j < 96 → isB (X.2 bt j)) (hm : ∀ j, j < ml → isB (X.2 bm j)) : onP (KV kq (fun _ => False)) X (LF_Si_judge X kq ts bt bm ml).1 := by
  obtain ⟨X2, e2⟩ : ∃ t, cpI (cpI X bt 32 (kq 7 7) 0 32) bt 64 (kq 7 6) 0 32 = t := ⟨_, rfl⟩
  have o2 : onP (KV kq (fun _ => False)) X X2 := by
    rw [← e2]
    exact onP.ci (KV.of 7 6 rfl rfl) (onP.ci (KV.of 7 7 rfl rfl) onP.rf)
  have x2 := hx.kv hI o2 (fun z h => h.elim)
  have b2 : X2.2 bt = X.2 bt := (o2 bt (KV.o hbt.1 id)).2
  have m2 : X2.2 bm = X.2 bm := (o2 bm (KV.o hbm.1 id)).2
  have c2 : ∀ i, i < 32 → X2.2 (kq 7 7) i = X.2 bt (32 + i) := fun i hi => by
    rw [← e2]
    show (if kq 7 7 = kq 7 6 ∧ 0 ≤ i ∧ i < 0 + 32 then _ else (if kq 7 7 = kq 7 7 ∧ 0 ≤ i ∧ i < 0 + 32 then X.2 bt (32 + (i - 0)) else _)) = _
    rw [if_neg (fun z => hI.ne (a := (7, 7)) (b := (7, 6)) rfl z.1), if_pos ⟨rfl, by omega, by omega⟩, Nat.sub_zero]
  have F := f_class (X := X2) (a0 := bt) hI (x2.1 3 (by decide)) (x2.1 4 (by decide)) x2.2.1 x2.2.2.1 hbt.1 (fun j hj => by rw [b2]; exact hb j (by omega))
  have o4 : onP (KV kq (fun _ => False)) X2 (LF_Ed_find X2 kq ts bt).1 := onP.kl F.1 (by decide +kernel)
  have o24 := o2.tr o4
  have x4 := x2.kv hI o4 (fun z h => h.elim)
  have c4 : (LF_Ed_find X2 kq ts bt).1.2 (kq 7 7) = X2.2 (kq 7 7) := (F.1.at hI 7 7 (by decide +kernel)).2
  have o5 : onP (KV kq (fun _ => False)) X (LF_Si_hashChallenge (LF_Ed_find X2 kq ts bt).1 kq ts bt bm ml) := o24.tr (on_chal hI x4 hbt.1 hbm.1 (fun i hi => by rw [c4, c2 i hi]; exact hb _ (by omega)) (fun i hi => by rw [(o24 bt (KV.o hbt.1 id)).2]; exact hb i (by omega)) (fun i hi => by rw [(o24 bm (KV.o hbm.1 id)).2]; exact hm i hi))
  have k0 : ∀ k, k < 7 → KV kq (fun _ => False) (kq 0 k) := kv_row 0 7 (by decide +kernel)
  have o9 : onP (KV kq (fun _ => False)) X (LF_Ed_writeSum (LF_Ed_subtractFromBase (LF_Or_reduceForAnyPoint (LF_Si_hashChallenge (LF_Ed_find X2 kq ts bt).1 kq ts bt bm ml) kq ts (kq 7 5) (kq 7 3)) kq ts (kq 7 6) (kq 7 5)) kq ts (kq 7 8)) := by
    refine onP.tr ?_ (on_wsum k0 (KV.of 7 8 rfl rfl) (KV.of 2 6 rfl rfl) (KV.of 2 7 rfl rfl) (KV.of 2 8 rfl rfl) (KV.of 2 9 rfl rfl))
    refine onP.tr ?_ (on_subBase (kv_row 3 4 (by decide +kernel)) (kv_row 4 4 (by decide +kernel)) kv_32 kv_ed)
    refine onP.tr o5 (on_anyp (KV.of 7 5 rfl rfl) (KV.of 6 0 rfl rfl))
  unfold LF_Si_judge
  simp only [e2]
  split
  · split
    · exact o9
    · exact o24
  · exact o2
theorem cv_find {bt : Nat} (hI : KInj kq) (hx : Cx X kq ts) (hbt : OutX kq ts bt) (hb : ∀ j, j < 32 → isB (X.2 bt j)) : onP (KV kq O) X (LF_Ed_find X kq ts bt).1 ∧ (LF_Ed_find X kq ts bt).2 = (decide (leN (X.2 bt) 32 % 57896044618658097711785492504343953926634992332820282019728792003956564819968 < pP) && dOK (rtW (iF ((leN (X.2 bt) 32 % 57896044618658097711785492504343953926634992332820282019728792003956564819968 : Nat) : Int))) (ub (X.2 bt 31) / 128)) := by
  have F := f_class (X := X) (a0 := bt) hI (hx.1 3 (by decide)) (hx.1 4 (by decide)) hx.2.1 hx.2.2.1 hbt.1 hb
  exact ⟨onP.kl F.1 (by decide +kernel), F.2.1⟩
theorem cv_found {bt re : Nat} (hI : KInj kq) (hx : Cx X kq ts) (hbt : OutX kq ts bt) (hb : ∀ j, j < 32 → isB (X.2 bt j)) (hre : O re) (ht : (LF_Ed_find X kq ts bt).2 = true) : onP (KV kq O) X (LF_Ed_writeFoundX (LF_Ed_find X kq ts bt).1 kq ts re) ∧ ∀ j, j < 32 → (LF_Ed_writeFoundX (LF_Ed_find X kq ts bt).1 kq ts re).2 re j = byN (dX (rtW (iF ((leN (X.2 bt) 32 % 57896044618658097711785492504343953926634992332820282019728792003956564819968 : Nat) : Int))) (ub (X.2 bt 31) / 128)).val j := by
  have F := f_class (X := X) (a0 := bt) hI (hx.1 3 (by decide)) (hx.1 4 (by decide)) hx.2.1 hx.2.2.1 hbt.1 hb
  obtain ⟨t, e⟩ := fe_write (kq := kq) (ts := ts) (to := re) (F.2.2 ht) (by decide)
  have e2 : LF_Ed_writeFoundX (LF_Ed_find X kq ts bt).1 kq ts re = LF_F_write (LF_Ed_find X kq ts bt).1 kq ts re (kq 4 0) := rfl
  rw [e2, e]
  refine ⟨(onP.kl F.1 (by decide +kernel)).tr (onP.vi (Or.inr hre) (onP.vl (KV.of 0 6 rfl rfl) onP.rf)), fun j hj => ?_⟩
  show (if re = re ∧ j < 32 then _ else _) = _
  rw [if_pos ⟨rfl, hj⟩]
  rfl
/-- a key is made ready, if it is not yet -/
theorem cv_ready {q : Nat → Nat} {rd : Bool} (hI : KInj kq) (hx : Cx X kq ts) (hq : ∀ k, k < 4 → OutX kq ts (q k)) (hd : ∀ i j, i < 4 → j < 4 → i ≠ j → q i ≠ q j) (hb : ∀ j, j < 32 → isB (X.2 (q 0) j)) (hk : rd = true → KyR X q) (hO : ∀ k, 1 ≤ k → k < 4 → O (q k)) : onP (KV kq O) X (LF_Si_makeReady X kq ts q rd) ∧ KyR (LF_Si_makeReady X kq ts q rd) q ∧ (LF_Si_makeReady X kq ts q rd).2 (q 0) = X.2 (q 0) := by
  cases rd with
  | true =>
    have e : LF_Si_makeReady X kq ts q true = X := if_pos rfl
    rw [e]
    exact ⟨onP.rf, hk rfl, rfl⟩
  | false =>
    have h := c_ready (X := X) hI hx hq hd hb
    refine ⟨onP.kc h.1 (fun z hz => ?_), h.2.1, h.2.2⟩
    simp only [List.mem_cons, List.not_mem_nil, or_false] at hz
    rcases hz with rfl | rfl | rfl
    · exact hO 1 (by decide) (by decide)
    · exact hO 2 (by decide) (by decide)
    · exact hO 3 (by decide) (by decide)
end CVL
