/-! the multiples of the base point, as the class's constructor leaves them -/
theorem knq {kq : Nat → Nat → Nat} (hI : KInj kq) (p q : Nat × Nat) (hp : p ∈ kc_ix) (hq : q ∈ kc_ix) (h : p ≠ q) : kq p.1 p.2 ≠ kq q.1 q.2 := fun e => h (hI p hp q hq e)
theorem ix_4 : ∀ k, k < 4 → (4, k) ∈ kc_ix := by decide +kernel
theorem k16 {kq : Nat → Nat → Nat} (hI : KInj kq) {i c k j : Nat} (hi : i < 16) (hc : c < 16) (hk : (c, k) ∈ kc_ix) (hj : j < 4) : kq c k ≠ kq (16 + i) j := knq hI (c, k) (16 + i, j) hk (ix_b i hi j hj) (fun e => by have := congrArg Prod.fst e; simp only at this; omega)
theorem k16' {kq : Nat → Nat → Nat} (hI : KInj kq) {i a b : Nat} (hi : i < 16) (ha : a < 4) (hb : b < 4) (h : a ≠ b) : kq (16 + i) a ≠ kq (16 + i) b := knq hI (16 + i, a) (16 + i, b) (ix_b i hi a ha) (ix_b i hi b hb) (fun e => h (congrArg Prod.snd e))
theorem k16j {kq : Nat → Nat → Nat} (hI : KInj kq) {i j a b : Nat} (hi : i < 16) (hj : j < 16) (ha : a < 4) (hb : b < 4) (h : i ≠ j) : kq (16 + i) a ≠ kq (16 + j) b := knq hI (16 + i, a) (16 + j, b) (ix_b i hi a ha) (ix_b j hj b hb) (fun e => h (by have := congrArg Prod.fst e; simp only at this; omega))
theorem Ax.mv {X Y : vM} {r : Nat → Nat} {P : Pt2} (h : Ax X r P) (e : ∀ k, k < 4 → Y.1 (r k) = X.1 (r k)) : Ax Y r P := by
  obtain ⟨l, m, k, d, w, h0, h1, h2, h3, h4⟩ := h
  exact ⟨l, m, k, d, w, h0.mv (e 0 (by decide)), h1.mv (e 1 (by decide)), h2.mv (e 2 (by decide)), h3.mv (e 3 (by decide)), h4⟩
theorem Ex.mv {X Y : vM} {r : Nat → Nat} {n : Int} {P : Pt2} (h : Ex X r n P) (e : ∀ k, k < 4 → Y.1 (r k) = X.1 (r k)) : Ex Y r n P := by
  obtain ⟨x, y, z, t, h0, h1, h2, h3, h4⟩ := h
  exact ⟨x, y, z, t, h0.mv (e 0 (by decide)), h1.mv (e 1 (by decide)), h2.mv (e 2 (by decide)), h3.mv (e 3 (by decide)), h4⟩
theorem rg_a1 {R : Type} [Lean.Grind.CommRing R] (p q z : R) : q * z - p * z = (q - p) * z ∧ q * z + p * z = (q + p) * z := by grind
theorem ax_set {X : vM} {kq : Nat → Nat → Nat} {ts : Nat → Nat} {i : Nat} {P : Pt2} (hI : KInj kq) (hi : i < 16) (o0 : Out kq (ts 0)) (h0 : Fe X (ts 0) 2 (eD + eD)) (hP : Ex X (kq 4) 2 P) : onL [kq (16 + i) 0, kq (16 + i) 1, kq (16 + i) 2, kq (16 + i) 3] X (LF_Ad_set X (kq (16 + i)) (kq 4) ts) ∧ Ax (LF_Ad_set X (kq (16 + i)) (kq 4) ts) (kq (16 + i)) P := by
  obtain ⟨x, y, z, t, hx, hy, hz, ht, hz0, ex, ey, et⟩ := hP
  have n4 : ∀ k j, k < 4 → j < 4 → kq 4 k ≠ kq (16 + i) j := fun k j hk hj => k16 hI hi (by decide) (ix_4 k hk) hj
  have nt : ∀ j, j < 4 → ts 0 ≠ kq (16 + i) j := fun j hj => o0 (16 + i, j) (ix_b i hi j hj)
  have R1 := fe_sub (h := kq (16 + i) 0) hy hx
  obtain ⟨X1, e1⟩ : ∃ Y, LF_F_subtract X (kq (16 + i) 0) (kq 4 1) (kq 4 0) = Y := ⟨_, rfl⟩
  rw [e1] at R1
  have x1 := R1.fe (n4 0 0 (by decide) (by decide)) hx
  have y1 := R1.fe (n4 1 0 (by decide) (by decide)) hy
  have z1 := R1.fe (n4 2 0 (by decide) (by decide)) hz
  have t1 := R1.fe (n4 3 0 (by decide) (by decide)) ht
  have d1 := R1.fe (nt 0 (by decide)) h0
  have R2 := fe_add (h := kq (16 + i) 1) y1 x1
  obtain ⟨X2, e2⟩ : ∃ Y, LF_F_add X1 (kq (16 + i) 1) (kq 4 1) (kq 4 0) = Y := ⟨_, rfl⟩
  rw [e2] at R2
  have l2 := R2.fe (k16' hI hi (by decide) (by decide) (by decide)) R1.2
  have z2 := R2.fe (n4 2 1 (by decide) (by decide)) z1
  have t2 := R2.fe (n4 3 1 (by decide) (by decide)) t1
  have d2 := R2.fe (nt 1 (by decide)) d1
  have R3 := fe_add (h := kq (16 + i) 2) z2 z2
  obtain ⟨X3, e3⟩ : ∃ Y, LF_F_add X2 (kq (16 + i) 2) (kq 4 2) (kq 4 2) = Y := ⟨_, rfl⟩
  rw [e3] at R3
  have l3 := R3.fe (k16' hI hi (by decide) (by decide) (by decide)) l2
  have m3 := R3.fe (k16' hI hi (by decide) (by decide) (by decide)) R2.2
  have t3 := R3.fe (n4 3 2 (by decide) (by decide)) t2
  have d3 := R3.fe (nt 2 (by decide)) d2
  have R4 := fe_times (h := kq (16 + i) 3) t3 d3 (by decide)
  obtain ⟨X4, e4⟩ : ∃ Y, LF_F_times X3 (kq (16 + i) 3) (kq 4 3) (ts 0) = Y := ⟨_, rfl⟩
  rw [e4] at R4
  have l4 := R4.fe (k16' hI hi (by decide) (by decide) (by decide)) l3
  have m4 := R4.fe (k16' hI hi (by decide) (by decide) (by decide)) m3
  have k4 := R4.fe (k16' hI hi (by decide) (by decide) (by decide)) R3.2
  have eq : LF_Ad_set X (kq (16 + i)) (kq 4) ts = X4 := by
    subst e1 e2 e3 e4
    rfl
  rw [eq]
  have w1 : onL [kq (16 + i) 0, kq (16 + i) 1, kq (16 + i) 2, kq (16 + i) 3] X X1 := R1.on List.mem_cons_self
  have w2 : onL [kq (16 + i) 0, kq (16 + i) 1, kq (16 + i) 2, kq (16 + i) 3] X1 X2 := R2.on (List.mem_cons_of_mem _ List.mem_cons_self)
  have w3 : onL [kq (16 + i) 0, kq (16 + i) 1, kq (16 + i) 2, kq (16 + i) 3] X2 X3 := R3.on (List.mem_cons_of_mem _ (List.mem_cons_of_mem _ List.mem_cons_self))
  have w4 : onL [kq (16 + i) 0, kq (16 + i) 1, kq (16 + i) 2, kq (16 + i) 3] X3 X4 := R4.on (List.mem_cons_of_mem _ (List.mem_cons_of_mem _ (List.mem_cons_of_mem _ List.mem_cons_self)))
  refine ⟨((w1.tr w2).tr w3).tr w4, y - x, y + x, z + z, t * (eD + eD), z, l4, m4, k4, R4.2, hz0, ?_, ?_, rfl, ?_⟩
  · rw [ex, ey]; exact (rg_a1 _ _ _).1
  · rw [ex, ey]; exact (rg_a1 _ _ _).2
  · rw [et]
/-- i multiples are made -/
def fiI (X : vM) (kq : Nat → Nat → Nat) (ts : Nat → Nat) (i : Nat) : Prop := Ex X (kq 4) 2 (emul eB (i - 1)) ∧ (∀ j, 1 ≤ j → j < i → Ax X (kq (16 + j)) (emul eB j)) ∧ Fe X (ts 0) 2 (eD + eD)
def edL : List (Nat × Nat) := [(4, 0), (4, 1), (4, 2), (4, 3), (2, 7), (2, 8), (2, 9), (2, 10), (2, 11), (2, 12), (2, 13), (2, 14)]
theorem edL_in : ∀ q ∈ edL, q ∈ kc_ix ∧ q.1 < 16 := by decide +kernel
theorem fi_step {Y : vM} {kq : Nat → Nat → Nat} {ts : Nat → Nat} {i : Nat} (hI : KInj kq) (o0 : Out kq (ts 0)) (h2 : 2 ≤ i) (hi : i < 16) (h : fiI Y kq ts i) : fiI (LF_Ad_set (LF_Ed_add Y (edr kq) (kq 4) (kq (16 + 1))) (kq (16 + i)) (kq 4) ts) kq ts (i + 1) := by
  obtain ⟨hE, hA, h0⟩ := h
  have h1 := hA 1 (by decide) (by omega)
  rw [emul_1] at h1
  have hnd : nd [kq 4 0, kq 4 1, kq 4 2, kq 4 3, edr kq 7, edr kq 8, edr kq 9, edr kq 10, edr kq 11, edr kq 12, edr kq 13, edr kq 14, kq (16 + 1) 0, kq (16 + 1) 1, kq (16 + 1) 2, kq (16 + 1) 3] := nd_of hI [(4, 0), (4, 1), (4, 2), (4, 3), (2, 7), (2, 8), (2, 9), (2, 10), (2, 11), (2, 12), (2, 13), (2, 14), (17, 0), (17, 1), (17, 2), (17, 3)] (by decide +kernel)
  obtain ⟨w1, e1⟩ := ex_add hnd hE h1 (emul_on eB_on _) eB_on
  obtain ⟨Y1, eY⟩ : ∃ Z, LF_Ed_add Y (edr kq) (kq 4) (kq (16 + 1)) = Z := ⟨_, rfl⟩
  rw [eY] at w1 e1 ⊢
  have e2 : eadd (emul eB (i - 1)) eB = emul eB (i + 1 - 1) := by
    obtain ⟨n, rfl⟩ : ∃ n, i = n + 1 := ⟨i - 1, by omega⟩
    rfl
  rw [e2] at e1
  have w1 : onL (edL.map (fun q => kq q.1 q.2)) Y Y1 := w1
  have out1 : ∀ a, (∀ q ∈ edL, a ≠ kq q.1 q.2) → Y1.1 a = Y.1 a := fun a ha => w1.2 a (fun hm => by
    obtain ⟨q, hq, e⟩ := List.mem_map.mp hm
    exact ha q hq e.symm)
  have hA1 : ∀ j, 1 ≤ j → j < i → Ax Y1 (kq (16 + j)) (emul eB j) := fun j a b => (hA j a b).mv (fun k hk => out1 _ (fun q hq => (k16 hI (by omega) (edL_in q hq).2 (edL_in q hq).1 hk).symm))
  have h01 : Fe Y1 (ts 0) 2 (eD + eD) := h0.mv (out1 _ (fun q hq => o0 q (edL_in q hq).1))
  obtain ⟨w2, a2⟩ := ax_set hI hi o0 h01 (e1.mono (by decide))
  obtain ⟨Y2, eY2⟩ : ∃ Z, LF_Ad_set Y1 (kq (16 + i)) (kq 4) ts = Z := ⟨_, rfl⟩
  rw [eY2] at w2 a2 ⊢
  have out2 : ∀ a, (∀ j, j < 4 → a ≠ kq (16 + i) j) → Y2.1 a = Y1.1 a := fun a ha => w2.2 a (fun hm => by
    simp only [List.mem_cons, List.not_mem_nil, or_false] at hm
    rcases hm with e | e | e | e
    · exact ha 0 (by decide) e
    · exact ha 1 (by decide) e
    · exact ha 2 (by decide) e
    · exact ha 3 (by decide) e)
  refine ⟨(e1.mono (by decide)).mv (fun k hk => out2 _ (fun j hj => k16 hI hi (by decide) (ix_4 k hk) hj)), fun j a b => ?_, h01.mv (out2 _ (fun j hj => o0 (16 + i, j) (ix_b i hi j hj)))⟩
  by_cases hj : j = i
  · subst hj
    exact a2
  · exact (hA1 j a (by omega)).mv (fun k hk => out2 _ (fun b' hb' => k16j hI (by omega) hi hk hb' hj))
theorem LLf_eq {kq : Nat → Nat → Nat} {ts : Nat → Nat} (i : Nat) (Y : vM) : LL_Ed_fillMultiples_9 (edr kq) (kq 4) (fun j => kq (16 + j)) ts i Y = LF_Ad_set (LF_Ed_add Y (edr kq) (kq 4) (kq (16 + 1))) (kq (16 + i)) (kq 4) ts := by
  unfold LL_Ed_fillMultiples_9
  rfl
theorem fi_all {kq : Nat → Nat → Nat} {ts : Nat → Nat} (hI : KInj kq) (o0 : Out kq (ts 0)) : ∀ (n i : Nat) (Y : vM), i + n = 16 → 2 ≤ i → fiI Y kq ts i → fiI (lpU 1 (LL_Ed_fillMultiples_9 (edr kq) (kq 4) (fun j => kq (16 + j)) ts) n i Y) kq ts 16
  | 0, i, Y, hi, _, h => by
    obtain rfl : i = 16 := by omega
    exact h
  | n + 1, i, Y, hi, h2, h => by
    have e : lpU 1 (LL_Ed_fillMultiples_9 (edr kq) (kq 4) (fun j => kq (16 + j)) ts) (n + 1) i Y = lpU 1 (LL_Ed_fillMultiples_9 (edr kq) (kq 4) (fun j => kq (16 + j)) ts) n (i + 1) (LL_Ed_fillMultiples_9 (edr kq) (kq 4) (fun j => kq (16 + j)) ts i Y) := rfl
    rw [e, LLf_eq]
    exact fi_all hI o0 n (i + 1) _ (by omega) (by omega) (fi_step hI o0 h2 (by omega) h)
theorem fi_fill {X : vM} {kq : Nat → Nat → Nat} {ts : Nat → Nat} (hI : KInj kq) (o0 : Out kq (ts 0)) (h0 : Fe X (ts 0) 2 (eD + eD)) (hP : Ex X (kq 4) 2 eB) : fiI (LF_Ed_fillMultiples X (edr kq) (fun j => kq (16 + j)) (kq 4) ts) kq ts 16 := by
  obtain ⟨w2, a2⟩ := ax_set (i := 1) hI (by decide) o0 h0 hP
  have e0 : LF_Ed_fillMultiples X (edr kq) (fun j => kq (16 + j)) (kq 4) ts = lpU 1 (LL_Ed_fillMultiples_9 (edr kq) (kq 4) (fun j => kq (16 + j)) ts) 14 2 (LF_Ad_set X (kq (16 + 1)) (kq 4) ts) := by
    unfold LF_Ed_fillMultiples
    rfl
  rw [e0]
  refine fi_all hI o0 14 2 (LF_Ad_set X (kq (16 + 1)) (kq 4) ts) (by decide) (by decide) ⟨?_, fun j a b => ?_, ?_⟩
  · rw [show 2 - 1 = 1 from rfl, emul_1]
    refine hP.mv (fun k hk => w2.2 _ (fun hm => ?_))
    simp only [List.mem_cons, List.not_mem_nil, or_false] at hm
    rcases hm with e | e | e | e <;> exact k16 hI (by decide) (by decide) (ix_4 k hk) (by decide) e
  · obtain rfl : j = 1 := by omega
    rw [emul_1]
    exact a2
  · refine h0.mv (w2.2 _ (fun hm => ?_))
    simp only [List.mem_cons, List.not_mem_nil, or_false] at hm
    rcases hm with e | e | e | e
    · exact o0 (16 + 1, 0) (ix_b 1 (by decide) 0 (by decide)) e
    · exact o0 (16 + 1, 1) (ix_b 1 (by decide) 1 (by decide)) e
    · exact o0 (16 + 1, 2) (ix_b 1 (by decide) 2 (by decide)) e
    · exact o0 (16 + 1, 3) (ix_b 1 (by decide) 3 (by decide)) e
/-- the tables' numbers -/
theorem fe_st {X : vM} {a k : Nat} {n : Int} {v : Fp} (h : ∀ j, j < 10 → X.1 a j = st_v k j) (hb : bd n (fun j => (st_v k j).toInt)) (hv : iF (fvI (fun j => (st_v k j).toInt)) = v) : Fe X a n v := ⟨fun j => (st_v k j).toInt, fun i hi => by rw [h i hi]; exact (Int64.ofInt_toInt _).symm, hb, hv⟩
theorem bd_dec {n : Int} {Z : Nat → Int} (h : (List.range 10).all (fun i => decide (-(n * (wL i / 2 + 131072)) ≤ Z i) && decide (Z i ≤ n * (wL i / 2 + 131072))) = true) : bd n Z := fun i hi => by
  have := List.all_eq_true.mp h i (List.mem_range.mpr hi)
  simpa using this
theorem fe_st0 {X : vM} {a : Nat} (h : ∀ j, j < 10 → X.1 a j = st_v 0 j) : Fe X a 2 (eD + eD) := fe_st (k := 0) h (bd_dec (by decide +kernel)) (by decide +kernel)
theorem fe_st1 {X : vM} {a : Nat} (h : ∀ j, j < 10 → X.1 a j = st_v 1 j) : Fe X a 2 eB.1 := fe_st (k := 1) h (bd_dec (by decide +kernel)) (by decide +kernel)
theorem fe_st2 {X : vM} {a : Nat} (h : ∀ j, j < 10 → X.1 a j = st_v 2 j) : Fe X a 2 eB.2 := fe_st (k := 2) h (bd_dec (by decide +kernel)) (by decide +kernel)
theorem fe_st3 {X : vM} {a : Nat} (h : ∀ j, j < 10 → X.1 a j = st_v 3 j) : Fe X a 2 eD := fe_st (k := 3) h (bd_dec (by decide +kernel)) (by decide +kernel)
theorem fe_st4 {X : vM} {a : Nat} (h : ∀ j, j < 10 → X.1 a j = st_v 4 j) : Fe X a 2 eI := fe_st (k := 4) h (bd_dec (by decide +kernel)) (by decide +kernel)
theorem fi_aff {X : vM} {kq : Nat → Nat → Nat} {ts : Nat → Nat} (hI : KInj kq) (o1 : Out kq (ts 1)) (o2 : Out kq (ts 2)) (h1 : Fe X (ts 1) 2 eB.1) (h2 : Fe X (ts 2) 2 eB.2) : Ex (LF_Pt_setAffine X (kq 4) (ts 1) (ts 2)) (kq 4) 2 eB ∧ onL [kq 4 0, kq 4 1, kq 4 2, kq 4 3] X (LF_Pt_setAffine X (kq 4) (ts 1) (ts 2)) := by
  have n4 : ∀ k j, k < 4 → j < 4 → k ≠ j → kq 4 k ≠ kq 4 j := fun k j hk hj h => knq hI (4, k) (4, j) (ix_4 k hk) (ix_4 j hj) (fun e => h (congrArg Prod.snd e))
  have n1 : ∀ j, j < 4 → ts 1 ≠ kq 4 j := fun j hj => o1 (4, j) (ix_4 j hj)
  have n2 : ∀ j, j < 4 → ts 2 ≠ kq 4 j := fun j hj => o2 (4, j) (ix_4 j hj)
  have R1 := fe_copy (h := kq 4 0) h1
  obtain ⟨X1, e1⟩ : ∃ Y, LF_F_copy X (kq 4 0) (ts 1) = Y := ⟨_, rfl⟩
  rw [e1] at R1
  have a1 := R1.fe (n1 0 (by decide)) h1
  have b1 := R1.fe (n2 0 (by decide)) h2
  have R2 := fe_copy (h := kq 4 1) b1
  obtain ⟨X2, e2⟩ : ∃ Y, LF_F_copy X1 (kq 4 1) (ts 2) = Y := ⟨_, rfl⟩
  rw [e2] at R2
  have a2 := R2.fe (n1 1 (by decide)) a1
  have b2 := R2.fe (n2 1 (by decide)) b1
  have x2 := R2.fe (n4 0 1 (by decide) (by decide) (by decide)) R1.2
  have R3 := fe_set (X := X2) (h := kq 4 2) 1 (by decide)
  rw [show Int64.ofInt 1 = (1 : Int64) from rfl] at R3
  obtain ⟨X3, e3⟩ : ∃ Y, LF_F_set X2 (kq 4 2) (1 : Int64) = Y := ⟨_, rfl⟩
  rw [e3] at R3
  have a3 := R3.fe (n1 2 (by decide)) a2
  have b3 := R3.fe (n2 2 (by decide)) b2
  have x3 := R3.fe (n4 0 2 (by decide) (by decide) (by decide)) x2
  have y3 := R3.fe (n4 1 2 (by decide) (by decide) (by decide)) R2.2
  have R4 := fe_times (h := kq 4 3) a3 b3 (by decide)
  obtain ⟨X4, e4⟩ : ∃ Y, LF_F_times X3 (kq 4 3) (ts 1) (ts 2) = Y := ⟨_, rfl⟩
  rw [e4] at R4
  have x4 := R4.fe (n4 0 3 (by decide) (by decide) (by decide)) x3
  have y4 := R4.fe (n4 1 3 (by decide) (by decide) (by decide)) y3
  have z4 := R4.fe (n4 2 3 (by decide) (by decide) (by decide)) R3.2
  have eq : LF_Pt_setAffine X (kq 4) (ts 1) (ts 2) = X4 := by
    subst e1 e2 e3 e4
    rfl
  rw [eq]
  have w1 : onL [kq 4 0, kq 4 1, kq 4 2, kq 4 3] X X1 := R1.on List.mem_cons_self
  have w2 : onL [kq 4 0, kq 4 1, kq 4 2, kq 4 3] X1 X2 := R2.on (List.mem_cons_of_mem _ List.mem_cons_self)
  have w3 : onL [kq 4 0, kq 4 1, kq 4 2, kq 4 3] X2 X3 := R3.on (List.mem_cons_of_mem _ (List.mem_cons_of_mem _ List.mem_cons_self))
  have w4 : onL [kq 4 0, kq 4 1, kq 4 2, kq 4 3] X3 X4 := R4.on (List.mem_cons_of_mem _ (List.mem_cons_of_mem _ (List.mem_cons_of_mem _ List.mem_cons_self)))
  refine ⟨⟨eB.1, eB.2, iF 1, eB.1 * eB.2, x4, y4, z4, R4.2, by decide, ?_, ?_, ?_⟩, ((w1.tr w2).tr w3).tr w4⟩
  · exact (rg_m1 _).symm
  · exact (rg_m1 _).symm
  · exact (rg_m1 _).symm
