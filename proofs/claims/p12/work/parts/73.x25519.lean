/-! X25519, as the class does it -/
abbrev flA (kq : Nat → Nat → Nat) : List Nat := [kq 0 0, kq 0 1, kq 0 2, kq 0 3, kq 0 4, kq 0 5, kq 0 6, kq 1 3, kq 1 4, kq 1 5, kq 1 6, kq 1 7, kq 1 8, kq 1 9, kq 1 10, kq 1 11]
def xS (X : vM) (kq : Nat → Nat → Nat) (sec : Nat) : vM := LF_K_clamp (cpI X sec 0 (kq 1 1) 0 32) (kq 1 1)
theorem xS_1 (X : vM) (kq : Nat → Nat → Nat) (sec : Nat) : (xS X kq sec).1 = X.1 := rfl
theorem xS_ne {X : vM} {kq : Nat → Nat → Nat} {sec b : Nat} (h : b ≠ kq 1 1) (k : Nat) : (xS X kq sec).2 b k = X.2 b k := by
  have e : ∀ (Y : vM) (j : Nat) (v : Int32), (stI Y (kq 1 1) j v).2 b k = Y.2 b k := fun Y j v => if_neg (fun z => h z.1)
  unfold xS LF_K_clamp
  simp only []
  rw [e, e, e]
  exact if_neg (fun z => h z.1)
theorem leN_ext {f g : Nat → Int32} : ∀ n, (∀ i, i < n → f i = g i) → leN f n = leN g n
  | 0, _ => rfl
  | n + 1, h => by
    show leN f n + ub (f n) * 256 ^ n = leN g n + ub (g n) * 256 ^ n
    rw [leN_ext n (fun i hi => h i (by omega)), h n (by omega)]
/-- the number that the ladder ends with -/
def xL (bit : Nat → Bool) (u : Fp) : Fp := (lad u bit 255 (1, 0, u, 1)).1 * fpi (lad u bit 255 (1, 0, u, 1)).2.1
theorem mem_of_get {kq : Nat → Nat → Nat} (hI : KInj kq) {c k : Nat} (h : (c, k) ∈ kc_ix) {l : List (Nat × Nat)} (hl : l.all (fun q => kc_ix.contains q) = true) (hn : (c, k) ∉ l) : kq c k ∉ l.map (fun q => kq q.1 q.2) := fun hm => by
  obtain ⟨q, hq, e⟩ := List.mem_map.mp hm
  have := List.all_eq_true.mp hl q hq
  have e2 := hI q (by simpa using this) (c, k) h e
  exact hn (e2 ▸ hq)
theorem x_class {X : vM} {kq : Nat → Nat → Nat} {ts : Nat → Nat} {to sec oth : Nat} (hI : KInj kq) (ho : oth ≠ kq 1 1) : ∃ Y : vM, LF_La_writeProduct X kq ts to sec oth = svI Y to 32 (fun j => by8 (((xL (sbit (xS X kq sec) (kq 1 1)) (iF ((leN (X.2 oth) 32 % 57896044618658097711785492504343953926634992332820282019728792003956564819968 : Nat) : Int))).val : Int) / 256 ^ j)) ∧ onL (flA kq) (xS X kq sec) Y := by
  obtain ⟨S, eS⟩ : ∃ S, xS X kq sec = S := ⟨_, rfl⟩
  rw [eS]
  have hle : leN (S.2 oth) 32 = leN (X.2 oth) 32 := leN_ext 32 (fun i _ => by rw [← eS]; exact xS_ne ho i)
  have R1 := fe_read (X := S) (ts := ts) (h := kq 1 3) (b := oth)
  rw [hle] at R1
  generalize iF ((leN (X.2 oth) 32 % 57896044618658097711785492504343953926634992332820282019728792003956564819968 : Nat) : Int) = u at R1 ⊢
  obtain ⟨X3, e3⟩ : ∃ Y, LF_F_read S (kq 1 3) oth ts = Y := ⟨_, rfl⟩
  rw [e3] at R1
  obtain ⟨⟨c0, c1, -⟩, c2⟩ := fe_climb (ts := ts) hI R1.2
  have hb : sbit X3 (kq 1 1) = sbit S (kq 1 1) := by
    have := (R1.on (S := [kq 1 3]) List.mem_cons_self).1
    funext i
    unfold sbit
    rw [this]
  rw [hb] at c0 c1
  unfold xL
  generalize lad u (sbit S (kq 1 1)) 255 (1, 0, u, 1) = q at c0 c1 ⊢
  obtain ⟨X4, e4⟩ : ∃ Y, LF_La_climb X3 kq ts = Y := ⟨_, rfl⟩
  rw [e4] at c0 c1 c2
  obtain ⟨i1, i2⟩ := fe_invert (ts := ts) (h := kq 1 5) (nd_of hI [(1, 5), (0, 0), (0, 1), (0, 2), (0, 3), (0, 4), (0, 5), (0, 6)] (by decide +kernel)) (c1.mono (by decide))
  obtain ⟨X5, e5⟩ : ∃ Y, LF_F_invert X4 kq ts (kq 1 5) (kq 1 5) = Y := ⟨_, rfl⟩
  rw [e5] at i1 i2
  have c0' := c0.on i1 (mem_of_get hI (c := 1) (k := 4) (by decide +kernel) (l := [(1, 5), (0, 0), (0, 1), (0, 2), (0, 3), (0, 4), (0, 5), (0, 6)]) (by decide +kernel) (by decide))
  have R6 := fe_times (h := kq 1 4) c0' i2 (by decide)
  obtain ⟨X6, e6⟩ : ∃ Y, LF_F_times X5 (kq 1 4) (kq 1 4) (kq 1 5) = Y := ⟨_, rfl⟩
  rw [e6] at R6
  obtain ⟨t, ht⟩ := fe_write (kq := kq) (ts := ts) (to := to) R6.2 (by decide)
  refine ⟨svL X6 (kq 0 6) 10 t, ?_, ?_⟩
  · rw [← ht]
    subst eS e3 e4 e5 e6
    rfl
  · have s1 : onL (flA kq) S X3 := R1.on (by simp)
    have s2 : onL (flA kq) X3 X4 := c2.mono (by simp)
    have s3 : onL (flA kq) X4 X5 := i1.mono (by simp)
    have s4 : onL (flA kq) X5 X6 := R6.on (by simp)
    have s5 : onL (flA kq) X6 (svL X6 (kq 0 6) 10 t) := ⟨rfl, fun b hb => funext fun k => svL_ne X6 (kq 0 6) 10 t (fun z => hb (by rw [z]; simp)) k⟩
    exact (((s1.tr s2).tr s3).tr s4).tr s5
