/-! a key made ready -/
def byN (N : Nat) : Nat → Int32 := fun j => by8 ((N : Int) / 256 ^ j)
theorem isB_byN (N j : Nat) : isB (byN N j) := isB_by8 _
theorem isB_hby (s : T8) (i : Nat) : isB (hby s i) := isB_by8 _
def KyR (X : vM) (q : Nat → Nat) : Prop := (∀ j, j < 32 → isB (X.2 (q 1) j)) ∧ leN (X.2 (q 1)) 32 = edA (X.2 (q 0)) ∧ (∀ j, j < 32 → X.2 (q 2) j = edH (X.2 (q 0)) (32 + j)) ∧ ∀ j, j < 32 → X.2 (q 3) j = byN (edP (X.2 (q 0))) j
theorem cp_on {X : vM} {a i b j n : Nat} {S : List Nat} (hs : b ∈ S) : onW S X (cpI X a i b j n) := fun c hc => ⟨rfl, funext fun k => if_neg (fun z => hc (by rw [z.1]; exact hs))⟩
theorem cp_at (X : vM) (a i b n : Nat) {k : Nat} (h : k < n) : (cpI X a i b 0 n).2 b k = X.2 a (i + k) := by
  show (if b = b ∧ 0 ≤ k ∧ k < 0 + n then X.2 a (i + (k - 0)) else _) = _
  rw [if_pos ⟨rfl, by omega, by omega⟩, Nat.sub_zero]
def edK : List (Nat × Nat) := [(3, 0), (3, 1), (3, 2), (3, 3), (2, 7), (2, 8), (2, 9), (2, 10), (2, 11), (2, 12), (2, 13), (2, 14)]
theorem Out.ne {kq : Nat → Nat → Nat} {a : Nat} (h : Out kq a) (c k : Nat) (hk : kin (c, k) = true) : a ≠ kq c k := h (c, k) (kin_ix hk)
theorem c_ready {X : vM} {kq : Nat → Nat → Nat} {ts : Nat → Nat} {q : Nat → Nat} (hI : KInj kq) (hx : Cx X kq ts) (hq : ∀ k, k < 4 → OutX kq ts (q k)) (hd : ∀ i j, i < 4 → j < 4 → i ≠ j → q i ≠ q j) (hb : ∀ j, j < 32 → isB (X.2 (q 0) j)) : onC' kq [q 1, q 2, q 3] X (LF_Si_makeReady X kq ts q false) ∧ KyR (LF_Si_makeReady X kq ts q false) q ∧ (LF_Si_makeReady X kq ts q false).2 (q 0) = X.2 (q 0) := by
  have ho : ∀ k, k < 4 → Out kq (q k) := fun k hk => (hq k hk).1
  have hO : ∀ a ∈ [q 1, q 2, q 3], OutX kq ts a := fun a ha => by
    simp at ha
    rcases ha with rfl | rfl | rfl
    · exact hq 1 (by decide)
    · exact hq 2 (by decide)
    · exact hq 3 (by decide)
  obtain ⟨Y, f1, f2⟩ := c_sha1 (ts := ts) (to := kq 7 3) hI hx (haK_o (ho 0 (by decide))) (hI.ne (a := (7, 3)) (b := (5, 0)) rfl) hb
  obtain ⟨X4, e4⟩ : ∃ Z, svI Y (kq 7 3) 64 (hby (sha (X.2 (q 0)) 32)) = Z := ⟨_, rfl⟩
  rw [e4] at f1
  have o4 : onK kq ((7, 3) :: haK) X X4 := by
    refine (f2.mono (m := (7, 3) :: haK) rfl).ad (l := [(7, 3)]) ?_ rfl
    rw [← e4]
    exact sv_onI List.mem_cons_self
  have b4 : ∀ j, j < 64 → X4.2 (kq 7 3) j = edH (X.2 (q 0)) j := fun j hj => by
    rw [← e4]
    exact if_pos ⟨rfl, hj⟩
  obtain ⟨X5, e5⟩ : ∃ Z, cpI X4 (kq 7 3) 0 (q 1) 0 32 = Z := ⟨_, rfl⟩
  have b5 : ∀ j, j < 32 → X5.2 (q 1) j = edH (X.2 (q 0)) j := fun j hj => by
    rw [← e5, cp_at _ _ _ _ _ hj, Nat.zero_add]
    exact b4 j (by omega)
  have o5 : onW [q 1] X4 X5 := by
    rw [← e5]
    exact cp_on List.mem_cons_self
  have h73 : X5.2 (kq 7 3) = X4.2 (kq 7 3) := (o5 _ (by simp; exact (ho 1 (by decide)).ne 7 3 rfl |>.symm)).2
  obtain ⟨X6, e6⟩ : ∃ Z, cpI X5 (kq 7 3) 32 (q 2) 0 32 = Z := ⟨_, rfl⟩
  have b6 : ∀ j, j < 32 → X6.2 (q 2) j = edH (X.2 (q 0)) (32 + j) := fun j hj => by
    rw [← e6, cp_at _ _ _ _ _ hj, h73]
    exact b4 _ (by omega)
  have o6 : onW [q 2] X5 X6 := by
    rw [← e6]
    exact cp_on List.mem_cons_self
  have h61 : X6.2 (q 1) = X5.2 (q 1) := (o6 _ (by simp; exact hd 1 2 (by decide) (by decide) (by decide))).2
  obtain ⟨k1, k2, k3, k4⟩ := k_clamp (X := X6) (a := q 1) (fun j hj => by rw [h61, b5 j hj]; exact isB_hby _ _)
  obtain ⟨X7, e7⟩ : ∃ Z, LF_K_clamp X6 (q 1) = Z := ⟨_, rfl⟩
  rw [e7] at k1 k2 k3 k4
  rw [h61, leN_ext 32 b5] at k3
  have o7 : onW [q 1] X6 X7 := fun b hbb => ⟨by rw [k1], k2 b (fun z => hbb (by rw [z]; exact List.mem_cons_self))⟩
  have c7 : onC' kq [q 1, q 2, q 3] X X7 := (((onC'.ofK o4 rfl).tr (onC'.ofO o5 (by simp))).tr (onC'.ofO o6 (by simp))).tr (onC'.ofO o7 (by simp))
  have x7 := hx.kp hI c7 hO
  obtain ⟨m1, m2⟩ := c_mulB (ts := ts) (s := q 1) hI eB_on x7.2.2.2.2.1 x7.2.2.2.2.2.1
  obtain ⟨X8, e8⟩ : ∃ Z, LF_Ed_multiplyBase X7 kq ts (q 1) = Z := ⟨_, rfl⟩
  rw [e8] at m1 m2
  have o8 : onK kq edK X7 X8 := onK.of m2
  rw [k3] at m1
  obtain ⟨w1, w2⟩ := c_wsum (ts := ts) (to := q 3) hI ((ho 3 (by decide)).ne 2 6 rfl) m1
  obtain ⟨X9, e9⟩ : ∃ Z, LF_Ed_writeSum X8 kq ts (q 3) = Z := ⟨_, rfl⟩
  rw [e9] at w1 w2
  have eq : LF_Si_makeReady X kq ts q false = X9 := by
    unfold LF_Si_makeReady
    rw [if_neg (by decide)]
    simp only []
    rw [f1, e5, e6, e7, e8, e9]
  rw [eq]
  have o9 : onC' kq [q 3] X8 X9 := onW.mono w1 (fun x hx => by
    rcases List.mem_cons.mp hx with h | h
    · rw [h]; simp
    · obtain ⟨p, hp, e⟩ := List.mem_map.mp h
      refine List.mem_append_left _ (List.mem_map.mpr ⟨p, ?_, e⟩)
      exact (show ∀ p ∈ wsW, p ∈ kW by decide +kernel) p hp)
  have s8 : X8.2 = X7.2 := m2.1
  have k9 : ∀ a, Out kq a → a ≠ q 3 → X9.2 a = X7.2 a := fun a ha hn => by
    rw [(o9.o ha (by simpa using hn)).2, s8]
  have n0 : X7.2 (q 0) = X.2 (q 0) := (c7.o (ho 0 (by decide)) (by
    simp
    exact ⟨hd 0 1 (by decide) (by decide) (by decide), hd 0 2 (by decide) (by decide) (by decide), hd 0 3 (by decide) (by decide) (by decide)⟩)).2
  have r0 : X9.2 (q 0) = X.2 (q 0) := (k9 _ (ho 0 (by decide)) (hd 0 3 (by decide) (by decide) (by decide))).trans n0
  have r1 : X9.2 (q 1) = X7.2 (q 1) := k9 _ (ho 1 (by decide)) (hd 1 3 (by decide) (by decide) (by decide))
  have r2 : X9.2 (q 2) = X6.2 (q 2) := (k9 _ (ho 2 (by decide)) (hd 2 3 (by decide) (by decide) (by decide))).trans (k2 _ (hd 2 1 (by decide) (by decide) (by decide)))
  refine ⟨(c7.tr (onC'.ofK o8 rfl)).tr (o9.mono (by simp)), ⟨fun j hj => by rw [r1]; exact k4 j hj, by rw [r1, r0]; exact k3, fun j hj => by rw [r2, r0]; exact b6 j hj, fun j hj => ?_⟩, r0⟩
  rw [r0]
  exact w2 j hj
/-! a signature -/
def siR (f M : Nat → Int32) (m : Nat) : Nat := leN (hby (sha (cat (fun i => edH f (32 + i)) 32 M) (32 + m))) 64 % lL
def siK (f M : Nat → Int32) (m : Nat) : Nat := leN (hby (sha (cat (byN (encN (emul eB (siR f M m)))) 32 (cat (byN (edP f)) 32 M)) (32 + 32 + m))) 64 % lL
def siS (f M : Nat → Int32) (m : Nat) : Nat := (siK f M m * edA f + siR f M m) % lL
theorem byN_le {f : Nat → Int32} {N : Nat} (h : ∀ j, j < 32 → f j = byN N j) (hN : N < 256 ^ 32) : leN f 32 = N := by
  rw [leN_ext 32 h]
  show leN (fun j => by8 ((N : Int) / 256 ^ j)) 32 = N
  rw [leN_by8, Nat.mod_eq_of_lt hN]
theorem lL_lt (N : Nat) : N % lL < 256 ^ 32 := Nat.lt_trans (Nat.mod_lt _ (by decide)) (by decide)
theorem c_sig {X : vM} {kq : Nat → Nat → Nat} {ts : Nat → Nat} {q : Nat → Nat} {to b m : Nat} (hI : KInj kq) (hx : Cx X kq ts) (hq : ∀ k, k < 4 → OutX kq ts (q k)) (hto : OutX kq ts to) (hbo : OutX kq ts b) (hM : ∀ j, j < m → isB (X.2 b j)) (hK : KyR X q) : onC' kq [to] X (LF_Si_writeSignature X kq ts to q b m) ∧ (∀ j, j < 32 → (LF_Si_writeSignature X kq ts to q b m).2 to j = byN (encN (emul eB (siR (X.2 (q 0)) (X.2 b) m))) j) ∧ ∀ j, j < 32 → (LF_Si_writeSignature X kq ts to q b m).2 to (32 + j) = byN (siS (X.2 (q 0)) (X.2 b) m) j := by
  have ho : ∀ k, k < 4 → Out kq (q k) := fun k hk => (hq k hk).1
  obtain ⟨g1, g2, g3, g4⟩ := hK
  have nO : ∀ a ∈ ([] : List Nat), OutX kq ts a := fun a ha => absurd ha (by simp)
  -- the first hash
  obtain ⟨X1, e1⟩ : ∃ Z, LF_Ha_begin X kq ts = Z := ⟨_, rfl⟩
  obtain ⟨X2, h2, t2, e2⟩ : ∃ Z h t, LF_Ha_take X1 kq ts (q 2) 32 0 0 = (Z, h, t) := ⟨_, _, _, rfl⟩
  obtain ⟨X3, h3, t3, e3⟩ : ∃ Z h t, LF_Ha_take X2 kq ts b m h2 t2 = (Z, h, t) := ⟨_, _, _, rfl⟩
  obtain ⟨Y, f1, f2⟩ := c_sha2 (to := kq 7 3) hI hx (haK_o (ho 2 (by decide))) (haK_o hbo.1) (hI.ne (a := (7, 3)) (b := (5, 0)) rfl) (fun i hi => by rw [g3 i hi]; exact isB_hby _ _) hM e1 e2 e3
  rw [sha_ext (g := cat (fun i => edH (X.2 (q 0)) (32 + i)) 32 (X.2 b)) (fun i hi => by
    by_cases hc : i < 32
    · rw [cat_l hc, cat_l hc]
      exact g3 i hc
    · rw [show i = 32 + (i - 32) by omega, cat_r, cat_r])] at f1
  obtain ⟨X4, e4⟩ : ∃ Z, svI Y (kq 7 3) 64 (hby (sha (cat (fun i => edH (X.2 (q 0)) (32 + i)) 32 (X.2 b)) (32 + m))) = Z := ⟨_, rfl⟩
  rw [e4] at f1
  have o4 : onK kq ((7, 3) :: haK) X X4 := by
    refine (f2.mono (m := (7, 3) :: haK) rfl).ad (l := [(7, 3)]) ?_ rfl
    rw [← e4]
    exact sv_onI List.mem_cons_self
  have b4 : leN (X4.2 (kq 7 3)) 64 % lL = siR (X.2 (q 0)) (X.2 b) m := by
    have h := leN_ext (f := X4.2 (kq 7 3)) (g := hby (sha (cat (fun i => edH (X.2 (q 0)) (32 + i)) 32 (X.2 b)) (32 + m))) 64 (fun j hj => by
      rw [← e4]
      exact if_pos ⟨rfl, hj⟩)
    show leN (X4.2 (kq 7 3)) 64 % lL = leN (hby (sha (cat (fun i => edH (X.2 (q 0)) (32 + i)) 32 (X.2 b)) (32 + m))) 64 % lL
    rw [h]
  -- r
  obtain ⟨Y5, f5, p5⟩ := c_red (X := X4) (kq := kq) (ts := ts) (to := kq 7 4) (a1 := kq 7 3)
  rw [b4] at f5
  obtain ⟨rr, hrr⟩ : ∃ rr, siR (X.2 (q 0)) (X.2 b) m = rr := ⟨_, rfl⟩
  have rlt : rr < 256 ^ 32 := by rw [← hrr]; exact lL_lt _
  rw [hrr] at f5
  obtain ⟨X5, e5⟩ : ∃ Z, svI Y5 (kq 7 4) 32 (byN rr) = Z := ⟨_, rfl⟩
  have f5' : LF_Or_reduce X4 kq ts (kq 7 4) (kq 7 3) = X5 := by rw [f5, ← e5]; rfl
  have o5 : onK kq [(6, 0), (7, 4)] X4 X5 := by
    refine ((onK.of (l := [(6, 0)]) p5).mono (m := [(6, 0), (7, 4)]) rfl).ad (l := [(7, 4)]) ?_ rfl
    rw [← e5]
    exact sv_onI List.mem_cons_self
  have b5 : ∀ j, j < 32 → X5.2 (kq 7 4) j = byN rr j := fun j hj => by
    rw [← e5]
    exact if_pos ⟨rfl, hj⟩
  have c5 : onC' kq [] X X5 := (onC'.ofK o4 rfl).tr (onC'.ofK o5 rfl)
  have x5 := hx.kp hI c5 nO
  obtain ⟨m1, m2⟩ := c_mulB (ts := ts) (s := kq 7 4) hI eB_on x5.2.2.2.2.1 x5.2.2.2.2.2.1
  rw [byN_le b5 rlt] at m1
  obtain ⟨X6, e6⟩ : ∃ Z, LF_Ed_multiplyBase X5 kq ts (kq 7 4) = Z := ⟨_, rfl⟩
  rw [e6] at m1 m2
  have o6 : onK kq edK X5 X6 := onK.of m2
  obtain ⟨w1, w2⟩ := c_wsum (ts := ts) (to := kq 7 7) hI (hI.ne (a := (7, 7)) (b := (2, 6)) rfl) m1
  obtain ⟨X7, e7⟩ : ∃ Z, LF_Ed_writeSum X6 kq ts (kq 7 7) = Z := ⟨_, rfl⟩
  rw [e7] at w1 w2
  have o7 : onK kq ((7, 7) :: wsW) X6 X7 := w1
  have c7 : onC' kq [] X X7 := (c5.tr (onC'.ofK o6 rfl)).tr (onC'.ofK o7 rfl)
  have x7 := hx.kp hI c7 nO
  have k7 : ∀ a, Out kq a → X7.2 a = X.2 a := fun a ha => (c7.o ha (by simp)).2
  -- the second hash
  obtain ⟨Z1, d1⟩ : ∃ Z, LF_Ha_begin X7 kq ts = Z := ⟨_, rfl⟩
  obtain ⟨Z2, u2, v2, d2⟩ : ∃ Z h t, LF_Ha_take Z1 kq ts (kq 7 7) 32 0 0 = (Z, h, t) := ⟨_, _, _, rfl⟩
  obtain ⟨Z3, u3, v3, d3⟩ : ∃ Z h t, LF_Ha_take Z2 kq ts (q 3) 32 u2 v2 = (Z, h, t) := ⟨_, _, _, rfl⟩
  obtain ⟨Z4, u4, v4, d4⟩ : ∃ Z h t, LF_Ha_take Z3 kq ts b m u3 v3 = (Z, h, t) := ⟨_, _, _, rfl⟩
  have y8 := c_sha3 (to := kq 7 3) hI x7 (hI.ni (a := (7, 7)) (l := haK) rfl) (haK_o (ho 3 (by decide))) (haK_o hbo.1) (hI.ne (a := (7, 3)) (b := (5, 0)) rfl) (fun i hi => by rw [w2 i hi]; exact isB_by8 _) (fun i hi => by rw [k7 _ (ho 3 (by decide)), g4 i hi]; exact isB_byN _ _) (fun i hi => by rw [k7 _ hbo.1]; exact hM i hi) d1 d2 d3 d4
  rw [sha_ext (g := cat (byN (encN (emul eB rr))) 32 (cat (byN (edP (X.2 (q 0)))) 32 (X.2 b))) (fun i hi => by
    by_cases hc : i < 32
    · rw [cat_l hc, cat_l hc]
      exact w2 i hc
    · rw [show i = 32 + (i - 32) by omega, cat_r, cat_r]
      by_cases hc2 : i - 32 < 32
      · rw [cat_l hc2, cat_l hc2, k7 _ (ho 3 (by decide))]
        exact g4 _ hc2
      · rw [show i - 32 = 32 + (i - 32 - 32) by omega, cat_r, cat_r, k7 _ hbo.1])] at y8
  obtain ⟨Y8, f8, p8⟩ := y8
  obtain ⟨X8, e8⟩ : ∃ Z, svI Y8 (kq 7 3) 64 (hby (sha (cat (byN (encN (emul eB rr))) 32 (cat (byN (edP (X.2 (q 0)))) 32 (X.2 b))) (32 + 32 + m))) = Z := ⟨_, rfl⟩
  rw [e8] at f8
  have o8 : onK kq ((7, 3) :: haK) X7 X8 := by
    refine (p8.mono (m := (7, 3) :: haK) rfl).ad (l := [(7, 3)]) ?_ rfl
    rw [← e8]
    exact sv_onI List.mem_cons_self
  have b8 : leN (X8.2 (kq 7 3)) 64 % lL = siK (X.2 (q 0)) (X.2 b) m := by
    have h := leN_ext (f := X8.2 (kq 7 3)) (g := hby (sha (cat (byN (encN (emul eB rr))) 32 (cat (byN (edP (X.2 (q 0)))) 32 (X.2 b))) (32 + 32 + m))) 64 (fun j hj => by
      rw [← e8]
      exact if_pos ⟨rfl, hj⟩)
    rw [h, ← hrr]
    rfl
  have f8' : LF_Si_hashChallenge X7 kq ts (q 3) b m = X8 := by
    unfold LF_Si_hashChallenge
    simp only []
    rw [d1, d2]
    simp only []
    rw [d3]
    simp only []
    rw [d4]
    exact f8
  -- k
  obtain ⟨Y9, f9, p9⟩ := c_red (X := X8) (kq := kq) (ts := ts) (to := kq 7 5) (a1 := kq 7 3)
  rw [b8] at f9
  obtain ⟨kk, hkk⟩ : ∃ kk, siK (X.2 (q 0)) (X.2 b) m = kk := ⟨_, rfl⟩
  have klt : kk < 256 ^ 32 := by rw [← hkk]; exact lL_lt _
  rw [hkk] at f9
  obtain ⟨X9, e9⟩ : ∃ Z, svI Y9 (kq 7 5) 32 (byN kk) = Z := ⟨_, rfl⟩
  have f9' : LF_Or_reduce X8 kq ts (kq 7 5) (kq 7 3) = X9 := by rw [f9, ← e9]; rfl
  have o9 : onK kq [(6, 0), (7, 5)] X8 X9 := by
    refine ((onK.of (l := [(6, 0)]) p9).mono (m := [(6, 0), (7, 5)]) rfl).ad (l := [(7, 5)]) ?_ rfl
    rw [← e9]
    exact sv_onI List.mem_cons_self
  have b9 : ∀ j, j < 32 → X9.2 (kq 7 5) j = byN kk j := fun j hj => by
    rw [← e9]
    exact if_pos ⟨rfl, hj⟩
  have c9 : onC' kq [] X X9 := (c7.tr (onC'.ofK o8 rfl)).tr (onC'.ofK o9 rfl)
  -- s
  obtain ⟨YA, fA, pA⟩ := c_mad (X := X9) (kq := kq) (ts := ts) (to := kq 7 6) (a1 := kq 7 5) (a2 := q 1) (a3 := kq 7 4)
  have r4 : X9.2 (kq 7 4) = X5.2 (kq 7 4) := by
    rw [(o9.at hI 7 4 rfl).2, (o8.at hI 7 4 rfl).2, (o7.at hI 7 4 rfl).2, (o6.at hI 7 4 rfl).2]
  have r1 : X9.2 (q 1) = X.2 (q 1) := (c9.o (ho 1 (by decide)) (by simp)).2
  rw [byN_le b9 klt, r4, byN_le b5 rlt, r1, g2] at fA
  have es : siS (X.2 (q 0)) (X.2 b) m = (kk * edA (X.2 (q 0)) + rr) % lL := by
    unfold siS
    rw [hkk, hrr]
  rw [← es] at fA
  obtain ⟨XA, eA⟩ : ∃ Z, svI YA (kq 7 6) 32 (byN (siS (X.2 (q 0)) (X.2 b) m)) = Z := ⟨_, rfl⟩
  have fA' : LF_Or_multiplyAndAdd X9 kq ts (kq 7 6) (kq 7 5) (q 1) (kq 7 4) = XA := by rw [fA, ← eA]; rfl
  have oA : onK kq [(6, 0), (7, 6)] X9 XA := by
    refine ((onK.of (l := [(6, 0)]) pA).mono (m := [(6, 0), (7, 6)]) rfl).ad (l := [(7, 6)]) ?_ rfl
    rw [← eA]
    exact sv_onI List.mem_cons_self
  have bA : ∀ j, j < 32 → XA.2 (kq 7 6) j = byN (siS (X.2 (q 0)) (X.2 b) m) j := fun j hj => by
    rw [← eA]
    exact if_pos ⟨rfl, hj⟩
  have b7 : ∀ j, j < 32 → XA.2 (kq 7 7) j = byN (encN (emul eB rr)) j := fun j hj => by
    rw [(oA.at hI 7 7 rfl).2, (o9.at hI 7 7 rfl).2, (o8.at hI 7 7 rfl).2]
    exact w2 j hj
  have cA : onC' kq [] X XA := c9.tr (onC'.ofK oA rfl)
  obtain ⟨XB, eB'⟩ : ∃ Z, cpI XA (kq 7 7) 0 to 0 32 = Z := ⟨_, rfl⟩
  obtain ⟨XC, eC⟩ : ∃ Z, cpI XB (kq 7 6) 0 to 32 32 = Z := ⟨_, rfl⟩
  have oB : onW [to] XA XB := by rw [← eB']; exact cp_on List.mem_cons_self
  have oC : onW [to] XB XC := by rw [← eC]; exact cp_on List.mem_cons_self
  have eq : LF_Si_writeSignature X kq ts to q b m = XC := by
    unfold LF_Si_writeSignature
    simp only []
    rw [e1, e2]
    simp only []
    rw [e3]
    simp only []
    rw [f1, f5', e6, e7, f8', f9', fA', eB', eC]
  rw [eq, hrr]
  refine ⟨((cA.mono (by simp)).tr (onC'.ofO oB (by simp))).tr (onC'.ofO oC (by simp)), fun j hj => ?_, fun j hj => ?_⟩
  · rw [← eC]
    show (if to = to ∧ 32 ≤ j ∧ j < 32 + 32 then _ else XB.2 to j) = _
    rw [if_neg (fun z => by omega), ← eB', cp_at _ _ _ _ _ hj, Nat.zero_add]
    exact b7 j hj
  · have r6 : XB.2 (kq 7 6) = XA.2 (kq 7 6) := (oB _ (by simp; exact (hto.1.ne 7 6 rfl).symm)).2
    rw [← eC]
    show (if to = to ∧ 32 ≤ 32 + j ∧ 32 + j < 32 + 32 then XB.2 (kq 7 6) (0 + (32 + j - 32)) else _) = _
    rw [if_pos ⟨rfl, by omega, by omega⟩, Nat.zero_add, Nat.add_sub_cancel_left, r6]
    exact bA j hj
