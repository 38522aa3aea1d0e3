/-! what lasts of the reference -/
def eB : Pt2 := (15112221349535400772501151409588531511454012693041857206046113283949847762202, 46316835694926478169428394003475163141307993866256225615783033603165251855960)
theorem eB_on : onC eB.1 eB.2 := by
  unfold onC eB
  decide +kernel
def onN (r : Nat → Nat) (l : List Nat) (X Y : vM) : Prop := onW (l.map r) X Y
theorem onN.rf {r : Nat → Nat} {l : List Nat} {X : vM} : onN r l X X := onW.rf
theorem onN.tr {r : Nat → Nat} {l : List Nat} {X Y Z : vM} (h : onN r l X Y) (k : onN r l Y Z) : onN r l X Z := onW.tr h k
theorem onN.of {r : Nat → Nat} {l : List Nat} {X Y : vM} (h : onM r l X Y) : onN r l X Y := onW.of h
theorem onN.mono {r : Nat → Nat} {l m : List Nat} {X Y : vM} (h : onN r l X Y) (hs : l.all (fun q => m.contains q) = true) : onN r m X Y := onW.mono h (fun x hx => by
  obtain ⟨q, hq, e⟩ := List.mem_map.mp hx
  have := List.all_eq_true.mp hs q hq
  exact List.mem_map.mpr ⟨q, by simpa using this, e⟩)
theorem onN.ad {r : Nat → Nat} {l m : List Nat} {X Y Z : vM} (h : onN r m X Y) (k : onN r l Y Z) (hs : l.all (fun q => m.contains q) = true) : onN r m X Z := h.tr (k.mono hs)
theorem onN.at {r : Nat → Nat} {l : List Nat} {X Y : vM} (hI : MInj r) (h : onN r l X Y) (k : Nat) (hc : okL k l = true) : Y.1 (r k) = X.1 (r k) ∧ Y.2 (r k) = X.2 (r k) := h _ (hI.ni k hc)
theorem M16.mv {X Y : vM} {b : Nat} {N : Int} (k : M16 X b N) (e : Y.1 b = X.1 b) : M16 Y b N := ⟨k.1, fun i hi => (congrFun e i).trans (k.2 i hi)⟩
theorem M16.kn {r : Nat → Nat} (hI : MInj r) {l : List Nat} {X Y : vM} {k : Nat} {N : Int} (h : M16 X (r k) N) (o : onN r l X Y) (hc : okL k l = true) : M16 Y (r k) N := h.mv (o.at hI k hc).1
theorem Fm.kn {r : Nat → Nat} (hI : MInj r) {l : List Nat} {X Y : vM} {k : Nat} {v : Fp} (h : Fm X (r k) v) (o : onN r l X Y) (hc : okL k l = true) : Fm Y (r k) v := M16.mv h (o.at hI k hc).1
theorem TbM.mv {X Y : vM} {b : Nat} {N : Int} (k : TbM X b N) (e : Y.1 b = X.1 b) : TbM Y b N := fun i hi => ⟨(k i hi).1, fun j hj => (congrFun e _).trans ((k i hi).2 j hj)⟩
theorem sv_onI {X : vM} {a n : Nat} {f : Nat → Int32} {S : List Nat} (hs : a ∈ S) : onW S X (svI X a n f) := fun b hb => ⟨rfl, funext fun k => if_neg (fun z => hb (by rw [z.1]; exact hs))⟩
/-- the reference's constants -/
def Mx (X : vM) (r : Nat → Nat) : Prop := Kp X r ∧ Ko X r ∧ Fm X (r 14) eD ∧ Fm X (r 30) 1 ∧ Fm X (r 15) eI ∧ Fm X (r 16) eB.1 ∧ Fm X (r 17) eB.2 ∧ (∀ i, i < 80 → X.1 (r 46) i = st_v 7 i) ∧ ∀ i, i < 8 → X.1 (r 47) i = st_v 6 i
def mxL : List Nat := [10, 11, 12, 13, 14, 30, 15, 16, 17, 46, 47]
def mxok (l : List Nat) : Bool := mxL.all (fun k => okL k l)
theorem Mx.kp {r : Nat → Nat} (hI : MInj r) {l : List Nat} {X Y : vM} (h : Mx X r) (o : onN r l X Y) (hc : mxok l = true) : Mx Y r := by
  have c : ∀ k ∈ mxL, Y.1 (r k) = X.1 (r k) := fun k hk => (o.at hI k (List.all_eq_true.mp hc k hk)).1
  obtain ⟨h1, h2, h3, h4, h5, h6, h7, h8, h9⟩ := h
  exact ⟨⟨h1.1.mv (c 10 (by decide)), h1.2.mv (c 11 (by decide))⟩, ⟨h2.1.mv (c 12 (by decide)), h2.2.mv (c 13 (by decide))⟩, M16.mv h3 (c 14 (by decide)), M16.mv h4 (c 30 (by decide)), M16.mv h5 (c 15 (by decide)), M16.mv h6 (c 16 (by decide)), M16.mv h7 (c 17 (by decide)), fun i hi => by rw [c 46 (by decide)]; exact h8 i hi, fun i hi => by rw [c 47 (by decide)]; exact h9 i hi⟩
/-! a text's hash looks at the text alone -/
theorem pad_ext {f g : Nat → Int32} {n all : Nat} (h : ∀ i, i < n → f i = g i) (i : Nat) : pad f n i all = pad g n i all := by
  unfold pad
  by_cases hi : n ≤ i
  · rw [if_pos hi, if_pos hi]
  · rw [if_neg hi, if_neg hi, h i (by omega)]
theorem sha_ext {f g : Nat → Int32} {n : Nat} (h : ∀ i, i < n → f i = g i) : sha f n = sha g n := by
  unfold sha
  rw [funext (fun i => pad_ext (all := allN n) h i)]
/-- one text, then another -/
def cat (f : Nat → Int32) (n : Nat) (g : Nat → Int32) : Nat → Int32 := fun i => if i < n then f i else g (i - n)
theorem cat_l {f g : Nat → Int32} {n i : Nat} (h : i < n) : cat f n g i = f i := if_pos h
theorem cat_r {f g : Nat → Int32} {n i : Nat} : cat f n g (n + i) = g i := by
  show (if n + i < n then _ else g (n + i - n)) = g i
  rw [if_neg (by omega), Nat.add_sub_cancel_left]
/-! a key's numbers -/
def edH (f : Nat → Int32) : Nat → Int32 := hby (sha f 32)
def edA (f : Nat → Int32) : Nat := clN (leN (edH f) 32)
def edP (f : Nat → Int32) : Nat := encN (emul eB (edA f))
theorem edH_ext {f g : Nat → Int32} (h : ∀ i, i < 32 → f i = g i) : edH f = edH g := by
  unfold edH
  rw [sha_ext h]
def opW : List Nat := [38, 48, 49, 52, 32, 20, 21, 18, 19, 24, 25, 26, 27, 28, 29, 40, 41, 42, 43, 44, 45, 36]
theorem m_opened {X : vM} {r : Nat → Nat} {v : Nat} (hI : MInj r) (hM : Mx X r) (hb : ∀ i, i < 32 → isB (X.2 (r 4) (32 * v + i))) : onN r opW X (LF_M_opened X r v) ∧ M16 (LF_M_opened X r v) (r 32) ((edA (fun i => X.2 (r 4) (32 * v + i)) : Nat) : Int) ∧ (∀ j, j < 32 → (LF_M_opened X r v).2 (r 36) j = by8 ((edP (fun i => X.2 (r 4) (32 * v + i)) : Int) / 256 ^ j)) ∧ ∀ j, j < 64 → (LF_M_opened X r v).2 (r 52) j = edH (fun i => X.2 (r 4) (32 * v + i)) j := by
  have n38 : r 4 ≠ r 38 := hI.ne 4 38 rfl
  have e0 : lpU 1 (LL_M_opened_2 r v) 32 0 X = flI X (r 38) 0 32 (fun i => X.2 (r 4) (32 * v + i)) := by
    have key : ∀ n i Y, i + n ≤ 32 → Y.2 (r 4) = X.2 (r 4) → lpU 1 (LL_M_opened_2 r v) n i Y = lpU 1 (fun i Y => stI Y (r 38) i (X.2 (r 4) (32 * v + i))) n i Y := by
      intro n
      induction n with
      | zero => exact fun _ _ _ _ => rfl
      | succ n ih =>
        intro i Y hi hY
        show lpU 1 (LL_M_opened_2 r v) n (i + 1) (stI Y (r 38) i ((Y.2 (r 4) ((32 * v) + i)).toInt8.toInt32)) = _
        rw [hY, isB_i8 (hb i (by omega))]
        exact ih (i + 1) _ (by omega) (Eq.trans (funext fun k => if_neg (fun z => n38 z.1)) hY)
    rw [key 32 0 X (by omega) rfl]
    exact lp_fl (r 38) _ _ (fun _ _ => rfl) 32 0 X
  obtain ⟨X1, e1⟩ : ∃ Y, flI X (r 38) 0 32 (fun i => X.2 (r 4) (32 * v + i)) = Y := ⟨_, rfl⟩
  rw [e1] at e0
  have o1 : onN r [38] X X1 := by
    rw [← e1]
    exact fl_on List.mem_cons_self
  have M1 := hM.kp hI o1 rfl
  obtain ⟨X2, h2, o2⟩ := m_hash (X := X1) (a := r 38) (n := 32) hI M1.2.2.2.2.2.2.2.1 M1.2.2.2.2.2.2.2.2
  have hs : hby (sha (X1.2 (r 38)) 32) = edH (fun i => X.2 (r 4) (32 * v + i)) := by
    unfold edH
    rw [sha_ext (f := X1.2 (r 38)) (g := fun i => X.2 (r 4) (32 * v + i)) (fun i hi => by
      rw [← e1]
      exact if_pos ⟨rfl, by omega, by omega⟩)]
  rw [hs] at h2
  obtain ⟨hh, hhh⟩ : ∃ hh, edH (fun i => X.2 (r 4) (32 * v + i)) = hh := ⟨_, rfl⟩
  have ea : edA (fun i => X.2 (r 4) (32 * v + i)) = clN (leN hh 32) := by rw [← hhh]; rfl
  have ep : edP (fun i => X.2 (r 4) (32 * v + i)) = encN (emul eB (clN (leN hh 32))) := by rw [← ea]; rfl
  rw [ea, ep]
  rw [hhh] at h2 ⊢
  obtain ⟨X3, e3⟩ : ∃ Y, svI X2 (r 52) 64 hh = Y := ⟨_, rfl⟩
  rw [e3] at h2
  have o3 : onN r [52] X2 X3 := by
    rw [← e3]
    exact sv_onI List.mem_cons_self
  have o3' : onN r [48, 49, 52] X1 X3 := ((onN.of o2).mono (m := [48, 49, 52]) rfl).ad o3 rfl
  have b3 : ∀ j, j < 64 → X3.2 (r 52) j = hh j := fun j hj => by
    rw [← e3]
    exact if_pos ⟨rfl, hj⟩
  have q4 := m_clamp (X := X3) (r := r) (to := r 32) (b := r 52) (v := 0)
  rw [leN_ext (g := hh) 32 (fun j hj => by show X3.2 (r 52) (0 + j) = hh j; rw [Nat.zero_add]; exact b3 j (by omega))] at q4
  obtain ⟨X4, e4⟩ : ∃ Y, LF_M_clamped X3 r (r 32) (r 52) 0 = Y := ⟨_, rfl⟩
  rw [e4] at q4
  have o4 : onN r [32] X3 X4 := onN.of (q4.on List.mem_cons_self)
  have M4 := (M1.kp hI o3' rfl).kp hI o4 rfl
  obtain ⟨q5, x5, y5⟩ := fm_fromBase (ex := 32) hI M4.1 M4.2.2.1 M4.2.2.2.1 M4.2.2.2.2.2.1 M4.2.2.2.2.2.2.1 eB_on q4.2 rfl
  obtain ⟨X5, e5⟩ : ∃ Y, LF_M_fromBase X4 r (r 32) = Y := ⟨_, rfl⟩
  rw [e5] at q5 x5 y5
  have o5 : onN r (20 :: 21 :: muW) X4 X5 := onN.of q5
  have e6 := fm_enc (r := r) (to := r 36) x5 y5
  have eq : LF_M_opened X r v = svI X5 (r 36) 32 (fun j => by8 ((encN (emul eB (clN (leN hh 32))) : Int) / 256 ^ j)) := by
    unfold LF_M_opened
    simp only []
    rw [e0, h2, e4, e5, e6]
  rw [eq]
  have o6 : onN r [36] X5 (svI X5 (r 36) 32 (fun j => by8 ((encN (emul eB (clN (leN hh 32))) : Int) / 256 ^ j))) := sv_onI List.mem_cons_self
  refine ⟨((((o1.mono (m := opW) rfl).ad o3' rfl).ad o4 rfl).ad o5 rfl).ad o6 rfl, (q4.2.kn hI o5 rfl).kn hI o6 rfl, fun j hj => if_pos ⟨rfl, hj⟩, fun j hj => ?_⟩
  rw [(o6.at hI 52 rfl).2, (o5.at hI 52 rfl).2, (o4.at hI 52 rfl).2]
  exact b3 j hj
/-! what lasts of the class -/
def Cx (X : vM) (kq : Nat → Nat → Nat) (ts : Nat → Nat) : Prop := (∀ k, k < 9 → Out kq (ts k)) ∧ Fe X (ts 3) 2 eD ∧ Fe X (ts 4) 2 eI ∧ (∀ j, j < 8 → X.1 (ts 6) j = st_v 6 j) ∧ (∀ j, j < 32 → X.2 (kq 2 5) j = 0) ∧ (∀ j, 1 ≤ j → j < 16 → Ax X (kq (16 + j)) (emul eB j)) ∧ leN (X.2 (kq 1 2)) 32 = 9
/-- an array that the class's objects don't know -/
def OutX (kq : Nat → Nat → Nat) (ts : Nat → Nat) (o : Nat) : Prop := Out kq o ∧ ∀ k, k < 9 → o ≠ ts k
/-- the arrays that the class's work is done in -/
def kW : List (Nat × Nat) := [(0, 0), (0, 1), (0, 2), (0, 3), (0, 4), (0, 5), (0, 6), (1, 1), (1, 3), (1, 4), (1, 5), (1, 6), (1, 7), (1, 8), (1, 9), (1, 10), (1, 11), (2, 6), (2, 7), (2, 8), (2, 9), (2, 10), (2, 11), (2, 12), (2, 13), (2, 14), (3, 0), (3, 1), (3, 2), (3, 3), (4, 0), (4, 1), (4, 2), (4, 3), (5, 0), (5, 1), (5, 2), (6, 0), (7, 3), (7, 4), (7, 5), (7, 6), (7, 7), (7, 8)]
theorem kW_in : kW.all kin = true := rfl
def onC' (kq : Nat → Nat → Nat) (O : List Nat) (X Y : vM) : Prop := onW (kW.map (fun q => kq q.1 q.2) ++ O) X Y
theorem onC'.rf {kq : Nat → Nat → Nat} {O : List Nat} {X : vM} : onC' kq O X X := onW.rf
theorem onC'.tr {kq : Nat → Nat → Nat} {O : List Nat} {X Y Z : vM} (h : onC' kq O X Y) (k : onC' kq O Y Z) : onC' kq O X Z := onW.tr h k
theorem onC'.ofK {kq : Nat → Nat → Nat} {O : List Nat} {l : List (Nat × Nat)} {X Y : vM} (h : onK kq l X Y) (hs : ksub l kW = true) : onC' kq O X Y := onW.mono (onK.mono h hs) (fun x hx => List.mem_append_left _ hx)
theorem onC'.ofO {kq : Nat → Nat → Nat} {O S : List Nat} {X Y : vM} (h : onW S X Y) (hs : ∀ x ∈ S, x ∈ O) : onC' kq O X Y := onW.mono h (fun x hx => List.mem_append_right _ (hs x hx))
theorem onC'.mono {kq : Nat → Nat → Nat} {O S : List Nat} {X Y : vM} (h : onC' kq S X Y) (hs : ∀ x ∈ S, x ∈ O) : onC' kq O X Y := onW.mono h (fun x hx => by
  rcases List.mem_append.mp hx with h | h
  · exact List.mem_append_left _ h
  · exact List.mem_append_right _ (hs x h))
theorem onC'.k {kq : Nat → Nat → Nat} {O : List Nat} {X Y : vM} (hI : KInj kq) (h : onC' kq O X Y) (c k : Nat) (hc : knl (c, k) kW = true) (hk : kin (c, k) = true) (hO : ∀ o ∈ O, Out kq o) : Y.1 (kq c k) = X.1 (kq c k) ∧ Y.2 (kq c k) = X.2 (kq c k) := h _ (fun hm => by
  rcases List.mem_append.mp hm with h | h
  · exact hI.ni hc h
  · exact hO _ h (c, k) (kin_ix hk) rfl)
theorem onC'.o {kq : Nat → Nat → Nat} {O : List Nat} {X Y : vM} {a : Nat} (h : onC' kq O X Y) (ho : Out kq a) (hO : a ∉ O) : Y.1 a = X.1 a ∧ Y.2 a = X.2 a := h _ (fun hm => by
  rcases List.mem_append.mp hm with h | h
  · exact ho.ni kW_in h
  · exact hO h)
theorem kp_b : ∀ j, j < 16 → ∀ k, k < 4 → (knl (16 + j, k) kW && kin (16 + j, k)) = true := by decide +kernel
theorem Cx.kp {kq : Nat → Nat → Nat} {ts : Nat → Nat} {O : List Nat} {X Y : vM} (hI : KInj kq) (h : Cx X kq ts) (o : onC' kq O X Y) (hO : ∀ a ∈ O, OutX kq ts a) : Cx Y kq ts := by
  obtain ⟨h1, h2, h3, h4, h5, h6, h7⟩ := h
  have hO1 : ∀ a ∈ O, Out kq a := fun a ha => (hO a ha).1
  have ct : ∀ k, k < 9 → Y.1 (ts k) = X.1 (ts k) := fun k hk => (o.o (h1 k hk) (fun hm => (hO _ hm).2 k hk rfl)).1
  refine ⟨h1, h2.mv (ct 3 (by decide)), h3.mv (ct 4 (by decide)), fun j hj => by rw [ct 6 (by decide)]; exact h4 j hj, fun j hj => by rw [(o.k hI 2 5 rfl rfl hO1).2]; exact h5 j hj, fun j j1 j2 => ?_, by rw [(o.k hI 1 2 rfl rfl hO1).2]; exact h7⟩
  have ck : ∀ k, k < 4 → Y.1 (kq (16 + j) k) = X.1 (kq (16 + j) k) := fun k hk => by
    have q := kp_b j j2 k hk
    rw [Bool.and_eq_true] at q
    exact (o.k hI (16 + j) k q.1 q.2 hO1).1
  obtain ⟨l, m, k, dd, w, q0, q1, q2, q3, q4⟩ := h6 j j1 j2
  exact ⟨l, m, k, dd, w, q0.mv (ck 0 (by decide)), q1.mv (ck 1 (by decide)), q2.mv (ck 2 (by decide)), q3.mv (ck 3 (by decide)), q4⟩
/-! the class's hash of one, two and three texts -/
theorem haK_o {kq : Nat → Nat → Nat} {a : Nat} (h : Out kq a) : a ∉ haK.map (fun q => kq q.1 q.2) := h.ni rfl
theorem c_sha1 {X : vM} {kq : Nat → Nat → Nat} {ts : Nat → Nat} {a to n : Nat} (hI : KInj kq) (hx : Cx X kq ts) (ha : a ∉ haK.map (fun q => kq q.1 q.2)) (ht : to ≠ kq 5 0) (hb : ∀ i, i < n → isB (X.2 a i)) : ∃ Y, LF_Ha_finish (LF_Ha_take (LF_Ha_begin X kq ts) kq ts a n 0 0).1 kq ts to (LF_Ha_take (LF_Ha_begin X kq ts) kq ts a n 0 0).2.1 (LF_Ha_take (LF_Ha_begin X kq ts) kq ts a n 0 0).2.2 = svI Y to 64 (hby (sha (X.2 a) n)) ∧ onK kq haK X Y := by
  obtain ⟨b1, b2⟩ := c_begin (kq := kq) (ts := ts) (X.2 a) hx.2.2.2.1
  obtain ⟨X1, e1⟩ : ∃ Y, LF_Ha_begin X kq ts = Y := ⟨_, rfl⟩
  rw [e1] at b1 b2 ⊢
  have hx1 : X1.2 a = X.2 a := (b1 a ha).2
  obtain ⟨t1, t2, t3, t4⟩ := c_take (X := X1) (ts := ts) (a0 := a) (t := 0) (v := n) (tt := 0) (f := X.2 a) hI ha (fun i hi => by rw [hx1]; exact hb i hi) (fun i hi => by rw [hx1, Nat.zero_add]) b2
  rw [Nat.zero_add] at t2 t3 t4
  have e0 : (0 : Nat) % 128 = 0 := rfl
  rw [e0] at t1 t2 t3 t4
  rw [t2, t3]
  obtain ⟨X2, e2⟩ : ∃ Y, (LF_Ha_take X1 kq ts a n 0 0).1 = Y := ⟨_, rfl⟩
  rw [e2] at t1 t4 ⊢
  obtain ⟨Y, f1, f2⟩ := c_fin (ts := ts) hI ht t4
  exact ⟨Y, f1, (b1.tr t1).tr f2⟩
theorem c_sha2 {X : vM} {kq : Nat → Nat → Nat} {ts : Nat → Nat} {a b to n m : Nat} (hI : KInj kq) (hx : Cx X kq ts) (ha : a ∉ haK.map (fun q => kq q.1 q.2)) (hbb : b ∉ haK.map (fun q => kq q.1 q.2)) (ht : to ≠ kq 5 0) (hb : ∀ i, i < n → isB (X.2 a i)) (hc : ∀ i, i < m → isB (X.2 b i)) {X1 X2 X3 : vM} {h2 t2 h3 t3 : Nat} (e1 : LF_Ha_begin X kq ts = X1) (e2 : LF_Ha_take X1 kq ts a n 0 0 = (X2, h2, t2)) (e3 : LF_Ha_take X2 kq ts b m h2 t2 = (X3, h3, t3)) : ∃ Y, LF_Ha_finish X3 kq ts to h3 t3 = svI Y to 64 (hby (sha (cat (X.2 a) n (X.2 b)) (n + m))) ∧ onK kq haK X Y := by
  obtain ⟨b1, b2⟩ := c_begin (kq := kq) (ts := ts) (cat (X.2 a) n (X.2 b)) hx.2.2.2.1
  rw [e1] at b1 b2
  have hxa : X1.2 a = X.2 a := (b1 a ha).2
  have q := c_take (X := X1) (ts := ts) (a0 := a) (t := 0) (v := n) (tt := 0) (f := cat (X.2 a) n (X.2 b)) hI ha (fun i hi => by rw [hxa]; exact hb i hi) (fun i hi => by rw [hxa, Nat.zero_add, cat_l hi]) b2
  rw [show (0 : Nat) % 128 = 0 from rfl, e2, Nat.zero_add] at q
  obtain ⟨q1, q2, q3, q4⟩ := q
  simp only [] at q1 q2 q3 q4
  have hxb : X2.2 b = X.2 b := (q1 b hbb).2.trans (b1 b hbb).2
  have p := c_take (X := X2) (ts := ts) (a0 := b) (t := n) (v := m) (tt := n) (f := cat (X.2 a) n (X.2 b)) hI hbb (fun i hi => by rw [hxb]; exact hc i hi) (fun i hi => by rw [hxb, cat_r]) q4
  have e3' : LF_Ha_take X2 kq ts b m (n % 128) n = (X3, h3, t3) := by
    rw [q2, q3] at e3
    exact e3
  rw [e3'] at p
  obtain ⟨p1, p2, p3, p4⟩ := p
  simp only [] at p1 p2 p3 p4
  obtain ⟨Y, f1, f2⟩ := c_fin (ts := ts) hI ht p4
  rw [p2, p3]
  exact ⟨Y, f1, ((b1.tr q1).tr p1).tr f2⟩
theorem c_sha3 {X : vM} {kq : Nat → Nat → Nat} {ts : Nat → Nat} {a b c to n m k : Nat} (hI : KInj kq) (hx : Cx X kq ts) (ha : a ∉ haK.map (fun q => kq q.1 q.2)) (hbb : b ∉ haK.map (fun q => kq q.1 q.2)) (hcc : c ∉ haK.map (fun q => kq q.1 q.2)) (ht : to ≠ kq 5 0) (hb : ∀ i, i < n → isB (X.2 a i)) (hc : ∀ i, i < m → isB (X.2 b i)) (hd : ∀ i, i < k → isB (X.2 c i)) {X1 X2 X3 X4 : vM} {h2 t2 h3 t3 h4 t4 : Nat} (e1 : LF_Ha_begin X kq ts = X1) (e2 : LF_Ha_take X1 kq ts a n 0 0 = (X2, h2, t2)) (e3 : LF_Ha_take X2 kq ts b m h2 t2 = (X3, h3, t3)) (e4 : LF_Ha_take X3 kq ts c k h3 t3 = (X4, h4, t4)) : ∃ Y, LF_Ha_finish X4 kq ts to h4 t4 = svI Y to 64 (hby (sha (cat (X.2 a) n (cat (X.2 b) m (X.2 c))) (n + m + k))) ∧ onK kq haK X Y := by
  obtain ⟨b1, b2⟩ := c_begin (kq := kq) (ts := ts) (cat (X.2 a) n (cat (X.2 b) m (X.2 c))) hx.2.2.2.1
  rw [e1] at b1 b2
  have hxa : X1.2 a = X.2 a := (b1 a ha).2
  have q := c_take (X := X1) (ts := ts) (a0 := a) (t := 0) (v := n) (tt := 0) (f := cat (X.2 a) n (cat (X.2 b) m (X.2 c))) hI ha (fun i hi => by rw [hxa]; exact hb i hi) (fun i hi => by rw [hxa, Nat.zero_add, cat_l hi]) b2
  rw [show (0 : Nat) % 128 = 0 from rfl, e2, Nat.zero_add] at q
  obtain ⟨q1, q2, q3, q4⟩ := q
  simp only [] at q1 q2 q3 q4
  have hxb : X2.2 b = X.2 b := (q1 b hbb).2.trans (b1 b hbb).2
  have p := c_take (X := X2) (ts := ts) (a0 := b) (t := n) (v := m) (tt := n) (f := cat (X.2 a) n (cat (X.2 b) m (X.2 c))) hI hbb (fun i hi => by rw [hxb]; exact hc i hi) (fun i hi => by rw [hxb, cat_r, cat_l hi]) q4
  have e3' : LF_Ha_take X2 kq ts b m (n % 128) n = (X3, h3, t3) := by
    rw [q2, q3] at e3
    exact e3
  rw [e3'] at p
  obtain ⟨p1, p2, p3, p4⟩ := p
  simp only [] at p1 p2 p3 p4
  have hxc : X3.2 c = X.2 c := ((p1 c hcc).2.trans (q1 c hcc).2).trans (b1 c hcc).2
  have s := c_take (X := X3) (ts := ts) (a0 := c) (t := n + m) (v := k) (tt := n + m) (f := cat (X.2 a) n (cat (X.2 b) m (X.2 c))) hI hcc (fun i hi => by rw [hxc]; exact hd i hi) (fun i hi => by rw [hxc, Nat.add_assoc, cat_r, cat_r]) p4
  have e4' : LF_Ha_take X3 kq ts c k ((n + m) % 128) (n + m) = (X4, h4, t4) := by
    rw [p2, p3] at e4
    exact e4
  rw [e4'] at s
  obtain ⟨s1, s2, s3, s4⟩ := s
  simp only [] at s1 s2 s3 s4
  obtain ⟨Y, f1, f2⟩ := c_fin (ts := ts) hI ht s4
  rw [s2, s3]
  exact ⟨Y, f1, (((b1.tr q1).tr p1).tr s1).tr f2⟩
