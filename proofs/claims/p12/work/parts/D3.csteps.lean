/-! a call of the class, by the law's own method -/
def CStep (l : Launch) (D : va_G) (g : ClassId → FieldType → Prop) (y : MethodName) (b : ByteArray) (mL : Nat) (hh : List (Nat × Nat × Nat × Nat)) (vs : List Value) (H : Heap) (ou a0 a1 a3 k cap : Nat) (R : Nat → Heap → Prop) : Prop := ∃ (E : Nat → Prop) (P : Heap → Prop) (fr lo mc mS cap' : Nat), fr ≤ 100 ∧ lo ≤ 20000 ∧ mc ≤ 5 ∧ (mS + 2 * cap ≤ 2 * cap' + 133 ∧ cap' ≤ cap + 65536) ∧ Met l y (.codeWith y b mL (some .int) hh :: G_) { frames := fr, cells := mc, slots := mS, locals := lo } (tx_Pc vs H D g) (px_Q g E H (nI k) P) mc mS E ∧ (∀ z, E z → CZ a0 a1 a3 z ∨ z = ou) ∧ ∀ H1, P H1 → sx_J g E H H1 → R cap' H1
theorem xB_ext {f f' : Nat → Int32} {u : Nat} (h : ∀ j, j < 32 → f j = f' j) : xB f u = xB f' u := by
  unfold xB
  rw [leN_ext 32 h]
section KSS
variable {l : Launch} {D : va_G} {g : ClassId → FieldType → Prop} {kq : Nat → Nat → Nat} {ts : Nat → Nat} {x kA re ve ou a0 a1 a3 cap : Nat} {tl ml rl kc : Nat} {tp ms rs : Nat → Int32} {ks : Nat → Nat → Int32} {H H1 : Heap} {w0 : Int64}

theorem lo_.out {w : Int64} (h : lo_ g H ou w) {E : Nat → Prop} (hJ : sx_J g E H H1) (hE : ∀ z, E z → CZ a0 a1 a3 z) (no : ¬ CZ a0 a1 a3 ou) : lo_ g H1 ou w := h.j hJ (fun z => no (hE _ z))
theorem ks_ext {ta ma bt nt bm nm : Nat} {ko : Nat → Nat} {q : Nat → Nat → Nat} {rd : Nat → Bool} {sg za : Int32} (hg : KSg D g kq ts x kA re ve a0 a1 a3 cap tl ml rl kc tp ms rs ks H ta ma bt nt bm nm ko q rd sg za) (hc : KC0 D kq ts a0 a1 a3) {B : Prop} {I : List Nat} (hI : ∀ i ∈ I, i < 5 * kc + 8) : kc_ D g (hE B kq (kad x kA re ve ta ma bt bm ko q) I) H kq ts := by
  obtain ⟨hcap, hsz, hX, hT, hM, hK, hr, hv, hC, hO, hA, v⟩ := hg
  refine hC.ext (fun z h => Or.inl h) (fun z h => ?_)
  rcases h with h | ⟨-, rfl⟩ | ⟨i, hi, rfl⟩
  · exact Or.inl h
  · exact Or.inr hc.c5
  · exact Or.inr (hA.2 i (hI i hi)).1.1
theorem ks_cz {ta ma bt nt bm nm : Nat} {ko : Nat → Nat} {q : Nat → Nat → Nat} {rd : Nat → Bool} {sg za : Int32} (hg : KSg D g kq ts x kA re ve a0 a1 a3 cap tl ml rl kc tp ms rs ks H ta ma bt nt bm nm ko q rd sg za) (hc : KC0 D kq ts a0 a1 a3) {B : Prop} {I : List Nat} (hI : ∀ i ∈ I, i < 5 * kc + 8) : ∀ z, hE B kq (kad x kA re ve ta ma bt bm ko q) I z → CZ a0 a1 a3 z := fun z h => by
  obtain ⟨hcap, hsz, hX, hT, hM, hK, hr, hv, hC, hO, hA, v⟩ := hg
  rcases h with h | ⟨-, rfl⟩ | ⟨i, hi, rfl⟩
  · exact hc.ke h
  · exact hc.h5
  · exact (hA.2 i (hI i hi)).1.2.2.2
theorem ks_hv {ta ma bt nt bm nm : Nat} {ko : Nat → Nat} {q : Nat → Nat → Nat} {rd : Nat → Bool} {sg za : Int32} (hg : KSg D g kq ts x kA re ve a0 a1 a3 cap tl ml rl kc tp ms rs ks H ta ma bt nt bm nm ko q rd sg za) (hc : KC0 D kq ts a0 a1 a3) {B : Prop} {I : List Nat} (hI : ∀ i ∈ I, i < 5 * kc + 8) (hJ : sx_J g (hE B kq (kad x kA re ve ta ma bt bm ko q) I) H H1) (hV : onP (KV kq (fO (kad x kA re ve ta ma bt bm ko q) I)) (mm g H) (mm g H1)) : kc_ D g (KE kq) H1 kq ts ∧ Cx (mm g H1) kq ts ∧ (∀ j, j < 5 * kc + 8 → j ∉ I → (mm g H1).2 ((kad x kA re ve ta ma bt bm ko q) j) = (mm g H).2 ((kad x kA re ve ta ma bt bm ko q) j)) ∧ ∀ j, j < 5 * kc + 8 → j ∉ I → ¬ hE B kq (kad x kA re ve ta ma bt bm ko q) I ((kad x kA re ve ta ma bt bm ko q) j) := by
  obtain ⟨hcap, hsz, hX, hT, hM, hK, hr, hv, hC, hO, hA, v⟩ := hg
  refine ⟨hC.mv hJ (fun z h => ?_), v.1.kv hc.1 hV (fun z h => ?_), fun j hj hn => (hV _ (KV.o (hA.2 j hj).1.2.1 (hA.nf hI hj hn))).2, fun j hj hn => hA.ni hI hj hn⟩
  · rcases h with h | ⟨-, rfl⟩ | ⟨i, hi, rfl⟩
    · exact Or.inl h
    · exact Or.inr hc.c5
    · exact Or.inr (hA.2 i (hI i hi)).1.1
  · obtain ⟨i, hi, rfl⟩ := h
    exact hA.ox (hI i hi)
/-- the hash stands, if it is not among what is written -/
theorem ks_ho (hc : KC0 D kq ts a0 a1 a3) {f : Nat → Nat} {N : Nat} {I : List Nat} (hA : KAd D kq ts a0 a1 a3 H.size f N) (hI : ∀ i ∈ I, i < N) (hJ : sx_J g (hE False kq f I) H H1) (hO : ho_ D kq H) : ho_ D kq H1 := by
  obtain ⟨z1, z2, z3⟩ := hO
  refine ⟨z1, z2, hJ.ob (fun h => ?_) z3⟩
  rcases h with ⟨p, hp, e⟩ | ⟨h, -⟩ | ⟨i, hi, e⟩
  · exact hc.2.2.2.2 p (List.mem_append_left _ hp) e
  · exact h
  · exact (hA.2 i (hI i hi)).1.2.2.1 e.symm
/-- it throws -/
theorem cs_x (hS : KS D g kq ts x kA re ve a0 a1 a3 cap tl ml rl kc tp ms rs ks H) (hc : KC0 D kq ts a0 a1 a3) (hou : lo_ g H ou w0) {y : MethodName} {b : ByteArray} {mL fr lo k : Nat} {hh : List (Nat × Nat × Nat × Nat)} {vs : List Value} (hM : Met l y (.codeWith y b mL (some .int) hh :: G_) { frames := fr, cells := 1, slots := 6, locals := lo } (tx_Pc vs H D g) (px_Q g (fun _ => False) H (nI k) (fun _ => True)) 1 6 (fun _ => False)) (hf : fr ≤ 100) (hl : lo ≤ 20000) : CStep l D g y b mL hh vs H ou a0 a1 a3 k cap (fun c H1 => KS D g kq ts x kA re ve a0 a1 a3 c tl ml rl kc tp ms rs ks H1 ∧ ∃ w, lo_ g H1 ou w) :=
  ⟨fun _ => False, fun _ => True, fr, lo, 1, 6, cap, hf, hl, by omega, by omega, hM, fun z h => h.elim, fun H1 _ hJ => ⟨hS.kept hc hJ (fun z h => h.elim), w0, hou.j hJ id⟩⟩
theorem s_feed_x (htr : l.stackTraces = false) (hS : KS D g kq ts x kA re ve a0 a1 a3 cap tl ml rl kc tp ms rs ks H) (hc : KC0 D kq ts a0 a1 a3) (ok : Aok tl ml rl kc tp ms rs ks) (hou : lo_ g H ou w0) (no : ¬ CZ a0 a1 a3 ou) {u0 u1 u2 u3 u4 : Int32} (hw : 65536 < tl + 20) : CStep l D g y_L_feed b_L_feed 8 hh_L_feed [.ref x, .int u0, .int u1, .int u2, .int u3, .int u4, .ref ou] H ou a0 a1 a3 1 cap (fun c H1 => KS D g kq ts x kA re ve a0 a1 a3 c tl ml rl kc tp ms rs ks H1 ∧ ∃ w, lo_ g H1 ou w) := by
  have hS0 := hS
  obtain ⟨ta, ma, bt, nt, bm, nm, ko, q, rd, sg, za, hg⟩ := hS
  have hg0 := hg
  obtain ⟨hcap, hsz, hX, hT, hM, hK, hr, hv, hC, hO, hA, v⟩ := hg
  obtain ⟨v1, v2, v3, v4, v5, v6⟩ := id v
  obtain ⟨fk, hka, hkk⟩ := id hK
  exact cs_x hS0 hc hou (hx_feed_1 (w0 := 0) (t_K_feed htr hX hT.1 hw ok.1) hX) (by decide) (by decide)
theorem s_end_x (htr : l.stackTraces = false) (hS : KS D g kq ts x kA re ve a0 a1 a3 cap tl ml rl kc tp ms rs ks H) (hc : KC0 D kq ts a0 a1 a3) (ok : Aok tl ml rl kc tp ms rs ks) (hou : lo_ g H ou w0) (no : ¬ CZ a0 a1 a3 ou) {u0 : Int32} (hw : ¬ u0 < 0 → ¬ u0 ≤ nI tl) : CStep l D g y_L_end b_L_end 4 hh_L_end [.ref x, .int u0, .ref ou] H ou a0 a1 a3 1 cap (fun c H1 => KS D g kq ts x kA re ve a0 a1 a3 c tl ml rl kc tp ms rs ks H1 ∧ ∃ w, lo_ g H1 ou w) := by
  have hS0 := hS
  obtain ⟨ta, ma, bt, nt, bm, nm, ko, q, rd, sg, za, hg⟩ := hS
  have hg0 := hg
  obtain ⟨hcap, hsz, hX, hT, hM, hK, hr, hv, hC, hO, hA, v⟩ := hg
  obtain ⟨v1, v2, v3, v4, v5, v6⟩ := id v
  obtain ⟨fk, hka, hkk⟩ := id hK
  exact cs_x hS0 hc hou (hx_end_1 (w0 := 0) (t_K_end htr hX hT.1 hw) hX) (by decide) (by decide)
theorem s_key_x (htr : l.stackTraces = false) (hS : KS D g kq ts x kA re ve a0 a1 a3 cap tl ml rl kc tp ms rs ks H) (hc : KC0 D kq ts a0 a1 a3) (ok : Aok tl ml rl kc tp ms rs ks) (hou : lo_ g H ou w0) (no : ¬ CZ a0 a1 a3 ou) (hw : tl ≠ 32) : CStep l D g y_L_key b_L_key 3 hh_L_key [.ref x, .ref ou] H ou a0 a1 a3 1 cap (fun c H1 => KS D g kq ts x kA re ve a0 a1 a3 c tl ml rl kc tp ms rs ks H1 ∧ ∃ w, lo_ g H1 ou w) := by
  have hS0 := hS
  obtain ⟨ta, ma, bt, nt, bm, nm, ko, q, rd, sg, za, hg⟩ := hS
  have hg0 := hg
  obtain ⟨hcap, hsz, hX, hT, hM, hK, hr, hv, hC, hO, hA, v⟩ := hg
  obtain ⟨v1, v2, v3, v4, v5, v6⟩ := id v
  obtain ⟨fk, hka, hkk⟩ := id hK
  exact cs_x hS0 hc hou (hx_key_1 (w0 := 0) (t_K_key_a htr hX hT.1 hw ok.1) hX) (by decide) (by decide)
theorem s_key_y (htr : l.stackTraces = false) (hS : KS D g kq ts x kA re ve a0 a1 a3 cap tl ml rl kc tp ms rs ks H) (hc : KC0 D kq ts a0 a1 a3) (ok : Aok tl ml rl kc tp ms rs ks) (hou : lo_ g H ou w0) (no : ¬ CZ a0 a1 a3 ou) (ht : tl = 32) (hw : 100 ≤ kc) : CStep l D g y_L_key b_L_key 3 hh_L_key [.ref x, .ref ou] H ou a0 a1 a3 2 cap (fun c H1 => KS D g kq ts x kA re ve a0 a1 a3 c tl ml rl kc tp ms rs ks H1 ∧ ∃ w, lo_ g H1 ou w) := by
  have hS0 := hS
  obtain ⟨ta, ma, bt, nt, bm, nm, ko, q, rd, sg, za, hg⟩ := hS
  have hg0 := hg
  obtain ⟨hcap, hsz, hX, hT, hM, hK, hr, hv, hC, hO, hA, v⟩ := hg
  obtain ⟨v1, v2, v3, v4, v5, v6⟩ := id v
  obtain ⟨fk, hka, hkk⟩ := id hK
  exact cs_x hS0 hc hou (hx_key_2 (w0 := 0) (t_K_key_s htr hX (by have := hT.1; rwa [ht] at this) hw ok.2.2.2.1) hX) (by decide) (by decide)
theorem s_open_x (htr : l.stackTraces = false) (hS : KS D g kq ts x kA re ve a0 a1 a3 cap tl ml rl kc tp ms rs ks H) (hc : KC0 D kq ts a0 a1 a3) (ok : Aok tl ml rl kc tp ms rs ks) (hou : lo_ g H ou w0) (no : ¬ CZ a0 a1 a3 ou) {u0 u1 : Int32} (hw : ¬ u0 < 0 → ¬ u0 < nI kc) : CStep l D g y_L_open b_L_open 4 hh_L_open [.ref x, .int u0, .int u1] H ou a0 a1 a3 1 cap (fun c H1 => KS D g kq ts x kA re ve a0 a1 a3 c tl ml rl kc tp ms rs ks H1 ∧ ∃ w, lo_ g H1 ou w) := by
  have hS0 := hS
  obtain ⟨ta, ma, bt, nt, bm, nm, ko, q, rd, sg, za, hg⟩ := hS
  have hg0 := hg
  obtain ⟨hcap, hsz, hX, hT, hM, hK, hr, hv, hC, hO, hA, v⟩ := hg
  obtain ⟨v1, v2, v3, v4, v5, v6⟩ := id v
  obtain ⟨fk, hka, hkk⟩ := id hK
  exact cs_x hS0 hc hou (hx_open_1 (t_K_open_n htr hX hw) hX) (by decide) (by decide)
theorem s_open_y (htr : l.stackTraces = false) (hS : KS D g kq ts x kA re ve a0 a1 a3 cap tl ml rl kc tp ms rs ks H) (hc : KC0 D kq ts a0 a1 a3) (ok : Aok tl ml rl kc tp ms rs ks) (hou : lo_ g H ou w0) (no : ¬ CZ a0 a1 a3 ou) {k : Nat} {u1 : Int32} (hk : k < kc) (hw : ¬ u1 = 0) (hw2 : ¬ u1 = nI 1) : CStep l D g y_L_open b_L_open 4 hh_L_open [.ref x, .int (nI k), .int u1] H ou a0 a1 a3 2 cap (fun c H1 => KS D g kq ts x kA re ve a0 a1 a3 c tl ml rl kc tp ms rs ks H1 ∧ ∃ w, lo_ g H1 ou w) := by
  have hS0 := hS
  obtain ⟨ta, ma, bt, nt, bm, nm, ko, q, rd, sg, za, hg⟩ := hS
  have hg0 := hg
  obtain ⟨hcap, hsz, hX, hT, hM, hK, hr, hv, hC, hO, hA, v⟩ := hg
  obtain ⟨v1, v2, v3, v4, v5, v6⟩ := id v
  obtain ⟨fk, hka, hkk⟩ := id hK
  exact cs_x hS0 hc hou (hx_open_2 (t_K_open_a htr hX hka (hkk k hk).1 hk ok.2.2.2.1 hw hw2) hX) (by decide) (by decide)
theorem s_agree_x (htr : l.stackTraces = false) (hS : KS D g kq ts x kA re ve a0 a1 a3 cap tl ml rl kc tp ms rs ks H) (hc : KC0 D kq ts a0 a1 a3) (ok : Aok tl ml rl kc tp ms rs ks) (hou : lo_ g H ou w0) (no : ¬ CZ a0 a1 a3 ou) {u0 : Int32} (hw : ¬ u0 < 0 → ¬ u0 < nI kc) : CStep l D g y_L_agree b_L_agree 4 hh_L_agree [.ref x, .int u0, .ref ou] H ou a0 a1 a3 1 cap (fun c H1 => KS D g kq ts x kA re ve a0 a1 a3 c tl ml rl kc tp ms rs ks H1 ∧ ∃ w, lo_ g H1 ou w) := by
  have hS0 := hS
  obtain ⟨ta, ma, bt, nt, bm, nm, ko, q, rd, sg, za, hg⟩ := hS
  have hg0 := hg
  obtain ⟨hcap, hsz, hX, hT, hM, hK, hr, hv, hC, hO, hA, v⟩ := hg
  obtain ⟨v1, v2, v3, v4, v5, v6⟩ := id v
  obtain ⟨fk, hka, hkk⟩ := id hK
  exact cs_x hS0 hc hou (hx_agree_1 (w0 := 0) (t_K_agree_n htr hX hw) hX) (by decide) (by decide)
theorem s_agree_y (htr : l.stackTraces = false) (hS : KS D g kq ts x kA re ve a0 a1 a3 cap tl ml rl kc tp ms rs ks H) (hc : KC0 D kq ts a0 a1 a3) (ok : Aok tl ml rl kc tp ms rs ks) (hou : lo_ g H ou w0) (no : ¬ CZ a0 a1 a3 ou) {k : Nat} (hk : k < kc) (hw : tl ≠ 32) : CStep l D g y_L_agree b_L_agree 4 hh_L_agree [.ref x, .int (nI k), .ref ou] H ou a0 a1 a3 2 cap (fun c H1 => KS D g kq ts x kA re ve a0 a1 a3 c tl ml rl kc tp ms rs ks H1 ∧ ∃ w, lo_ g H1 ou w) := by
  have hS0 := hS
  obtain ⟨ta, ma, bt, nt, bm, nm, ko, q, rd, sg, za, hg⟩ := hS
  have hg0 := hg
  obtain ⟨hcap, hsz, hX, hT, hM, hK, hr, hv, hC, hO, hA, v⟩ := hg
  obtain ⟨v1, v2, v3, v4, v5, v6⟩ := id v
  obtain ⟨fk, hka, hkk⟩ := id hK
  exact cs_x hS0 hc hou (hx_agree_2 (w0 := 0) (t_K_agree_a htr hX hT.1 hka (hkk k hk).1 hk ok.2.2.2.1 hw ok.1) hX) (by decide) (by decide)
theorem s_sign_x (htr : l.stackTraces = false) (hS : KS D g kq ts x kA re ve a0 a1 a3 cap tl ml rl kc tp ms rs ks H) (hc : KC0 D kq ts a0 a1 a3) (ok : Aok tl ml rl kc tp ms rs ks) (hou : lo_ g H ou w0) (no : ¬ CZ a0 a1 a3 ou) {u0 : Int32} (hw : ¬ u0 < 0 → ¬ u0 < nI kc) : CStep l D g y_L_sign b_L_sign 3 hh_L_sign [.ref x, .int u0] H ou a0 a1 a3 1 cap (fun c H1 => KS D g kq ts x kA re ve a0 a1 a3 c tl ml rl kc tp ms rs ks H1 ∧ ∃ w, lo_ g H1 ou w) := by
  have hS0 := hS
  obtain ⟨ta, ma, bt, nt, bm, nm, ko, q, rd, sg, za, hg⟩ := hS
  have hg0 := hg
  obtain ⟨hcap, hsz, hX, hT, hM, hK, hr, hv, hC, hO, hA, v⟩ := hg
  obtain ⟨v1, v2, v3, v4, v5, v6⟩ := id v
  obtain ⟨fk, hka, hkk⟩ := id hK
  exact cs_x hS0 hc hou (hx_sign_1 (t_K_sign_n htr hX hw) hX) (by decide) (by decide)
theorem s_verify_x (htr : l.stackTraces = false) (hS : KS D g kq ts x kA re ve a0 a1 a3 cap tl ml rl kc tp ms rs ks H) (hc : KC0 D kq ts a0 a1 a3) (ok : Aok tl ml rl kc tp ms rs ks) (hou : lo_ g H ou w0) (no : ¬ CZ a0 a1 a3 ou) (hw : tl ≠ 96) : CStep l D g y_L_verify b_L_verify 3 hh_L_verify [.ref x, .ref ou] H ou a0 a1 a3 1 cap (fun c H1 => KS D g kq ts x kA re ve a0 a1 a3 c tl ml rl kc tp ms rs ks H1 ∧ ∃ w, lo_ g H1 ou w) := by
  have hS0 := hS
  obtain ⟨ta, ma, bt, nt, bm, nm, ko, q, rd, sg, za, hg⟩ := hS
  have hg0 := hg
  obtain ⟨hcap, hsz, hX, hT, hM, hK, hr, hv, hC, hO, hA, v⟩ := hg
  obtain ⟨v1, v2, v3, v4, v5, v6⟩ := id v
  obtain ⟨fk, hka, hkk⟩ := id hK
  exact cs_x hS0 hc hou (hx_verify_1 (w0 := 0) (t_K_verify_a htr hX hT.1 hw ok.1) hX) (by decide) (by decide)
theorem s_point_x (htr : l.stackTraces = false) (hS : KS D g kq ts x kA re ve a0 a1 a3 cap tl ml rl kc tp ms rs ks H) (hc : KC0 D kq ts a0 a1 a3) (ok : Aok tl ml rl kc tp ms rs ks) (hou : lo_ g H ou w0) (no : ¬ CZ a0 a1 a3 ou) (hw : tl ≠ 32) : CStep l D g y_L_point b_L_point 3 hh_L_point [.ref x, .ref ou] H ou a0 a1 a3 1 cap (fun c H1 => KS D g kq ts x kA re ve a0 a1 a3 c tl ml rl kc tp ms rs ks H1 ∧ ∃ w, lo_ g H1 ou w) := by
  have hS0 := hS
  obtain ⟨ta, ma, bt, nt, bm, nm, ko, q, rd, sg, za, hg⟩ := hS
  have hg0 := hg
  obtain ⟨hcap, hsz, hX, hT, hM, hK, hr, hv, hC, hO, hA, v⟩ := hg
  obtain ⟨v1, v2, v3, v4, v5, v6⟩ := id v
  obtain ⟨fk, hka, hkk⟩ := id hK
  exact cs_x hS0 hc hou (hx_point_1 (w0 := 0) (t_K_point_a htr hX hT.1 hw ok.1) hX) (by decide) (by decide)
theorem s_back_x (htr : l.stackTraces = false) (hS : KS D g kq ts x kA re ve a0 a1 a3 cap tl ml rl kc tp ms rs ks H) (hc : KC0 D kq ts a0 a1 a3) (ok : Aok tl ml rl kc tp ms rs ks) (hou : lo_ g H ou w0) (no : ¬ CZ a0 a1 a3 ou) {u0 u1 : Int32} (hw : ¬ u0 < (-1 : Int32) → ¬ u0 < nI rl) : CStep l D g y_L_back b_L_back 5 hh_L_back [.ref x, .int u0, .int u1, .ref ou] H ou a0 a1 a3 1 cap (fun c H1 => KS D g kq ts x kA re ve a0 a1 a3 c tl ml rl kc tp ms rs ks H1 ∧ ∃ w, lo_ g H1 ou w) := by
  have hS0 := hS
  obtain ⟨ta, ma, bt, nt, bm, nm, ko, q, rd, sg, za, hg⟩ := hS
  have hg0 := hg
  obtain ⟨hcap, hsz, hX, hT, hM, hK, hr, hv, hC, hO, hA, v⟩ := hg
  obtain ⟨v1, v2, v3, v4, v5, v6⟩ := id v
  obtain ⟨fk, hka, hkk⟩ := id hK
  exact cs_x hS0 hc hou (hx_back_1 (w0 := 0) (t_K_back_i htr hX hw) hX) (by decide) (by decide)
theorem s_back_y (htr : l.stackTraces = false) (hS : KS D g kq ts x kA re ve a0 a1 a3 cap tl ml rl kc tp ms rs ks H) (hc : KC0 D kq ts a0 a1 a3) (ok : Aok tl ml rl kc tp ms rs ks) (hou : lo_ g H ou w0) (no : ¬ CZ a0 a1 a3 ou) {u0 u1 : Int32} (hw1 : ¬ u0 < (-1 : Int32)) (hw2 : u0 < nI rl) (hw : 65536 < tl + rl) : CStep l D g y_L_back b_L_back 5 hh_L_back [.ref x, .int u0, .int u1, .ref ou] H ou a0 a1 a3 2 cap (fun c H1 => KS D g kq ts x kA re ve a0 a1 a3 c tl ml rl kc tp ms rs ks H1 ∧ ∃ w, lo_ g H1 ou w) := by
  have hS0 := hS
  obtain ⟨ta, ma, bt, nt, bm, nm, ko, q, rd, sg, za, hg⟩ := hS
  have hg0 := hg
  obtain ⟨hcap, hsz, hX, hT, hM, hK, hr, hv, hC, hO, hA, v⟩ := hg
  obtain ⟨v1, v2, v3, v4, v5, v6⟩ := id v
  obtain ⟨fk, hka, hkk⟩ := id hK
  exact cs_x hS0 hc hou (hx_back_2 (w0 := 0) (t_K_back_s htr hX hT.1 hw1 hw2 hw ok.1 ok.2.2.1) hX) (by decide) (by decide)
theorem s_result_x (htr : l.stackTraces = false) (hS : KS D g kq ts x kA re ve a0 a1 a3 cap tl ml rl kc tp ms rs ks H) (hc : KC0 D kq ts a0 a1 a3) (ok : Aok tl ml rl kc tp ms rs ks) (hou : lo_ g H ou w0) (no : ¬ CZ a0 a1 a3 ou) {u0 : Int32} (hw : ¬ u0 < 0 → ¬ u0 < nI rl) : CStep l D g y_L_result b_L_result 4 hh_L_result [.ref x, .int u0, .ref ou] H ou a0 a1 a3 1 cap (fun c H1 => KS D g kq ts x kA re ve a0 a1 a3 c tl ml rl kc tp ms rs ks H1 ∧ ∃ w, lo_ g H1 ou w) := by
  have hS0 := hS
  obtain ⟨ta, ma, bt, nt, bm, nm, ko, q, rd, sg, za, hg⟩ := hS
  have hg0 := hg
  obtain ⟨hcap, hsz, hX, hT, hM, hK, hr, hv, hC, hO, hA, v⟩ := hg
  obtain ⟨v1, v2, v3, v4, v5, v6⟩ := id v
  obtain ⟨fk, hka, hkk⟩ := id hK
  exact cs_x hS0 hc hou (hx_result_1 (w0 := 0) (t_K_result htr hX hw) hX) (by decide) (by decide)
end KSS
