def agZ (f : Nat → Int32) (u : Nat) : Bool := decide (xL (nbit (clN (leN f 32))) (iF ((u % 57896044618658097711785492504343953926634992332820282019728792003956564819968 : Nat) : Int)) = 0)
def ptB (f : Nat → Int32) : Bool := decide (leN f 32 % 57896044618658097711785492504343953926634992332820282019728792003956564819968 < pP) && dOK (rtW (iF ((leN f 32 % 57896044618658097711785492504343953926634992332820282019728792003956564819968 : Nat) : Int))) (ub (f 31) / 128)
def dxB (f : Nat → Int32) : Nat → Int32 := byN (dX (rtW (iF ((leN f 32 % 57896044618658097711785492504343953926634992332820282019728792003956564819968 : Nat) : Int))) (ub (f 31) / 128)).val
def sgB (f M : Nat → Int32) (m : Nat) : Nat → Int32 := cat (byN (encN (emul eB (siR f M m)))) 32 (byN (siS f M m))
theorem agZ_ext {f f' : Nat → Int32} {u : Nat} (h : ∀ j, j < 32 → f j = f' j) : agZ f u = agZ f' u := by
  unfold agZ
  rw [leN_ext 32 h]
theorem ptB_ext {f f' : Nat → Int32} (h : ∀ j, j < 32 → f j = f' j) : ptB f = ptB f' := by
  unfold ptB
  rw [leN_ext 32 h, h 31 (by decide)]
theorem dxB_ext {f f' : Nat → Int32} (h : ∀ j, j < 32 → f j = f' j) : dxB f = dxB f' := by
  unfold dxB
  rw [leN_ext 32 h, h 31 (by decide)]
theorem edP_ext {f f' : Nat → Int32} (h : ∀ j, j < 32 → f j = f' j) : edP f = edP f' := by
  unfold edP edA
  rw [edH_ext h]
theorem cat_ext {f f' g g' : Nat → Int32} {n m : Nat} (h : ∀ j, j < n → f j = f' j) (k : ∀ j, j < m → g j = g' j) : ∀ i, i < n + m → cat f n g i = cat f' n g' i := fun i hi => by
  by_cases hc : i < n
  · rw [cat_l hc, cat_l hc]
    exact h i hc
  · rw [show i = n + (i - n) by omega, cat_r, cat_r]
    exact k _ (by omega)
theorem siR_ext {f f' M M' : Nat → Int32} {m : Nat} (h : ∀ j, j < 32 → f j = f' j) (k : ∀ j, j < m → M j = M' j) : siR f M m = siR f' M' m := by
  unfold siR
  rw [edH_ext h, sha_ext (cat_ext (fun _ _ => rfl) k)]
theorem siS_ext {f f' M M' : Nat → Int32} {m : Nat} (h : ∀ j, j < 32 → f j = f' j) (k : ∀ j, j < m → M j = M' j) : siS f M m = siS f' M' m := by
  have e1 : siK f M m = siK f' M' m := by
    unfold siK
    rw [siR_ext h k, edP_ext h, sha_ext (f := cat (byN (encN (emul eB (siR f' M' m)))) 32 (cat (byN (edP f')) 32 M)) (g := cat (byN (encN (emul eB (siR f' M' m)))) 32 (cat (byN (edP f')) 32 M')) (fun i hi => cat_ext (m := 32 + m) (fun _ _ => rfl) (cat_ext (fun _ _ => rfl) k) i (by omega))]
  unfold siS
  rw [e1, siR_ext h k]
  unfold edA
  rw [edH_ext h]
theorem sgB_ext {f f' M M' : Nat → Int32} {m : Nat} (h : ∀ j, j < 32 → f j = f' j) (k : ∀ j, j < m → M j = M' j) : sgB f M m = sgB f' M' m := by
  unfold sgB
  rw [siR_ext h k, siS_ext h k]
theorem isB_xB (f : Nat → Int32) (u j : Nat) : isB (xB f u j) := isB_byN _ _
section KSN
variable {l : Launch} {D : va_G} {g : ClassId → FieldType → Prop} {kq : Nat → Nat → Nat} {ts : Nat → Nat} {x kA re ve ou a0 a1 a3 cap : Nat} {tl ml rl kc : Nat} {tp ms rs : Nat → Int32} {ks : Nat → Nat → Int32} {H H1 : Heap} {w0 : Int64}
theorem s_open_a (hS : KS D g kq ts x kA re ve a0 a1 a3 cap tl ml rl kc tp ms rs ks H) (hc : KC0 D kq ts a0 a1 a3) (ok : Aok tl ml rl kc tp ms rs ks) (hou : lo_ g H ou w0) (no : ¬ CZ a0 a1 a3 ou) (ao : a0 ≤ ou) {k : Nat} (hk : k < kc) : CStep l D g y_L_open b_L_open 4 hh_L_open [.ref x, .int (nI k), .int (nI 0)] H ou a0 a1 a3 0 cap (fun c H1 => KS D g kq ts x kA re ve a0 a1 a3 c tl ml 32 kc tp ms (xB (ks k) 9) ks H1 ∧ ∃ w, lo_ g H1 ou w) := by
  obtain ⟨ta, ma, bt, nt, bm, nm, ko, q, rd, sg, za, hg⟩ := hS
  have hg0 := hg
  obtain ⟨hcap, hsz, hX, hT, hM, hK, hr, hv, hC, hO, hA, v⟩ := hg
  obtain ⟨v1, v2, v3, v4, v5, v6⟩ := id v
  obtain ⟨fk, hka, hkk⟩ := id hK
  have kb : ∀ j, j < 32 → isB ((mm g H).2 (q k 0) j) := fun j hj => by rw [v4 k hk j hj]; exact ok.2.2.2.2.2.2.2 k hk j hj
  have hI : ∀ i ∈ ([0, 4] : List Nat), i < 5 * kc + 8 := by
    intro i hi
    simp only [List.mem_cons, List.not_mem_nil, or_false] at hi
    omega
  have hm := v_K_open_a (l := l) (E := hE False kq (kad x kA re ve ta ma bt bm ko q) [0, 4]) (X := mm g H) hX hka (hA.ni (B := False) (I := [0, 4]) hI (j := 3) (by omega) (by simp only [List.mem_cons, List.not_mem_nil, or_false]; omega)) (hkk k hk).1 hk ok.2.2.2.1 (hkk k hk).2.1 (by have := hA.ne (i := 5 * k + 8) (j := 0) (by omega) (by omega) (by omega); rwa [kad_o] at this) (Or.inr (Or.inr ⟨0, by simp, rfl⟩)) (by have := hA.ni (B := False) (I := [0, 4]) hI (j := 5 * k + 8) (by omega) (by simp only [List.mem_cons, List.not_mem_nil, or_false]; omega); rwa [kad_o] at this) (hkk k hk).2.2 hr (Or.inr (Or.inr ⟨4, by simp, rfl⟩)) (ks_ext hg0 hc hI) rfl
  refine ⟨_, _, _, _, 0, 0, cap, ?_, ?_, by omega, by omega, h_open hm hX, fun z h => Or.inl (ks_cz hg0 hc hI z h), fun H2 hP hJ2 => ?_⟩
  · exact Nat.le_of_ble_eq_true rfl
  · exact Nat.le_of_ble_eq_true rfl
  have hJ := hJ2
  obtain ⟨hV1, hX1⟩ := hP
  have cv0 := cv_pub (X := mm g H) (to := re) (sec := q k 0) (O := fO (kad x kA re ve ta ma bt bm ko q) [0, 4]) hc.1 v1 kb ⟨4, by simp, rfl⟩
  rw [← hV1] at cv0
  have cv := cv0.1
  obtain ⟨c1, c2, c3, c4⟩ := ks_hv hg0 hc hI hJ cv
  have c4o : ∀ n, n < kc → ¬ hE False kq (kad x kA re ve ta ma bt bm ko q) [0, 4] (ko n) := fun n hn => by
    have := c4 (5 * n + 8) (by omega) (by simp only [List.mem_cons, List.not_mem_nil, or_false]; omega)
    rwa [kad_o] at this
  have cq : ∀ n, n < kc → ∀ j, j < 4 → (mm g H2).2 (q n j) = (mm g H).2 (q n j) := fun n hn j hj => by
    have := c3 (5 * n + j + 1 + 8) (by omega) (by simp only [List.mem_cons, List.not_mem_nil, or_false]; omega)
    rwa [kad_q n j hj] at this
  exact ⟨⟨ta, ma, bt, nt, bm, nm, ko, q, rd, sg, za, hcap, Nat.le_trans hsz hJ.1, hX1, hT.j hJ (c4 1 (by omega) (by simp only [List.mem_cons, List.not_mem_nil, or_false]; omega)), hM.j hJ (c4 2 (by omega) (by simp only [List.mem_cons, List.not_mem_nil, or_false]; omega)), hK.j hJ (c4 3 (by omega) (by simp)) c4o, hJ.2.2.1 _ _ _ hr, hJ.2.2.1 _ _ _ hv, c1, ks_ho hc hA hI hJ hO, hA.mono hJ.1, c2, fun j hj => by rw [show (mm g H2).2 bt = (mm g H).2 bt from c3 6 (by omega) (by simp only [List.mem_cons, List.not_mem_nil, or_false]; omega)]; exact v2 j hj, fun j hj => by rw [show (mm g H2).2 bm = (mm g H).2 bm from c3 7 (by omega) (by simp only [List.mem_cons, List.not_mem_nil, or_false]; omega)]; exact v3 j hj, fun n hn j hj => by rw [cq n hn 0 (by decide)]; exact v4 n hn j hj, fun j hj => by rw [cv0.2 j hj, xB_ext (v4 k hk)], fun n hn hr1 => (v6 n hn hr1).mv (cq n hn)⟩, w0, hou.out hJ (ks_cz hg0 hc hI) no⟩
theorem s_agree_0 (hS : KS D g kq ts x kA re ve a0 a1 a3 cap tl ml rl kc tp ms rs ks H) (hc : KC0 D kq ts a0 a1 a3) (ok : Aok tl ml rl kc tp ms rs ks) (hou : lo_ g H ou w0) (no : ¬ CZ a0 a1 a3 ou) (ao : a0 ≤ ou) {k : Nat} (hk : k < kc) (ht : tl = 32) (hz : agZ (ks k) (leN tp 32) = false) : CStep l D g y_L_agree b_L_agree 4 hh_L_agree [.ref x, .int (nI k), .ref ou] H ou a0 a1 a3 0 cap (fun c H1 => KS D g kq ts x kA re ve a0 a1 a3 c 0 ml 32 kc tp ms (xB (ks k) (leN tp 32)) ks H1 ∧ lo_ g H1 ou 1) := by
  obtain ⟨ta, ma, bt, nt, bm, nm, ko, q, rd, sg, za, hg⟩ := hS
  have hg0 := hg
  obtain ⟨hcap, hsz, hX, hT, hM, hK, hr, hv, hC, hO, hA, v⟩ := hg
  obtain ⟨v1, v2, v3, v4, v5, v6⟩ := id v
  obtain ⟨fk, hka, hkk⟩ := id hK
  have kb : ∀ j, j < 32 → isB ((mm g H).2 (q k 0) j) := fun j hj => by rw [v4 k hk j hj]; exact ok.2.2.2.2.2.2.2 k hk j hj
  subst ht
  have ng : kad x kA re ve ta ma bt bm ko q 6 ≠ kq 1 1 := Out.ne (hA.2 6 (by omega)).1.2.1 1 1 rfl
  have cv0 := cv_prod (X := mm g H) (ts := ts) (to := re) (sec := q k 0) (oth := bt) (O := fO (kad x kA re ve ta ma bt bm ko q) [0, 1, 4]) hc.1 ng kb ⟨4, by simp, rfl⟩
  rw [leN_ext (f := (mm g H).2 bt) (g := tp) 32 v2, xB_ext (v4 k hk)] at cv0
  have hw : LF_K_isZeroStart (LF_La_writeProduct (mm g H) kq ts re (q k 0) bt) re = false := by
    rw [cv_zero (f := ks k) (u := leN tp 32) cv0.2]
    exact hz
  have hI : ∀ i ∈ ([0, 1, 4] : List Nat), i < 5 * kc + 8 := by
    intro i hi
    simp only [List.mem_cons, List.not_mem_nil, or_false] at hi
    omega
  have hm := v_K_agree_0 (l := l) (E := hE False kq (kad x kA re ve ta ma bt bm ko q) [0, 1, 4]) (X := mm g H) hX hka (hA.ni (B := False) (I := [0, 1, 4]) hI (j := 3) (by omega) (by simp only [List.mem_cons, List.not_mem_nil, or_false]; omega)) (hkk k hk).1 hk ok.2.2.2.1 hT.1 (hA.ne (i := 0) (j := 1) (by omega) (by omega) (by decide)) (Or.inr (Or.inr ⟨0, by simp, rfl⟩)) (Or.inr (Or.inr ⟨1, by simp, rfl⟩)) hT.2.1 (by have := hT.n; omega) (hkk k hk).2.1 (by have := hA.ne (i := 5 * k + 8) (j := 0) (by omega) (by omega) (by omega); rwa [kad_o] at this) (by have := hA.ne (i := 5 * k + 8) (j := 1) (by omega) (by omega) (by omega); rwa [kad_o] at this) (by have := hA.ni (B := False) (I := [0, 1, 4]) hI (j := 5 * k + 8) (by omega) (by simp only [List.mem_cons, List.not_mem_nil, or_false]; omega); rwa [kad_o] at this) (hkk k hk).2.2 hr (Or.inr (Or.inr ⟨4, by simp, rfl⟩)) (ks_ext hg0 hc hI) hw rfl
  refine ⟨_, _, _, _, 0, 0, cap, ?_, ?_, by omega, by omega, h_agree_1 hm hX hou (fun z => no (ks_cz hg0 hc hI _ z)), fun z h => h.elim (fun h => Or.inl (ks_cz hg0 hc hI z h)) Or.inr, fun H2 hP hJ2 => ?_⟩
  · exact Nat.le_of_ble_eq_true rfl
  · exact Nat.le_of_ble_eq_true rfl
  obtain ⟨hlo, H1, hP, hJ, hJo⟩ := hP
  obtain ⟨hV1, hX1, hT1⟩ := hP
  have cv := cv0.1
  rw [← hV1] at cv
  have cr := cv0.2
  rw [← hV1] at cr
  obtain ⟨c1, c2, c3, c4⟩ := ks_hv hg0 hc hI hJ cv
  have c4o : ∀ n, n < kc → ¬ hE False kq (kad x kA re ve ta ma bt bm ko q) [0, 1, 4] (ko n) := fun n hn => by
    have := c4 (5 * n + 8) (by omega) (by simp only [List.mem_cons, List.not_mem_nil, or_false]; omega)
    rwa [kad_o] at this
  have cq : ∀ n, n < kc → ∀ j, j < 4 → (mm g H1).2 (q n j) = (mm g H).2 (q n j) := fun n hn j hj => by
    have := c3 (5 * n + j + 1 + 8) (by omega) (by simp only [List.mem_cons, List.not_mem_nil, or_false]; omega)
    rwa [kad_q n j hj] at this
  have hS1 : KS D g kq ts x kA re ve a0 a1 a3 cap 0 ml 32 kc tp ms (xB (ks k) (leN tp 32)) ks H1 := ⟨ta, ma, bt, nt, bm, nm, ko, q, rd, sg, za, hcap, Nat.le_trans hsz hJ.1, hX1, ⟨hT1, hJ.2.2.1 _ _ _ hT.2.1, hJ.2.2.2 _ _ hT.2.2.1, Nat.zero_le _, hT.2.2.2.2⟩, hM.j hJ (c4 2 (by omega) (by simp only [List.mem_cons, List.not_mem_nil, or_false]; omega)), hK.j hJ (c4 3 (by omega) (by simp)) c4o, hJ.2.2.1 _ _ _ hr, hJ.2.2.1 _ _ _ hv, c1, ks_ho hc hA hI hJ hO, hA.mono hJ.1, c2, fun j hj => absurd hj (Nat.not_lt_zero j), fun j hj => by rw [show (mm g H1).2 bm = (mm g H).2 bm from c3 7 (by omega) (by simp only [List.mem_cons, List.not_mem_nil, or_false]; omega)]; exact v3 j hj, fun n hn j hj => by rw [cq n hn 0 (by decide)]; exact v4 n hn j hj, fun j hj => cr j hj, fun n hn hr1 => (v6 n hn hr1).mv (cq n hn)⟩
  exact ⟨hS1.kept hc hJo (fun z h => by rw [h]; exact ⟨ao, fun _ => no⟩), hlo⟩
theorem s_agree_1 (hS : KS D g kq ts x kA re ve a0 a1 a3 cap tl ml rl kc tp ms rs ks H) (hc : KC0 D kq ts a0 a1 a3) (ok : Aok tl ml rl kc tp ms rs ks) (hou : lo_ g H ou w0) (no : ¬ CZ a0 a1 a3 ou) (ao : a0 ≤ ou) {k : Nat} (hk : k < kc) (ht : tl = 32) (hz : agZ (ks k) (leN tp 32) = true) : CStep l D g y_L_agree b_L_agree 4 hh_L_agree [.ref x, .int (nI k), .ref ou] H ou a0 a1 a3 0 cap (fun c H1 => KS D g kq ts x kA re ve a0 a1 a3 c 0 ml 32 kc tp ms (xB (ks k) (leN tp 32)) ks H1 ∧ lo_ g H1 ou 0) := by
  obtain ⟨ta, ma, bt, nt, bm, nm, ko, q, rd, sg, za, hg⟩ := hS
  have hg0 := hg
  obtain ⟨hcap, hsz, hX, hT, hM, hK, hr, hv, hC, hO, hA, v⟩ := hg
  obtain ⟨v1, v2, v3, v4, v5, v6⟩ := id v
  obtain ⟨fk, hka, hkk⟩ := id hK
  have kb : ∀ j, j < 32 → isB ((mm g H).2 (q k 0) j) := fun j hj => by rw [v4 k hk j hj]; exact ok.2.2.2.2.2.2.2 k hk j hj
  subst ht
  have ng : kad x kA re ve ta ma bt bm ko q 6 ≠ kq 1 1 := Out.ne (hA.2 6 (by omega)).1.2.1 1 1 rfl
  have cv0 := cv_prod (X := mm g H) (ts := ts) (to := re) (sec := q k 0) (oth := bt) (O := fO (kad x kA re ve ta ma bt bm ko q) [0, 1, 4]) hc.1 ng kb ⟨4, by simp, rfl⟩
  rw [leN_ext (f := (mm g H).2 bt) (g := tp) 32 v2, xB_ext (v4 k hk)] at cv0
  have hw : LF_K_isZeroStart (LF_La_writeProduct (mm g H) kq ts re (q k 0) bt) re = true := by
    rw [cv_zero (f := ks k) (u := leN tp 32) cv0.2]
    exact hz
  have hI : ∀ i ∈ ([0, 1, 4] : List Nat), i < 5 * kc + 8 := by
    intro i hi
    simp only [List.mem_cons, List.not_mem_nil, or_false] at hi
    omega
  have hm := v_K_agree_1 (l := l) (E := hE False kq (kad x kA re ve ta ma bt bm ko q) [0, 1, 4]) (X := mm g H) hX hka (hA.ni (B := False) (I := [0, 1, 4]) hI (j := 3) (by omega) (by simp only [List.mem_cons, List.not_mem_nil, or_false]; omega)) (hkk k hk).1 hk ok.2.2.2.1 hT.1 (hA.ne (i := 0) (j := 1) (by omega) (by omega) (by decide)) (Or.inr (Or.inr ⟨0, by simp, rfl⟩)) (Or.inr (Or.inr ⟨1, by simp, rfl⟩)) hT.2.1 (by have := hT.n; omega) (hkk k hk).2.1 (by have := hA.ne (i := 5 * k + 8) (j := 0) (by omega) (by omega) (by omega); rwa [kad_o] at this) (by have := hA.ne (i := 5 * k + 8) (j := 1) (by omega) (by omega) (by omega); rwa [kad_o] at this) (by have := hA.ni (B := False) (I := [0, 1, 4]) hI (j := 5 * k + 8) (by omega) (by simp only [List.mem_cons, List.not_mem_nil, or_false]; omega); rwa [kad_o] at this) (hkk k hk).2.2 hr (Or.inr (Or.inr ⟨4, by simp, rfl⟩)) (ks_ext hg0 hc hI) hw rfl
  refine ⟨_, _, _, _, 0, 0, cap, ?_, ?_, by omega, by omega, h_agree_0 hm hX hou (fun z => no (ks_cz hg0 hc hI _ z)), fun z h => h.elim (fun h => Or.inl (ks_cz hg0 hc hI z h)) Or.inr, fun H2 hP hJ2 => ?_⟩
  · exact Nat.le_of_ble_eq_true rfl
  · exact Nat.le_of_ble_eq_true rfl
  obtain ⟨hlo, H1, hP, hJ, hJo⟩ := hP
  obtain ⟨hV1, hX1, hT1⟩ := hP
  have cv := cv0.1
  rw [← hV1] at cv
  have cr := cv0.2
  rw [← hV1] at cr
  obtain ⟨c1, c2, c3, c4⟩ := ks_hv hg0 hc hI hJ cv
  have c4o : ∀ n, n < kc → ¬ hE False kq (kad x kA re ve ta ma bt bm ko q) [0, 1, 4] (ko n) := fun n hn => by
    have := c4 (5 * n + 8) (by omega) (by simp only [List.mem_cons, List.not_mem_nil, or_false]; omega)
    rwa [kad_o] at this
  have cq : ∀ n, n < kc → ∀ j, j < 4 → (mm g H1).2 (q n j) = (mm g H).2 (q n j) := fun n hn j hj => by
    have := c3 (5 * n + j + 1 + 8) (by omega) (by simp only [List.mem_cons, List.not_mem_nil, or_false]; omega)
    rwa [kad_q n j hj] at this
  have hS1 : KS D g kq ts x kA re ve a0 a1 a3 cap 0 ml 32 kc tp ms (xB (ks k) (leN tp 32)) ks H1 := ⟨ta, ma, bt, nt, bm, nm, ko, q, rd, sg, (za + (nI 1)), hcap, Nat.le_trans hsz hJ.1, hX1, ⟨hT1, hJ.2.2.1 _ _ _ hT.2.1, hJ.2.2.2 _ _ hT.2.2.1, Nat.zero_le _, hT.2.2.2.2⟩, hM.j hJ (c4 2 (by omega) (by simp only [List.mem_cons, List.not_mem_nil, or_false]; omega)), hK.j hJ (c4 3 (by omega) (by simp)) c4o, hJ.2.2.1 _ _ _ hr, hJ.2.2.1 _ _ _ hv, c1, ks_ho hc hA hI hJ hO, hA.mono hJ.1, c2, fun j hj => absurd hj (Nat.not_lt_zero j), fun j hj => by rw [show (mm g H1).2 bm = (mm g H).2 bm from c3 7 (by omega) (by simp only [List.mem_cons, List.not_mem_nil, or_false]; omega)]; exact v3 j hj, fun n hn j hj => by rw [cq n hn 0 (by decide)]; exact v4 n hn j hj, fun j hj => cr j hj, fun n hn hr1 => (v6 n hn hr1).mv (cq n hn)⟩
  exact ⟨hS1.kept hc hJo (fun z h => by rw [h]; exact ⟨ao, fun _ => no⟩), hlo⟩
theorem s_point_0 (hS : KS D g kq ts x kA re ve a0 a1 a3 cap tl ml rl kc tp ms rs ks H) (hc : KC0 D kq ts a0 a1 a3) (ok : Aok tl ml rl kc tp ms rs ks) (hou : lo_ g H ou w0) (no : ¬ CZ a0 a1 a3 ou) (ao : a0 ≤ ou) (ht : tl = 32) (hz : ptB tp = false) : CStep l D g y_L_point b_L_point 3 hh_L_point [.ref x, .ref ou] H ou a0 a1 a3 0 cap (fun c H1 => KS D g kq ts x kA re ve a0 a1 a3 c 0 ml rl kc tp ms rs ks H1 ∧ lo_ g H1 ou 0) := by
  obtain ⟨ta, ma, bt, nt, bm, nm, ko, q, rd, sg, za, hg⟩ := hS
  have hg0 := hg
  obtain ⟨hcap, hsz, hX, hT, hM, hK, hr, hv, hC, hO, hA, v⟩ := hg
  obtain ⟨v1, v2, v3, v4, v5, v6⟩ := id v
  obtain ⟨fk, hka, hkk⟩ := id hK
  subst ht
  have tb : ∀ j, j < 32 → isB ((mm g H).2 bt j) := fun j hj => by rw [v2 j hj]; exact ok.2.2.2.2.1 j hj
  have cf := cv_find (X := mm g H) (kq := kq) (ts := ts) (bt := bt) (O := fO (kad x kA re ve ta ma bt bm ko q) [0, 1]) hc.1 v1 (hA.ox (i := 6) (by omega)) tb
  have hw : (LF_Ed_find (mm g H) kq ts bt).2 = false := by
    rw [cf.2]
    exact (ptB_ext v2).trans hz
  have hI : ∀ i ∈ ([0, 1, 4] : List Nat), i < 5 * kc + 8 := by
    intro i hi
    simp only [List.mem_cons, List.not_mem_nil, or_false] at hi
    omega
  have hm := v_K_point_0 (l := l) (E := hE False kq (kad x kA re ve ta ma bt bm ko q) [0, 1, 4]) (X := mm g H) hX hT.1 (hA.ne (i := 0) (j := 1) (by omega) (by omega) (by decide)) (Or.inr (Or.inr ⟨0, by simp, rfl⟩)) (Or.inr (Or.inr ⟨1, by simp, rfl⟩)) hT.2.1 (by have := hT.n; omega) hr (Or.inr (Or.inr ⟨4, by simp, rfl⟩)) (ks_ext hg0 hc hI) hw rfl
  refine ⟨_, _, _, _, 0, 0, cap, ?_, ?_, by omega, by omega, h_point_0 hm hX hou (fun z => no (ks_cz hg0 hc hI _ z)), fun z h => h.elim (fun h => Or.inl (ks_cz hg0 hc hI z h)) Or.inr, fun H2 hP hJ2 => ?_⟩
  · exact Nat.le_of_ble_eq_true rfl
  · exact Nat.le_of_ble_eq_true rfl
  obtain ⟨hlo, H1, hP, hJ, hJo⟩ := hP
  obtain ⟨hV1, hX1, hT1⟩ := hP
  have cv1 := cf.1
  rw [← hV1] at cv1
  have cv : onP (KV kq (fO (kad x kA re ve ta ma bt bm ko q) [0, 1, 4])) (mm g H) (mm g H1) := cv1.mono (fun z h => h.imp id (fun ⟨i, hi, e⟩ => ⟨i, by simp only [List.mem_cons, List.not_mem_nil, or_false] at hi ⊢; omega, e⟩))
  obtain ⟨c1, c2, c3, c4⟩ := ks_hv hg0 hc hI hJ cv
  have c4o : ∀ n, n < kc → ¬ hE False kq (kad x kA re ve ta ma bt bm ko q) [0, 1, 4] (ko n) := fun n hn => by
    have := c4 (5 * n + 8) (by omega) (by simp only [List.mem_cons, List.not_mem_nil, or_false]; omega)
    rwa [kad_o] at this
  have cq : ∀ n, n < kc → ∀ j, j < 4 → (mm g H1).2 (q n j) = (mm g H).2 (q n j) := fun n hn j hj => by
    have := c3 (5 * n + j + 1 + 8) (by omega) (by simp only [List.mem_cons, List.not_mem_nil, or_false]; omega)
    rwa [kad_q n j hj] at this
  have hS1 : KS D g kq ts x kA re ve a0 a1 a3 cap 0 ml rl kc tp ms rs ks H1 := ⟨ta, ma, bt, nt, bm, nm, ko, q, rd, sg, za, hcap, Nat.le_trans hsz hJ.1, hX1, ⟨hT1, hJ.2.2.1 _ _ _ hT.2.1, hJ.2.2.2 _ _ hT.2.2.1, Nat.zero_le _, hT.2.2.2.2⟩, hM.j hJ (c4 2 (by omega) (by simp only [List.mem_cons, List.not_mem_nil, or_false]; omega)), hK.j hJ (c4 3 (by omega) (by simp)) c4o, hJ.2.2.1 _ _ _ hr, hJ.2.2.1 _ _ _ hv, c1, ks_ho hc hA hI hJ hO, hA.mono hJ.1, c2, fun j hj => absurd hj (Nat.not_lt_zero j), fun j hj => by rw [show (mm g H1).2 bm = (mm g H).2 bm from c3 7 (by omega) (by simp only [List.mem_cons, List.not_mem_nil, or_false]; omega)]; exact v3 j hj, fun n hn j hj => by rw [cq n hn 0 (by decide)]; exact v4 n hn j hj, fun j hj => by rw [(cv1 re (KV.o (hA.2 4 (by omega)).1.2.1 (hA.nf (I := [0, 1]) (by intro i hi; simp only [List.mem_cons, List.not_mem_nil, or_false] at hi; omega) (j := 4) (by omega) (by decide)))).2]; exact v5 j hj, fun n hn hr1 => (v6 n hn hr1).mv (cq n hn)⟩
  exact ⟨hS1.kept hc hJo (fun z h => by rw [h]; exact ⟨ao, fun _ => no⟩), hlo⟩
theorem s_point_1 (hS : KS D g kq ts x kA re ve a0 a1 a3 cap tl ml rl kc tp ms rs ks H) (hc : KC0 D kq ts a0 a1 a3) (ok : Aok tl ml rl kc tp ms rs ks) (hou : lo_ g H ou w0) (no : ¬ CZ a0 a1 a3 ou) (ao : a0 ≤ ou) (ht : tl = 32) (hz : ptB tp = true) : CStep l D g y_L_point b_L_point 3 hh_L_point [.ref x, .ref ou] H ou a0 a1 a3 0 cap (fun c H1 => KS D g kq ts x kA re ve a0 a1 a3 c 0 ml 32 kc tp ms (dxB tp) ks H1 ∧ lo_ g H1 ou 1) := by
  obtain ⟨ta, ma, bt, nt, bm, nm, ko, q, rd, sg, za, hg⟩ := hS
  have hg0 := hg
  obtain ⟨hcap, hsz, hX, hT, hM, hK, hr, hv, hC, hO, hA, v⟩ := hg
  obtain ⟨v1, v2, v3, v4, v5, v6⟩ := id v
  obtain ⟨fk, hka, hkk⟩ := id hK
  subst ht
  have tb : ∀ j, j < 32 → isB ((mm g H).2 bt j) := fun j hj => by rw [v2 j hj]; exact ok.2.2.2.2.1 j hj
  have cf := cv_find (X := mm g H) (kq := kq) (ts := ts) (bt := bt) (O := fO (kad x kA re ve ta ma bt bm ko q) [0, 1, 4]) hc.1 v1 (hA.ox (i := 6) (by omega)) tb
  have hw : (LF_Ed_find (mm g H) kq ts bt).2 = true := by
    rw [cf.2]
    exact (ptB_ext v2).trans hz
  have hI : ∀ i ∈ ([0, 1, 4] : List Nat), i < 5 * kc + 8 := by
    intro i hi
    simp only [List.mem_cons, List.not_mem_nil, or_false] at hi
    omega
  have hm := v_K_point_1 (l := l) (E := hE False kq (kad x kA re ve ta ma bt bm ko q) [0, 1, 4]) (X := mm g H) hX hT.1 (hA.ne (i := 0) (j := 1) (by omega) (by omega) (by decide)) (Or.inr (Or.inr ⟨0, by simp, rfl⟩)) (Or.inr (Or.inr ⟨1, by simp, rfl⟩)) hT.2.1 (by have := hT.n; omega) hr (Or.inr (Or.inr ⟨4, by simp, rfl⟩)) (ks_ext hg0 hc hI) hw rfl
  refine ⟨_, _, _, _, 0, 0, cap, ?_, ?_, by omega, by omega, h_point_1 hm hX hou (fun z => no (ks_cz hg0 hc hI _ z)), fun z h => h.elim (fun h => Or.inl (ks_cz hg0 hc hI z h)) Or.inr, fun H2 hP hJ2 => ?_⟩
  · exact Nat.le_of_ble_eq_true rfl
  · exact Nat.le_of_ble_eq_true rfl
  obtain ⟨hlo, H1, hP, hJ, hJo⟩ := hP
  obtain ⟨hV1, hX1, hT1⟩ := hP
  have cv0 := cv_found (X := mm g H) (kq := kq) (ts := ts) (bt := bt) (re := re) (O := fO (kad x kA re ve ta ma bt bm ko q) [0, 1, 4]) hc.1 v1 (hA.ox (i := 6) (by omega)) tb ⟨4, by simp, rfl⟩ hw
  have cv := cv0.1
  rw [← hV1] at cv
  have cr := cv0.2
  rw [← hV1] at cr
  obtain ⟨c1, c2, c3, c4⟩ := ks_hv hg0 hc hI hJ cv
  have c4o : ∀ n, n < kc → ¬ hE False kq (kad x kA re ve ta ma bt bm ko q) [0, 1, 4] (ko n) := fun n hn => by
    have := c4 (5 * n + 8) (by omega) (by simp only [List.mem_cons, List.not_mem_nil, or_false]; omega)
    rwa [kad_o] at this
  have cq : ∀ n, n < kc → ∀ j, j < 4 → (mm g H1).2 (q n j) = (mm g H).2 (q n j) := fun n hn j hj => by
    have := c3 (5 * n + j + 1 + 8) (by omega) (by simp only [List.mem_cons, List.not_mem_nil, or_false]; omega)
    rwa [kad_q n j hj] at this
  have hS1 : KS D g kq ts x kA re ve a0 a1 a3 cap 0 ml 32 kc tp ms (dxB tp) ks H1 := ⟨ta, ma, bt, nt, bm, nm, ko, q, rd, sg, za, hcap, Nat.le_trans hsz hJ.1, hX1, ⟨hT1, hJ.2.2.1 _ _ _ hT.2.1, hJ.2.2.2 _ _ hT.2.2.1, Nat.zero_le _, hT.2.2.2.2⟩, hM.j hJ (c4 2 (by omega) (by simp only [List.mem_cons, List.not_mem_nil, or_false]; omega)), hK.j hJ (c4 3 (by omega) (by simp)) c4o, hJ.2.2.1 _ _ _ hr, hJ.2.2.1 _ _ _ hv, c1, ks_ho hc hA hI hJ hO, hA.mono hJ.1, c2, fun j hj => absurd hj (Nat.not_lt_zero j), fun j hj => by rw [show (mm g H1).2 bm = (mm g H).2 bm from c3 7 (by omega) (by simp only [List.mem_cons, List.not_mem_nil, or_false]; omega)]; exact v3 j hj, fun n hn j hj => by rw [cq n hn 0 (by decide)]; exact v4 n hn j hj, fun j hj => by rw [cr j hj]; exact congrFun (dxB_ext v2) j, fun n hn hr1 => (v6 n hn hr1).mv (cq n hn)⟩
  exact ⟨hS1.kept hc hJo (fun z h => by rw [h]; exact ⟨ao, fun _ => no⟩), hlo⟩
end KSN
