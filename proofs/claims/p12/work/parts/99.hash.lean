/-! the class's hash -/
theorem i8_by (y : Int32) : y.toInt8.toInt32 = by8 y.toInt := by
  unfold by8
  rw [Int8.ofInt_int32ToInt]
theorem ub_int (y : Int32) : ((ub y : Nat) : Int) = y.toInt % 256 := by
  have e3 : y.toInt = y.toBitVec.toInt := rfl
  rw [ub_mod, e3, BitVec.toInt_eq_toNat_cond]
  split <;> omega
theorem an_ub {x y : Int32} (h : ub x = ub y) : x &&& nI 255 = y &&& nI 255 := Int32.toBitVec_inj.mp (BitVec.eq_of_toNat_eq h)
theorem ub_i8 (y : Int32) : ub (y.toInt8.toInt32) = ub y := by
  have h := ub_by8 y.toInt
  rw [← ub_int, ← i8_by] at h
  exact Int.ofNat_inj.mp h
theorem an_i8 (y : Int32) : y.toInt8.toInt32 &&& nI 255 = y &&& nI 255 := an_ub (ub_i8 y)
theorem isB_i8 {x : Int32} (h : isB x) : x.toInt8.toInt32 = x := by
  rw [i8_by, by8_256, ← ub_int]
  exact h.symm
/-- a run of places filled -/
def flI (X : vM) (a i n : Nat) (g : Nat → Int32) : vM := (X.1, fun b k => if b = a ∧ i ≤ k ∧ k < i + n then g k else X.2 b k)
theorem lp_fl (a : Nat) (g : Nat → Int32) (body : Nat → vM → vM) (hb : ∀ i Y, body i Y = stI Y a i (g i)) : ∀ n i X, lpU 1 body n i X = flI X a i n g
  | 0, i, X => Prod.ext rfl (funext fun b => funext fun k => (if_neg (fun z => by omega)).symm)
  | n + 1, i, X => by
    show lpU 1 body n (i + 1) (body i X) = _
    rw [lp_fl a g body hb n (i + 1) (body i X), hb]
    refine Prod.ext rfl (funext fun b => funext fun k => ?_)
    show (if b = a ∧ i + 1 ≤ k ∧ k < i + 1 + n then g k else if b = a ∧ k = i then g i else X.2 b k) = if b = a ∧ i ≤ k ∧ k < i + (n + 1) then g k else X.2 b k
    by_cases h1 : b = a
    · by_cases h2 : i + 1 ≤ k ∧ k < i + 1 + n
      · rw [if_pos ⟨h1, h2⟩, if_pos ⟨h1, by omega⟩]
      · rw [if_neg (fun z => h2 z.2)]
        by_cases h3 : k = i
        · rw [if_pos ⟨h1, h3⟩, if_pos ⟨h1, by omega⟩, h3]
        · rw [if_neg (fun z => h3 z.2), if_neg (fun z => by omega)]
    · rw [if_neg (fun z => h1 z.1), if_neg (fun z => h1 z.1), if_neg (fun z => h1 z.1)]
theorem fl_on {X : vM} {a i n : Nat} {g : Nat → Int32} {S : List Nat} (hs : a ∈ S) : onW S X (flI X a i n g) := fun b hb => ⟨rfl, funext fun k => if_neg (fun z => hb (by rw [z.1]; exact hs))⟩
theorem c_put (X : vM) (a v : Nat) (w : Int64) : LF_Ha_putWord X a v w = flI X a v 8 (fun k => by8 (w.toInt / 2 ^ (56 - 8 * (k - v)))) := by
  have e : LF_Ha_putWord X a v w = lpU 1 (fun k Y => stI Y a k (by8 (w.toInt / 2 ^ (56 - 8 * (k - v))))) 8 (v + 0) X := by
    rw [lp_off]
    refine lp_ext1 8 0 X (fun j _ hj => funext fun Y => ?_)
    show stI Y a (v + j) _ = stI Y a (v + j) _
    rw [by_s w (by omega), Nat.add_sub_cancel_left]
  rw [e, Nat.add_zero]
  exact lp_fl a _ _ (fun _ _ => rfl) 8 v X
def haK : List (Nat × Nat) := [(5, 0), (5, 1), (5, 2)]
/-- t bytes of the stream f are in -/
def HaI (kq : Nat → Nat → Nat) (X : vM) (f : Nat → Int32) (t : Nat) : Prop := st8 (X.1 (kq 5 0)) = shB f (t / 128) ∧ ∀ j, j < t % 128 → X.2 (kq 5 2) j = f (128 * (t / 128) + j)
theorem c_begin {X : vM} {kq : Nat → Nat → Nat} {ts : Nat → Nat} (f : Nat → Int32) (hS : ∀ j, j < 8 → X.1 (ts 6) j = st_v 6 j) : onK kq haK X (LF_Ha_begin X kq ts) ∧ HaI kq (LF_Ha_begin X kq ts) f 0 := by
  have e : ∀ k, k < 8 → (LF_Ha_begin X kq ts).1 (kq 5 0) k = st_v 6 k := fun k hk => by
    show (if kq 5 0 = kq 5 0 ∧ 0 ≤ k ∧ k < 0 + 8 then X.1 (ts 6) (0 + (k - 0)) else _) = _
    rw [if_pos ⟨rfl, by omega, by omega⟩, Nat.zero_add, Nat.sub_zero]
    exact hS k hk
  refine ⟨fun b hb => ⟨funext fun k => if_neg (fun z => hb ?_), rfl⟩, ?_, fun j hj => absurd hj (by omega)⟩
  · rw [z.1]
    exact List.mem_cons_self
  · show st8 _ = st8 (st_v 6)
    unfold st8
    rw [e 0 (by decide), e 1 (by decide), e 2 (by decide), e 3 (by decide), e 4 (by decide), e 5 (by decide), e 6 (by decide), e 7 (by decide)]
theorem c_take {X : vM} {kq : Nat → Nat → Nat} {ts : Nat → Nat} {a0 t v tt : Nat} {f : Nat → Int32} (hI : KInj kq) (ha : a0 ∉ haK.map (fun q => kq q.1 q.2)) (hb : ∀ i, i < v → isB (X.2 a0 i)) (hf : ∀ i, i < v → X.2 a0 i = f (t + i)) (h : HaI kq X f t) : onK kq haK X (LF_Ha_take X kq ts a0 v (t % 128) tt).1 ∧ (LF_Ha_take X kq ts a0 v (t % 128) tt).2.1 = (t + v) % 128 ∧ (LF_Ha_take X kq ts a0 v (t % 128) tt).2.2 = tt + v ∧ HaI kq (LF_Ha_take X kq ts a0 v (t % 128) tt).1 f (t + v) := by
  have key : ∀ n i Y, i + n = v → onK kq haK X Y → HaI kq Y f (t + i) → onK kq haK X (lpU 1 (LL_Ha_take_2 kq a0 ts) n i (Y, (t + i) % 128)).1 ∧ (lpU 1 (LL_Ha_take_2 kq a0 ts) n i (Y, (t + i) % 128)).2 = (t + v) % 128 ∧ HaI kq (lpU 1 (LL_Ha_take_2 kq a0 ts) n i (Y, (t + i) % 128)).1 f (t + v) := by
    intro n
    induction n with
    | zero =>
      intro i Y hi ho hh
      have : i = v := by omega
      subst this
      exact ⟨ho, rfl, hh⟩
    | succ n ih =>
      intro i Y hi ho hh
      have e0 : (Y.2 a0 i).toInt8.toInt32 = f (t + i) := by
        rw [(ho a0 ha).2, isB_i8 (hb i (by omega))]
        exact hf i (by omega)
      obtain ⟨Z, eZ⟩ : ∃ Z, stI Y (kq 5 2) ((t + i) % 128) ((Y.2 a0 i).toInt8.toInt32) = Z := ⟨_, rfl⟩
      have oZ : onK kq haK Y Z := by
        rw [← eZ]
        exact st_onI (List.mem_cons_of_mem _ (List.mem_cons_of_mem _ List.mem_cons_self))
      have hZ1 : Z.1 = Y.1 := by rw [← eZ]; rfl
      have hZ2 : ∀ j, j < (t + i) % 128 + 1 → Z.2 (kq 5 2) j = f (128 * ((t + i) / 128) + j) := fun j hj => by
        rw [← eZ]
        show (if kq 5 2 = kq 5 2 ∧ j = (t + i) % 128 then (Y.2 a0 i).toInt8.toInt32 else Y.2 (kq 5 2) j) = _
        by_cases hc : j = (t + i) % 128
        · rw [if_pos ⟨rfl, hc⟩, e0, hc, Nat.div_add_mod]
        · rw [if_neg (fun z => hc z.2)]
          exact hh.2 j (by omega)
      show onK kq haK X (lpU 1 (LL_Ha_take_2 kq a0 ts) n (i + 1) (LL_Ha_take_2 kq a0 ts i (Y, (t + i) % 128))).1 ∧ (lpU 1 (LL_Ha_take_2 kq a0 ts) n (i + 1) (LL_Ha_take_2 kq a0 ts i (Y, (t + i) % 128))).2 = _ ∧ HaI kq (lpU 1 (LL_Ha_take_2 kq a0 ts) n (i + 1) (LL_Ha_take_2 kq a0 ts i (Y, (t + i) % 128))).1 f (t + v)
      by_cases hc : (t + i) % 128 + 1 = 128
      · have q := c_mix (X := Z) (ts := ts) hI
        obtain ⟨V, eV⟩ : ∃ V, LF_Ha_mix Z kq ts = V := ⟨_, rfl⟩
        rw [eV] at q
        have e : LL_Ha_take_2 kq a0 ts i (Y, (t + i) % 128) = (V, (t + (i + 1)) % 128) := by
          unfold LL_Ha_take_2
          simp only []
          rw [if_pos hc, eZ, eV, show (t + (i + 1)) % 128 = 0 by omega]
        rw [e]
        refine ih (i + 1) V (by omega) ((ho.tr oZ).tr (onK.mono (onK.of (l := [(5, 0), (5, 1)]) q.1) rfl)) ⟨?_, fun j hj => absurd hj (by omega)⟩
        rw [q.2, hZ1, hh.1, show (t + (i + 1)) / 128 = (t + i) / 128 + 1 by omega]
        exact shM_ext (fun j hj => by rw [hZ2 j (by omega)])
      · have e : LL_Ha_take_2 kq a0 ts i (Y, (t + i) % 128) = (Z, (t + (i + 1)) % 128) := by
          unfold LL_Ha_take_2
          simp only []
          rw [if_neg hc, eZ, show (t + (i + 1)) % 128 = (t + i) % 128 + 1 by omega]
        rw [e]
        refine ih (i + 1) Z (by omega) (ho.tr oZ) ⟨?_, ?_⟩
        · rw [hZ1, hh.1, show (t + (i + 1)) / 128 = (t + i) / 128 by omega]
        · rw [show (t + (i + 1)) / 128 = (t + i) / 128 by omega]
          exact fun j hj => hZ2 j (by omega)
  have q := key v 0 X (by omega) onK.rf h
  exact ⟨q.1, q.2.1, rfl, q.2.2⟩
theorem c_outw {Y : vM} {kq : Nat → Nat → Nat} {a0 : Nat} (ha : a0 ≠ kq 5 0) : lpU 1 (LL_Ha_finish_73 a0 kq) 8 0 Y = svI Y a0 64 (hby (st8 (Y.1 (kq 5 0)))) := by
  have key : ∀ n i, i + n = 8 → lpU 1 (LL_Ha_finish_73 a0 kq) n i (svI Y a0 (8 * i) (hby (st8 (Y.1 (kq 5 0))))) = svI Y a0 64 (hby (st8 (Y.1 (kq 5 0)))) := by
    intro n
    induction n with
    | zero =>
      intro i hi
      have : i = 8 := by omega
      subst this
      rfl
    | succ n ih =>
      intro i hi
      have q := ih (i + 1) (by omega)
      refine Eq.trans ?_ q
      show lpU 1 (LL_Ha_finish_73 a0 kq) n (i + 1) (LF_Ha_putWord (svI Y a0 (8 * i) (hby (st8 (Y.1 (kq 5 0))))) a0 (8 * i) (Y.1 (kq 5 0) i)) = _
      congr 1
      rw [c_put]
      refine Prod.ext rfl (funext fun b => funext fun k => ?_)
      show (if b = a0 ∧ 8 * i ≤ k ∧ k < 8 * i + 8 then by8 ((Y.1 (kq 5 0) i).toInt / 2 ^ (56 - 8 * (k - 8 * i))) else if b = a0 ∧ k < 8 * i then hby (st8 (Y.1 (kq 5 0))) k else Y.2 b k) = if b = a0 ∧ k < 8 * (i + 1) then hby (st8 (Y.1 (kq 5 0))) k else Y.2 b k
      by_cases h1 : b = a0
      · by_cases h2 : 8 * i ≤ k ∧ k < 8 * i + 8
        · rw [if_pos ⟨h1, h2⟩, if_pos ⟨h1, by omega⟩]
          unfold hby
          rw [show k / 8 = i by omega, show k % 8 = k - 8 * i by omega, t8_st _ (by omega)]
        · rw [if_neg (fun z => h2 z.2)]
          by_cases h3 : k < 8 * i
          · rw [if_pos ⟨h1, h3⟩, if_pos ⟨h1, by omega⟩]
          · rw [if_neg (fun z => h3 z.2), if_neg (fun z => by omega)]
      · rw [if_neg (fun z => h1 z.1), if_neg (fun z => h1 z.1), if_neg (fun z => h1 z.1)]
  have q := key 8 0 (by omega)
  rw [Nat.mul_zero, svI_0] at q
  exact q
theorem pad_f {f : Nat → Int32} {n i all : Nat} (h : i < n) : pad f n i all = f i &&& nI 255 := if_neg (by omega)
theorem pad_n {f : Nat → Int32} {n all : Nat} : pad f n n all = nI 128 := (if_pos (Nat.le_refl n)).trans (if_pos rfl)
theorem pad_0 {f : Nat → Int32} {n i all : Nat} (h : n < i) (h2 : i < all - 8) : pad f n i all = nI 0 := (if_pos (by omega)).trans ((if_neg (by omega)).trans (if_neg (by omega)))
theorem pad_l {f : Nat → Int32} {n i all : Nat} (h : n < i) (h2 : all - 8 ≤ i) (h3 : i < all) : pad f n i all = by8 (((8 : Int64) * ((nI n).toInt64)).toInt / 2 ^ (8 * (all - 1 - i))) &&& nI 255 := by
  have e : pad f n i all = ((((((8 : Int64) * ((nI n).toInt64))).toUInt64 >>> ((nI (8 * ((all - 1) - i))).toInt64.toUInt64 &&& Int64.toUInt64 63)).toInt64).toInt32) &&& (nI 255) := (if_pos (by omega)).trans ((if_neg (by omega)).trans (if_pos h2))
  rw [e, ← by_u _ (by omega), an_i8, an_i8]
theorem c_fin {X : vM} {kq : Nat → Nat → Nat} {ts : Nat → Nat} {a0 n : Nat} {f : Nat → Int32} (hI : KInj kq) (ha : a0 ≠ kq 5 0) (h : HaI kq X f n) : ∃ Y, LF_Ha_finish X kq ts a0 (n % 128) n = svI Y a0 64 (hby (sha f n)) ∧ onK kq haK X Y := by
  have hm : n % 128 < 128 := Nat.mod_lt _ (by decide)
  have hdm := Nat.div_add_mod n 128
  obtain ⟨X1, e1⟩ : ∃ Y, stI X (kq 5 2) (n % 128) ((-128 : Int32).toInt8.toInt32) = Y := ⟨_, rfl⟩
  have f1 : LF_JA_fillR X1 (kq 5 2) 128 (n % 128 + 1) 128 (nI 0) = flI X1 (kq 5 2) (n % 128 + 1) (128 - (n % 128 + 1)) (fun _ => (nI 0).toInt8.toInt32) := lp_fl (kq 5 2) _ _ (fun _ _ => rfl) _ _ _
  obtain ⟨X2, e2⟩ : ∃ Y, LF_JA_fillR X1 (kq 5 2) 128 (n % 128 + 1) 128 (nI 0) = Y := ⟨_, rfl⟩
  have m52 : kq 5 2 ∈ haK.map (fun q => kq q.1 q.2) := List.mem_cons_of_mem _ (List.mem_cons_of_mem _ List.mem_cons_self)
  have o2 : onK kq haK X X2 := by
    rw [← e2, f1, ← e1]
    exact onW.tr (st_onI m52) (fl_on m52)
  have h21 : X2.1 = X.1 := by rw [← e2, f1, ← e1]; rfl
  have b2 : ∀ j, j < 128 → X2.2 (kq 5 2) j = if j < n % 128 then f (128 * (n / 128) + j) else if j = n % 128 then (-128 : Int32).toInt8.toInt32 else (nI 0).toInt8.toInt32 := fun j hj => by
    rw [← e2, f1, ← e1]
    show (if kq 5 2 = kq 5 2 ∧ n % 128 + 1 ≤ j ∧ j < n % 128 + 1 + (128 - (n % 128 + 1)) then (nI 0).toInt8.toInt32 else if kq 5 2 = kq 5 2 ∧ j = n % 128 then (-128 : Int32).toInt8.toInt32 else X.2 (kq 5 2) j) = _
    by_cases c1 : j < n % 128
    · rw [if_neg (fun z => by omega), if_neg (fun z => by omega), if_pos c1]
      exact h.2 j c1
    · rw [if_neg c1]
      by_cases c2 : j = n % 128
      · rw [if_neg (fun z => by omega), if_pos ⟨rfl, c2⟩, if_pos c2]
      · rw [if_pos ⟨rfl, by omega, by omega⟩, if_neg c2]
  have hs : st8 (X2.1 (kq 5 0)) = shB f (n / 128) := by rw [h21]; exact h.1
  have hp : ∀ all, shB (fun i => pad f n i all) (n / 128) = shB f (n / 128) := fun all => shB_ext _ (fun j hj => by
    show pad f n j all &&& nI 255 = _
    rw [pad_an, pad_f (by omega)])
  have k128 : (-128 : Int32).toInt8.toInt32 &&& nI 255 = nI 128 := by decide
  have k0 : (nI 0).toInt8.toInt32 &&& nI 255 = nI 0 := by decide
  -- the last block, from any Z that holds zeros from place 0 or after the text
  have fin : ∀ (Z : vM) (b : Nat) (T : T8), onK kq haK X Z → st8 (Z.1 (kq 5 0)) = T → allN n = 128 * b + 128 → (∀ j, j < 120 → Z.2 (kq 5 2) j &&& nI 255 = pad f n (128 * b + j) (allN n)) → n < 128 * b + 120 → T = shB (fun i => pad f n i (allN n)) b → ∃ Y, lpU 1 (LL_Ha_finish_73 a0 kq) 8 0 (LF_Ha_mix (LF_Ha_putWord Z (kq 5 2) 120 ((8 : Int64) * ((nI n).toInt64))) kq ts) = svI Y a0 64 (hby (sha f n)) ∧ onK kq haK X Y := fun Z b T oZ hT hall hZ hn hTs => by
    obtain ⟨V, eV⟩ : ∃ V, LF_Ha_putWord Z (kq 5 2) 120 ((8 : Int64) * ((nI n).toInt64)) = V := ⟨_, rfl⟩
    have pV := c_put Z (kq 5 2) 120 ((8 : Int64) * ((nI n).toInt64))
    rw [eV] at pV
    have oV : onK kq haK Z V := by
      rw [pV]
      exact fl_on m52
    have bV : ∀ j, j < 128 → V.2 (kq 5 2) j &&& nI 255 = pad f n (128 * b + j) (allN n) := fun j hj => by
      rw [pV]
      show (if kq 5 2 = kq 5 2 ∧ 120 ≤ j ∧ j < 120 + 8 then by8 (((8 : Int64) * ((nI n).toInt64)).toInt / 2 ^ (56 - 8 * (j - 120))) else Z.2 (kq 5 2) j) &&& nI 255 = _
      by_cases c : 120 ≤ j
      · rw [if_pos ⟨rfl, c, by omega⟩, pad_l (by omega) (by omega) (by omega), show 8 * (allN n - 1 - (128 * b + j)) = 56 - 8 * (j - 120) by omega]
      · rw [if_neg (fun z => c z.2.1)]
        exact hZ j (by omega)
    have q := c_mix (X := V) (ts := ts) hI
    rw [eV]
    obtain ⟨W, eW⟩ : ∃ W, LF_Ha_mix V kq ts = W := ⟨_, rfl⟩
    rw [eW] at q ⊢
    refine ⟨W, ?_, (oZ.tr oV).tr (onK.mono (onK.of (l := [(5, 0), (5, 1)]) q.1) rfl)⟩
    rw [c_outw ha, q.2]
    congr 2
    have hV1 : V.1 = Z.1 := by rw [pV]; rfl
    unfold sha
    rw [hV1, hT, hTs, hall, show (128 * b + 128) / 128 = b + 1 by omega, ← hall]
    exact shM_ext (fun j hj => by rw [bV j hj, pad_an])
  by_cases hc : n % 128 < 112
  · have hall : allN n = 128 * (n / 128) + 128 := by unfold allN; omega
    have e : LF_Ha_finish X kq ts a0 (n % 128) n = lpU 1 (LL_Ha_finish_73 a0 kq) 8 0 (LF_Ha_mix (LF_Ha_putWord X2 (kq 5 2) 120 ((8 : Int64) * ((nI n).toInt64))) kq ts) := by
      unfold LF_Ha_finish
      simp only []
      rw [e1, e2, if_pos hc]
    rw [e]
    refine fin X2 (n / 128) _ o2 hs hall (fun j hj => ?_) (by omega) (hp _).symm
    rw [b2 j (by omega)]
    by_cases c1 : j < n % 128
    · rw [if_pos c1, pad_f (by omega)]
    · rw [if_neg c1]
      by_cases c2 : j = n % 128
      · rw [if_pos c2, k128, c2, hdm, pad_n]
      · rw [if_neg c2, k0, pad_0 (by omega) (by omega)]
  · have hall : allN n = 128 * (n / 128 + 1) + 128 := by unfold allN; omega
    have q := c_mix (X := X2) (ts := ts) hI
    obtain ⟨X4, e4⟩ : ∃ Y, LF_Ha_mix X2 kq ts = Y := ⟨_, rfl⟩
    rw [e4] at q
    have f5 : LF_JA_fillB X4 (kq 5 2) 128 (nI 0) = flI X4 (kq 5 2) 0 128 (fun _ => (nI 0).toInt8.toInt32) := lp_fl (kq 5 2) _ _ (fun _ _ => rfl) _ _ _
    obtain ⟨X5, e5⟩ : ∃ Y, LF_JA_fillB X4 (kq 5 2) 128 (nI 0) = Y := ⟨_, rfl⟩
    rw [e5] at f5
    have o5 : onK kq haK X X5 := by
      rw [f5]
      exact (o2.tr (onK.mono (onK.of (l := [(5, 0), (5, 1)]) q.1) rfl)).tr (fl_on m52)
    have e : LF_Ha_finish X kq ts a0 (n % 128) n = lpU 1 (LL_Ha_finish_73 a0 kq) 8 0 (LF_Ha_mix (LF_Ha_putWord X5 (kq 5 2) 120 ((8 : Int64) * ((nI n).toInt64))) kq ts) := by
      unfold LF_Ha_finish
      simp only []
      rw [e1, e2, if_neg hc, e4, e5]
    rw [e]
    have h51 : X5.1 = X4.1 := by rw [f5]; rfl
    refine fin X5 (n / 128 + 1) (shM (shB f (n / 128)) (X2.2 (kq 5 2))) o5 (by rw [h51, q.2, hs]) hall (fun j hj => ?_) (by omega) ?_
    · rw [f5]
      show (if kq 5 2 = kq 5 2 ∧ 0 ≤ j ∧ j < 0 + 128 then (nI 0).toInt8.toInt32 else _) &&& nI 255 = _
      rw [if_pos ⟨rfl, by omega, by omega⟩, k0, pad_0 (by omega) (by omega)]
    · show _ = shM (shB (fun i => pad f n i (allN n)) (n / 128)) _
      rw [hp]
      refine shM_ext (fun j hj => ?_)
      rw [b2 j hj, pad_an]
      by_cases c1 : j < n % 128
      · rw [if_pos c1, pad_f (by omega)]
      · rw [if_neg c1]
        by_cases c2 : j = n % 128
        · rw [if_pos c2, k128, c2, hdm, pad_n]
        · rw [if_neg c2, k0, pad_0 (by omega) (by omega)]
