/-! SHA-512 -/
/-- an array set wholly -/
def sg (X : vM) (a : Nat) (w : Nat → Int64) : vM := (fun b k => if b = a then w k else X.1 b k, X.2)
def upL (w : Nat → Int64) (i : Nat) (v : Int64) : Nat → Int64 := fun k => if k = i then v else w k
theorem sg_id (X : vM) (a : Nat) : sg X a (X.1 a) = X := by
  refine Prod.ext (funext fun b => funext fun k => ?_) rfl
  show (if b = a then X.1 a k else X.1 b k) = X.1 b k
  by_cases h : b = a
  · rw [if_pos h, h]
  · rw [if_neg h]
theorem sg_at (X : vM) (a : Nat) (w : Nat → Int64) : (sg X a w).1 a = w := funext fun k => if_pos rfl
theorem sg_ne (X : vM) {a b : Nat} (w : Nat → Int64) (h : b ≠ a) : (sg X a w).1 b = X.1 b := funext fun k => if_neg h
theorem st_sg (X : vM) (a i : Nat) (w : Nat → Int64) (v : Int64) : stL (sg X a w) a i v = sg X a (upL w i v) := by
  refine Prod.ext (funext fun b => funext fun k => ?_) rfl
  show (if b = a ∧ k = i then v else if b = a then w k else X.1 b k) = if b = a then (if k = i then v else w k) else X.1 b k
  by_cases h : b = a
  · by_cases hk : k = i
    · rw [if_pos ⟨h, hk⟩, if_pos h, if_pos hk]
    · rw [if_neg (fun z => hk z.2), if_pos h, if_pos h, if_neg hk]
  · rw [if_neg (fun z => h z.1), if_neg h, if_neg h]
theorem sg_sg (X : vM) (a : Nat) (v w : Nat → Int64) : sg (sg X a v) a w = sg X a w := by
  refine Prod.ext (funext fun b => funext fun k => ?_) rfl
  show (if b = a then w k else if b = a then v k else X.1 b k) = if b = a then w k else X.1 b k
  by_cases h : b = a
  · rw [if_pos h, if_pos h]
  · rw [if_neg h, if_neg h, if_neg h]
theorem sg_on (X : vM) (a : Nat) (w : Nat → Int64) {S : List Nat} (hs : a ∈ S) : onL S X (sg X a w) := ⟨rfl, fun b hb => sg_ne X w (fun z => hb (by rw [z]; exact hs))⟩
theorem lp_sg (X : vM) (a d : Nat) (body : Nat → vM → vM) (f : Nat → (Nat → Int64) → (Nat → Int64)) (hb : ∀ i w, body i (sg X a w) = sg X a (f i w)) : ∀ n i w, lpU d body n i (sg X a w) = sg X a (lpU d f n i w)
  | 0, i, w => rfl
  | n + 1, i, w => by
    show lpU d body n (i + d) (body i (sg X a w)) = sg X a (lpU d f n (i + d) (f i w))
    rw [hb]
    exact lp_sg X a d body f hb n (i + d) (f i w)
theorem lp_ext {σ : Type} {d : Nat} {f g : Nat → σ → σ} : ∀ n i (s : σ), (∀ j t, f j t = g j t) → lpU d f n i s = lpU d g n i s
  | 0, _, _, _ => rfl
  | n + 1, i, s, h => by
    show lpU d f n (i + d) (f i s) = lpU d g n (i + d) (g i s)
    rw [h i s]
    exact lp_ext n (i + d) (g i s) h
theorem lp_ext1 {σ : Type} {f g : Nat → σ → σ} : ∀ n i (s : σ), (∀ j, i ≤ j → j < i + n → f j = g j) → lpU 1 f n i s = lpU 1 g n i s
  | 0, _, _, _ => rfl
  | n + 1, i, s, h => by
    show lpU 1 f n (i + 1) (f i s) = lpU 1 g n (i + 1) (g i s)
    rw [h i (by omega) (by omega)]
    exact lp_ext1 n (i + 1) (g i s) (fun j h1 h2 => h j (by omega) (by omega))
theorem lp_off {σ : Type} (f : Nat → σ → σ) (c : Nat) : ∀ n i (s : σ), lpU 1 f n (c + i) s = lpU 1 (fun j => f (c + j)) n i s
  | 0, _, _ => rfl
  | n + 1, i, s => lp_off f c n (i + 1) (f (c + i) s)
abbrev T8 : Type := Int64 × Int64 × Int64 × Int64 × Int64 × Int64 × Int64 × Int64
def shX (i : Nat) (w : Nat → Int64) : Int64 := (let z_2 : Int64 := (w (i - 15)); let z_3 : Int64 := (w (i - 2)); let z_4 : Int64 := ((((((z_2).toUInt64 >>> ((nI 1).toInt64.toUInt64 &&& Int64.toUInt64 63)).toInt64) ||| (z_2 <<< ((nI 63).toInt64 &&& 63))) ^^^ ((((z_2).toUInt64 >>> ((nI 8).toInt64.toUInt64 &&& Int64.toUInt64 63)).toInt64) ||| (z_2 <<< ((nI 56).toInt64 &&& 63)))) ^^^ (((z_2).toUInt64 >>> ((nI 7).toInt64.toUInt64 &&& Int64.toUInt64 63)).toInt64)); let z_5 : Int64 := ((((((z_3).toUInt64 >>> ((nI 19).toInt64.toUInt64 &&& Int64.toUInt64 63)).toInt64) ||| (z_3 <<< ((nI 45).toInt64 &&& 63))) ^^^ ((((z_3).toUInt64 >>> ((nI 61).toInt64.toUInt64 &&& Int64.toUInt64 63)).toInt64) ||| (z_3 <<< ((nI 3).toInt64 &&& 63)))) ^^^ (((z_3).toUInt64 >>> ((nI 6).toInt64.toUInt64 &&& Int64.toUInt64 63)).toInt64)); ((((w (i - 16)) + z_4) + (w (i - 7))) + z_5))
def shR (K W : Nat → Int64) : Nat → T8 → T8 := fun i_1 s_2 => (let z_3 : Int64 := ((((((s_2.2.2.2.1).toUInt64 >>> ((nI 14).toInt64.toUInt64 &&& Int64.toUInt64 63)).toInt64) ||| (s_2.2.2.2.1 <<< ((nI 50).toInt64 &&& 63))) ^^^ ((((s_2.2.2.2.1).toUInt64 >>> ((nI 18).toInt64.toUInt64 &&& Int64.toUInt64 63)).toInt64) ||| (s_2.2.2.2.1 <<< ((nI 46).toInt64 &&& 63)))) ^^^ ((((s_2.2.2.2.1).toUInt64 >>> ((nI 41).toInt64.toUInt64 &&& Int64.toUInt64 63)).toInt64) ||| (s_2.2.2.2.1 <<< ((nI 23).toInt64 &&& 63)))); let z_4 : Int64 := ((((((s_2.2.2.2.2.2.2.2).toUInt64 >>> ((nI 28).toInt64.toUInt64 &&& Int64.toUInt64 63)).toInt64) ||| (s_2.2.2.2.2.2.2.2 <<< ((nI 36).toInt64 &&& 63))) ^^^ ((((s_2.2.2.2.2.2.2.2).toUInt64 >>> ((nI 34).toInt64.toUInt64 &&& Int64.toUInt64 63)).toInt64) ||| (s_2.2.2.2.2.2.2.2 <<< ((nI 30).toInt64 &&& 63)))) ^^^ ((((s_2.2.2.2.2.2.2.2).toUInt64 >>> ((nI 39).toInt64.toUInt64 &&& Int64.toUInt64 63)).toInt64) ||| (s_2.2.2.2.2.2.2.2 <<< ((nI 25).toInt64 &&& 63)))); let z_5 : Int64 := ((((s_2.1 + z_3) + ((s_2.2.2.2.1 &&& s_2.2.2.1) ^^^ ((s_2.2.2.2.1 ^^^ (-1 : Int64)) &&& s_2.2.1))) + (K i_1)) + (W i_1)); let z_6 : Int64 := (z_4 + (((s_2.2.2.2.2.2.2.2 &&& s_2.2.2.2.2.2.2.1) ^^^ (s_2.2.2.2.2.2.2.2 &&& s_2.2.2.2.2.2.1)) ^^^ (s_2.2.2.2.2.2.2.1 &&& s_2.2.2.2.2.2.1))); let z_7 : Int64 := (s_2.2.2.2.2.1 + z_5); let z_8 : Int64 := (z_5 + z_6); (s_2.2.1, s_2.2.2.1, s_2.2.2.2.1, z_7, s_2.2.2.2.2.2.1, s_2.2.2.2.2.2.2.1, s_2.2.2.2.2.2.2.2, z_8))
def exW (i : Nat) (w : Nat → Int64) : Nat → Int64 := upL w i (shX i w)
/-- a word of eight bytes -/
def wd (p : Nat → Int32) (k : Nat) : Int64 := lpU 1 (fun j s => (s <<< ((nI 8).toInt64 &&& 63)) ||| (((p j) &&& (nI 255)).toInt64)) 8 (8 * k) (0 : Int64)
def shW (p : Nat → Int32) : Nat → Int64 := lpU 1 exW 64 16 (fun k => if k < 16 then wd p k else 0)
def st8 (f : Nat → Int64) : T8 := (f 7, f 6, f 5, f 4, f 3, f 2, f 1, f 0)
def ad8 (s R : T8) : T8 := (s.1 + R.1, s.2.1 + R.2.1, s.2.2.1 + R.2.2.1, s.2.2.2.1 + R.2.2.2.1, s.2.2.2.2.1 + R.2.2.2.2.1, s.2.2.2.2.2.1 + R.2.2.2.2.2.1, s.2.2.2.2.2.2.1 + R.2.2.2.2.2.2.1, s.2.2.2.2.2.2.2 + R.2.2.2.2.2.2.2)
/-- a block of 128 bytes -/
def shM (s : T8) (p : Nat → Int32) : T8 := ad8 s (lpU 1 (shR (st_v 7) (shW p)) 80 0 s)
def shB (p : Nat → Int32) : Nat → T8
  | 0 => st8 (st_v 6)
  | b + 1 => shM (shB p b) (fun j => p (128 * b + j))
theorem wd_ext {p q : Nat → Int32} {k : Nat} (h : ∀ j, j < 8 → p (8 * k + j) &&& nI 255 = q (8 * k + j) &&& nI 255) : wd p k = wd q k := lp_ext1 8 (8 * k) 0 (fun j h1 h2 => funext fun s => by
  have := h (j - 8 * k) (by omega)
  rw [show 8 * k + (j - 8 * k) = j by omega] at this
  show (s <<< _) ||| ((p j &&& nI 255).toInt64) = (s <<< _) ||| ((q j &&& nI 255).toInt64)
  rw [this])
theorem shM_ext {s : T8} {p q : Nat → Int32} (h : ∀ j, j < 128 → p j &&& nI 255 = q j &&& nI 255) : shM s p = shM s q := by
  have e : shW p = shW q := by
    unfold shW
    congr 1
    funext k
    by_cases hk : k < 16
    · rw [if_pos hk, if_pos hk]
      exact wd_ext (fun j hj => h _ (by omega))
    · rw [if_neg hk, if_neg hk]
  unfold shM
  rw [e]
theorem shB_ext {p q : Nat → Int32} : ∀ b, (∀ j, j < 128 * b → p j &&& nI 255 = q j &&& nI 255) → shB p b = shB q b
  | 0, _ => rfl
  | b + 1, h => by
    show shM (shB p b) _ = shM (shB q b) _
    rw [shB_ext b (fun j hj => h j (by omega))]
    exact shM_ext (fun j hj => h _ (by omega))
/-- extending looks at earlier words alone -/
theorem exW_agree : ∀ n i (v w : Nat → Int64), 16 ≤ i → (∀ k, k < i → v k = w k) → ∀ k, k < i + n → lpU 1 exW n i v k = lpU 1 exW n i w k
  | 0, i, v, w, _, h, k, hk => h k (by omega)
  | n + 1, i, v, w, hi, h, k, hk => by
    refine exW_agree n (i + 1) (exW i v) (exW i w) (by omega) (fun j hj => ?_) k (by omega)
    show (if j = i then shX i v else v j) = (if j = i then shX i w else w j)
    by_cases hj2 : j = i
    · rw [if_pos hj2, if_pos hj2]
      unfold shX
      rw [h (i - 15) (by omega), h (i - 2) (by omega), h (i - 16) (by omega), h (i - 7) (by omega)]
    · rw [if_neg hj2, if_neg hj2]
      exact h j (by omega)
theorem rd_agree {K K' W W' : Nat → Int64} (hK : ∀ i, i < 80 → K i = K' i) (hW : ∀ i, i < 80 → W i = W' i) (s : T8) : lpU 1 (shR K W) 80 0 s = lpU 1 (shR K' W') 80 0 s := lp_ext1 80 0 s (fun j _ hj => funext fun t => by
  unfold shR
  rw [hK j (by omega), hW j (by omega)])
theorem up_n (g : Nat → Int64) : ∀ n i (w : Nat → Int64) k, lpU 1 (fun i w => upL w i (g i)) n i w k = if i ≤ k ∧ k < i + n then g k else w k
  | 0, i, w, k => (if_neg (fun z => by omega)).symm
  | n + 1, i, w, k => by
    show lpU 1 (fun i w => upL w i (g i)) n (i + 1) (upL w i (g i)) k = _
    rw [up_n g n (i + 1) (upL w i (g i)) k]
    show (if i + 1 ≤ k ∧ k < i + 1 + n then g k else if k = i then g i else w k) = _
    by_cases h1 : i + 1 ≤ k ∧ k < i + 1 + n
    · rw [if_pos h1, if_pos (by omega)]
    · rw [if_neg h1]
      by_cases h2 : k = i
      · rw [if_pos h2, if_pos (by omega), h2]
      · rw [if_neg h2, if_neg (by omega)]
theorem up_16 (g : Nat → Int64) (w : Nat → Int64) (k : Nat) (h : k < 16) : lpU 1 (fun i w => upL w i (g i)) 16 0 w k = g k := by
  rw [up_n, if_pos (by omega)]
/-- eight sums -/
theorem st_8 {X : vM} {a : Nat} (R : T8) : ∃ Y, (let X19 : vM := stL X a 0 ((X.1 a 0) + R.2.2.2.2.2.2.2); let X20 : vM := stL X19 a 1 ((X19.1 a 1) + R.2.2.2.2.2.2.1); let X21 : vM := stL X20 a 2 ((X20.1 a 2) + R.2.2.2.2.2.1); let X22 : vM := stL X21 a 3 ((X21.1 a 3) + R.2.2.2.2.1); let X23 : vM := stL X22 a 4 ((X22.1 a 4) + R.2.2.2.1); let X24 : vM := stL X23 a 5 ((X23.1 a 5) + R.2.2.1); let X25 : vM := stL X24 a 6 ((X24.1 a 6) + R.2.1); let X26 : vM := stL X25 a 7 ((X25.1 a 7) + R.1); X26) = Y ∧ onL [a] X Y ∧ st8 (Y.1 a) = ad8 (st8 (X.1 a)) R := by
  refine ⟨_, rfl, ?_, ?_⟩
  · simp only []
    exact (((((((st_on X a 0 _ List.mem_cons_self).tr (st_on _ a 1 _ List.mem_cons_self)).tr (st_on _ a 2 _ List.mem_cons_self)).tr (st_on _ a 3 _ List.mem_cons_self)).tr (st_on _ a 4 _ List.mem_cons_self)).tr (st_on _ a 5 _ List.mem_cons_self)).tr (st_on _ a 6 _ List.mem_cons_self)).tr (st_on _ a 7 _ List.mem_cons_self)
  · have hX : X = sg X a (X.1 a) := (sg_id X a).symm
    obtain ⟨w, hw⟩ : ∃ w, X.1 a = w := ⟨_, rfl⟩
    rw [hw] at hX
    rw [hX]
    simp only [st_sg, sg_at]
    rfl
theorem c_mix {X : vM} {kq : Nat → Nat → Nat} {ts : Nat → Nat} (hI : KInj kq) : onL [kq 5 0, kq 5 1] X (LF_Ha_mix X kq ts) ∧ st8 ((LF_Ha_mix X kq ts).1 (kq 5 0)) = shM (st8 (X.1 (kq 5 0))) (X.2 (kq 5 2)) := by
  have hn : kq 5 0 ≠ kq 5 1 := hI.ne (a := (5, 0)) (b := (5, 1)) rfl
  have hX : X = sg X (kq 5 1) (X.1 (kq 5 1)) := (sg_id X _).symm
  have s1 := lp_sg X (kq 5 1) 1 (LL_Ha_spreadWords_2 kq) (fun i w => upL w i (wd (X.2 (kq 5 2)) i)) (fun i w => by
    rw [← st_sg]
    unfold LL_Ha_spreadWords_2
    simp only []
    rw [Nat.add_sub_cancel_left]
    rfl) 16 0 (X.1 (kq 5 1))
  rw [← hX] at s1
  obtain ⟨w1, hw1⟩ : ∃ w, lpU 1 (fun i w => upL w i (wd (X.2 (kq 5 2)) i)) 16 0 (X.1 (kq 5 1)) = w := ⟨_, rfl⟩
  rw [hw1] at s1
  have s2 := lp_sg X (kq 5 1) 1 (LL_Ha_spreadWords_68 kq) exW (fun i w => by
    unfold exW
    rw [← st_sg]
    have e : shX i w = shX i ((sg X (kq 5 1) w).1 (kq 5 1)) := by rw [sg_at]
    rw [e]
    rfl) 64 16 w1
  obtain ⟨w2, hw2⟩ : ∃ w, lpU 1 exW 64 16 w1 = w := ⟨_, rfl⟩
  rw [hw2] at s2
  have hsp : LF_Ha_spreadWords X kq ts = sg X (kq 5 1) w2 := by
    unfold LF_Ha_spreadWords
    simp only []
    rw [s1, s2]
  have ag : ∀ k, k < 80 → w2 k = shW (X.2 (kq 5 2)) k := fun k hk => by
    rw [← hw2]
    refine exW_agree 64 16 w1 _ (by decide) (fun k hk => ?_) k (by omega)
    rw [if_pos hk, ← hw1]
    exact up_16 _ _ _ hk
  obtain ⟨V, eV⟩ : ∃ V, sg X (kq 5 1) w2 = V := ⟨_, rfl⟩
  have v0 : V.1 (kq 5 0) = X.1 (kq 5 0) := by rw [← eV]; exact sg_ne X w2 hn
  have v1 : V.1 (kq 5 1) = w2 := by rw [← eV]; exact sg_at X (kq 5 1) w2
  have vo : onL [kq 5 0, kq 5 1] X V := by rw [← eV]; exact sg_on X (kq 5 1) w2 (by simp)
  rw [eV] at hsp
  obtain ⟨R, eR⟩ : ∃ R, lpU 1 (LL_Ha_mix_71 V kq) 80 0 (V.1 (kq 5 0) 7, V.1 (kq 5 0) 6, V.1 (kq 5 0) 5, V.1 (kq 5 0) 4, V.1 (kq 5 0) 3, V.1 (kq 5 0) 2, V.1 (kq 5 0) 1, V.1 (kq 5 0) 0) = R := ⟨_, rfl⟩
  obtain ⟨Y, e, o, h⟩ := st_8 (X := V) (a := kq 5 0) R
  have eY : LF_Ha_mix X kq ts = Y := by
    rw [← e]
    unfold LF_Ha_mix
    simp only []
    rw [hsp, eR]
  rw [eY]
  refine ⟨vo.tr (o.mono (by simp)), ?_⟩
  have er : LL_Ha_mix_71 V kq = shR (st_v 7) (V.1 (kq 5 1)) := rfl
  have hR : R = lpU 1 (shR (st_v 7) (shW (X.2 (kq 5 2)))) 80 0 (st8 (X.1 (kq 5 0))) := by
    rw [← eR, er, v1, v0]
    exact rd_agree (fun _ _ => rfl) ag _
  rw [h, v0, hR]
  rfl
/-! the reference's hash -/
theorem m_over {X : vM} {r : Nat → Nat} {p : Nat → Int32} (hI : MInj r) (hK : ∀ i, i < 80 → X.1 (r 46) i = st_v 7 i) (hw : ∀ k, k < 16 → X.1 (r 48) k = wd p k) : onM r [48, 49] X (LF_M_over X r) ∧ st8 ((LF_M_over X r).1 (r 49)) = shM (st8 (X.1 (r 49))) p := by
  have hn : r 49 ≠ r 48 := hI.ne 49 48 rfl
  have hn2 : r 46 ≠ r 48 := hI.ne 46 48 rfl
  have hX : X = sg X (r 48) (X.1 (r 48)) := (sg_id X _).symm
  have s2 := lp_sg X (r 48) 1 (LL_M_over_3 r) exW (fun i w => by
    unfold exW
    rw [← st_sg]
    have e : shX i w = shX i ((sg X (r 48) w).1 (r 48)) := by rw [sg_at]
    rw [e]
    rfl) 64 16 (X.1 (r 48))
  rw [← hX] at s2
  obtain ⟨w2, hw2⟩ : ∃ w, lpU 1 exW 64 16 (X.1 (r 48)) = w := ⟨_, rfl⟩
  rw [hw2] at s2
  have ag : ∀ k, k < 80 → w2 k = shW p k := fun k hk => by
    rw [← hw2]
    refine exW_agree 64 16 _ _ (by decide) (fun k hk => ?_) k (by omega)
    rw [if_pos hk]
    exact hw k hk
  obtain ⟨V, eV⟩ : ∃ V, sg X (r 48) w2 = V := ⟨_, rfl⟩
  have v0 : V.1 (r 49) = X.1 (r 49) := by rw [← eV]; exact sg_ne X w2 hn
  have v1 : V.1 (r 48) = w2 := by rw [← eV]; exact sg_at X (r 48) w2
  have v2 : V.1 (r 46) = X.1 (r 46) := by rw [← eV]; exact sg_ne X w2 hn2
  have vo : onL [r 48, r 49] X V := by rw [← eV]; exact sg_on X (r 48) w2 (by simp)
  rw [eV] at s2
  obtain ⟨R, eR⟩ : ∃ R, lpU 1 (LL_M_over_167 V r) 80 0 (V.1 (r 49) 7, V.1 (r 49) 6, V.1 (r 49) 5, V.1 (r 49) 4, V.1 (r 49) 3, V.1 (r 49) 2, V.1 (r 49) 1, V.1 (r 49) 0) = R := ⟨_, rfl⟩
  obtain ⟨Y, e, o, h⟩ := st_8 (X := V) (a := r 49) R
  have eY : LF_M_over X r = Y := by
    rw [← e]
    unfold LF_M_over
    simp only []
    rw [s2, eR]
  rw [eY]
  refine ⟨vo.tr (o.mono (by simp)), ?_⟩
  have er : LL_M_over_167 V r = shR (V.1 (r 46)) (V.1 (r 48)) := rfl
  have hR : R = lpU 1 (shR (st_v 7) (shW p)) 80 0 (st8 (X.1 (r 49))) := by
    rw [← eR, er, v1, v0, v2]
    exact rd_agree hK ag _
  rw [h, v0, hR]
  rfl
theorem up_k (g : Nat → Int64 → Int64) (k : Nat) : ∀ n i (w : Nat → Int64) (v : Int64), lpU 1 (fun i w => upL w k (g i (w k))) n i (upL w k v) = upL w k (lpU 1 g n i v)
  | 0, _, _, _ => rfl
  | n + 1, i, w, v => by
    show lpU 1 (fun i w => upL w k (g i (w k))) n (i + 1) (upL (upL w k v) k (g i (upL w k v k))) = upL w k (lpU 1 g n (i + 1) (g i v))
    have e1 : upL w k v k = v := if_pos rfl
    have e2 : ∀ x y, upL (upL w k x) k y = upL w k y := fun x y => funext fun j => by
      show (if j = k then y else if j = k then x else w j) = if j = k then y else w j
      by_cases h : j = k
      · rw [if_pos h, if_pos h]
      · rw [if_neg h, if_neg h, if_neg h]
    rw [e1, e2]
    exact up_k g k n (i + 1) w (g i v)
/-- the padded text -/
def pad (f : Nat → Int32) (n i all : Nat) : Int32 := if n ≤ i then (if i = n then (nI 128) else (if (all - 8) ≤ i then (((((((8 : Int64) * ((nI n).toInt64))).toUInt64 >>> ((nI (8 * ((all - 1) - i))).toInt64.toUInt64 &&& Int64.toUInt64 63)).toInt64).toInt32) &&& (nI 255)) else (nI 0))) else ((f i) &&& (nI 255))
def allN (n : Nat) : Nat := (((n + 17) + 127) / 128) * 128
def sha (f : Nat → Int32) (n : Nat) : T8 := shB (fun i => pad f n i (allN n)) (allN n / 128)
theorem an_an (x : Int32) : (x &&& nI 255) &&& nI 255 = x &&& nI 255 := by
  rw [Int32.and_assoc, Int32.and_self]
theorem pad_an (f : Nat → Int32) (n i all : Nat) : pad f n i all &&& nI 255 = pad f n i all := by
  unfold pad
  by_cases h1 : n ≤ i
  · rw [if_pos h1]
    by_cases h2 : i = n
    · rw [if_pos h2]
      decide
    · rw [if_neg h2]
      by_cases h3 : all - 8 ≤ i
      · rw [if_pos h3, an_an]
      · rw [if_neg h3]
        decide
  · rw [if_neg h1, an_an]
theorem m_block {X : vM} {r : Nat → Nat} {a n at' : Nat} (hI : MInj r) (hK : ∀ i, i < 80 → X.1 (r 46) i = st_v 7 i) : onM r [48, 49] X (LL_M_hash_49 r a n at' X) ∧ st8 ((LL_M_hash_49 r a n at' X).1 (r 49)) = shM (st8 (X.1 (r 49))) (fun j => pad (X.2 a) n (at' + j) (allN n)) := by
  have hX : X = sg X (r 48) (X.1 (r 48)) := (sg_id X _).symm
  have s1 := lp_sg X (r 48) 1 (LL_M_hash_58 r a n at') (fun k w => upL w k (wd (fun j => pad (X.2 a) n (at' + j) (allN n)) k)) (fun k w => by
    have s0 := lp_sg X (r 48) 1 (LL_M_hash_76 r k a n at') (fun i w => upL w k ((w k <<< ((nI 8).toInt64 &&& 63)) ||| (pad (X.2 a) n (at' + 8 * k + i) (allN n)).toInt64)) (fun i w => by
      rw [← st_sg]
      have e : w k = (sg X (r 48) w).1 (r 48) k := by rw [sg_at]
      conv => rhs; rw [e]
      rfl) 8 0 (upL w k 0)
    rw [← st_sg] at s0
    show lpU 1 (LL_M_hash_76 r k a n at') 8 0 (stL (sg X (r 48) w) (r 48) k 0) = _
    rw [s0]
    congr 1
    have q := up_k (fun i s => (s <<< ((nI 8).toInt64 &&& 63)) ||| (pad (X.2 a) n (at' + 8 * k + i) (allN n)).toInt64) k 8 0 w 0
    refine q.trans ?_
    congr 1
    refine Eq.trans ?_ (lp_off (fun j s => (s <<< ((nI 8).toInt64 &&& 63)) ||| (((pad (X.2 a) n (at' + j) (allN n)) &&& (nI 255)).toInt64)) (8 * k) 8 0 (0 : Int64)).symm
    refine lp_ext 8 0 0 (fun j t => ?_)
    show (t <<< _) ||| _ = (t <<< _) ||| ((pad (X.2 a) n (at' + (8 * k + j)) (allN n) &&& nI 255).toInt64)
    rw [pad_an, Nat.add_assoc]) 16 0 (X.1 (r 48))
  rw [← hX] at s1
  obtain ⟨w1, hw1⟩ : ∃ w, lpU 1 (fun k w => upL w k (wd (fun j => pad (X.2 a) n (at' + j) (allN n)) k)) 16 0 (X.1 (r 48)) = w := ⟨_, rfl⟩
  rw [hw1] at s1
  have e : LL_M_hash_49 r a n at' X = LF_M_over (sg X (r 48) w1) r := by
    show LF_M_over (lpU 1 (LL_M_hash_58 r a n at') 16 0 X) r = _
    rw [s1]
  rw [e]
  have q := m_over (X := sg X (r 48) w1) (p := fun j => pad (X.2 a) n (at' + j) (allN n)) hI (fun i hi => by rw [sg_ne X w1 (hI.ne 46 48 rfl)]; exact hK i hi) (fun k hk => by rw [sg_at, ← hw1]; exact up_16 _ _ _ hk)
  refine ⟨((sg_on X (r 48) w1 (S := [r 48, r 49]) (by simp)).tr q.1), ?_⟩
  rw [q.2, sg_ne X w1 (hI.ne 49 48 rfl)]
def t8 (s : T8) (k : Nat) : Int64 := match k with
  | 0 => s.2.2.2.2.2.2.2
  | 1 => s.2.2.2.2.2.2.1
  | 2 => s.2.2.2.2.2.1
  | 3 => s.2.2.2.2.1
  | 4 => s.2.2.2.1
  | 5 => s.2.2.1
  | 6 => s.2.1
  | _ => s.1
theorem t8_st (f : Nat → Int64) {k : Nat} (h : k < 8) : t8 (st8 f) k = f k := by
  rcases (show k = 0 ∨ k = 1 ∨ k = 2 ∨ k = 3 ∨ k = 4 ∨ k = 5 ∨ k = 6 ∨ k = 7 by omega) with rfl | rfl | rfl | rfl | rfl | rfl | rfl | rfl <;> rfl
/-- a byte of the digest -/
def hby (s : T8) (i : Nat) : Int32 := by8 ((t8 s (i / 8)).toInt / 2 ^ (56 - 8 * (i % 8)))
theorem by_s (x : Int64) {m : Nat} (h : m < 64) : (((x >>> ((nI m).toInt64 &&& 63)).toInt32).toInt8.toInt32).toInt8.toInt32 = by8 (x.toInt / 2 ^ m) := by
  have h1 := Int64.toInt_lt x
  have h2 := Int64.le_toInt x
  conv => lhs; rw [i6_of x]
  rw [i6_shr h (by omega), by8_of]
theorem u6_sm : ∀ n : Nat, n < 64 → ((nI n).toInt64.toUInt64 &&& Int64.toUInt64 63) = UInt64.ofNat n := by decide +kernel
theorem by_u (x : Int64) {m : Nat} (h : m ≤ 56) : ((((x.toUInt64 >>> ((nI m).toInt64.toUInt64 &&& Int64.toUInt64 63)).toInt64).toInt32).toInt8.toInt32).toInt8.toInt32 = by8 (x.toInt / 2 ^ m) := by
  have e1 : (x.toUInt64 >>> UInt64.ofNat m).toInt64 = Int64.ofInt ((x.toBitVec.toNat / 2 ^ m : Nat) : Int) := by
    apply Int64.toBitVec_inj.mp
    show x.toBitVec >>> ((UInt64.ofNat m).toBitVec % 64) = BitVec.ofInt 64 ((x.toBitVec.toNat / 2 ^ m : Nat) : Int)
    apply BitVec.eq_of_toNat_eq
    have hx := x.toBitVec.isLt
    have hm : ((UInt64.ofNat m).toBitVec % 64).toNat = m := by
      show (BitVec.ofNat 64 m % 64#64).toNat = m
      rw [BitVec.toNat_umod, BitVec.toNat_ofNat, BitVec.toNat_ofNat, show (64 : Nat) % 2 ^ 64 = 64 from rfl, Nat.mod_eq_of_lt (show m < 2 ^ 64 by omega), Nat.mod_eq_of_lt (by omega)]
    have hd : x.toBitVec.toNat / 2 ^ m ≤ x.toBitVec.toNat := Nat.div_le_self _ _
    show (x.toBitVec >>> ((UInt64.ofNat m).toBitVec % 64).toNat).toNat = _
    rw [hm, BitVec.toNat_ushiftRight, Nat.shiftRight_eq_div_pow, BitVec.ofInt_natCast, BitVec.toNat_ofNat, Nat.mod_eq_of_lt (by omega)]
  rw [u6_sm m (by omega), e1, by8_of]
  apply by8_mod
  have e2 : x.toInt = (x.toBitVec.toNat : Int) ∨ x.toInt = (x.toBitVec.toNat : Int) - 18446744073709551616 := by
    have e3 : x.toInt = x.toBitVec.toInt := rfl
    rw [e3, BitVec.toInt_eq_toNat_cond]
    split
    · exact Or.inl rfl
    · exact Or.inr (by omega)
  rw [Int.natCast_ediv, Int.natCast_pow]
  rcases e2 with e2 | e2
  · rw [e2]
    rfl
  · have e4 : (x.toBitVec.toNat : Int) = x.toInt + 2 ^ (56 - m) * 256 * 2 ^ m := by
      rw [Int.mul_right_comm, ← Int.pow_add, show 56 - m + m = 56 by omega]
      omega
    rw [e4, show ((2 : Nat) : Int) = 2 from rfl, Int.add_mul_ediv_right _ _ (by have := Int.pow_pos (n := 2) (m := m) (by decide); omega), Int.add_mul_emod_self_right]
def haW : List Nat := [48, 49, 52]
theorem m_hash {X : vM} {r : Nat → Nat} {a n : Nat} (hI : MInj r) (hK : ∀ i, i < 80 → X.1 (r 46) i = st_v 7 i) (hS : ∀ i, i < 8 → X.1 (r 47) i = st_v 6 i) : ∃ Y, LF_M_hash X r a n = svI Y (r 52) 64 (hby (sha (X.2 a) n)) ∧ onM r [48, 49] X Y := by
  have hX : X = sg X (r 49) (X.1 (r 49)) := (sg_id X _).symm
  have s1 := lp_sg X (r 49) 1 (LL_M_hash_19 r) (fun i w => upL w i (X.1 (r 47) i)) (fun i w => by
    rw [← st_sg]
    have e : X.1 (r 47) i = (sg X (r 49) w).1 (r 47) i := by rw [sg_ne X w (hI.ne 47 49 rfl)]
    conv => rhs; rw [e]
    rfl) 8 0 (X.1 (r 49))
  rw [← hX] at s1
  obtain ⟨w1, hw1⟩ : ∃ w, lpU 1 (fun i w => upL w i (X.1 (r 47) i)) 8 0 (X.1 (r 49)) = w := ⟨_, rfl⟩
  rw [hw1] at s1
  have h0 : st8 w1 = st8 (st_v 6) := by
    have g : ∀ k, k < 8 → w1 k = st_v 6 k := fun k hk => by
      rw [← hw1, up_n, if_pos (by omega)]
      exact hS k hk
    unfold st8
    rw [g 0 (by decide), g 1 (by decide), g 2 (by decide), g 3 (by decide), g 4 (by decide), g 5 (by decide), g 6 (by decide), g 7 (by decide)]
  have o1 : onM r [48, 49] X (sg X (r 49) w1) := sg_on X (r 49) w1 (S := [r 48, r 49]) (by simp)
  have key : ∀ k b Y, onM r [48, 49] X Y → st8 (Y.1 (r 49)) = shB (fun i => pad (X.2 a) n i (allN n)) b → onM r [48, 49] X (lpU 128 (LL_M_hash_49 r a n) k (128 * b) Y) ∧ st8 ((lpU 128 (LL_M_hash_49 r a n) k (128 * b) Y).1 (r 49)) = shB (fun i => pad (X.2 a) n i (allN n)) (b + k) := by
    intro k
    induction k with
    | zero => exact fun b Y h1 h2 => ⟨h1, h2⟩
    | succ k ih =>
      intro b Y h1 h2
      have q := m_block (X := Y) (a := a) (n := n) (at' := 128 * b) hI (fun i hi => by rw [h1.2 (r 46) (hI.ni (l := [48, 49]) 46 rfl)]; exact hK i hi)
      rw [h2, h1.1] at q
      have q2 := ih (b + 1) (LL_M_hash_49 r a n (128 * b) Y) (h1.tr q.1) q.2
      rw [show b + 1 + k = b + (k + 1) by omega] at q2
      exact q2
  have q := key (allN n / 128) 0 (sg X (r 49) w1) o1 (by rw [sg_at]; exact h0)
  rw [Nat.zero_add, Nat.mul_zero] at q
  obtain ⟨Y, eY⟩ : ∃ Y, lpU 128 (LL_M_hash_49 r a n) (allN n / 128) 0 (sg X (r 49) w1) = Y := ⟨_, rfl⟩
  rw [eY] at q
  refine ⟨Y, ?_, q.1⟩
  have e : LF_M_hash X r a n = lpU 1 (LL_M_hash_147 r) 64 0 Y := by
    unfold LF_M_hash
    simp only []
    rw [s1, Nat.sub_zero]
    show lpU 1 (LL_M_hash_147 r) 64 0 (lpU 128 (LL_M_hash_49 r a n) (allN n / 128) 0 (sg X (r 49) w1)) = _
    rw [eY]
  rw [e]
  refine lp_svI (r 52) 64 (LL_M_hash_147 r) Y _ (fun i hi => ?_)
  rw [← st_svI]
  show stI (svI Y (r 52) i _) (r 52) i (((((((Y.1 (r 49) (i / 8))).toUInt64 >>> ((nI (56 - (8 * (i % 8)))).toInt64.toUInt64 &&& Int64.toUInt64 63)).toInt64).toInt32).toInt8.toInt32).toInt8.toInt32) = _
  rw [by_u _ (by omega)]
  unfold hby
  rw [show sha (X.2 a) n = st8 (Y.1 (r 49)) from q.2.symm, t8_st _ (by omega)]
