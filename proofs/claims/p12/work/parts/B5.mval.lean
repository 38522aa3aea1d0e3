/-! what the reference's public methods leave -/
theorem lp_cp {X : vM} {a b o p n : Nat} (body : Nat → vM → vM) (hb : ∀ i Y, body i Y = stI Y a (o + i) ((Y.2 b (p + i)).toInt8.toInt32)) (hab : b ≠ a) (hB : ∀ i, i < n → isB (X.2 b (p + i))) : lpU 1 body n 0 X = flI X a o n (fun k => X.2 b (p + (k - o))) := by
  have key : ∀ k i Y, i + k ≤ n → Y.2 b = X.2 b → lpU 1 body k i Y = lpU 1 (fun i Y => stI Y a (o + i) (X.2 b (p + (o + i - o)))) k i Y := by
    intro k
    induction k with
    | zero => exact fun _ _ _ _ => rfl
    | succ k ih =>
      intro i Y hi hY
      show lpU 1 body k (i + 1) (body i Y) = lpU 1 _ k (i + 1) (stI Y a (o + i) (X.2 b (p + (o + i - o))))
      rw [hb, hY, isB_i8 (hB i (by omega)), Nat.add_sub_cancel_left]
      exact ih (i + 1) _ (by omega) (Eq.trans (funext fun k => if_neg (fun z => hab z.1)) hY)
  rw [key n 0 X (by omega) rfl]
  refine Eq.trans ?_ (lp_fl a (fun k => X.2 b (p + (k - o))) (fun k Y => stI Y a k (X.2 b (p + (k - o)))) (fun _ _ => rfl) n o X)
  exact (lp_off (fun k Y => stI Y a k (X.2 b (p + (k - o)))) o n 0 X).symm
theorem fl_at (X : vM) (a o n : Nat) (f : Nat → Int32) {k : Nat} (h1 : o ≤ k) (h2 : k < o + n) : (flI X a o n f).2 a k = f k := if_pos ⟨rfl, h1, h2⟩
theorem m_tell {X : vM} {r : Nat → Nat} {a v1 v2 tp ms rs kc : Nat} (ha : a ≠ r 3) (hB : ∀ i, i < v2 → isB (X.2 a i)) : LF_M_tell X r a v1 v2 tp ms rs kc = flI X (r 3) v1 v2 (fun k => X.2 a (k - v1)) := by
  have q := lp_cp (X := X) (a := r 3) (b := a) (o := v1) (p := 0) (n := v2) (LL_M_tell_3 r v1 a) (fun i Y => by rw [Nat.zero_add]; rfl) ha (fun i hi => by rw [Nat.zero_add]; exact hB i hi)
  unfold LF_M_tell
  simp only []
  rw [Nat.sub_zero, q]
  congr 1
  funext k
  rw [Nat.zero_add]
theorem none_X (X : vM) (r : Nat → Nat) (v : Int32) (tp ms rs kc : Nat) : (LF_M_none X r v tp ms rs kc).1 = X := by
  unfold LF_M_none
  rfl
/-- the bytes 9, 0, 0 .. -/
theorem le_9 : leN (fun k => (if k = 0 then nI 9 else nI 0).toInt8.toInt32.toInt8.toInt32) 32 = 9 := by decide +kernel
def obW : List Nat := [31, 35, 18, 19, 20, 21, 24, 25, 26, 27, 28, 29, 33, 34, 40, 41, 42, 43, 44, 45, 3]
/-- the shared secret's bytes -/
def xB (f : Nat → Int32) (u : Nat) : Nat → Int32 := byN (xL (nbit (clN (leN f 32))) (iF ((u % 57896044618658097711785492504343953926634992332820282019728792003956564819968 : Nat) : Int))).val
theorem m_open_a {X : vM} {r : Nat → Nat} {v tp ms rs kc : Nat} (hI : MInj r) (hM : Mx X r) : onN r obW X (LF_M_open_a X r v tp ms rs kc) ∧ ∀ j, j < 32 → (LF_M_open_a X r v tp ms rs kc).2 (r 3) j = xB (fun i => X.2 (r 4) (32 * v + i)) 9 j := by
  have q1 := m_clamp (X := X) (r := r) (to := r 31) (b := r 4) (v := 32 * v)
  obtain ⟨X1, e1⟩ : ∃ Y, LF_M_clamped X r (r 31) (r 4) (32 * v) = Y := ⟨_, rfl⟩
  rw [e1] at q1
  have o1 : onN r [31] X X1 := onN.of (q1.on List.mem_cons_self)
  have e2 : lpU 1 (LL_M_open_78 r) 32 0 X1 = flI X1 (r 35) 0 32 (fun k => (if k = 0 then nI 9 else nI 0).toInt8.toInt32.toInt8.toInt32) := lp_fl (r 35) _ _ (fun i Y => rfl) 32 0 X1
  obtain ⟨X2, f2⟩ : ∃ Y, flI X1 (r 35) 0 32 (fun k => (if k = 0 then nI 9 else nI 0).toInt8.toInt32.toInt8.toInt32) = Y := ⟨_, rfl⟩
  rw [f2] at e2
  have o2 : onN r [35] X1 X2 := by
    rw [← f2]
    exact fl_on List.mem_cons_self
  have hl : leN (X2.2 (r 35)) 32 = 9 := by
    rw [← le_9]
    refine leN_ext 32 (fun j hj => ?_)
    rw [← f2]
    exact fl_at _ _ _ _ _ (by omega) (by omega)
  have M2 := (hM.kp hI o1 rfl).kp hI o2 rfl
  obtain ⟨X3, e3, o3, -⟩ := x_model (X := X2) hI M2.1 (q1.2.kn hI o2 rfl)
  rw [hl] at e3
  have o3' : onN r ldW X2 X3 := onN.of o3
  obtain ⟨X4, e4⟩ : ∃ Y, svI X3 (r 35) 32 (fun j => by8 (((xL (nbit (clN (leN (fun j => X.2 (r 4) (32 * v + j)) 32))) (iF ((9 % 57896044618658097711785492504343953926634992332820282019728792003956564819968 : Nat) : Int))).val : Int) / 256 ^ j)) = Y := ⟨_, rfl⟩
  rw [e4] at e3
  have o4 : onN r [35] X3 X4 := by
    rw [← e4]
    exact sv_onI List.mem_cons_self
  have b4 : ∀ j, j < 32 → X4.2 (r 35) j = xB (fun i => X.2 (r 4) (32 * v + i)) 9 j := fun j hj => by
    rw [← e4]
    exact if_pos ⟨rfl, hj⟩
  have e5 := m_tell (X := X4) (r := r) (a := r 35) (v1 := 0) (v2 := 32) (tp := tp) (ms := ms) (rs := rs) (kc := kc) (hI.ne 35 3 rfl) (fun i hi => by rw [b4 i hi]; exact isB_byN _ _)
  have eq : LF_M_open_a X r v tp ms rs kc = flI X4 (r 3) 0 32 (fun k => X4.2 (r 35) (k - 0)) := by
    unfold LF_M_open_a
    simp only []
    rw [none_X, e1, e2, e3, e5]
  rw [eq]
  have o5 : onN r [3] X4 (flI X4 (r 3) 0 32 (fun k => X4.2 (r 35) (k - 0))) := fl_on List.mem_cons_self
  refine ⟨((((o1.mono (m := obW) rfl).ad o2 rfl).ad o3' rfl).ad o4 rfl).ad o5 rfl, fun j hj => ?_⟩
  rw [fl_at _ _ _ _ _ (by omega) (by omega), Nat.sub_zero]
  exact b4 j hj
theorem m_open_b {X : vM} {r : Nat → Nat} {v tp ms rs kc : Nat} (hI : MInj r) (hM : Mx X r) (hb : ∀ i, i < 32 → isB (X.2 (r 4) (32 * v + i))) : onN r (3 :: opW) X (LF_M_open_b X r v tp ms rs kc) ∧ ∀ j, j < 32 → (LF_M_open_b X r v tp ms rs kc).2 (r 3) j = byN (edP (fun i => X.2 (r 4) (32 * v + i))) j := by
  obtain ⟨o1, -, b1, -⟩ := m_opened hI hM hb
  obtain ⟨X1, e1⟩ : ∃ Y, LF_M_opened X r v = Y := ⟨_, rfl⟩
  rw [e1] at o1 b1
  have e5 := m_tell (X := X1) (r := r) (a := r 36) (v1 := 0) (v2 := 32) (tp := tp) (ms := ms) (rs := rs) (kc := kc) (hI.ne 36 3 rfl) (fun i hi => by rw [b1 i hi]; exact isB_by8 _)
  have eq : LF_M_open_b X r v tp ms rs kc = flI X1 (r 3) 0 32 (fun k => X1.2 (r 36) (k - 0)) := by
    unfold LF_M_open_b
    simp only []
    rw [none_X, e1, e5]
  rw [eq]
  have o5 : onN r [3] X1 (flI X1 (r 3) 0 32 (fun k => X1.2 (r 36) (k - 0))) := fl_on List.mem_cons_self
  refine ⟨(o1.mono (m := 3 :: opW) rfl).ad o5 rfl, fun j hj => ?_⟩
  rw [fl_at _ _ _ _ _ (by omega) (by omega), Nat.sub_zero]
  exact b1 j hj
theorem m_agree {X : vM} {r : Nat → Nat} {v ms rs kc : Nat} (hI : MInj r) (hM : Mx X r) (hb : ∀ i, i < 32 → isB (X.2 (r 1) i)) : onN r (9 :: obW) X (LF_M_agree_a X r v ms rs kc).1 ∧ (∀ j, j < 32 → (LF_M_agree_a X r v ms rs kc).1.2 (r 3) j = xB (fun i => X.2 (r 4) (32 * v + i)) (leN (X.2 (r 1)) 32) j) ∧ (LF_M_agree_a X r v ms rs kc).2 = !decide (xL (nbit (clN (leN (fun i => X.2 (r 4) (32 * v + i)) 32))) (iF ((leN (X.2 (r 1)) 32 % 57896044618658097711785492504343953926634992332820282019728792003956564819968 : Nat) : Int)) = 0) := by
  have q1 := m_clamp (X := X) (r := r) (to := r 31) (b := r 4) (v := 32 * v)
  obtain ⟨X1, e1⟩ : ∃ Y, LF_M_clamped X r (r 31) (r 4) (32 * v) = Y := ⟨_, rfl⟩
  rw [e1] at q1
  have o1 : onN r [31] X X1 := onN.of (q1.on List.mem_cons_self)
  have t1 : X1.2 (r 1) = X.2 (r 1) := (o1.at hI 1 rfl).2
  have e2 := lp_cp (X := X1) (a := r 35) (b := r 1) (o := 0) (p := 0) (n := 32) (LL_M_agree_57 r) (fun i Y => by rw [Nat.zero_add]; rfl) (hI.ne 1 35 rfl) (fun i hi => by rw [t1, Nat.zero_add]; exact hb i hi)
  obtain ⟨X2, f2⟩ : ∃ Y, flI X1 (r 35) 0 32 (fun k => X1.2 (r 1) (0 + (k - 0))) = Y := ⟨_, rfl⟩
  rw [f2] at e2
  have o2 : onN r [35] X1 X2 := by
    rw [← f2]
    exact fl_on List.mem_cons_self
  have hl : leN (X2.2 (r 35)) 32 = leN (X.2 (r 1)) 32 := leN_ext 32 (fun j hj => by
    rw [← f2, fl_at _ _ _ _ _ (by omega) (by omega), t1, Nat.zero_add, Nat.sub_zero])
  have M2 := (hM.kp hI o1 rfl).kp hI o2 rfl
  obtain ⟨X3, e3, o3, z3⟩ := x_model (X := X2) hI M2.1 (q1.2.kn hI o2 rfl)
  rw [hl] at e3 z3
  have o3' : onN r ldW X2 X3 := onN.of o3
  obtain ⟨X4, e4⟩ : ∃ Y, svI X3 (r 35) 32 (fun j => by8 (((xL (nbit (clN (leN (fun j => X.2 (r 4) (32 * v + j)) 32))) (iF ((leN (X.2 (r 1)) 32 % 57896044618658097711785492504343953926634992332820282019728792003956564819968 : Nat) : Int))).val : Int) / 256 ^ j)) = Y := ⟨_, rfl⟩
  rw [e4] at e3
  have o4 : onN r [35] X3 X4 := by
    rw [← e4]
    exact sv_onI List.mem_cons_self
  have b4 : ∀ j, j < 32 → X4.2 (r 35) j = xB (fun i => X.2 (r 4) (32 * v + i)) (leN (X.2 (r 1)) 32) j := fun j hj => by
    rw [← e4]
    exact if_pos ⟨rfl, hj⟩
  have e5 := m_tell (X := X4) (r := r) (a := r 35) (v1 := 0) (v2 := 32) (tp := 0) (ms := ms) (rs := rs) (kc := kc) (hI.ne 35 3 rfl) (fun i hi => by rw [b4 i hi]; exact isB_byN _ _)
  obtain ⟨X5, f5⟩ : ∃ Y, flI X4 (r 3) 0 32 (fun k => X4.2 (r 35) (k - 0)) = Y := ⟨_, rfl⟩
  rw [f5] at e5
  have o5 : onN r [3] X4 X5 := by
    rw [← f5]
    exact fl_on List.mem_cons_self
  have z5 := ((z3.kn hI o4 rfl).kn hI o5 rfl)
  have hz := fm_zero z5
  obtain ⟨X6, f6⟩ : ∃ Y, (if LF_M_zero X5 (r 18) = true then stI X5 (r 9) 5 ((X5.2 (r 9) 5) + (nI 1)) else X5) = Y := ⟨_, rfl⟩
  have o6 : onN r [9] X5 X6 := by
    rw [← f6]
    by_cases hc : LF_M_zero X5 (r 18) = true
    · rw [if_pos hc]; exact st_onI List.mem_cons_self
    · rw [if_neg hc]; exact onN.rf
  have hz6 := fm_zero (z5.kn hI o6 rfl)
  have eq : LF_M_agree_a X r v ms rs kc = (X6, if LF_M_zero X6 (r 18) = true then false else true) := by
    unfold LF_M_agree_a
    simp only []
    rw [none_X, e1, e2, e3, e5, f6]
  rw [eq]
  have oo : onN r (9 :: obW) X X6 := (((((o1.mono (m := 9 :: obW) rfl).ad o2 rfl).ad o3' rfl).ad o4 rfl).ad o5 rfl).ad o6 rfl
  refine ⟨oo, fun j hj => ?_, ?_⟩
  · show X6.2 (r 3) j = _
    rw [(o6.at hI 3 rfl).2, ← f5, fl_at _ _ _ _ _ (by omega) (by omega), Nat.sub_zero]
    exact b4 j hj
  · show (if LF_M_zero X6 (r 18) = true then false else true) = _
    rw [hz6]
    generalize xL (nbit (clN (leN (fun i => X.2 (r 4) (32 * v + i)) 32))) (iF ((leN (X.2 (r 1)) 32 % 57896044618658097711785492504343953926634992332820282019728792003956564819968 : Nat) : Int)) = w
    by_cases hw : w = 0
    · rw [decide_eq_true hw]; rfl
    · rw [decide_eq_false hw]; rfl
/-! the text and the message behind it -/
theorem m_hmsg {X : vM} {r : Nat → Nat} {v0 m : Nat} (hI : MInj r) (hM : Mx X r) (hb : ∀ i, i < m → isB (X.2 (r 2) i)) : ∃ Y, LF_M_hashMessage X r v0 m = svI Y (r 52) 64 (hby (sha (cat (X.2 (r 38)) v0 (X.2 (r 2))) (v0 + m))) ∧ onN r [38, 48, 49] X Y := by
  have e1 := lp_cp (X := X) (a := r 38) (b := r 2) (o := v0) (p := 0) (n := m) (LL_M_hashMessage_2 r v0) (fun i Y => by rw [Nat.zero_add]; rfl) (hI.ne 2 38 rfl) (fun i hi => by rw [Nat.zero_add]; exact hb i hi)
  obtain ⟨X1, f1⟩ : ∃ Y, flI X (r 38) v0 m (fun k => X.2 (r 2) (0 + (k - v0))) = Y := ⟨_, rfl⟩
  rw [f1] at e1
  have o1 : onN r [38] X X1 := by
    rw [← f1]
    exact fl_on List.mem_cons_self
  have M1 := hM.kp hI o1 rfl
  obtain ⟨Y, h2, o2⟩ := m_hash (X := X1) (a := r 38) (n := v0 + m) hI M1.2.2.2.2.2.2.2.1 M1.2.2.2.2.2.2.2.2
  rw [sha_ext (g := cat (X.2 (r 38)) v0 (X.2 (r 2))) (fun i hi => by
    by_cases hc : i < v0
    · rw [cat_l hc, ← f1]
      exact if_neg (fun z => by omega)
    · rw [show i = v0 + (i - v0) by omega, cat_r, ← f1, fl_at _ _ _ _ _ (by omega) (by omega), Nat.zero_add, Nat.add_sub_cancel_left])] at h2
  refine ⟨Y, ?_, (o1.mono (m := [38, 48, 49]) rfl).ad (onN.of o2) rfl⟩
  unfold LF_M_hashMessage
  simp only []
  rw [Nat.sub_zero, e1, h2]
theorem dg_hi {N i : Nat} (h : N < 115792089237316195423570985008687907853269984665640564039457584007913129639936) (hi : 16 ≤ i) : dgI ((N : Nat) : Int) i = 0 := by
  have h2 : (65536 : Nat) ^ 16 ≤ 65536 ^ i := Nat.pow_le_pow_right (by decide) hi
  have h3 : (N : Int) < 65536 ^ i := by
    rw [show (65536 : Nat) ^ 16 = 115792089237316195423570985008687907853269984665640564039457584007913129639936 from by decide] at h2
    have h4 : N < 65536 ^ i := by omega
    have h5 : (N : Int) < ((65536 ^ i : Nat) : Int) := Int.ofNat_lt.mpr h4
    rw [Int.natCast_pow] at h5
    exact h5
  show (N : Int) / 65536 ^ i % 65536 = 0
  rw [Int.ediv_eq_zero_of_lt (by omega) h3]
  rfl
def sgW : List Nat := [3, 9, 38, 48, 49, 52, 32, 20, 21, 18, 19, 24, 25, 26, 27, 28, 29, 40, 41, 42, 43, 44, 45, 36, 31, 37, 33, 35]
theorem mod_lL (a b c : Nat) : (a % lL * (b % lL) % lL + c % lL) % lL = (a % lL * b + c % lL) % lL := by
  have e : a % lL * (b % lL) % lL = a % lL * b % lL := by rw [Nat.mul_mod (a % lL) b, Nat.mod_mod]
  rw [e, Nat.add_mod (a % lL * b) (c % lL), Nat.mod_mod]
theorem m_sign {X : vM} {r : Nat → Nat} {v tp m rs kc : Nat} (hI : MInj r) (hM : Mx X r) (hk : ∀ i, i < 32 → isB (X.2 (r 4) (32 * v + i))) (hb : ∀ i, i < m → isB (X.2 (r 2) i)) : onN r sgW X (LF_M_sign_a X r v tp m rs kc) ∧ (∀ j, j < 32 → (LF_M_sign_a X r v tp m rs kc).2 (r 3) j = byN (encN (emul eB (siR (fun i => X.2 (r 4) (32 * v + i)) (X.2 (r 2)) m))) j) ∧ ∀ j, j < 32 → (LF_M_sign_a X r v tp m rs kc).2 (r 3) (32 + j) = byN (siS (fun i => X.2 (r 4) (32 * v + i)) (X.2 (r 2)) m) j := by
  obtain ⟨o1, s1, p1, h1⟩ := m_opened hI hM hk
  obtain ⟨f, hf⟩ : ∃ f, (fun i => X.2 (r 4) (32 * v + i)) = f := ⟨_, rfl⟩
  rw [hf] at s1 p1 h1
  rw [hf]
  obtain ⟨X1, e1⟩ : ∃ Y, LF_M_opened X r v = Y := ⟨_, rfl⟩
  rw [e1] at o1 s1 p1 h1
  have M1 := hM.kp hI o1 rfl
  have g2 : X1.2 (r 2) = X.2 (r 2) := (o1.at hI 2 rfl).2
  -- the first hash
  have e2 := lp_cp (X := X1) (a := r 38) (b := r 52) (o := 0) (p := 32) (n := 32) (LL_M_sign_32 r) (fun i Y => by rw [Nat.zero_add]; rfl) (hI.ne 52 38 rfl) (fun i hi => by rw [h1 _ (by omega)]; exact isB_hby _ _)
  obtain ⟨X2, f2⟩ : ∃ Y, flI X1 (r 38) 0 32 (fun k => X1.2 (r 52) (32 + (k - 0))) = Y := ⟨_, rfl⟩
  rw [f2] at e2
  have o2 : onN r [38] X1 X2 := by rw [← f2]; exact fl_on List.mem_cons_self
  have M2 := M1.kp hI o2 rfl
  have k2 : X2.2 (r 2) = X.2 (r 2) := (o2.at hI 2 rfl).2.trans g2
  obtain ⟨Y3, e3, o3⟩ := m_hmsg (X := X2) (v0 := 32) (m := m) hI M2 (fun i hi => by rw [k2]; exact hb i hi)
  rw [k2, sha_ext (g := cat (fun i => edH f (32 + i)) 32 (X.2 (r 2))) (fun i hi => by
    by_cases hc : i < 32
    · rw [cat_l hc, cat_l hc, ← f2, fl_at _ _ _ _ _ (by omega) (by omega), Nat.sub_zero]
      exact h1 _ (by omega)
    · rw [show i = 32 + (i - 32) by omega, cat_r, cat_r])] at e3
  obtain ⟨X3, f3⟩ : ∃ Y, svI Y3 (r 52) 64 (hby (sha (cat (fun i => edH f (32 + i)) 32 (X.2 (r 2))) (32 + m))) = Y := ⟨_, rfl⟩
  rw [f3] at e3
  have o3' : onN r [38, 48, 49, 52] X2 X3 := (o3.mono (m := [38, 48, 49, 52]) rfl).ad (l := [52]) (by rw [← f3]; exact sv_onI List.mem_cons_self) rfl
  have M3 := M2.kp hI o3' rfl
  -- r
  obtain ⟨o4, n4⟩ := m_hnum (X := X3) (to := 31) hI M3.2.1 rfl
  obtain ⟨X4, e4⟩ : ∃ Y, LF_M_hashNumber X3 r (r 31) = Y := ⟨_, rfl⟩
  have hr : leN (X3.2 (r 52)) 64 % lL = siR f (X.2 (r 2)) m := by
    have h := leN_ext (f := X3.2 (r 52)) (g := hby (sha (cat (fun i => edH f (32 + i)) 32 (X.2 (r 2))) (32 + m))) 64 (fun j hj => by
      rw [← f3]
      exact if_pos ⟨rfl, hj⟩)
    rw [h]
    rfl
  rw [hr] at n4
  rw [e4] at o4 n4
  obtain ⟨rr, hrr⟩ : ∃ rr, siR f (X.2 (r 2)) m = rr := ⟨_, rfl⟩
  have rlt : rr < lL := by rw [← hrr]; exact Nat.mod_lt _ (by decide)
  rw [hrr] at n4
  have o4' : onN r [40, 41, 31] X3 X4 := onN.of o4
  have M4 := M3.kp hI o4' rfl
  obtain ⟨q5, x5, y5⟩ := fm_fromBase (ex := 31) hI M4.1 M4.2.2.1 M4.2.2.2.1 M4.2.2.2.2.2.1 M4.2.2.2.2.2.2.1 eB_on n4 rfl
  obtain ⟨X5, e5⟩ : ∃ Y, LF_M_fromBase X4 r (r 31) = Y := ⟨_, rfl⟩
  rw [e5] at q5 x5 y5
  have o5 : onN r (20 :: 21 :: muW) X4 X5 := onN.of q5
  have e6 := fm_enc (r := r) (to := r 37) x5 y5
  obtain ⟨X6, f6⟩ : ∃ Y, svI X5 (r 37) 32 (byN (encN (emul eB rr))) = Y := ⟨_, rfl⟩
  have e6' : LF_M_encode X5 r (r 37) (r 18) (r 19) = X6 := by rw [e6, ← f6]; rfl
  have o6 : onN r [37] X5 X6 := by rw [← f6]; exact sv_onI List.mem_cons_self
  have b6 : ∀ j, j < 32 → X6.2 (r 37) j = byN (encN (emul eB rr)) j := fun j hj => by rw [← f6]; exact if_pos ⟨rfl, hj⟩
  have M6 := (M4.kp hI o5 rfl).kp hI o6 rfl
  have p6 : ∀ j, j < 32 → X6.2 (r 36) j = byN (edP f) j := fun j hj => by
    rw [(o6.at hI 36 rfl).2, (o5.at hI 36 rfl).2, (o4'.at hI 36 rfl).2, (o3'.at hI 36 rfl).2, (o2.at hI 36 rfl).2]
    exact p1 j hj
  have k6 : X6.2 (r 2) = X.2 (r 2) := by
    rw [(o6.at hI 2 rfl).2, (o5.at hI 2 rfl).2, (o4'.at hI 2 rfl).2, (o3'.at hI 2 rfl).2]
    exact k2
  -- both keys into the text
  have e7 : ∃ X7, lpU 1 (LL_M_sign_99 r) 32 0 X6 = X7 ∧ onN r [38] X6 X7 ∧ (∀ j, j < 32 → X7.2 (r 38) j = byN (encN (emul eB rr)) j) ∧ ∀ j, j < 32 → X7.2 (r 38) (32 + j) = byN (edP f) j := by
    have key : ∀ n i Y, i + n = 32 → onN r [38] X6 Y → (∀ j, j < i → Y.2 (r 38) j = byN (encN (emul eB rr)) j) → (∀ j, j < i → Y.2 (r 38) (32 + j) = byN (edP f) j) → onN r [38] X6 (lpU 1 (LL_M_sign_99 r) n i Y) ∧ (∀ j, j < 32 → (lpU 1 (LL_M_sign_99 r) n i Y).2 (r 38) j = byN (encN (emul eB rr)) j) ∧ ∀ j, j < 32 → (lpU 1 (LL_M_sign_99 r) n i Y).2 (r 38) (32 + j) = byN (edP f) j := by
      intro n
      induction n with
      | zero =>
        intro i Y hi h1 h2 h3
        have : i = 32 := by omega
        subst this
        exact ⟨h1, h2, h3⟩
      | succ n ih =>
        intro i Y hi h1 h2 h3
        obtain ⟨Z, hZ⟩ : ∃ Z, LL_M_sign_99 r i Y = Z := ⟨_, rfl⟩
        have z1 : Z = stI (stI Y (r 38) i (byN (encN (emul eB rr)) i)) (r 38) (32 + i) (byN (edP f) i) := by
          rw [← hZ]
          show stI (stI Y (r 38) i ((Y.2 (r 37) i).toInt8.toInt32)) (r 38) (32 + i) (((stI Y (r 38) i ((Y.2 (r 37) i).toInt8.toInt32)).2 (r 36) i).toInt8.toInt32) = _
          have a1 : Y.2 (r 37) i = byN (encN (emul eB rr)) i := by rw [(h1.at hI 37 rfl).2]; exact b6 i (by omega)
          have a2 : ∀ w, (stI Y (r 38) i w).2 (r 36) i = byN (edP f) i := fun w => by
            refine Eq.trans (if_neg (fun z => hI.ne 36 38 rfl z.1)) ?_
            rw [(h1.at hI 36 rfl).2]
            exact p6 i (by omega)
          rw [a2, a1, isB_i8 (isB_byN _ _), isB_i8 (isB_byN _ _)]
        have oZ : onN r [38] X6 Z := by
          rw [z1]
          exact h1.tr (onW.tr (st_onI List.mem_cons_self) (st_onI List.mem_cons_self))
        show onN r [38] X6 (lpU 1 (LL_M_sign_99 r) n (i + 1) (LL_M_sign_99 r i Y)) ∧ (∀ j, j < 32 → (lpU 1 (LL_M_sign_99 r) n (i + 1) (LL_M_sign_99 r i Y)).2 (r 38) j = _) ∧ ∀ j, j < 32 → (lpU 1 (LL_M_sign_99 r) n (i + 1) (LL_M_sign_99 r i Y)).2 (r 38) (32 + j) = _
        rw [hZ]
        refine ih (i + 1) Z (by omega) oZ (fun j hj => ?_) (fun j hj => ?_)
        · rw [z1]
          show (if r 38 = r 38 ∧ j = 32 + i then _ else if r 38 = r 38 ∧ j = i then byN (encN (emul eB rr)) i else Y.2 (r 38) j) = _
          rw [if_neg (fun z => by omega)]
          by_cases hc : j = i
          · rw [if_pos ⟨rfl, hc⟩, hc]
          · rw [if_neg (fun z => hc z.2)]
            exact h2 j (by omega)
        · rw [z1]
          show (if r 38 = r 38 ∧ 32 + j = 32 + i then byN (edP f) i else if r 38 = r 38 ∧ 32 + j = i then _ else Y.2 (r 38) (32 + j)) = _
          by_cases hc : j = i
          · rw [if_pos ⟨rfl, by omega⟩, hc]
          · rw [if_neg (fun z => by omega), if_neg (fun z => by omega)]
            exact h3 j (by omega)
    exact ⟨_, rfl, key 32 0 X6 rfl onN.rf (fun j hj => absurd hj (by omega)) (fun j hj => absurd hj (by omega))⟩
  obtain ⟨X7, e7, o7, a7, c7⟩ := e7
  have M7 := M6.kp hI o7 rfl
  have k7 : X7.2 (r 2) = X.2 (r 2) := (o7.at hI 2 rfl).2.trans k6
  obtain ⟨Y8, e8, o8⟩ := m_hmsg (X := X7) (v0 := 64) (m := m) hI M7 (fun i hi => by rw [k7]; exact hb i hi)
  rw [k7, sha_ext (g := cat (byN (encN (emul eB rr))) 32 (cat (byN (edP f)) 32 (X.2 (r 2)))) (fun i hi => by
    by_cases hc : i < 32
    · rw [cat_l (show i < 64 by omega), cat_l hc]
      exact a7 i hc
    · by_cases hc2 : i < 64
      · rw [cat_l hc2, show i = 32 + (i - 32) by omega, cat_r, cat_l (by omega)]
        exact c7 (i - 32) (by omega)
      · rw [show i = 64 + (i - 64) by omega, cat_r, show 64 + (i - 64) = 32 + (32 + (i - 64)) by omega, cat_r, cat_r])] at e8
  obtain ⟨X8, f8⟩ : ∃ Y, svI Y8 (r 52) 64 (hby (sha (cat (byN (encN (emul eB rr))) 32 (cat (byN (edP f)) 32 (X.2 (r 2)))) (64 + m))) = Y := ⟨_, rfl⟩
  rw [f8] at e8
  have o8' : onN r [38, 48, 49, 52] X7 X8 := (o8.mono (m := [38, 48, 49, 52]) rfl).ad (l := [52]) (by rw [← f8]; exact sv_onI List.mem_cons_self) rfl
  have M8 := M7.kp hI o8' rfl
  obtain ⟨o9, n9⟩ := m_hnum (X := X8) (to := 33) hI M8.2.1 rfl
  obtain ⟨X9, e9⟩ : ∃ Y, LF_M_hashNumber X8 r (r 33) = Y := ⟨_, rfl⟩
  have hkk : leN (X8.2 (r 52)) 64 % lL = siK f (X.2 (r 2)) m := by
    have h := leN_ext (f := X8.2 (r 52)) (g := hby (sha (cat (byN (encN (emul eB rr))) 32 (cat (byN (edP f)) 32 (X.2 (r 2)))) (64 + m))) 64 (fun j hj => by
      rw [← f8]
      exact if_pos ⟨rfl, hj⟩)
    rw [h, ← hrr]
    rfl
  rw [hkk] at n9
  rw [e9] at o9 n9
  obtain ⟨kk, hk0⟩ : ∃ kk, siK f (X.2 (r 2)) m = kk := ⟨_, rfl⟩
  have klt : kk < lL := by rw [← hk0]; exact Nat.mod_lt _ (by decide)
  rw [hk0] at n9
  have o9' : onN r [40, 41, 33] X8 X9 := onN.of o9
  have M9 := M8.kp hI o9' rfl
  -- the secret, reduced
  have s9 : M16 X9 (r 32) ((edA f : Nat) : Int) := (((((((s1.kn hI o2 rfl).kn hI o3' rfl).kn hI o4' rfl).kn hI o5 rfl).kn hI o6 rfl).kn hI o7 rfl).kn hI o8' rfl).kn hI o9' rfl
  have r9 : M16 X9 (r 31) (rr : Int) := ((((n4.kn hI o5 rfl).kn hI o6 rfl).kn hI o7 rfl).kn hI o8' rfl).kn hI o9' rfl
  have e10 : lpU 1 (LL_M_sign_154 r) 32 0 X9 = svL X9 (r 40) 32 (fun j => Int64.ofInt (dgI ((edA f : Nat) : Int) j)) := lp_sv (r 40) 32 _ X9 _ (fun i hi => by
    rw [← st_sv]
    show stL _ (r 40) i (if 16 ≤ i then (0 : Int64) else (svL X9 (r 40) i _).1 (r 32) i) = _
    congr 1
    by_cases hc : 16 ≤ i
    · rw [if_pos hc]
      have hlt := cl_lt (leN (edH f) 32)
      have : dgI ((edA f : Nat) : Int) i = 0 := dg_hi (N := edA f) (by show clN (leN (edH f) 32) < _; omega) hc
      rw [this]
      rfl
    · rw [if_neg hc, svL_ne X9 (r 40) i _ (hI.ne 32 40 rfl)]
      exact s9.2 i (by omega))
  obtain ⟨XA, fA⟩ : ∃ Y, svL X9 (r 40) 32 (fun j => Int64.ofInt (dgI ((edA f : Nat) : Int) j)) = Y := ⟨_, rfl⟩
  rw [fA] at e10
  have oA : onM r [40] X9 XA := by rw [← fA]; exact sv_on X9 (r 40) 32 _ List.mem_cons_self
  have MA := M9.kp hI (onN.of oA) rfl
  have hA := cl_lt (leN (edH f) 32)
  have qB := m_reduce (X := XA) (r := r) (to := r 32) (m := r 12) (t := r 13) (M := (lL : Int)) (N := ((edA f : Nat) : Int)) (fun j hj => by rw [← fA]; exact svL_at X9 (r 40) 32 _ hj) ⟨by omega, by
    show ((clN (leN (edH f) 32) : Nat) : Int) < _
    omega⟩ MA.2.1.2 MA.2.1.1 lL_b lL_r (hI.ne 40 41 rfl) (hI.ne 13 41 rfl) (hI.ne 12 41 rfl) (hI.ne 12 32 rfl) (hI.ne 32 41 rfl)
  obtain ⟨XB, eB1⟩ : ∃ Y, LF_M_reduce XA r (r 32) (r 12) (r 13) = Y := ⟨_, rfl⟩
  rw [eB1] at qB
  obtain ⟨⟨u, w, eB2⟩, nB⟩ := qB
  have oB : onN r [41, 32] XA XB := by
    rw [eB2]
    exact onN.of (onL.tr (sv_on XA (r 41) 16 u (by simp)) (sv_on _ (r 32) 16 w (by simp)))
  have MB := MA.kp hI oB rfl
  have nB2 : M16 XB (r 32) ((edA f % lL : Nat) : Int) := by rw [Int.natCast_emod]; exact nB
  have kB : M16 XB (r 33) (kk : Int) := (n9.kn hI (onN.of oA) rfl).kn hI oB rfl
  have qC := m_times (X := XB) (r := r) (to := r 33) (a := r 33) (b := r 32) (m := r 12) (t := r 13) (M := (lL : Int)) kB nB2 MB.2.1.2 MB.2.1.1 lL_b lL_r (hI.ne 33 40 rfl) (hI.ne 32 40 rfl) (hI.ne 13 40 rfl) (hI.ne 12 40 rfl) (hI.ne 40 41 rfl) (hI.ne 13 41 rfl) (hI.ne 12 41 rfl) (hI.ne 12 33 rfl) (hI.ne 33 41 rfl)
  obtain ⟨XC, eC1⟩ : ∃ Y, LF_M_times XB r (r 33) (r 33) (r 32) (r 12) (r 13) = Y := ⟨_, rfl⟩
  rw [eC1] at qC
  obtain ⟨⟨pp, u2, w2, eC2⟩, nC⟩ := qC
  have oC : onN r [40, 41, 33] XB XC := by
    rw [eC2]
    exact onN.of (onL.tr (onL.tr (sv_on XB (r 40) 32 pp (by simp)) (sv_on _ (r 41) 16 u2 (by simp))) (sv_on _ (r 33) 16 w2 (by simp)))
  have MC := MB.kp hI oC rfl
  have rC : M16 XC (r 31) (rr : Int) := ((r9.kn hI (onN.of oA) rfl).kn hI oB rfl).kn hI oC rfl
  have nC2 : M16 XC (r 33) ((kk * (edA f % lL) % lL : Nat) : Int) := by rw [Int.natCast_emod, Int.natCast_mul]; exact nC
  have qD := m_plus (to := r 33) nC2 rC MC.2.1.1 (hI.ne 12 33 rfl) (Int.ofNat_lt.mpr (Nat.mod_lt _ (by decide))) (Int.ofNat_lt.mpr rlt) lL_b.2
  obtain ⟨XD, eD1⟩ : ∃ Y, LF_M_plus XC (r 33) (r 33) (r 31) (r 12) = Y := ⟨_, rfl⟩
  rw [eD1] at qD
  have oD : onN r [33] XC XD := onN.of (qD.on List.mem_cons_self)
  have hS : siS f (X.2 (r 2)) m = (kk * edA f + rr) % lL := by
    unfold siS
    rw [hk0, hrr]
  have nD : M16 XD (r 33) ((siS f (X.2 (r 2)) m : Nat) : Int) := by
    have e := mod_lL kk (edA f) rr
    rw [Nat.mod_eq_of_lt klt, Nat.mod_eq_of_lt rlt] at e
    rw [hS, ← e, Int.natCast_emod, Int.natCast_add]
    exact qD.2
  -- told
  have bD : ∀ j, j < 32 → XD.2 (r 37) j = byN (encN (emul eB rr)) j := fun j hj => by
    rw [(oD.at hI 37 rfl).2, (oC.at hI 37 rfl).2, (oB.at hI 37 rfl).2, ((onN.of oA).at hI 37 rfl).2, (o9'.at hI 37 rfl).2, (o8'.at hI 37 rfl).2, (o7.at hI 37 rfl).2]
    exact b6 j hj
  have eE := m_tell (X := XD) (r := r) (a := r 37) (v1 := 0) (v2 := 32) (tp := tp) (ms := m) (rs := rs) (kc := kc) (hI.ne 37 3 rfl) (fun i hi => by rw [bD i hi]; exact isB_byN _ _)
  obtain ⟨XE, fE⟩ : ∃ Y, flI XD (r 3) 0 32 (fun k => XD.2 (r 37) (k - 0)) = Y := ⟨_, rfl⟩
  rw [fE] at eE
  have oE : onN r [3] XD XE := by rw [← fE]; exact fl_on List.mem_cons_self
  have nE := nD.kn hI oE rfl
  have wF := m_wr (to := r 35) nE (LL_M_sign_260 r) (fun i Y _ => rfl)
  obtain ⟨XF, fF⟩ : ∃ Y, svI XE (r 35) 32 (byN (siS f (X.2 (r 2)) m)) = Y := ⟨_, rfl⟩
  have eF : lpU 1 (LL_M_sign_260 r) 32 0 XE = XF := by rw [wF, ← fF]; rfl
  have oF : onN r [35] XE XF := by rw [← fF]; exact sv_onI List.mem_cons_self
  have bF : ∀ j, j < 32 → XF.2 (r 35) j = byN (siS f (X.2 (r 2)) m) j := fun j hj => by rw [← fF]; exact if_pos ⟨rfl, hj⟩
  have eG := m_tell (X := XF) (r := r) (a := r 35) (v1 := 32) (v2 := 32) (tp := tp) (ms := m) (rs := 32) (kc := kc) (hI.ne 35 3 rfl) (fun i hi => by rw [bF i hi]; exact isB_byN _ _)
  obtain ⟨XG, fG⟩ : ∃ Y, flI XF (r 3) 32 32 (fun k => XF.2 (r 35) (k - 32)) = Y := ⟨_, rfl⟩
  rw [fG] at eG
  have oG : onN r [3] XF XG := by rw [← fG]; exact fl_on List.mem_cons_self
  obtain ⟨XH, fH⟩ : ∃ Y, stI XG (r 9) 0 ((XG.2 (r 9) 0) + (nI 1)) = Y := ⟨_, rfl⟩
  have oH : onN r [9] XG XH := by rw [← fH]; exact st_onI List.mem_cons_self
  have eq : LF_M_sign_a X r v tp m rs kc = XH := by
    unfold LF_M_sign_a
    simp only []
    rw [none_X, e1, e2, e3, e4, e5, e6', e7, e8, e9, e10, eB1, eC1, eD1, eE, eF, eG, fH]
  rw [eq]
  refine ⟨((((((((((((((((o1.mono (m := sgW) rfl).ad o2 rfl).ad o3' rfl).ad o4' rfl).ad o5 rfl).ad o6 rfl).ad o7 rfl).ad o8' rfl).ad o9' rfl).ad (onN.of oA) rfl).ad oB rfl).ad oC rfl).ad oD rfl).ad oE rfl).ad oF rfl).ad oG rfl).ad oH rfl, fun j hj => ?_, fun j hj => ?_⟩
  · rw [(oH.at hI 3 rfl).2, ← fG]
    show (if r 3 = r 3 ∧ 32 ≤ j ∧ j < 32 + 32 then _ else XF.2 (r 3) j) = _
    rw [if_neg (fun z => by omega), (oF.at hI 3 rfl).2, ← fE, fl_at _ _ _ _ _ (by omega) (by omega), Nat.sub_zero, hrr]
    exact bD j hj
  · rw [(oH.at hI 3 rfl).2, ← fG, fl_at _ _ _ _ _ (by omega) (by omega), Nat.add_sub_cancel_left]
    exact bF j hj
theorem pt_gen (a b : Nat) (G : Int64 → Nat → Int32) (body : Nat → vM → vM) (hb : ∀ i Y, body i Y = stI Y a i (G (Y.1 b (i / 2)) i)) (X3 : vM) : ∀ n i (Y : vM), Y.1 = X3.1 → lpU 1 body n i Y = flI Y a i n (fun k => G (X3.1 b (k / 2)) k) := by
  intro n i Y hY
  have key : ∀ k i Y, Y.1 = X3.1 → lpU 1 body k i Y = lpU 1 (fun i Y => stI Y a i (G (X3.1 b (i / 2)) i)) k i Y := by
    intro k
    induction k with
    | zero => exact fun _ _ _ => rfl
    | succ k ih =>
      intro i Y hY
      show lpU 1 body k (i + 1) (body i Y) = _
      rw [hb, hY]
      exact ih (i + 1) _ hY
  rw [key n i Y hY]
  exact lp_fl a (fun k => G (X3.1 b (k / 2)) k) (fun i Y => stI Y a i (G (X3.1 b (i / 2)) i)) (fun _ _ => rfl) n i Y
theorem pt_63 (r : Nat → Nat) (X3 : vM) : lpU 1 (LL_M_point_63 r) 32 0 X3 = flI X3 (r 35) 0 32 (fun i => (((((X3.1 (r 20) (i / 2)) >>> ((nI (8 * (i % 2))).toInt64 &&& 63)).toInt32).toInt8.toInt32).toInt8.toInt32)) := pt_gen (r 35) (r 20) (fun z i => ((((z >>> ((nI (8 * (i % 2))).toInt64 &&& 63)).toInt32).toInt8.toInt32).toInt8.toInt32)) (LL_M_point_63 r) (fun _ _ => rfl) X3 32 0 X3 rfl
def poW : List Nat := [3, 35, 20, 21, 24, 25, 26, 27, 28, 40, 41, 42, 43, 44, 45]
theorem m_point {X : vM} {r : Nat → Nat} {ms rs kc : Nat} (hI : MInj r) (hM : Mx X r) (hb : ∀ i, i < 32 → isB (X.2 (r 1) i)) : (LF_M_decode (lpU 1 (LL_M_point_23 r) 32 0 X) r).2 = (decide (leN (X.2 (r 1)) 32 % 57896044618658097711785492504343953926634992332820282019728792003956564819968 < pP) && dOK (rtW (iF ((leN (X.2 (r 1)) 32 % 57896044618658097711785492504343953926634992332820282019728792003956564819968 : Nat) : Int))) (ub (X.2 (r 1) 31) / 128)) ∧ onN r poW X (LF_M_point_c X r ms rs kc).1 ∧ onN r poW X (LF_M_point_a X r ms rs kc).1 ∧ ((LF_M_decode (lpU 1 (LL_M_point_23 r) 32 0 X) r).2 = true → ∀ j, j < 32 → (LF_M_point_a X r ms rs kc).1.2 (r 3) j = byN (dX (rtW (iF ((leN (X.2 (r 1)) 32 % 57896044618658097711785492504343953926634992332820282019728792003956564819968 : Nat) : Int))) (ub (X.2 (r 1) 31) / 128)).val j) := by
  have e2 := lp_cp (X := X) (a := r 35) (b := r 1) (o := 0) (p := 0) (n := 32) (LL_M_point_23 r) (fun i Y => by rw [Nat.zero_add]; rfl) (hI.ne 1 35 rfl) (fun i hi => by rw [Nat.zero_add]; exact hb i hi)
  obtain ⟨X2, f2⟩ : ∃ Y, flI X (r 35) 0 32 (fun k => X.2 (r 1) (0 + (k - 0))) = Y := ⟨_, rfl⟩
  rw [f2] at e2
  have o2 : onN r [35] X X2 := by rw [← f2]; exact fl_on List.mem_cons_self
  have b2 : ∀ j, j < 32 → X2.2 (r 35) j = X.2 (r 1) j := fun j hj => by
    rw [← f2, fl_at _ _ _ _ _ (by omega) (by omega), Nat.zero_add, Nat.sub_zero]
  have hl : leN (X2.2 (r 35)) 32 = leN (X.2 (r 1)) 32 := leN_ext 32 b2
  have M2 := hM.kp hI o2 rfl
  obtain ⟨o3, a3, v3⟩ := d_model (X := X2) hI M2.1 M2.2.2.1 M2.2.2.2.1 M2.2.2.2.2.1
  rw [hl, b2 31 (by decide)] at a3 v3
  rw [e2]
  obtain ⟨X3, e3⟩ : ∃ Y, (LF_M_decode X2 r).1 = Y := ⟨_, rfl⟩
  rw [e3] at o3 v3
  have o3' : onN r deW X2 X3 := onN.of o3
  have ec : LF_M_point_c X r ms rs kc = (X3, false) := by
    unfold LF_M_point_c
    simp only []
    rw [e2, e3]
  have oo : onN r poW X X3 := (o2.mono (m := poW) rfl).ad o3' rfl
  -- any digits are written as bytes
  have ef := pt_63 r X3
  obtain ⟨X4, e4⟩ : ∃ Y, lpU 1 (LL_M_point_63 r) 32 0 X3 = Y := ⟨_, rfl⟩
  have o4 : onN r [35] X3 X4 := by
    rw [← e4, ef]
    exact fl_on List.mem_cons_self
  have i4 : ∀ j, j < 32 → isB (X4.2 (r 35) j) := fun j hj => by
    rw [← e4, ef, fl_at _ _ _ _ _ (by omega) (by omega), i8_by]
    exact isB_by8 _
  have v4 : ∀ N : Int, M16 X3 (r 20) N → ∀ j, j < 32 → X4.2 (r 35) j = by8 (N / 256 ^ j) := fun N hN j hj => by
    have w := m_wr (to := r 35) hN (LL_M_point_63 r) (fun i Y _ => rfl)
    rw [e4] at w
    rw [w]
    exact if_pos ⟨rfl, hj⟩
  have e5 := m_tell (X := X4) (r := r) (a := r 35) (v1 := 0) (v2 := 32) (tp := 0) (ms := ms) (rs := rs) (kc := kc) (hI.ne 35 3 rfl) i4
  have ea : LF_M_point_a X r ms rs kc = (flI X4 (r 3) 0 32 (fun k => X4.2 (r 35) (k - 0)), true) := by
    unfold LF_M_point_a
    simp only []
    rw [e2, e3, e4, e5]
  have o5 : onN r [3] X4 (flI X4 (r 3) 0 32 (fun k => X4.2 (r 35) (k - 0))) := fl_on List.mem_cons_self
  rw [ec, ea]
  refine ⟨a3, oo, (oo.ad o4 rfl).ad o5 rfl, fun ht j hj => ?_⟩
  show (flI X4 (r 3) 0 32 (fun k => X4.2 (r 35) (k - 0))).2 (r 3) j = _
  rw [fl_at _ _ _ _ _ (by omega) (by omega), Nat.sub_zero]
  exact v4 _ (v3 ht).1 j hj
