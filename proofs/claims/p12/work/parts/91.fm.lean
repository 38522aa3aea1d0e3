/-! the reference's numbers modulo 2^255 - 19 -/
theorem m_inverse {X : vM} {r : Nat → Nat} {to a m : Nat} {A : Int} (ha : M16 X a A) (hm : M16 X m (pP : Int)) (hA : A < (pP : Int)) (hd : ivD r m) (ha4 : a ∉ ivL r) : ∃ I : Int, (0 ≤ I ∧ I < (pP : Int)) ∧ (A = 0 → I = 0) ∧ (A ≠ 0 → ∃ c, A * I - 1 = (pP : Int) * c) ∧ M16 (LF_M_inverse X r to a m) to I ∧ onL [r 42, r 43, r 44, r 45, to] X (LF_M_inverse X r to a m) := by
  have hd' := hd
  obtain ⟨d1, d2, d3, d4, d5, d6, d7, d8, d9, d10⟩ := hd'
  have ha42 : a ≠ r 42 := fun z => ha4 (by rw [z]; simp)
  have ha43 : a ≠ r 43 := fun z => ha4 (by rw [z]; simp)
  have ha44 : a ≠ r 44 := fun z => ha4 (by rw [z]; simp)
  have ha45 : a ≠ r 45 := fun z => ha4 (by rw [z]; simp)
  have q1 := m_copy (to := r 42) ha
  obtain ⟨X1, e1⟩ : ∃ Y, LF_M_copy X (r 42) a = Y := ⟨_, rfl⟩
  rw [e1] at q1
  have o1 := q1.on (S := [r 42]) List.mem_cons_self
  have q2 := m_copy (to := r 43) (hm.on o1 (ni1 d7))
  obtain ⟨X2, e2⟩ : ∃ Y, LF_M_copy X1 (r 43) m = Y := ⟨_, rfl⟩
  rw [e2] at q2
  have o2 := q2.on (S := [r 43]) List.mem_cons_self
  have q3 := m_set (X := X2) (to := r 44) (n := 1) (by decide)
  obtain ⟨X3, e3⟩ : ∃ Y, LF_M_set X2 (r 44) (nI 1) = Y := ⟨_, rfl⟩
  rw [e3] at q3
  have o3 := q3.on (S := [r 44]) List.mem_cons_self
  have q4 := m_set (X := X3) (to := r 45) (n := 0) (by decide)
  obtain ⟨X4, e4⟩ : ∃ Y, LF_M_set X3 (r 45) (nI 0) = Y := ⟨_, rfl⟩
  rw [e4] at q4
  have o4 := q4.on (S := [r 45]) List.mem_cons_self
  obtain ⟨X5, e5⟩ : ∃ Y, stL X4 (r 44) 16 (0 : Int64) = Y := ⟨_, rfl⟩
  have o5 : onL [r 44] X4 X5 := by rw [← e5]; exact st_on X4 (r 44) 16 0 List.mem_cons_self
  obtain ⟨X6, e6⟩ : ∃ Y, stL X5 (r 45) 16 (0 : Int64) = Y := ⟨_, rfl⟩
  have o6 : onL [r 45] X5 X6 := by rw [← e6]; exact st_on X5 (r 45) 16 0 List.mem_cons_self
  have oo : onL (ivL r) X X6 := (((((o1.mono (by simp)).tr (o2.mono (by simp))).tr (o3.mono (by simp))).tr (o4.mono (by simp))).tr (o5.mono (by simp))).tr (o6.mono (by simp))
  have aX : M16 X6 a A := ha.on oo ha4
  have mX : M16 X6 m (pP : Int) := hm.on oo (ni4 d7 d8 d9 d10)
  have t42 : M16 X6 (r 42) A := ((((q1.2.on o2 (ni1 d1)).on o3 (ni1 d2)).on o4 (ni1 d3)).on o5 (ni1 d2)).on o6 (ni1 d3)
  have t43 : M16 X6 (r 43) (pP : Int) := (((q2.2.on o3 (ni1 d4)).on o4 (ni1 d5)).on o5 (ni1 d4)).on o6 (ni1 d5)
  have t44 : M17 X6 (r 44) 1 := by
    have h5 : M17 X5 (r 44) 1 := by
      rw [← e5]
      exact ⟨(q3.2.on o4 (ni1 d6)).st, if_pos ⟨rfl, rfl⟩⟩
    exact h5.on o6 (ni1 d6)
  have t45 : M17 X6 (r 45) 0 := by
    rw [← e6]
    exact ⟨(q4.2.on o5 (ni1 d6.symm)).st, if_pos ⟨rfl, rfl⟩⟩
  by_cases h0 : A = 0
  · subst h0
    obtain ⟨W, eW⟩ : ∃ W, Sum.elim id id (lpE 1 (LL_M_inverse_51 a r m) 1100 0 X6) = W := ⟨_, rfl⟩
    have hz : LF_M_zero X6 a = true := by rw [m_zero aX]; decide
    have hW : W = X6 := by
      rw [← eW]
      show Sum.elim id id (Sum.elim Sum.inl (fun t => lpE 1 (LL_M_inverse_51 a r m) 1099 1 t) (if LF_M_zero X6 a = true then Sum.inl X6 else _)) = X6
      rw [if_pos hz]
      rfl
    subst hW
    have q := m_set (X := W) (to := to) (n := 0) (by decide)
    have eq : LF_M_inverse X r to a m = LF_M_set W to (nI 0) := by
      unfold LF_M_inverse
      simp only []
      rw [e1, e2, e3, e4, e5, e6, eW, if_pos hz]
    rw [eq]
    exact ⟨0, by decide, fun _ => rfl, fun z => absurd rfl z, q.2, (oo.mono (by simp)).tr (q.on (by simp))⟩
  · have hA0 := ha.1.1
    have hcop : Nat.gcd A.toNat pP = 1 := by
      rw [Nat.gcd_comm]
      exact isP.cop pr_p (fun hdv => by
        have := Nat.le_of_dvd (by omega) hdv
        have e : ((pP : Nat) : Int) = 57896044618658097711785492504343953926634992332820282019728792003956564819949 := rfl
        have e' : pP = 57896044618658097711785492504343953926634992332820282019728792003956564819949 := rfl
        omega)
    obtain ⟨s, t, hb⟩ := nt_bez A.toNat pP
    rw [hcop, Int.toNat_of_nonneg hA0] at hb
    have hbz : s * A + t * (pP : Int) = 1 := by
      rw [Int.mul_comm s, Int.mul_comm t]
      exact hb
    have hprod : A * (pP : Int) < 2 ^ 510 := by
      have h1 : A * (pP : Int) ≤ (pP : Int) * (pP : Int) := Int.mul_le_mul_of_nonneg_right (by omega) (by decide)
      have h2 : (pP : Int) * (pP : Int) < 2 ^ 510 := by decide +kernel
      omega
    have hpb : (1 : Int) < (pP : Int) := by decide
    obtain ⟨W, U', V', x', y', eW, hS, hI, hoW, hend⟩ := iv_loop (r := r) (a := a) (m := m) (A := A) (M := (pP : Int)) h0 (by decide) (by decide) (by decide) hd ha4 1100 0 510 X6 A (pP : Int) 1 0 aX mX ⟨t42, t43, t44, t45⟩ ⟨⟨by omega, by decide⟩, ⟨⟨by decide, by decide⟩, 0, by rw [Int.mul_one, Int.mul_zero]; omega⟩, ⟨⟨by decide, by decide⟩, -1, by rw [Int.mul_zero]; omega⟩, s, t, hbz⟩ hprod (by decide) (fun _ _ => by decide)
    have hz : ¬ LF_M_zero W a = true := by rw [m_zero (aX.on hoW ha4)]; simp [h0]
    have eq : LF_M_inverse X r to a m = LF_M_copy W to (if LF_M_one W (r 42) = true then r 44 else r 45) := by
      unfold LF_M_inverse
      simp only []
      rw [e1, e2, e3, e4, e5, e6, eW, if_neg hz]
    rw [eq]
    by_cases hU : U' = 1
    · rw [if_pos (by rw [m_one hS.1]; exact decide_eq_true hU)]
      have q := m_copy (to := to) hS.2.2.1.1
      exact ⟨x', hI.2.1.1, fun z => absurd z h0, fun _ => by rw [← hU]; exact hI.2.1.2, q.2, ((oo.tr hoW).mono (by simp)).tr (q.on (by simp))⟩
    · have hV : V' = 1 := hend.resolve_left hU
      rw [if_neg (by rw [m_one hS.1]; simp [hU])]
      have q := m_copy (to := to) hS.2.2.2.1
      exact ⟨y', hI.2.2.1.1, fun z => absurd z h0, fun _ => by rw [← hV]; exact hI.2.2.1.2, q.2, ((oo.tr hoW).mono (by simp)).tr (q.on (by simp))⟩
/-! the reference's arrays are different ones -/
def mIx : List Nat := [1, 2, 3, 4, 9, 10, 11, 12, 13, 14, 15, 16, 17, 18, 19, 20, 21, 22, 23, 24, 25, 26, 27, 28, 29, 30, 31, 32, 33, 34, 35, 36, 37, 38, 39, 40, 41, 42, 43, 44, 45, 46, 47, 48, 49, 50, 51, 52]
def MInj (r : Nat → Nat) : Prop := ∀ i ∈ mIx, ∀ j ∈ mIx, r i = r j → i = j
def okN (i j : Nat) : Bool := mIx.contains i && mIx.contains j && !(i == j)
theorem MInj.ne {r : Nat → Nat} (h : MInj r) (i j : Nat) (hc : okN i j = true) : r i ≠ r j := fun e => by
  unfold okN at hc
  rw [Bool.and_eq_true, Bool.and_eq_true] at hc
  obtain ⟨⟨h1, h2⟩, h3⟩ := hc
  have := h i (by simpa using h1) j (by simpa using h2) e
  simp [this] at h3
def okL (k : Nat) (l : List Nat) : Bool := l.all (fun q => okN k q)
theorem MInj.ni {r : Nat → Nat} (h : MInj r) {l : List Nat} (k : Nat) (hc : okL k l = true) : r k ∉ l.map r := fun hm => by
  obtain ⟨q, hq, e⟩ := List.mem_map.mp hm
  exact h.ne k q (List.all_eq_true.mp hc q hq) e.symm
/-- Y is X but for the reference's arrays of l -/
def onM (r : Nat → Nat) (l : List Nat) (X Y : vM) : Prop := onL (l.map r) X Y
theorem onM.rf {r : Nat → Nat} {l : List Nat} {X : vM} : onM r l X X := onL.rf
theorem onM.tr {r : Nat → Nat} {l : List Nat} {X Y Z : vM} (h : onM r l X Y) (k : onM r l Y Z) : onM r l X Z := onL.tr h k
theorem onM.mono {r : Nat → Nat} {l m : List Nat} {X Y : vM} (h : onM r l X Y) (hs : l.all (fun q => m.contains q) = true) : onM r m X Y := onL.mono h (fun x hx => by
  obtain ⟨q, hq, e⟩ := List.mem_map.mp hx
  have := List.all_eq_true.mp hs q hq
  exact List.mem_map.mpr ⟨q, by simpa using this, e⟩)
theorem onM.ad {r : Nat → Nat} {l m : List Nat} {X Y Z : vM} (h : onM r m X Y) (k : onM r l Y Z) (hs : l.all (fun q => m.contains q) = true) : onM r m X Z := h.tr (k.mono hs)
/-- the array holds the number v -/
def Fm (X : vM) (a : Nat) (v : Fp) : Prop := M16 X a (v.val : Int)
theorem Fm.ev {X : vM} {a : Nat} {v w : Fp} (h : Fm X a v) (e : v = w) : Fm X a w := e ▸ h
theorem M16.kp {r : Nat → Nat} (hI : MInj r) {l : List Nat} {X Y : vM} {k : Nat} {N : Int} (h : M16 X (r k) N) (o : onM r l X Y) (hc : okL k l = true) : M16 Y (r k) N := M16.on o (hI.ni k hc) h
theorem Fm.kp {r : Nat → Nat} (hI : MInj r) {l : List Nat} {X Y : vM} {k : Nat} {v : Fp} (h : Fm X (r k) v) (o : onM r l X Y) (hc : okL k l = true) : Fm Y (r k) v := M16.on o (hI.ni k hc) h
/-- the prime and its table -/
def Kp (X : vM) (r : Nat → Nat) : Prop := M16 X (r 10) (pP : Int) ∧ TbM X (r 11) (pP : Int)
theorem TbM.on {S : List Nat} {X Y : vM} {b : Nat} {N : Int} (h : onL S X Y) (hb : b ∉ S) (k : TbM X b N) : TbM Y b N := fun i hi => ⟨(k i hi).1, fun j hj => (congrFun (h.2 b hb) _).trans ((k i hi).2 j hj)⟩
theorem Kp.kp {r : Nat → Nat} (hI : MInj r) {l : List Nat} {X Y : vM} (h : Kp X r) (o : onM r l X Y) (hc : (okL 10 l && okL 11 l) = true) : Kp Y r := by
  rw [Bool.and_eq_true] at hc
  exact ⟨h.1.kp hI o hc.1, h.2.on o (hI.ni 11 hc.2)⟩
theorem fv_lt (v : Fp) : (v.val : Int) < (pP : Int) := by have := v.isLt; omega
theorem fm_plus {X : vM} {r : Nat → Nat} {to a b : Nat} {v w : Fp} (hI : MInj r) (hK : Kp X r) (ha : Fm X (r a) v) (hb : Fm X (r b) w) (hc : okN 10 to = true) : onM r [to] X (LF_M_plus X (r to) (r a) (r b) (r 10)) ∧ Fm (LF_M_plus X (r to) (r a) (r b) (r 10)) (r to) (v + w) := by
  have q := m_plus (to := r to) ha hb hK.1 (hI.ne 10 to hc) (fv_lt v) (fv_lt w) (by decide)
  refine ⟨q.on List.mem_cons_self, ?_⟩
  have e : ((v + w : Fp).val : Int) = ((v.val : Int) + w.val) % (pP : Int) := by rw [Fin.val_add, Int.natCast_emod, Int.natCast_add]
  unfold Fm
  rw [e]
  exact q.2
theorem fp_subv (v w : Fp) : ((v - w : Fp).val : Int) = ((v.val : Int) - w.val) % (pP : Int) := by
  have h : iF ((v.val : Int) - w.val) = v - w := by rw [iF_sub, iF_nat, iF_nat]
  rw [← h, iF_val]
theorem fm_minus {X : vM} {r : Nat → Nat} {to a b : Nat} {v w : Fp} (hI : MInj r) (hK : Kp X r) (ha : Fm X (r a) v) (hb : Fm X (r b) w) (hc : okN 10 to = true) : onM r [to] X (LF_M_minus X (r to) (r a) (r b) (r 10)) ∧ Fm (LF_M_minus X (r to) (r a) (r b) (r 10)) (r to) (v - w) := by
  have q := m_minus (to := r to) ha hb hK.1 (hI.ne 10 to hc) (fv_lt v) (fv_lt w) (by decide)
  refine ⟨q.on List.mem_cons_self, ?_⟩
  unfold Fm
  rw [fp_subv]
  exact q.2
theorem sv3_on (X : vM) (r : Nat → Nat) (to : Nat) (p u w : Nat → Int64) : onM r [40, 41, to] X (svL (svL (svL X (r 40) 32 p) (r 41) 16 u) (r to) 16 w) := by
  have h1 : onM r [40, 41, to] X (svL X (r 40) 32 p) := sv_on X (r 40) 32 p (by simp)
  have h2 : onM r [40, 41, to] (svL X (r 40) 32 p) (svL (svL X (r 40) 32 p) (r 41) 16 u) := sv_on _ (r 41) 16 u (by simp)
  have h3 : onM r [40, 41, to] (svL (svL X (r 40) 32 p) (r 41) 16 u) (svL (svL (svL X (r 40) 32 p) (r 41) 16 u) (r to) 16 w) := sv_on _ (r to) 16 w (by simp)
  exact (h1.tr h2).tr h3
theorem fm_times {X : vM} {r : Nat → Nat} {to a b : Nat} {v w : Fp} (hI : MInj r) (hK : Kp X r) (ha : Fm X (r a) v) (hb : Fm X (r b) w) (hc : (okN a 40 && okN b 40 && okN 10 to && okN to 41) = true) : onM r [40, 41, to] X (LF_M_times X r (r to) (r a) (r b) (r 10) (r 11)) ∧ Fm (LF_M_times X r (r to) (r a) (r b) (r 10) (r 11)) (r to) (v * w) := by
  rw [Bool.and_eq_true, Bool.and_eq_true, Bool.and_eq_true] at hc
  obtain ⟨⟨⟨c1, c2⟩, c3⟩, c4⟩ := hc
  obtain ⟨⟨p, u, w', e⟩, q⟩ := m_times (r := r) (to := r to) ha hb hK.2 hK.1 (by decide) (by decide) (hI.ne a 40 c1) (hI.ne b 40 c2) (hI.ne 11 40 rfl) (hI.ne 10 40 rfl) (hI.ne 40 41 rfl) (hI.ne 11 41 rfl) (hI.ne 10 41 rfl) (hI.ne 10 to c3) (hI.ne to 41 c4)
  refine ⟨by rw [e]; exact sv3_on X r to p u w', ?_⟩
  have e2 : ((v * w : Fp).val : Int) = (v.val : Int) * w.val % (pP : Int) := by rw [Fin.val_mul, Int.natCast_emod, Int.natCast_mul]
  unfold Fm
  rw [e2]
  exact q
theorem fm_inv {X : vM} {r : Nat → Nat} {to a : Nat} {v : Fp} (hI : MInj r) (hK : Kp X r) (ha : Fm X (r a) v) (hc : okL a [42, 43, 44, 45] = true) : onM r [42, 43, 44, 45, to] X (LF_M_inverse X r (r to) (r a) (r 10)) ∧ Fm (LF_M_inverse X r (r to) (r a) (r 10)) (r to) (fpi v) := by
  obtain ⟨I, h1, h2, h3, h4, h5⟩ := m_inverse (r := r) (to := r to) ha hK.1 (fv_lt v) ⟨hI.ne 42 43 rfl, hI.ne 42 44 rfl, hI.ne 42 45 rfl, hI.ne 43 44 rfl, hI.ne 43 45 rfl, hI.ne 44 45 rfl, hI.ne 10 42 rfl, hI.ne 10 43 rfl, hI.ne 10 44 rfl, hI.ne 10 45 rfl⟩ (hI.ni (l := [42, 43, 44, 45]) a hc)
  refine ⟨h5, ?_⟩
  have hv : I = ((fpi v).val : Int) := by
    have e1 : ((iF I).val : Int) = I := by rw [iF_val, Int.emod_eq_of_lt h1.1 h1.2]
    have e2 : iF I = fpi v := by
      by_cases h0 : v = 0
      · subst h0
        rw [fpi_0, h2 rfl, iF_0]
      · have hv0 : (v.val : Int) ≠ 0 := fun z => h0 (Fin.ext (show v.val = 0 by omega))
        obtain ⟨c, hc⟩ := h3 hv0
        refine fpi_uniq ?_
        have e3 : (v.val : Int) * I = 1 - (-c) * (pP : Int) := by
          rw [Int.neg_mul, Int.mul_comm c]
          omega
        have e4 := congrArg iF e3
        rw [iF_mul, iF_nat, iF_mod] at e4
        rw [e4]
        decide
    rw [← e1, e2]
  unfold Fm
  rw [← hv]
  exact h4
theorem fm_copy {X : vM} {r : Nat → Nat} {to a : Nat} {v : Fp} (ha : Fm X (r a) v) : onM r [to] X (LF_M_copy X (r to) (r a)) ∧ Fm (LF_M_copy X (r to) (r a)) (r to) v := by
  have q := m_copy (to := r to) ha
  exact ⟨q.on List.mem_cons_self, q.2⟩
theorem fm_set {X : vM} {r : Nat → Nat} {to : Nat} (n : Nat) (hn : n < 65536) : onM r [to] X (LF_M_set X (r to) (nI n)) ∧ Fm (LF_M_set X (r to) (nI n)) (r to) (iF (n : Int)) := by
  have q := m_set (X := X) (to := r to) hn
  refine ⟨q.on List.mem_cons_self, ?_⟩
  unfold Fm
  rw [iF_val, Int.emod_eq_of_lt (by omega) (by have e : ((pP : Nat) : Int) = 57896044618658097711785492504343953926634992332820282019728792003956564819949 := rfl; omega)]
  exact q.2
theorem fm_zero {X : vM} {a : Nat} {v : Fp} (ha : Fm X a v) : LF_M_zero X a = decide (v = 0) := by
  rw [m_zero ha]
  refine decide_eq_decide.mpr ⟨fun h => Fin.ext (show v.val = 0 by omega), fun h => by rw [h]; rfl⟩
theorem fm_alike {X : vM} {a b : Nat} {v w : Fp} (ha : Fm X a v) (hb : Fm X b w) : LF_M_alike X a b = decide (v = w) := by
  rw [m_alike ha hb]
  exact decide_eq_decide.mpr ⟨fun h => Fin.ext (by omega), fun h => by rw [h]⟩
theorem fm_one {X : vM} {a : Nat} {v : Fp} (ha : Fm X a v) : LF_M_one X a = decide (v = 1) := by
  rw [m_one ha]
  refine decide_eq_decide.mpr ⟨fun h => Fin.ext (show v.val = 1 by omega), fun h => by rw [h]; rfl⟩
/-- bit i -/
theorem m_bit {X : vM} {a i : Nat} {N : Int} (ha : M16 X a N) (hi : i < 256) : (LF_M_bit X a i = nI 1) ↔ N / 2 ^ i % 2 = 1 := by
  have hd := dgI_bd N (i / 16)
  have e1 : LF_M_bit X a i = (Int64.ofInt (dgI N (i / 16) / 2 ^ (i % 16) % 2)).toInt32 := by
    show (((X.1 a (i / 16)) >>> ((nI (i % 16)).toInt64 &&& 63)) &&& (1 : Int64)).toInt32 = _
    have hb : 0 ≤ dgI N (i / 16) / 2 ^ (i % 16) ∧ dgI N (i / 16) / 2 ^ (i % 16) < 65536 := by
      have hp : (0 : Int) < 2 ^ (i % 16) := Int.pow_pos (by decide)
      refine ⟨Int.ediv_nonneg hd.1 (by omega), ?_⟩
      have := Int.ediv_le_self (b := 2 ^ (i % 16)) hd.1
      omega
    rw [ha.2 (i / 16) (by omega), i6_shr (by omega) (by omega), i6_and1 hb]
  have e2 : dgI N (i / 16) / 2 ^ (i % 16) % 2 = N / 2 ^ i % 2 := by
    have e3 : N / 2 ^ i = N / 65536 ^ (i / 16) / 2 ^ (i % 16) := by
      have hp := p16_pos (i / 16)
      rw [Int.ediv_ediv_of_nonneg (by omega), show (65536 : Int) = 2 ^ 16 from rfl, ← Int.pow_mul, ← Int.pow_add, show 16 * (i / 16) + i % 16 = i by omega]
    rw [e3]
    unfold dgI
    generalize N / 65536 ^ (i / 16) = x
    have hs : i % 16 < 16 := Nat.mod_lt _ (by decide)
    generalize i % 16 = s at *
    rcases (show s = 0 ∨ s = 1 ∨ s = 2 ∨ s = 3 ∨ s = 4 ∨ s = 5 ∨ s = 6 ∨ s = 7 ∨ s = 8 ∨ s = 9 ∨ s = 10 ∨ s = 11 ∨ s = 12 ∨ s = 13 ∨ s = 14 ∨ s = 15 by omega) with rfl | rfl | rfl | rfl | rfl | rfl | rfl | rfl | rfl | rfl | rfl | rfl | rfl | rfl | rfl | rfl <;> omega
  rw [e1, e2]
  generalize N / 2 ^ i = y
  rcases (show y % 2 = 0 ∨ y % 2 = 1 by omega) with h | h <;> rw [h] <;> decide +kernel
