/-! class and reference side by side -/
/-- where everything lies -/
def Cxt (D : va_G) (kq : Nat → Nat → Nat) (ts : Nat → Nat) (ou o a0 a1 a3 : Nat) (r : Nat → Nat) : Prop := KC0 D kq ts a0 a1 a3 ∧ MInj r ∧ (∀ z, mE o r z → a0 ≤ z ∧ ¬ CZ a0 a1 a3 z) ∧ ¬ CZ a0 a1 a3 ou ∧ a0 ≤ ou ∧ ¬ mE o r ou
def Rel (D : va_G) (g : ClassId → FieldType → Prop) (kq : Nat → Nat → Nat) (ts : Nat → Nat) (x kA re ve ou o a0 a1 a3 cap : Nat) (r : Nat → Nat) (th : Int32) (tl ml rl kc : Nat) (tp ms rs : Nat → Int32) (ks : Nat → Nat → Int32) (H : Heap) : Prop := KS D g kq ts x kA re ve a0 a1 a3 cap tl ml rl kc tp ms rs ks H ∧ MS D g o r th tl ml rl kc tp ms rs ks H ∧ Aok tl ml rl kc tp ms rs ks ∧ ∃ w, lo_ g H ou w
def RelE (D : va_G) (g : ClassId → FieldType → Prop) (kq : Nat → Nat → Nat) (ts : Nat → Nat) (x kA re ve ou o a0 a1 a3 cap : Nat) (r : Nat → Nat) (H : Heap) : Prop := ∃ (th : Int32) (tl ml rl kc : Nat) (tp ms rs : Nat → Int32) (ks : Nat → Nat → Int32), Rel D g kq ts x kA re ve ou o a0 a1 a3 cap r th tl ml rl kc tp ms rs ks H
/-- first the class, then the reference: k is what both have thrown, w and V what they answered -/
def Jnt (C : Prop) (l : Launch) (D : va_G) (g : ClassId → FieldType → Prop) (kq : Nat → Nat → Nat) (ts : Nat → Nat) (x kA re ve ou o a0 a1 a3 cap : Nat) (r : Nat → Nat) (H : Heap) (yL : MethodName) (bL : ByteArray) (mL : Nat) (hh : List (Nat × Nat × Nat × Nat)) (vs : List Value) (yM : MethodName) (bM : ByteArray) (mM : Nat) (rt : Option FieldType) (us : List Value) : Prop :=
  ∃ (k : Nat) (V : Int32), CStep l D g yL bL mL hh vs H ou a0 a1 a3 k cap (fun c H1 => ∃ w, lo_ g H1 ou w ∧ (C → nI k = 0 → w = V.toInt64) ∧ DStep l D g yM bM mM rt us H1 V (mE o r) (fun H2 => (∃ tl ml rl kc tp ms rs ks, Rel D g kq ts x kA re ve ou o a0 a1 a3 c r (nI k) tl ml rl kc tp ms rs ks H2) ∧ lo_ g H2 ou w))
def JntB (l : Launch) (D : va_G) (g : ClassId → FieldType → Prop) (kq : Nat → Nat → Nat) (ts : Nat → Nat) (x kA re ve ou o a0 a1 a3 cap : Nat) (r : Nat → Nat) (H : Heap) (yL : MethodName) (bL : ByteArray) (mL : Nat) (hh : List (Nat × Nat × Nat × Nat)) (vs : List Value) (yM : MethodName) (bM : ByteArray) (mM : Nat) (rt : Option FieldType) (us : List Value) : Prop :=
  ∃ (k : Nat) (V : Int32), (V = nI 0 ∨ V = nI 1) ∧ CStep l D g yL bL mL hh vs H ou a0 a1 a3 k cap (fun c H1 => ∃ w, lo_ g H1 ou w ∧ (True → nI k = 0 → w = V.toInt64) ∧ DStep l D g yM bM mM rt us H1 V (mE o r) (fun H2 => (∃ tl ml rl kc tp ms rs ks, Rel D g kq ts x kA re ve ou o a0 a1 a3 c r (nI k) tl ml rl kc tp ms rs ks H2) ∧ lo_ g H2 ou w))
def JntV (l : Launch) (D : va_G) (g : ClassId → FieldType → Prop) (kq : Nat → Nat → Nat) (ts : Nat → Nat) (x kA re ve ou o a0 a1 a3 cap : Nat) (r : Nat → Nat) (H : Heap) (yL : MethodName) (bL : ByteArray) (mL : Nat) (hh : List (Nat × Nat × Nat × Nat)) (vs : List Value) (yM : MethodName) (bM : ByteArray) (mM : Nat) (us : List Value) : Prop :=
  ∃ k : Nat, CStep l D g yL bL mL hh vs H ou a0 a1 a3 k cap (fun c H1 => DStepV l D g yM bM mM us H1 (mE o r) (fun H2 => ∃ tl ml rl kc tp ms rs ks, Rel D g kq ts x kA re ve ou o a0 a1 a3 c r (nI k) tl ml rl kc tp ms rs ks H2))
section JNT
variable {l : Launch} {D : va_G} {g : ClassId → FieldType → Prop} {kq : Nat → Nat → Nat} {ts : Nat → Nat} {x kA re ve ou o a0 a1 a3 cap : Nat} {r : Nat → Nat} {th : Int32} {tl ml rl kc : Nat} {tp ms rs : Nat → Int32} {ks : Nat → Nat → Int32} {H H1 : Heap}

theorem CStep.to {y : MethodName} {b : ByteArray} {mL k : Nat} {hh : List (Nat × Nat × Nat × Nat)} {vs : List Value} {R R' : Nat → Heap → Prop} (h : CStep l D g y b mL hh vs H ou a0 a1 a3 k cap R) (hR : ∀ c H1, R c H1 → (∃ E : Nat → Prop, (∀ z, E z → CZ a0 a1 a3 z ∨ z = ou) ∧ sx_J g E H H1) → R' c H1) : CStep l D g y b mL hh vs H ou a0 a1 a3 k cap R' := by
  obtain ⟨E, P, fr, lo, mc, mS, c, h1, h2, h3, h4, h5, h6, h7⟩ := h
  exact ⟨E, P, fr, lo, mc, mS, c, h1, h2, h3, h4, h5, h6, fun H1 hP hJ => hR c H1 (h7 H1 hP hJ) ⟨E, h6, hJ⟩⟩
theorem DStep.to {y : MethodName} {b : ByteArray} {mL : Nat} {rt : Option FieldType} {vs : List Value} {V : Int32} {Z : Nat → Prop} {R R' : Heap → Prop} (h : DStep l D g y b mL rt vs H V Z R) (hR : ∀ H1, R H1 → sx_J g Z H H1 → R' H1) : DStep l D g y b mL rt vs H V Z R' := by
  obtain ⟨E, P, fr, lo, h1, h2, h3, h4, h5⟩ := h
  exact ⟨E, P, fr, lo, h1, h2, h3, h4, fun H1 hP hJ => hR H1 (h5 H1 hP hJ) (hJ.mono h4)⟩
theorem DStepV.to {y : MethodName} {b : ByteArray} {mL : Nat} {vs : List Value} {Z : Nat → Prop} {R R' : Heap → Prop} (h : DStepV l D g y b mL vs H Z R) (hR : ∀ H1, R H1 → sx_J g Z H H1 → R' H1) : DStepV l D g y b mL vs H Z R' := by
  obtain ⟨E, P, fr, lo, h1, h2, h3, h4, h5⟩ := h
  exact ⟨E, P, fr, lo, h1, h2, h3, h4, fun H1 hP hJ => hR H1 (h5 H1 hP hJ) (hJ.mono h4)⟩
/-- the reference stands while the class runs -/
theorem ms_c (hx : Cxt D kq ts ou o a0 a1 a3 r) (h : MS D g o r th tl ml rl kc tp ms rs ks H) (hE : ∃ E : Nat → Prop, (∀ z, E z → CZ a0 a1 a3 z ∨ z = ou) ∧ sx_J g E H H1) : MS D g o r th tl ml rl kc tp ms rs ks H1 := by
  obtain ⟨E, h1, h2⟩ := hE
  exact h.kept h2 (fun z hz _ hm => (h1 z hz).elim (hx.2.2.1 z hm).2 (fun e => hx.2.2.2.2.2 (e ▸ hm)))
/-- the class stands while the reference runs -/
theorem ks_m (hx : Cxt D kq ts ou o a0 a1 a3 r) (h : KS D g kq ts x kA re ve a0 a1 a3 cap tl ml rl kc tp ms rs ks H) (hJ : sx_J g (mE o r) H H1) : KS D g kq ts x kA re ve a0 a1 a3 cap tl ml rl kc tp ms rs ks H1 := h.kept hx.1 hJ (fun z hz => ⟨(hx.2.2.1 z hz).1, fun _ => (hx.2.2.1 z hz).2⟩)
theorem MS.tape {tp' : Nat → Int32} (h : MS D g o r th tl ml rl kc tp ms rs ks H) (e : ∀ j, j < tl → tp j = tp' j) : MS D g o r th tl ml rl kc tp' ms rs ks H := ⟨h.1, h.2.1, h.2.2.1, fun j hj => (h.2.2.2.1 j hj).trans (e j hj), h.2.2.2.2⟩
theorem i_lt {u : Int32} {n : Nat} (h0 : ¬ u < 0) (h : u < nI n) (hn : n ≤ 65536) : ∃ m, m < n ∧ u = nI m := by
  have h1 : ¬ u.toInt < 0 := fun z => h0 (Int32.lt_iff_toInt_lt.mpr z)
  have h2 := Int32.lt_iff_toInt_lt.mp h
  rw [nI_toInt (by omega)] at h2
  exact ⟨u.toInt.toNat, by omega, Int32.toInt_inj.mp (by rw [nI_toInt (by omega)]; omega)⟩
theorem i_le {u : Int32} {n : Nat} (h0 : ¬ u < 0) (h : u ≤ nI n) (hn : n ≤ 65536) : ∃ m, m ≤ n ∧ u = nI m := by
  have h1 : ¬ u.toInt < 0 := fun z => h0 (Int32.lt_iff_toInt_lt.mpr z)
  have h2 := Int32.le_iff_toInt_le.mp h
  rw [nI_toInt (by omega)] at h2
  exact ⟨u.toInt.toNat, by omega, Int32.toInt_inj.mp (by rw [nI_toInt (by omega)]; omega)⟩
theorem i_m1 {u : Int32} (h : ¬ u < (-1 : Int32)) (h2 : u < 0) : u = (-1 : Int32) := by
  have h1 : ¬ u.toInt < -1 := fun z => h (Int32.lt_iff_toInt_lt.mpr z)
  have h3 : u.toInt < 0 := Int32.lt_iff_toInt_lt.mp h2
  exact Int32.toInt_inj.mp (by show u.toInt = -1; omega)
theorem isB_8 (y : Int32) : isB (y.toInt8.toInt32) := by
  rw [i8_by]
  exact isB_by8 _
/-- both did the same, and answered -/
theorem jn {C : Prop} (hx : Cxt D kq ts ou o a0 a1 a3 r) (hm : MS D g o r th tl ml rl kc tp ms rs ks H) {yL : MethodName} {bL : ByteArray} {mL : Nat} {hh : List (Nat × Nat × Nat × Nat)} {vs : List Value} {yM : MethodName} {bM : ByteArray} {mM : Nat} {rt : Option FieldType} {us : List Value} {k : Nat} {V : Int32} {tl' ml' rl' kc' : Nat} {tp' ms' rs' : Nat → Int32} {ks' : Nat → Nat → Int32} (ok : Aok tl' ml' rl' kc' tp' ms' rs' ks') (hc : CStep l D g yL bL mL hh vs H ou a0 a1 a3 k cap (fun c H1 => KS D g kq ts x kA re ve a0 a1 a3 c tl' ml' rl' kc' tp' ms' rs' ks' H1 ∧ ∃ w, lo_ g H1 ou w ∧ (C → nI k = 0 → w = V.toInt64))) (hd : ∀ H1, MS D g o r th tl ml rl kc tp ms rs ks H1 → DStep l D g yM bM mM rt us H1 V (mE o r) (fun H2 => MS D g o r (nI k) tl' ml' rl' kc' tp' ms' rs' ks' H2)) : Jnt C l D g kq ts x kA re ve ou o a0 a1 a3 cap r H yL bL mL hh vs yM bM mM rt us :=
  ⟨k, V, hc.to (fun c H1 hR hE => by
    obtain ⟨h1, w, h2, h3⟩ := hR
    refine ⟨w, h2, h3, (hd H1 (ms_c hx hm hE)).to (fun H2 h4 hJ => ?_)⟩
    have hl : lo_ g H2 ou w := h2.j hJ hx.2.2.2.2.2
    exact ⟨⟨tl', ml', rl', kc', tp', ms', rs', ks', ks_m hx h1 hJ, h4, ok, w, hl⟩, hl⟩)⟩
theorem jn_b {V : Int32} (hV : V = nI 0 ∨ V = nI 1) (hx : Cxt D kq ts ou o a0 a1 a3 r) (hm : MS D g o r th tl ml rl kc tp ms rs ks H) {yL : MethodName} {bL : ByteArray} {mL : Nat} {hh : List (Nat × Nat × Nat × Nat)} {vs : List Value} {yM : MethodName} {bM : ByteArray} {mM : Nat} {rt : Option FieldType} {us : List Value} {k : Nat} {tl' ml' rl' kc' : Nat} {tp' ms' rs' : Nat → Int32} {ks' : Nat → Nat → Int32} (ok : Aok tl' ml' rl' kc' tp' ms' rs' ks') (hc : CStep l D g yL bL mL hh vs H ou a0 a1 a3 k cap (fun c H1 => KS D g kq ts x kA re ve a0 a1 a3 c tl' ml' rl' kc' tp' ms' rs' ks' H1 ∧ ∃ w, lo_ g H1 ou w ∧ (True → nI k = 0 → w = V.toInt64))) (hd : ∀ H1, MS D g o r th tl ml rl kc tp ms rs ks H1 → DStep l D g yM bM mM rt us H1 V (mE o r) (fun H2 => MS D g o r (nI k) tl' ml' rl' kc' tp' ms' rs' ks' H2)) : JntB l D g kq ts x kA re ve ou o a0 a1 a3 cap r H yL bL mL hh vs yM bM mM rt us :=
  ⟨k, V, hV, hc.to (fun c H1 hR hE => by
    obtain ⟨h1, w, h2, h3⟩ := hR
    refine ⟨w, h2, h3, (hd H1 (ms_c hx hm hE)).to (fun H2 h4 hJ => ?_)⟩
    have hl : lo_ g H2 ou w := h2.j hJ hx.2.2.2.2.2
    exact ⟨⟨tl', ml', rl', kc', tp', ms', rs', ks', ks_m hx h1 hJ, h4, ok, w, hl⟩, hl⟩)⟩
theorem jnv (hx : Cxt D kq ts ou o a0 a1 a3 r) (hm : MS D g o r th tl ml rl kc tp ms rs ks H) {yL : MethodName} {bL : ByteArray} {mL : Nat} {hh : List (Nat × Nat × Nat × Nat)} {vs : List Value} {yM : MethodName} {bM : ByteArray} {mM : Nat} {us : List Value} {k : Nat} {tl' ml' rl' kc' : Nat} {tp' ms' rs' : Nat → Int32} {ks' : Nat → Nat → Int32} (ok : Aok tl' ml' rl' kc' tp' ms' rs' ks') (hc : CStep l D g yL bL mL hh vs H ou a0 a1 a3 k cap (fun c H1 => KS D g kq ts x kA re ve a0 a1 a3 c tl' ml' rl' kc' tp' ms' rs' ks' H1 ∧ ∃ w, lo_ g H1 ou w)) (hd : ∀ H1, MS D g o r th tl ml rl kc tp ms rs ks H1 → DStepV l D g yM bM mM us H1 (mE o r) (fun H2 => MS D g o r (nI k) tl' ml' rl' kc' tp' ms' rs' ks' H2)) : JntV l D g kq ts x kA re ve ou o a0 a1 a3 cap r H yL bL mL hh vs yM bM mM us :=
  ⟨k, hc.to (fun c H1 hR hE => by
    obtain ⟨h1, w, h2⟩ := hR
    exact (hd H1 (ms_c hx hm hE)).to (fun H2 h4 hJ => ⟨tl', ml', rl', kc', tp', ms', rs', ks', ks_m hx h1 hJ, h4, ok, w, h2.j hJ hx.2.2.2.2.2⟩))⟩
theorem cs0 {C : Prop} {y : MethodName} {b : ByteArray} {mL k : Nat} {hh : List (Nat × Nat × Nat × Nat)} {vs : List Value} {V : Int32} {w : Int64} {R : Nat → Heap → Prop} (h : CStep l D g y b mL hh vs H ou a0 a1 a3 k cap (fun c H1 => R c H1 ∧ lo_ g H1 ou w)) (e : w = V.toInt64) : CStep l D g y b mL hh vs H ou a0 a1 a3 k cap (fun c H1 => R c H1 ∧ ∃ w, lo_ g H1 ou w ∧ (C → nI k = 0 → w = V.toInt64)) := h.to (fun c H1 h1 _ => ⟨h1.1, w, h1.2, fun _ _ => e⟩)
theorem csx {C : Prop} {y : MethodName} {b : ByteArray} {mL k : Nat} {hh : List (Nat × Nat × Nat × Nat)} {vs : List Value} {V : Int32} {R : Nat → Heap → Prop} (h : CStep l D g y b mL hh vs H ou a0 a1 a3 k cap (fun c H1 => R c H1 ∧ ∃ w, lo_ g H1 ou w)) (e : C → nI k ≠ 0) : CStep l D g y b mL hh vs H ou a0 a1 a3 k cap (fun c H1 => R c H1 ∧ ∃ w, lo_ g H1 ou w ∧ (C → nI k = 0 → w = V.toInt64)) := h.to (fun c H1 h1 _ => by
  obtain ⟨h2, w, h3⟩ := h1
  exact ⟨h2, w, h3, fun hC z => absurd z (e hC)⟩)
theorem j_feed (htr : l.stackTraces = false) (hx : Cxt D kq ts ou o a0 a1 a3 r) (hR : Rel D g kq ts x kA re ve ou o a0 a1 a3 cap r th tl ml rl kc tp ms rs ks H) (u0 u1 u2 u3 u4 : Int32) : Jnt True l D g kq ts x kA re ve ou o a0 a1 a3 cap r H y_L_feed b_L_feed 8 hh_L_feed [.ref x, .int u0, .int u1, .int u2, .int u3, .int u4, .ref ou] y_M_feed b_M_feed 8 (some .int) [.ref o, .int u0, .int u1, .int u2, .int u3, .int u4] := by
  obtain ⟨hk, hm, ok, w0, hl⟩ := hR
  obtain ⟨o1, o2, o3, o4, o5, o6, o7, o8⟩ := id ok
  by_cases hw : tl + 20 ≤ 65536
  · exact jn hx hm ⟨hw, o2, o3, o4, fun j hj => by
      by_cases hc : j < tl
      · rw [cat_l hc]; exact o5 j hc
      · rw [show j = tl + (j - tl) by omega, cat_r, nb20_at _ _ _ _ _ _ (by omega)]; exact isB_8 _, o6, o7, o8⟩ (cs0 (s_feed_a hk hx.1 ok hl hx.2.2.2.1 hx.2.2.2.2.1 hw) rfl) (fun H1 h => n_feed_a h ok hx.2.1 hw)
  · exact jn hx hm ok (csx (s_feed_x htr hk hx.1 ok hl hx.2.2.2.1 (by omega)) (fun _ => by decide)) (fun H1 h => n_feed_b h ok hx.2.1 (by omega))
theorem j_end (htr : l.stackTraces = false) (hx : Cxt D kq ts ou o a0 a1 a3 r) (hR : Rel D g kq ts x kA re ve ou o a0 a1 a3 cap r th tl ml rl kc tp ms rs ks H) (u0 : Int32) : Jnt True l D g kq ts x kA re ve ou o a0 a1 a3 cap r H y_L_end b_L_end 4 hh_L_end [.ref x, .int u0, .ref ou] y_M_end b_M_end 2 (some .int) [.ref o, .int u0] := by
  obtain ⟨hk, hm, ok, w0, hl⟩ := hR
  obtain ⟨o1, o2, o3, o4, o5, o6, o7, o8⟩ := id ok
  by_cases h0 : u0 < 0
  · exact jn hx hm ok (csx (s_end_x htr hk hx.1 ok hl hx.2.2.2.1 (fun z => absurd h0 z)) (fun _ => by decide)) (fun H1 h => n_end_b h ok hx.2.1 h0)
  · by_cases h1 : u0 ≤ nI tl
    · obtain ⟨n, hn, rfl⟩ := i_le h0 h1 o1
      exact jn hx hm ⟨by omega, o2, o3, o4, fun j hj => o5 j (by omega), o6, o7, o8⟩ (cs0 (s_end_a hk hx.1 ok hl hx.2.2.2.1 hx.2.2.2.2.1 hn) rfl) (fun H1 h => n_end_a h ok hx.2.1 hn)
    · exact jn hx hm ok (csx (s_end_x htr hk hx.1 ok hl hx.2.2.2.1 (fun _ => h1)) (fun _ => by decide)) (fun H1 h => n_end_c h ok hx.2.1 h0 h1)
theorem j_key (htr : l.stackTraces = false) (hx : Cxt D kq ts ou o a0 a1 a3 r) (hR : Rel D g kq ts x kA re ve ou o a0 a1 a3 cap r th tl ml rl kc tp ms rs ks H) : Jnt True l D g kq ts x kA re ve ou o a0 a1 a3 cap r H y_L_key b_L_key 3 hh_L_key [.ref x, .ref ou] y_M_key b_M_key 2 (some .int) [.ref o] := by
  obtain ⟨hk, hm, ok, w0, hl⟩ := hR
  obtain ⟨o1, o2, o3, o4, o5, o6, o7, o8⟩ := id ok
  by_cases ht : tl = 32
  · by_cases hw : kc < 100
    · exact jn hx hm ⟨by omega, o2, o3, by omega, fun j hj => absurd hj (Nat.not_lt_zero j), o6, o7, fun k hk j hj => by
        by_cases e : k = kc
        · rw [show upS ks kc tp k = tp from if_pos e]; exact o5 j (by omega)
        · rw [show upS ks kc tp k = ks k from if_neg e]; exact o8 k (by omega) j hj⟩ (cs0 (s_key_a hk hx.1 ok hl hx.2.2.2.1 hx.2.2.2.2.1 ht hw) rfl) (fun H1 h => n_key_a h ok hx.2.1 ht hw)
    · exact jn hx hm ok (csx (s_key_y htr hk hx.1 ok hl hx.2.2.2.1 ht (by omega)) (fun _ => by decide)) (fun H1 h => n_key_c h ok hx.2.1 ht (by omega))
  · exact jn hx hm ok (csx (s_key_x htr hk hx.1 ok hl hx.2.2.2.1 ht) (fun _ => by decide)) (fun H1 h => n_key_b h ok hx.2.1 ht)
theorem j_open (htr : l.stackTraces = false) (hx : Cxt D kq ts ou o a0 a1 a3 r) (hR : Rel D g kq ts x kA re ve ou o a0 a1 a3 cap r th tl ml rl kc tp ms rs ks H) (u0 u1 : Int32) : JntV l D g kq ts x kA re ve ou o a0 a1 a3 cap r H y_L_open b_L_open 4 hh_L_open [.ref x, .int u0, .int u1] y_M_open b_M_open 4 [.ref o, .int u0, .int u1] := by
  obtain ⟨hk, hm, ok, w0, hl⟩ := hR
  obtain ⟨o1, o2, o3, o4, o5, o6, o7, o8⟩ := id ok
  by_cases h0 : ¬ u0 < 0 → ¬ u0 < nI kc
  · exact jnv hx hm ok (s_open_x htr hk hx.1 ok hl hx.2.2.2.1 h0) (fun H1 h => n_open_c h ok hx.2.1 h0)
  · obtain ⟨k, hk0, rfl⟩ := i_lt (u := u0) (n := kc) (fun z => h0 (fun q => absurd z q)) (Decidable.byContradiction (fun z => h0 (fun _ => z))) (by omega)
    by_cases e0 : u1 = 0
    · subst e0
      exact jnv hx hm ⟨o1, o2, by decide, o4, o5, o6, fun j _ => isB_xB _ _ _, o8⟩ (s_open_a hk hx.1 ok hl hx.2.2.2.1 hx.2.2.2.2.1 hk0) (fun H1 h => n_open_a h ok hx.2.1 hk0)
    · by_cases e1 : u1 = nI 1
      · subst e1
        exact jnv hx hm ⟨o1, o2, by decide, o4, o5, o6, fun j _ => isB_byN _ _, o8⟩ (s_open_b hk hx.1 ok hl hx.2.2.2.1 hx.2.2.2.2.1 hk0) (fun H1 h => n_open_b h ok hx.2.1 hk0)
      · by_cases hn : u1 < 0
        · exact jnv hx hm ok (s_open_y htr hk hx.1 ok hl hx.2.2.2.1 hk0 e0 e1) (fun H1 h => n_open_d h ok hx.2.1 hk0 hn)
        · exact jnv hx hm ok (s_open_y htr hk hx.1 ok hl hx.2.2.2.1 hk0 e0 e1) (fun H1 h => n_open_e h ok hx.2.1 hk0 hn (fun z => by
            obtain ⟨n, hn1, rfl⟩ := i_le hn z (by decide)
            rcases (show n = 0 ∨ n = 1 by omega) with rfl | rfl
            · exact e0 rfl
            · exact e1 rfl))
theorem j_agree (htr : l.stackTraces = false) (hx : Cxt D kq ts ou o a0 a1 a3 r) (hR : Rel D g kq ts x kA re ve ou o a0 a1 a3 cap r th tl ml rl kc tp ms rs ks H) (u0 : Int32) : JntB l D g kq ts x kA re ve ou o a0 a1 a3 cap r H y_L_agree b_L_agree 4 hh_L_agree [.ref x, .int u0, .ref ou] y_M_agree b_M_agree 3 (some .boolean) [.ref o, .int u0] := by
  obtain ⟨hk, hm, ok, w0, hl⟩ := hR
  obtain ⟨o1, o2, o3, o4, o5, o6, o7, o8⟩ := id ok
  by_cases h0 : ¬ u0 < 0 → ¬ u0 < nI kc
  · exact jn_b (Or.inl rfl) hx hm ok (csx (s_agree_x htr hk hx.1 ok hl hx.2.2.2.1 h0) (fun _ => by decide)) (fun H1 h => n_agree_b h ok hx.2.1 h0)
  · obtain ⟨k, hk0, rfl⟩ := i_lt (u := u0) (n := kc) (fun z => h0 (fun q => absurd z q)) (Decidable.byContradiction (fun z => h0 (fun _ => z))) (by omega)
    by_cases ht : tl = 32
    · have okA : Aok 0 ml 32 kc tp ms (xB (ks k) (leN tp 32)) ks := ⟨by omega, o2, by decide, o4, fun j hj => absurd hj (Nat.not_lt_zero j), o6, fun j _ => isB_xB _ _ _, o8⟩
      have hd : ∀ H1, MS D g o r th tl ml rl kc tp ms rs ks H1 → _ := fun H1 h => n_agree_a (l := l) (k := k) h ok hx.2.1 hk0 ht
      cases hz : agZ (ks k) (leN tp 32) with
      | true =>
        rw [hz] at hd
        exact jn_b (Or.inl rfl) hx hm okA (cs0 (s_agree_1 hk hx.1 ok hl hx.2.2.2.1 hx.2.2.2.2.1 hk0 ht hz) rfl) hd
      | false =>
        rw [hz] at hd
        exact jn_b (Or.inr rfl) hx hm okA (cs0 (s_agree_0 hk hx.1 ok hl hx.2.2.2.1 hx.2.2.2.2.1 hk0 ht hz) rfl) hd
    · exact jn_b (Or.inl rfl) hx hm ok (csx (s_agree_y htr hk hx.1 ok hl hx.2.2.2.1 hk0 ht) (fun _ => by decide)) (fun H1 h => n_agree_c h ok hx.2.1 hk0 ht)
theorem j_sign (htr : l.stackTraces = false) (hx : Cxt D kq ts ou o a0 a1 a3 r) (hR : Rel D g kq ts x kA re ve ou o a0 a1 a3 cap r th tl ml rl kc tp ms rs ks H) (u0 : Int32) : JntV l D g kq ts x kA re ve ou o a0 a1 a3 cap r H y_L_sign b_L_sign 3 hh_L_sign [.ref x, .int u0] y_M_sign b_M_sign 3 [.ref o, .int u0] := by
  obtain ⟨hk, hm, ok, w0, hl⟩ := hR
  obtain ⟨o1, o2, o3, o4, o5, o6, o7, o8⟩ := id ok
  by_cases h0 : ¬ u0 < 0 → ¬ u0 < nI kc
  · exact jnv hx hm ok (s_sign_x htr hk hx.1 ok hl hx.2.2.2.1 h0) (fun H1 h => n_sign_b h ok hx.2.1 h0)
  · obtain ⟨k, hk0, rfl⟩ := i_lt (u := u0) (n := kc) (fun z => h0 (fun q => absurd z q)) (Decidable.byContradiction (fun z => h0 (fun _ => z))) (by omega)
    exact jnv hx hm ⟨o1, o2, by decide, o4, o5, o6, fun j hj => by
      unfold sgB
      by_cases hc : j < 32
      · rw [cat_l hc]; exact isB_byN _ _
      · rw [show j = 32 + (j - 32) by omega, cat_r]; exact isB_byN _ _, o8⟩ (s_sign_a hk hx.1 ok hl hx.2.2.2.1 hx.2.2.2.2.1 hk0) (fun H1 h => n_sign_a h ok hx.2.1 hk0)
theorem j_point (htr : l.stackTraces = false) (hx : Cxt D kq ts ou o a0 a1 a3 r) (hR : Rel D g kq ts x kA re ve ou o a0 a1 a3 cap r th tl ml rl kc tp ms rs ks H) : JntB l D g kq ts x kA re ve ou o a0 a1 a3 cap r H y_L_point b_L_point 3 hh_L_point [.ref x, .ref ou] y_M_point b_M_point 2 (some .boolean) [.ref o] := by
  obtain ⟨hk, hm, ok, w0, hl⟩ := hR
  obtain ⟨o1, o2, o3, o4, o5, o6, o7, o8⟩ := id ok
  by_cases ht : tl = 32
  · cases hz : ptB tp with
    | true =>
      exact jn_b (Or.inr rfl) hx hm ⟨by omega, o2, by decide, o4, fun j hj => absurd hj (Nat.not_lt_zero j), o6, fun j _ => isB_byN _ _, o8⟩ (cs0 (s_point_1 hk hx.1 ok hl hx.2.2.2.1 hx.2.2.2.2.1 ht hz) rfl) (fun H1 h => n_point_a h ok hx.2.1 ht hz)
    | false =>
      exact jn_b (Or.inl rfl) hx hm ⟨by omega, o2, o3, o4, fun j hj => absurd hj (Nat.not_lt_zero j), o6, o7, o8⟩ (cs0 (s_point_0 hk hx.1 ok hl hx.2.2.2.1 hx.2.2.2.2.1 ht hz) rfl) (fun H1 h => n_point_c h ok hx.2.1 ht hz)
  · exact jn_b (Or.inl rfl) hx hm ok (csx (s_point_x htr hk hx.1 ok hl hx.2.2.2.1 ht) (fun _ => by decide)) (fun H1 h => n_point_b h ok hx.2.1 ht)
theorem j_back (htr : l.stackTraces = false) (hx : Cxt D kq ts ou o a0 a1 a3 r) (hR : Rel D g kq ts x kA re ve ou o a0 a1 a3 cap r th tl ml rl kc tp ms rs ks H) (u0 u1 : Int32) : Jnt True l D g kq ts x kA re ve ou o a0 a1 a3 cap r H y_L_back b_L_back 5 hh_L_back [.ref x, .int u0, .int u1, .ref ou] y_M_back b_M_back 4 (some .int) [.ref o, .int u0, .int u1] := by
  obtain ⟨hk, hm, ok, w0, hl⟩ := hR
  obtain ⟨o1, o2, o3, o4, o5, o6, o7, o8⟩ := id ok
  by_cases h0 : u0 < (-1 : Int32)
  · exact jn hx hm ok (csx (s_back_x htr hk hx.1 ok hl hx.2.2.2.1 (fun z => absurd h0 z)) (fun _ => by decide)) (fun H1 h => n_back_b h ok hx.2.1 h0)
  · by_cases h1 : u0 < nI rl
    · by_cases hw : tl + rl ≤ 65536
      · by_cases h2 : u0 < 0
        · obtain rfl := i_m1 h0 h2
          exact jn hx hm ⟨hw, o2, o3, o4, fun j hj => by
            by_cases hc : j < tl
            · rw [cat_l hc]; exact o5 j hc
            · rw [show j = tl + (j - tl) by omega, cat_r]; exact o7 _ (by omega), o6, o7, o8⟩ (cs0 (s_back_0 hk hx.1 ok hl hx.2.2.2.1 hx.2.2.2.2.1 hw) rfl) (fun H1 h => (n_back_a h ok hx.2.1 h0 h1 hw).to (fun H2 h4 _ => h4.tape (cat_ext (fun _ _ => rfl) (fun j hj => if_neg (fun z => absurd (vx_m1 (n := j) (by omega)) (by rw [z]; decide))))))
        · obtain ⟨m, hm0, rfl⟩ := i_lt h2 h1 (by omega)
          exact jn hx hm ⟨hw, o2, o3, o4, fun j hj => by
            by_cases hc : j < tl
            · rw [cat_l hc]; exact o5 j hc
            · rw [show j = tl + (j - tl) by omega, cat_r]
              show isB (if j - tl = m then _ else _)
              split
              · exact isB_8 _
              · exact o7 _ (by omega), o6, o7, o8⟩ (cs0 (s_back_1 (u1 := u1) hk hx.1 ok hl hx.2.2.2.1 hx.2.2.2.2.1 hm0 hw) rfl) (fun H1 h => (n_back_a h ok hx.2.1 h0 h1 hw).to (fun H2 h4 _ => h4.tape (cat_ext (fun _ _ => rfl) (fun j hj => by
            by_cases e : j = m
            · subst e
              rw [if_pos rfl]
              exact (if_pos rfl).symm
            · rw [if_neg (fun z => e ((nI_eq (by omega) (by omega)).mp z))]
              exact (if_neg e).symm))))
      · exact jn hx hm ok (csx (s_back_y htr hk hx.1 ok hl hx.2.2.2.1 h0 h1 (by omega)) (fun _ => by decide)) (fun H1 h => n_back_d h ok hx.2.1 h0 h1 (by omega))
    · exact jn hx hm ok (csx (s_back_x htr hk hx.1 ok hl hx.2.2.2.1 (fun _ => h1)) (fun _ => by decide)) (fun H1 h => n_back_c h ok hx.2.1 h0 h1)
theorem j_result (htr : l.stackTraces = false) (hx : Cxt D kq ts ou o a0 a1 a3 r) (hR : Rel D g kq ts x kA re ve ou o a0 a1 a3 cap r th tl ml rl kc tp ms rs ks H) (u0 : Int32) : Jnt True l D g kq ts x kA re ve ou o a0 a1 a3 cap r H y_L_result b_L_result 4 hh_L_result [.ref x, .int u0, .ref ou] y_M_result b_M_result 2 (some .int) [.ref o, .int u0] := by
  obtain ⟨hk, hm, ok, w0, hl⟩ := hR
  obtain ⟨o1, o2, o3, o4, o5, o6, o7, o8⟩ := id ok
  by_cases h0 : u0 < 0
  · exact jn hx hm ok (csx (s_result_x htr hk hx.1 ok hl hx.2.2.2.1 (fun z => absurd h0 z)) (fun _ => by decide)) (fun H1 h => n_result_b h ok hx.2.1 h0)
  · by_cases h1 : u0 < nI rl
    · obtain ⟨n, hn, rfl⟩ := i_lt h0 h1 (by omega)
      exact jn hx hm ok (cs0 (s_result_a hk hx.1 ok hl hx.2.2.2.1 hx.2.2.2.2.1 hn) rfl) (fun H1 h => n_result_a h ok hx.2.1 hn)
    · exact jn hx hm ok (csx (s_result_x htr hk hx.1 ok hl hx.2.2.2.1 (fun _ => h1)) (fun _ => by decide)) (fun H1 h => n_result_c h ok hx.2.1 h0 h1)
end JNT
