/-! points in four numbers, and as addends -/
def Ex (X : vM) (r : Nat → Nat) (n : Int) (P : Pt2) : Prop := ∃ x y z t : Fp, Fe X (r 0) n x ∧ Fe X (r 1) n y ∧ Fe X (r 2) 1 z ∧ Fe X (r 3) 1 t ∧ z ≠ 0 ∧ x = P.1 * z ∧ y = P.2 * z ∧ t = P.1 * P.2 * z
def Ax (X : vM) (r : Nat → Nat) (P : Pt2) : Prop := ∃ l m k d w : Fp, Fe X (r 0) 4 l ∧ Fe X (r 1) 4 m ∧ Fe X (r 2) 2 k ∧ Fe X (r 3) 1 d ∧ w ≠ 0 ∧ l = (P.2 - P.1) * w ∧ m = (P.2 + P.1) * w ∧ k = w + w ∧ d = P.1 * P.2 * w * (eD + eD)
theorem rg_ea {R : Type} [Lean.Grind.CommRing R] (p1 p2 q1 q2 z w d u v : R) (hu : (1 + d * p1 * q1 * p2 * q2) * u = 1) (hv : (1 - d * p1 * q1 * p2 * q2) * v = 1) :
    ((((p2 * z + p1 * z) * ((q2 + q1) * w)) - ((p2 * z - p1 * z) * ((q2 - q1) * w))) * ((z * (w + w)) - (p1 * p2 * z * (q1 * q2 * w * (d + d))))) = ((p1 * q2 + p2 * q1) * u) * (((z + z) * (z + z)) * (w * w) * ((1 - d * p1 * q1 * p2 * q2) * (1 + d * p1 * q1 * p2 * q2))) ∧
    (((z * (w + w)) + (p1 * p2 * z * (q1 * q2 * w * (d + d)))) * (((p2 * z + p1 * z) * ((q2 + q1) * w)) + ((p2 * z - p1 * z) * ((q2 - q1) * w)))) = ((p2 * q2 + p1 * q1) * v) * (((z + z) * (z + z)) * (w * w) * ((1 - d * p1 * q1 * p2 * q2) * (1 + d * p1 * q1 * p2 * q2))) ∧
    (((z * (w + w)) - (p1 * p2 * z * (q1 * q2 * w * (d + d)))) * ((z * (w + w)) + (p1 * p2 * z * (q1 * q2 * w * (d + d))))) = ((z + z) * (z + z)) * (w * w) * ((1 - d * p1 * q1 * p2 * q2) * (1 + d * p1 * q1 * p2 * q2)) ∧
    ((((p2 * z + p1 * z) * ((q2 + q1) * w)) - ((p2 * z - p1 * z) * ((q2 - q1) * w))) * (((p2 * z + p1 * z) * ((q2 + q1) * w)) + ((p2 * z - p1 * z) * ((q2 - q1) * w)))) = ((p1 * q2 + p2 * q1) * u) * ((p2 * q2 + p1 * q1) * v) * (((z + z) * (z + z)) * (w * w) * ((1 - d * p1 * q1 * p2 * q2) * (1 + d * p1 * q1 * p2 * q2))) := by
  refine ⟨?_, ?_, ?_, ?_⟩ <;> grind
theorem rg_ed {R : Type} [Lean.Grind.CommRing R] (p1 p2 z d u v : R) (hc : d * p1 * p1 * p2 * p2 = p2 * p2 - p1 * p1 - 1) (hu : (1 + d * p1 * p1 * p2 * p2) * u = 1) (hv : (1 - d * p1 * p1 * p2 * p2) * v = 1) :
    ((((p1 * z * (p1 * z)) + (p2 * z * (p2 * z))) - ((p1 * z + p2 * z) * (p1 * z + p2 * z))) * (((z * z) + (z * z)) + ((p1 * z * (p1 * z)) - (p2 * z * (p2 * z))))) = ((p1 * p2 + p2 * p1) * u) * (-(((z * z) * (z * z)) * ((1 - d * p1 * p1 * p2 * p2) * (1 + d * p1 * p1 * p2 * p2)))) ∧
    (((p1 * z * (p1 * z)) - (p2 * z * (p2 * z))) * ((p1 * z * (p1 * z)) + (p2 * z * (p2 * z)))) = ((p2 * p2 + p1 * p1) * v) * (-(((z * z) * (z * z)) * ((1 - d * p1 * p1 * p2 * p2) * (1 + d * p1 * p1 * p2 * p2)))) ∧
    ((((z * z) + (z * z)) + ((p1 * z * (p1 * z)) - (p2 * z * (p2 * z)))) * ((p1 * z * (p1 * z)) - (p2 * z * (p2 * z)))) = -(((z * z) * (z * z)) * ((1 - d * p1 * p1 * p2 * p2) * (1 + d * p1 * p1 * p2 * p2))) ∧
    ((((p1 * z * (p1 * z)) + (p2 * z * (p2 * z))) - ((p1 * z + p2 * z) * (p1 * z + p2 * z))) * ((p1 * z * (p1 * z)) + (p2 * z * (p2 * z)))) = ((p1 * p2 + p2 * p1) * u) * ((p2 * p2 + p1 * p1) * v) * (-(((z * z) * (z * z)) * ((1 - d * p1 * p1 * p2 * p2) * (1 + d * p1 * p1 * p2 * p2)))) := by
  refine ⟨?_, ?_, ?_, ?_⟩ <;> grind
theorem rg_2z {R : Type} [Lean.Grind.CommRing R] (z : R) : z + z = 2 * z := by grind
theorem fp_2z {z : Fp} (h : z ≠ 0) : z + z ≠ 0 := by rw [rg_2z]; exact fp_nz (by decide) h
theorem rg_n0 {R : Type} [Lean.Grind.CommRing R] (z : R) (h : -z = 0) : z = 0 := by grind
theorem fp_neg0 {z : Fp} (h : z ≠ 0) : -z ≠ 0 := fun e => h (rg_n0 z e)
theorem ex_add {X : vM} {r r0 r1 : Nat → Nat} {P Q : Pt2} (hd : nd [r0 0, r0 1, r0 2, r0 3, r 7, r 8, r 9, r 10, r 11, r 12, r 13, r 14, r1 0, r1 1, r1 2, r1 3]) (hP : Ex X r0 2 P) (hQ : Ax X r1 Q) (oP : onC P.1 P.2) (oQ : onC Q.1 Q.2) : onL [r0 0, r0 1, r0 2, r0 3, r 7, r 8, r 9, r 10, r 11, r 12, r 13, r 14] X (LF_Ed_add X r r0 r1) ∧ Ex (LF_Ed_add X r r0 r1) r0 1 (eadd P Q) := by
  obtain ⟨x, y, z, t, p0, p1, p2, p3, hz, rfl, rfl, rfl⟩ := hP
  obtain ⟨l, m, k, d, w, q0, q1, q2, q3, hw, rfl, rfl, rfl, rfl⟩ := hQ
  obtain ⟨s0, s1, s2, s3, s4⟩ := fe_eadd hd p0 p1 p2 p3 q0 q1 q2 q3
  obtain ⟨e1, e2, e3, e4⟩ := rg_ea P.1 P.2 Q.1 Q.2 z w eD _ _ (fpi_mul (ed_p oP oQ)) (fpi_mul (ed_m oP oQ))
  refine ⟨s0, _, _, _, _, s1, s2, s3, s4, ?_, ?_, ?_, ?_⟩
  · rw [e3]
    exact fp_nz (fp_nz (fp_nz (fp_2z hz) (fp_2z hz)) (fp_nz hw hw)) (fp_nz (ed_m oP oQ) (ed_p oP oQ))
  · rw [e3]; exact e1
  · rw [e3]; exact e2
  · rw [e3]; exact e4
theorem Ex.mono {X : vM} {r : Nat → Nat} {n m : Int} {P : Pt2} (h : Ex X r n P) (hn : n ≤ m) : Ex X r m P := by
  obtain ⟨x, y, z, t, p0, p1, p2⟩ := h
  exact ⟨x, y, z, t, p0.mono hn, p1.mono hn, p2⟩
theorem ex_dbl {X : vM} {r r0 : Nat → Nat} {P : Pt2} (hd : nd [r0 0, r0 1, r0 2, r0 3, r 7, r 8, r 9, r 10, r 11, r 12, r 13, r 14]) (hP : Ex X r0 1 P) (oP : onC P.1 P.2) : onL [r0 0, r0 1, r0 2, r0 3, r 7, r 8, r 9, r 10, r 11, r 12, r 13, r 14] X (LF_Ed_twice X r r0) ∧ Ex (LF_Ed_twice X r r0) r0 1 (eadd P P) := by
  obtain ⟨x, y, z, t, p0, p1, p2, p3, hz, rfl, rfl, rfl⟩ := hP
  obtain ⟨s0, s1, s2, s3, s4⟩ := fe_edbl hd p0 p1 p2 p3
  obtain ⟨e1, e2, e3, e4⟩ := rg_ed P.1 P.2 z eD _ _ oP (fpi_mul (ed_p oP oP)) (fpi_mul (ed_m oP oP))
  refine ⟨s0, _, _, _, _, s1, s2, s3, s4, ?_, ?_, ?_, ?_⟩
  · rw [e3]
    exact fp_neg0 (fp_nz (fp_nz (fp_nz hz hz) (fp_nz hz hz)) (fp_nz (ed_m oP oP) (ed_p oP oP)))
  · rw [e3]; exact e1
  · rw [e3]; exact e2
  · rw [e3]; exact e4
/-! sixteen to the power, digit by digit -/
def hsum (dig : Nat → Nat) : Nat → Nat → Nat
  | 0, n => n
  | k + 1, n => hsum dig k (16 * n + dig k)
abbrev edW (kq : Nat → Nat → Nat) : List Nat := [kq 3 0, kq 3 1, kq 3 2, kq 3 3, kq 2 7, kq 2 8, kq 2 9, kq 2 10, kq 2 11, kq 2 12, kq 2 13, kq 2 14]
theorem ix_b : ∀ j, j < 16 → ∀ k, k < 4 → (16 + j, k) ∈ kc_ix := by decide +kernel
theorem ix_w : ∀ q ∈ ([(3, 0), (3, 1), (3, 2), (3, 3), (2, 7), (2, 8), (2, 9), (2, 10), (2, 11), (2, 12), (2, 13), (2, 14)] : List (Nat × Nat)), q ∈ kc_ix ∧ q.1 < 16 := by decide +kernel
theorem edW_b {kq : Nat → Nat → Nat} (hI : KInj kq) {j k : Nat} (hj : j < 16) (hk : k < 4) : kq (16 + j) k ∉ edW kq := fun h => by
  have h2 : kq (16 + j) k ∈ ([(3, 0), (3, 1), (3, 2), (3, 3), (2, 7), (2, 8), (2, 9), (2, 10), (2, 11), (2, 12), (2, 13), (2, 14)] : List (Nat × Nat)).map (fun q => kq q.1 q.2) := h
  obtain ⟨q, hq, e⟩ := List.mem_map.mp h2
  have h3 := ix_w q hq
  have e2 := hI q h3.1 (16 + j, k) (ix_b j hj k hk) e
  rw [e2] at h3
  exact absurd h3.2 (by show ¬ 16 + j < 16; omega)
theorem Ax.on {kq : Nat → Nat → Nat} (hI : KInj kq) {X Y : vM} {j : Nat} {P : Pt2} (hj : j < 16) (ho : onL (edW kq) X Y) (h : Ax X (kq (16 + j)) P) : Ax Y (kq (16 + j)) P := by
  obtain ⟨l, m, k, d, w, q0, q1, q2, q3, q4⟩ := h
  exact ⟨l, m, k, d, w, q0.on ho (edW_b hI hj (by decide)), q1.on ho (edW_b hI hj (by decide)), q2.on ho (edW_b hI hj (by decide)), q3.on ho (edW_b hI hj (by decide)), q4⟩
theorem ex_up0 {kq : Nat → Nat → Nat} {X : vM} {s z0 : Nat} {B : Pt2} (hI : KInj kq) (oB : onC B.1 B.2) (hz : ∀ i, i < 64 → LF_Ed_digitAt X z0 i = 0) (hT : ∀ j, 1 ≤ j → j < 16 → Ax X (kq (16 + j)) (emul B j)) : ∀ (k : Nat) (Y : vM) (n : Nat), k ≤ 64 → Ex Y (kq 3) 1 (emul B n) → onL (edW kq) X Y → Ex (lpD (LL_Ed_addUp_10 kq s z0) k Y) (kq 3) 1 (emul B (hsum (fun i => LF_Ed_digitAt X s i) k n)) ∧ onL (edW kq) X (lpD (LL_Ed_addUp_10 kq s z0) k Y)
  | 0, Y, n, _, h, ho => ⟨h, ho⟩
  | k + 1, Y, n, hk, h, ho => by
    have hd := nd_of hI [(3, 0), (3, 1), (3, 2), (3, 3), (2, 7), (2, 8), (2, 9), (2, 10), (2, 11), (2, 12), (2, 13), (2, 14)] (by decide +kernel)
    have dbl : ∀ (Y : vM) (n : Nat), Ex Y (kq 3) 1 (emul B n) → onL (edW kq) X Y → Ex (LF_Ed_twice Y (edr kq) (kq 3)) (kq 3) 1 (emul B (n + n)) ∧ onL (edW kq) X (LF_Ed_twice Y (edr kq) (kq 3)) := fun Y n h ho => by
      obtain ⟨a1, a2⟩ := ex_dbl (r := edr kq) hd h (emul_on oB n)
      rw [emul_add oB]
      exact ⟨a2, ho.tr a1⟩
    obtain ⟨h1, o1⟩ := dbl Y n h ho
    obtain ⟨h2, o2⟩ := dbl _ _ h1 o1
    obtain ⟨h3, o3⟩ := dbl _ _ h2 o2
    obtain ⟨h4, o4⟩ := dbl _ _ h3 o3
    rw [show n + n + (n + n) + (n + n + (n + n)) + (n + n + (n + n) + (n + n + (n + n))) = 16 * n by omega] at h4
    obtain ⟨Z, eZ⟩ : ∃ Z, LF_Ed_twice (LF_Ed_twice (LF_Ed_twice (LF_Ed_twice Y (edr kq) (kq 3)) (edr kq) (kq 3)) (edr kq) (kq 3)) (edr kq) (kq 3) = Z := ⟨_, rfl⟩
    rw [eZ] at h4 o4
    have dz : ∀ W : vM, onL (edW kq) X W → ∀ a i, LF_Ed_digitAt W a i = LF_Ed_digitAt X a i := fun W hW a i => by
      unfold LF_Ed_digitAt
      rw [hW.1]
    have hdg := dz Z o4 s k
    have hlt : LF_Ed_digitAt X s k < 16 := vx_15b _
    have bod : ∃ V, LL_Ed_addUp_10 kq s z0 k Y = V ∧ Ex V (kq 3) 1 (emul B (16 * n + LF_Ed_digitAt X s k)) ∧ onL (edW kq) X V := by
      refine ⟨_, rfl, ?_⟩
      show Ex (if LF_Ed_digitAt (if LF_Ed_digitAt (LF_Ed_twice (LF_Ed_twice (LF_Ed_twice (LF_Ed_twice Y (edr kq) (kq 3)) (edr kq) (kq 3)) (edr kq) (kq 3)) (edr kq) (kq 3)) s k = 0 then _ else _) z0 k = 0 then _ else _) (kq 3) 1 _ ∧ onL (edW kq) X (if LF_Ed_digitAt (if LF_Ed_digitAt (LF_Ed_twice (LF_Ed_twice (LF_Ed_twice (LF_Ed_twice Y (edr kq) (kq 3)) (edr kq) (kq 3)) (edr kq) (kq 3)) (edr kq) (kq 3)) s k = 0 then _ else _) z0 k = 0 then _ else _)
      rw [eZ, hdg]
      have fin : ∀ V, Ex V (kq 3) 1 (emul B (16 * n + LF_Ed_digitAt X s k)) → onL (edW kq) X V → Ex (if LF_Ed_digitAt V z0 k = 0 then V else LF_Ed_add V (edr kq) (kq 3) (kq (32 + LF_Ed_digitAt V z0 k))) (kq 3) 1 (emul B (16 * n + LF_Ed_digitAt X s k)) ∧ onL (edW kq) X (if LF_Ed_digitAt V z0 k = 0 then V else LF_Ed_add V (edr kq) (kq 3) (kq (32 + LF_Ed_digitAt V z0 k))) := fun V hV oV => by
        rw [if_pos ((dz V oV z0 k).trans (hz k (by omega)))]
        exact ⟨hV, oV⟩
      by_cases h0 : LF_Ed_digitAt X s k = 0
      · rw [if_pos h0]
        exact fin Z (by rw [h0]; exact h4) o4
      · rw [if_neg h0]
        refine fin _ ?_ ?_
        all_goals
          generalize hj : LF_Ed_digitAt X s k = j at h0 hlt ⊢
          have hA := Ax.on hI hlt o4 (hT j (by omega) hlt)
          have hdj : nd [kq 3 0, kq 3 1, kq 3 2, kq 3 3, kq 2 7, kq 2 8, kq 2 9, kq 2 10, kq 2 11, kq 2 12, kq 2 13, kq 2 14, kq (16 + j) 0, kq (16 + j) 1, kq (16 + j) 2, kq (16 + j) 3] := by
            rcases (show j = 1 ∨ j = 2 ∨ j = 3 ∨ j = 4 ∨ j = 5 ∨ j = 6 ∨ j = 7 ∨ j = 8 ∨ j = 9 ∨ j = 10 ∨ j = 11 ∨ j = 12 ∨ j = 13 ∨ j = 14 ∨ j = 15 by omega) with rfl | rfl | rfl | rfl | rfl | rfl | rfl | rfl | rfl | rfl | rfl | rfl | rfl | rfl | rfl
            · exact nd_of hI [(3, 0), (3, 1), (3, 2), (3, 3), (2, 7), (2, 8), (2, 9), (2, 10), (2, 11), (2, 12), (2, 13), (2, 14), (17, 0), (17, 1), (17, 2), (17, 3)] (by decide +kernel)
            · exact nd_of hI [(3, 0), (3, 1), (3, 2), (3, 3), (2, 7), (2, 8), (2, 9), (2, 10), (2, 11), (2, 12), (2, 13), (2, 14), (18, 0), (18, 1), (18, 2), (18, 3)] (by decide +kernel)
            · exact nd_of hI [(3, 0), (3, 1), (3, 2), (3, 3), (2, 7), (2, 8), (2, 9), (2, 10), (2, 11), (2, 12), (2, 13), (2, 14), (19, 0), (19, 1), (19, 2), (19, 3)] (by decide +kernel)
            · exact nd_of hI [(3, 0), (3, 1), (3, 2), (3, 3), (2, 7), (2, 8), (2, 9), (2, 10), (2, 11), (2, 12), (2, 13), (2, 14), (20, 0), (20, 1), (20, 2), (20, 3)] (by decide +kernel)
            · exact nd_of hI [(3, 0), (3, 1), (3, 2), (3, 3), (2, 7), (2, 8), (2, 9), (2, 10), (2, 11), (2, 12), (2, 13), (2, 14), (21, 0), (21, 1), (21, 2), (21, 3)] (by decide +kernel)
            · exact nd_of hI [(3, 0), (3, 1), (3, 2), (3, 3), (2, 7), (2, 8), (2, 9), (2, 10), (2, 11), (2, 12), (2, 13), (2, 14), (22, 0), (22, 1), (22, 2), (22, 3)] (by decide +kernel)
            · exact nd_of hI [(3, 0), (3, 1), (3, 2), (3, 3), (2, 7), (2, 8), (2, 9), (2, 10), (2, 11), (2, 12), (2, 13), (2, 14), (23, 0), (23, 1), (23, 2), (23, 3)] (by decide +kernel)
            · exact nd_of hI [(3, 0), (3, 1), (3, 2), (3, 3), (2, 7), (2, 8), (2, 9), (2, 10), (2, 11), (2, 12), (2, 13), (2, 14), (24, 0), (24, 1), (24, 2), (24, 3)] (by decide +kernel)
            · exact nd_of hI [(3, 0), (3, 1), (3, 2), (3, 3), (2, 7), (2, 8), (2, 9), (2, 10), (2, 11), (2, 12), (2, 13), (2, 14), (25, 0), (25, 1), (25, 2), (25, 3)] (by decide +kernel)
            · exact nd_of hI [(3, 0), (3, 1), (3, 2), (3, 3), (2, 7), (2, 8), (2, 9), (2, 10), (2, 11), (2, 12), (2, 13), (2, 14), (26, 0), (26, 1), (26, 2), (26, 3)] (by decide +kernel)
            · exact nd_of hI [(3, 0), (3, 1), (3, 2), (3, 3), (2, 7), (2, 8), (2, 9), (2, 10), (2, 11), (2, 12), (2, 13), (2, 14), (27, 0), (27, 1), (27, 2), (27, 3)] (by decide +kernel)
            · exact nd_of hI [(3, 0), (3, 1), (3, 2), (3, 3), (2, 7), (2, 8), (2, 9), (2, 10), (2, 11), (2, 12), (2, 13), (2, 14), (28, 0), (28, 1), (28, 2), (28, 3)] (by decide +kernel)
            · exact nd_of hI [(3, 0), (3, 1), (3, 2), (3, 3), (2, 7), (2, 8), (2, 9), (2, 10), (2, 11), (2, 12), (2, 13), (2, 14), (29, 0), (29, 1), (29, 2), (29, 3)] (by decide +kernel)
            · exact nd_of hI [(3, 0), (3, 1), (3, 2), (3, 3), (2, 7), (2, 8), (2, 9), (2, 10), (2, 11), (2, 12), (2, 13), (2, 14), (30, 0), (30, 1), (30, 2), (30, 3)] (by decide +kernel)
            · exact nd_of hI [(3, 0), (3, 1), (3, 2), (3, 3), (2, 7), (2, 8), (2, 9), (2, 10), (2, 11), (2, 12), (2, 13), (2, 14), (31, 0), (31, 1), (31, 2), (31, 3)] (by decide +kernel)
          obtain ⟨a1, a2⟩ := ex_add (r := edr kq) hdj (h4.mono (by decide)) hA (emul_on oB _) (emul_on oB j)
        · rw [emul_add oB]
          exact a2
        · exact o4.tr a1
    obtain ⟨V, eV, hV, oV⟩ := bod
    show Ex (lpD (LL_Ed_addUp_10 kq s z0) k (LL_Ed_addUp_10 kq s z0 k Y)) (kq 3) 1 _ ∧ onL (edW kq) X (lpD (LL_Ed_addUp_10 kq s z0) k (LL_Ed_addUp_10 kq s z0 k Y))
    rw [eV]
    exact ex_up0 hI oB hz hT k V _ (by omega) hV oV
