/-! the field of 2^255 - 19 -/
abbrev Fp : Type := Fin pP
theorem fp_val_mul (a b : Fp) : (a * b).val = a.val * b.val % pP := Fin.val_mul a b
theorem fp_dvd {a : Fp} (h : a ≠ 0) : ¬ pP ∣ a.val := fun hd => by
  rcases Nat.eq_zero_or_pos a.val with h0 | h0
  · exact h (Fin.ext h0)
  · have := Nat.le_of_dvd h0 hd
    have := a.isLt
    omega
theorem fp_mul0 {a b : Fp} (h : a * b = 0) : a = 0 ∨ b = 0 := by
  have h1 : a.val * b.val % pP = 0 := by rw [← fp_val_mul, h]; rfl
  rcases pr_p.mul (Nat.dvd_of_mod_eq_zero h1) with h2 | h2
  · exact Or.inl (Classical.byContradiction fun hc => fp_dvd hc h2)
  · exact Or.inr (Classical.byContradiction fun hc => fp_dvd hc h2)
theorem fp_nz {a b : Fp} (ha : a ≠ 0) (hb : b ≠ 0) : a * b ≠ 0 := fun h => (fp_mul0 h).elim ha hb
theorem fp_sub0 {a b : Fp} (h : a - b = 0) : a = b := by grind
theorem fp_cancel {a b c : Fp} (hc : c ≠ 0) (h : a * c = b * c) : a = b := by
  have h1 : (a - b) * c = 0 := by grind
  rcases fp_mul0 h1 with h2 | h2
  · exact fp_sub0 h2
  · exact absurd h2 hc
def fpw (a : Fp) : Nat → Fp
  | 0 => 1
  | n + 1 => fpw a n * a
theorem fpw_val (a : Fp) : ∀ n, (fpw a n).val = a.val ^ n % pP
  | 0 => rfl
  | n + 1 => by
    show (fpw a n * a).val = _
    rw [fp_val_mul, fpw_val a n, Nat.mod_mul_mod, Nat.pow_succ]
theorem fpw_add (a : Fp) (m : Nat) : ∀ n, fpw a (m + n) = fpw a m * fpw a n
  | 0 => by show fpw a m = fpw a m * 1; grind
  | n + 1 => by
    show fpw a (m + n) * a = fpw a m * (fpw a n * a)
    rw [fpw_add a m n]
    grind
theorem fpw_mulb (a b : Fp) : ∀ n, fpw (a * b) n = fpw a n * fpw b n
  | 0 => by show (1 : Fp) = 1 * 1; grind
  | n + 1 => by
    show fpw (a * b) n * (a * b) = fpw a n * a * (fpw b n * b)
    rw [fpw_mulb a b n]
    grind
theorem fpw_mul (a : Fp) (m : Nat) : ∀ n, fpw a (m * n) = fpw (fpw a m) n
  | 0 => rfl
  | n + 1 => by
    show fpw a (m * n + m) = fpw (fpw a m) n * fpw a m
    rw [fpw_add, fpw_mul a m n]
theorem fpw_1 (a : Fp) : fpw a 1 = a := by show 1 * a = a; grind
theorem fpw_2 (a : Fp) : fpw a 2 = a * a := by show 1 * a * a = a * a; grind
theorem fpw_0 {n : Nat} (h : 0 < n) : fpw 0 n = 0 := by
  obtain ⟨k, rfl⟩ : ∃ k, n = k + 1 := ⟨n - 1, by omega⟩
  show fpw 0 k * 0 = 0
  grind
theorem fp_fermat {a : Fp} (h : a ≠ 0) : fpw a (pP - 1) = 1 := by
  apply Fin.ext
  rw [fpw_val, nt_fermat pr_p (fp_dvd h)]
  rfl
/-! rows of rings, of any ring: the field's own numbers stay closed -/
theorem rg_inv2 {R : Type} [Lean.Grind.CommRing R] (a b c : R) (h : a * b = 1) (h1 : a * c = 1) : b * a = c * a := by grind
theorem rg_01 {R : Type} [Lean.Grind.CommRing R] (b : R) (h : 0 * b = 1) : (1 : R) = 0 := by grind
theorem rg_0m {R : Type} [Lean.Grind.CommRing R] (b : R) : b * 0 = 0 := by grind
theorem rg_m0 {R : Type} [Lean.Grind.CommRing R] (b : R) : 0 * b = 0 := by grind
theorem rg_pm {R : Type} [Lean.Grind.CommRing R] (a b : R) (h1 : a + b = 0) (h2 : a - b = 0) : 2 * b = 0 := by grind
theorem rg_p0 {R : Type} [Lean.Grind.CommRing R] (a b : R) (h1 : a + b = 0) (h2 : b = 0) : a = 0 := by grind
theorem rg_eps {R : Type} [Lean.Grind.CommRing R] (d x1 x2 y1 y2 : R) : d * x1 * x2 * y1 * y2 = (x1 * y1) * (d * x2 * y2) := by grind
theorem rg_e0 {R : Type} [Lean.Grind.CommRing R] (w : R) (h : 0 * w * (0 * w) = 1) : (1 : R) = 0 := by grind
theorem rg_c0 {R : Type} [Lean.Grind.CommRing R] (d : R) (h : d * 0 * 0 * 0 * 0 = 0 * 0 - 0 * 0 - 1) : (1 : R) = 0 := by grind
theorem rg_ep {R : Type} [Lean.Grind.CommRing R] (e : R) (h : 1 + e = 0) : e * e = 1 := by grind
theorem rg_em {R : Type} [Lean.Grind.CommRing R] (e : R) (h : 1 - e = 0) : e * e = 1 := by grind
theorem fp_10 : (1 : Fp) ≠ 0 := by decide
/-- 1 / a, and 0 for 0 -/
def fpi (a : Fp) : Fp := fpw a (pP - 2)
theorem fpi_mul {a : Fp} (h : a ≠ 0) : a * fpi a = 1 := by
  have h1 := fp_fermat h
  rw [show pP - 1 = (pP - 2) + 1 from rfl] at h1
  have h2 : fpw a (pP - 2) * a = 1 := h1
  exact (Fin.mul_comm _ _).trans h2
theorem fpi_0 : fpi 0 = 0 := fpw_0 (by decide)
theorem fpi_uniq {a b : Fp} (h : a * b = 1) : b = fpi a := by
  have ha : a ≠ 0 := fun z => by
    rw [z] at h
    exact fp_10 (rg_01 b h)
  exact fp_cancel ha (rg_inv2 a b (fpi a) h (fpi_mul ha))
/-! the curve -/
def eD : Fp := 37095705934669439343138083508754565189542113879843219016388785533085940283555
def eI : Fp := 19681161376707505956807079304988542015446066515923890162744021073123829784752
theorem eI_sq : eI * eI = -1 := by decide +kernel
theorem eD_ne : eD ≠ 0 := by decide
theorem eD_half : fpw eD ((pP - 1) / 2) = -1 := by
  apply Fin.ext
  rw [fpw_val, ← mpw_eq pP 256 _ _ (by decide)]
  decide +kernel
/-- d is no square -/
theorem eD_nsq {z w : Fp} (hw : w ≠ 0) : eD * (w * w) ≠ z * z := fun h => by
  have h1 : fpw (eD * (w * w)) ((pP - 1) / 2) = fpw (z * z) ((pP - 1) / 2) := by rw [h]
  have e2 : ∀ a : Fp, fpw (a * a) ((pP - 1) / 2) = fpw a (pP - 1) := fun a => by
    rw [← fpw_2, ← fpw_mul, show 2 * ((pP - 1) / 2) = pP - 1 from by decide]
  rw [fpw_mulb, e2, e2, fp_fermat hw, eD_half] at h1
  by_cases hz : z = 0
  · rw [hz] at h
    have h2 : eD * (w * w) = 0 := by rw [h]; exact rg_0m 0
    exact fp_nz eD_ne (fp_nz hw hw) h2
  · rw [fp_fermat hz] at h1
    exact absurd h1 (by decide)
def onC (x y : Fp) : Prop := eD * x * x * y * y = y * y - x * x - 1
theorem ed_cmp0 {R : Type} [Lean.Grind.CommRing R] (x1 y1 x2 y2 d i : R) (h1 : d * x1 * x1 * y1 * y1 = y1 * y1 - x1 * x1 - 1) (h2 : d * x2 * x2 * y2 * y2 = y2 * y2 - x2 * x2 - 1) (hi : i * i = -1) (he : (d * x1 * x2 * y1 * y2) * (d * x1 * x2 * y1 * y2) = 1) :
    d * ((x1 * y1 * (i * x2 + y2)) * (x1 * y1 * (i * x2 + y2))) = (i * x1 + d * x1 * x2 * y1 * y2 * y1) * (i * x1 + d * x1 * x2 * y1 * y2 * y1) ∧
    d * ((x1 * y1 * (i * x2 - y2)) * (x1 * y1 * (i * x2 - y2))) = (i * x1 - d * x1 * x2 * y1 * y2 * y1) * (i * x1 - d * x1 * x2 * y1 * y2 * y1) := by
  constructor <;> grind
theorem ed_eps {x1 y1 x2 y2 : Fp} (h1 : onC x1 y1) (h2 : onC x2 y2) : (eD * x1 * x2 * y1 * y2) * (eD * x1 * x2 * y1 * y2) ≠ 1 := fun he => by
  obtain ⟨k1, k2⟩ := ed_cmp0 x1 y1 x2 y2 eD eI h1 h2 eI_sq he
  have n1 : x1 * y1 ≠ 0 := fun z => by
    rw [rg_eps eD x1 x2 y1 y2, z] at he
    exact fp_10 (rg_e0 _ he)
  by_cases c1 : eI * x2 + y2 = 0
  · by_cases c2 : eI * x2 - y2 = 0
    · have e3 : y2 = 0 := (fp_mul0 (rg_pm _ _ c1 c2)).elim (fun z => absurd z (by decide)) id
      have e5 : x2 = 0 := (fp_mul0 (rg_p0 _ _ c1 e3)).elim (fun z => absurd z (by decide)) id
      have h3 : eD * x2 * x2 * y2 * y2 = y2 * y2 - x2 * x2 - 1 := h2
      rw [e3, e5] at h3
      exact fp_10 (rg_c0 eD h3)
    · exact eD_nsq (fp_nz n1 c2) k2
  · exact eD_nsq (fp_nz n1 c1) k1
theorem ed_p {x1 y1 x2 y2 : Fp} (h1 : onC x1 y1) (h2 : onC x2 y2) : 1 + eD * x1 * x2 * y1 * y2 ≠ 0 := fun z => ed_eps h1 h2 (rg_ep _ z)
theorem ed_m {x1 y1 x2 y2 : Fp} (h1 : onC x1 y1) (h2 : onC x2 y2) : 1 - eD * x1 * x2 * y1 * y2 ≠ 0 := fun z => ed_eps h1 h2 (rg_em _ z)
abbrev Pt2 : Type := Fp × Fp
def eadd (P Q : Pt2) : Pt2 := ((P.1 * Q.2 + P.2 * Q.1) * fpi (1 + eD * P.1 * Q.1 * P.2 * Q.2), (P.2 * Q.2 + P.1 * Q.1) * fpi (1 - eD * P.1 * Q.1 * P.2 * Q.2))
theorem ed_cl1 {R : Type} [Lean.Grind.CommRing R] (A B p m u v d : R) (h : B * B * (p * p) - A * A * (m * m) = p * p * (m * m) + d * (A * A) * (B * B)) (hu : p * u = 1) (hv : m * v = 1) : d * (A * u) * (A * u) * (B * v) * (B * v) = (B * v) * (B * v) - (A * u) * (A * u) - 1 := by grind
theorem eadd_on {P Q : Pt2} (h1 : onC P.1 P.2) (h2 : onC Q.1 Q.2) : onC (eadd P Q).1 (eadd P Q).2 :=
  ed_cl1 _ _ _ _ _ _ _ (ed_clh P.1 P.2 Q.1 Q.2 eD h1 h2) (fpi_mul (ed_p h1 h2)) (fpi_mul (ed_m h1 h2))
theorem ed_as1 {R : Type} [Lean.Grind.CommRing R] (a b s t p m u v f F d k : R) (hu : p * u = 1) (hv : m * v = 1) (hF : f * F = 1) (hf : f = 1 + d * (a * u) * s * (b * v) * t) (hk : k = p * m + d * a * b * s * t) : ((a * u) * t + (b * v) * s) * F * k = a * m * t + b * p * s ∧ k = p * m * f := by
  constructor <;> grind
theorem ed_as2 {R : Type} [Lean.Grind.CommRing R] (a b s t p m u v f F d k : R) (hu : p * u = 1) (hv : m * v = 1) (hF : f * F = 1) (hf : f = 1 - d * (a * u) * s * (b * v) * t) (hk : k = p * m - d * a * b * s * t) : ((b * v) * t + (a * u) * s) * F * k = b * p * t + a * m * s ∧ k = p * m * f := by
  constructor <;> grind
theorem ed_as3 {R : Type} [Lean.Grind.CommRing R] (a b s t p m u v f F d k : R) (hu : p * u = 1) (hv : m * v = 1) (hF : f * F = 1) (hf : f = 1 + d * s * (a * u) * t * (b * v)) (hk : k = p * m + d * s * t * a * b) : (s * (b * v) + t * (a * u)) * F * k = s * b * p + t * a * m ∧ k = p * m * f := by
  constructor <;> grind
theorem ed_as4 {R : Type} [Lean.Grind.CommRing R] (a b s t p m u v f F d k : R) (hu : p * u = 1) (hv : m * v = 1) (hF : f * F = 1) (hf : f = 1 - d * s * (a * u) * t * (b * v)) (hk : k = p * m - d * s * t * a * b) : (t * (b * v) + s * (a * u)) * F * k = t * b * p + s * a * m ∧ k = p * m * f := by
  constructor <;> grind
theorem rg_id {R : Type} [Lean.Grind.CommRing R] {L M q1 q2 q3 e1 e2 e3 : R} (h : L - M = q1 * e1 + q2 * e2 + q3 * e3) (h1 : e1 = 0) (h2 : e2 = 0) (h3 : e3 = 0) : L = M := by grind
theorem rg_s0 {R : Type} [Lean.Grind.CommRing R] {a b : R} (h : a = b) : a - b = 0 := by grind
theorem rg_kk {R : Type} [Lean.Grind.CommRing R] {x y k l m n : R} (h1 : x * k = m) (h2 : y * l = n) (h3 : m * l = n * k) : x * (k * l) = y * (k * l) := by grind
theorem eadd_assoc {P Q S : Pt2} (h1 : onC P.1 P.2) (h2 : onC Q.1 Q.2) (h3 : onC S.1 S.2) : eadd (eadd P Q) S = eadd P (eadd Q S) := by
  have hp := ed_p h1 h2
  have hm := ed_m h1 h2
  have gp := ed_p h2 h3
  have gm := ed_m h2 h3
  have h12 := eadd_on h1 h2
  have h23 := eadd_on h2 h3
  have fp := ed_p h12 h3
  have fm := ed_m h12 h3
  have kp := ed_p h1 h23
  have km := ed_m h1 h23
  have e1 := rg_s0 h1
  have e2 := rg_s0 h2
  have e3 := rg_s0 h3
  have ix := rg_id (ed_ax0 P.1 P.2 Q.1 Q.2 S.1 S.2 eD) e1 e2 e3
  have iy := rg_id (ed_ay0 P.1 P.2 Q.1 Q.2 S.1 S.2 eD) e1 e2 e3
  have a1 := ed_as1 (P.1 * Q.2 + P.2 * Q.1) (P.2 * Q.2 + P.1 * Q.1) S.1 S.2 _ _ _ _ _ _ eD _ (fpi_mul hp) (fpi_mul hm) (fpi_mul fp) rfl rfl
  have a2 := ed_as2 (P.1 * Q.2 + P.2 * Q.1) (P.2 * Q.2 + P.1 * Q.1) S.1 S.2 _ _ _ _ _ _ eD _ (fpi_mul hp) (fpi_mul hm) (fpi_mul fm) rfl rfl
  have a3 := ed_as3 (Q.1 * S.2 + Q.2 * S.1) (Q.2 * S.2 + Q.1 * S.1) P.1 P.2 _ _ _ _ _ _ eD _ (fpi_mul gp) (fpi_mul gm) (fpi_mul kp) rfl rfl
  have a4 := ed_as4 (Q.1 * S.2 + Q.2 * S.1) (Q.2 * S.2 + Q.1 * S.1) P.1 P.2 _ _ _ _ _ _ eD _ (fpi_mul gp) (fpi_mul gm) (fpi_mul km) rfl rfl
  refine Prod.ext ?_ ?_
  · refine fp_cancel (c := _) ?_ (rg_kk a1.1 a3.1 ix)
    rw [a1.2, a3.2]
    exact fp_nz (fp_nz (fp_nz hp hm) fp) (fp_nz (fp_nz gp gm) kp)
  · refine fp_cancel (c := _) ?_ (rg_kk a2.1 a4.1 iy)
    rw [a2.2, a4.2]
    exact fp_nz (fp_nz (fp_nz hp hm) fm) (fp_nz (fp_nz gp gm) km)
def eO : Pt2 := (0, 1)
theorem eO_on : onC eO.1 eO.2 := show eD * 0 * 0 * 1 * 1 = 1 * 1 - 0 * 0 - 1 by decide +kernel
theorem rg_o1 {R : Type} [Lean.Grind.CommRing R] (x y d : R) : 1 + d * 0 * x * 1 * y = 1 ∧ 1 - d * 0 * x * 1 * y = 1 ∧ 0 * y + 1 * x = x ∧ 1 * y + 0 * x = y ∧ 1 + d * x * 0 * y * 1 = 1 ∧ 1 - d * x * 0 * y * 1 = 1 ∧ x * 1 + y * 0 = x ∧ y * 1 + x * 0 = y := by
  refine ⟨?_, ?_, ?_, ?_, ?_, ?_, ?_, ?_⟩ <;> grind
theorem fpi_1 : fpi 1 = 1 := (fpi_uniq (show (1 : Fp) * 1 = 1 by decide)).symm
theorem rg_m1 {R : Type} [Lean.Grind.CommRing R] (x : R) : x * 1 = x := by grind
theorem eadd_O (P : Pt2) : eadd P eO = P := by
  obtain ⟨-, -, -, -, r5, r6, r7, r8⟩ := rg_o1 P.1 P.2 eD
  unfold eadd
  show ((P.1 * 1 + P.2 * 0) * fpi (1 + eD * P.1 * 0 * P.2 * 1), (P.2 * 1 + P.1 * 0) * fpi (1 - eD * P.1 * 0 * P.2 * 1)) = P
  rw [r5, r6, r7, r8, fpi_1, rg_m1, rg_m1]
theorem O_eadd (P : Pt2) : eadd eO P = P := by
  obtain ⟨r1, r2, r3, r4, -, -, -, -⟩ := rg_o1 P.1 P.2 eD
  unfold eadd
  show ((0 * P.2 + 1 * P.1) * fpi (1 + eD * 0 * P.1 * 1 * P.2), (1 * P.2 + 0 * P.1) * fpi (1 - eD * 0 * P.1 * 1 * P.2)) = P
  rw [r1, r2, r3, r4, fpi_1, rg_m1, rg_m1]
/-- n times a point -/
def emul (P : Pt2) : Nat → Pt2
  | 0 => eO
  | n + 1 => eadd (emul P n) P
theorem emul_on {P : Pt2} (h : onC P.1 P.2) : ∀ n, onC (emul P n).1 (emul P n).2
  | 0 => eO_on
  | n + 1 => eadd_on (emul_on h n) h
theorem emul_add {P : Pt2} (h : onC P.1 P.2) (m : Nat) : ∀ n, emul P (m + n) = eadd (emul P m) (emul P n)
  | 0 => (eadd_O _).symm
  | n + 1 => by
    show eadd (emul P (m + n)) P = eadd (emul P m) (eadd (emul P n) P)
    rw [emul_add h m n, eadd_assoc (emul_on h m) (emul_on h n) h]
theorem emul_1 (P : Pt2) : emul P 1 = P := O_eadd P
