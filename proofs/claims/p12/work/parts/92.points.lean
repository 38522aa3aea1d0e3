/-! the reference's sums of points, multiples and powers -/
theorem rg_fg {R : Type} [Lean.Grind.CommRing R] (f g u v : R) (hf : f * u = 1) (hg : g * v = 1) : (f * g) * (u * v) = 1 := by grind
theorem rg_ad1 {R : Type} [Lean.Grind.CommRing R] (S f g u v : R) (hf : f * u = 1) (hg : g * v = 1) : (S * g) * (u * v) = S * u := by grind
theorem rg_ad2 {R : Type} [Lean.Grind.CommRing R] (S f g u v : R) (hf : f * u = 1) (hg : g * v = 1) : (S * f) * (u * v) = S * v := by grind
theorem rg_ade {R : Type} [Lean.Grind.CommRing R] (x y a b d : R) : ((y * b) * (x * a)) * d = d * x * a * y * b := by grind
theorem add_id {x y a b : Fp} (h1 : onC x y) (h2 : onC a b) : ((x * b + y * a) * (1 - ((y * b) * (x * a)) * eD)) * fpi ((1 + ((y * b) * (x * a)) * eD) * (1 - ((y * b) * (x * a)) * eD)) = (eadd (x, y) (a, b)).1 ∧ ((y * b + x * a) * (1 + ((y * b) * (x * a)) * eD)) * fpi ((1 + ((y * b) * (x * a)) * eD) * (1 - ((y * b) * (x * a)) * eD)) = (eadd (x, y) (a, b)).2 := by
  have hf := fpi_mul (ed_p h1 h2)
  have hg := fpi_mul (ed_m h1 h2)
  rw [rg_ade x y a b eD]
  have hi : fpi ((1 + eD * x * a * y * b) * (1 - eD * x * a * y * b)) = fpi (1 + eD * x * a * y * b) * fpi (1 - eD * x * a * y * b) := (fpi_uniq (rg_fg _ _ _ _ hf hg)).symm
  rw [hi]
  exact ⟨rg_ad1 _ _ _ _ _ hf hg, rg_ad2 _ _ _ _ _ hf hg⟩
set_option maxHeartbeats 4000000 in
theorem fm_dbl {X : vM} {r : Nat → Nat} {x y : Fp} (hI : MInj r) (hK : Kp X r) (hd : Fm X (r 14) eD) (h1 : Fm X (r 30) 1) (hx : Fm X (r 18) x) (hy : Fm X (r 19) y) (c1 : onC x y) : onM r [18, 19, 24, 25, 26, 27, 28, 29, 40, 41, 42, 43, 44, 45] X (LF_M_add X r (r 18) (r 19) (r 18) (r 19)) ∧ Fm (LF_M_add X r (r 18) (r 19) (r 18) (r 19)) (r 18) (eadd (x, y) (x, y)).1 ∧ Fm (LF_M_add X r (r 18) (r 19) (r 18) (r 19)) (r 19) (eadd (x, y) (x, y)).2 := by
  have R1 := fm_times (to := 24) hI hK hx hy rfl
  obtain ⟨X1, eX1⟩ : ∃ Y, LF_M_times X r (r 24) (r 18) (r 19) (r 10) (r 11) = Y := ⟨_, rfl⟩
  rw [eX1] at R1
  have K1 := hK.kp hI R1.1 rfl
  have hx := hx.kp hI R1.1 rfl
  have hy := hy.kp hI R1.1 rfl
  have hd := hd.kp hI R1.1 rfl
  have h1 := h1.kp hI R1.1 rfl
  have g1 := R1.2
  have R2 := fm_times (to := 25) hI K1 hy hx rfl
  obtain ⟨X2, eX2⟩ : ∃ Y, LF_M_times X1 r (r 25) (r 19) (r 18) (r 10) (r 11) = Y := ⟨_, rfl⟩
  rw [eX2] at R2
  have K2 := K1.kp hI R2.1 rfl
  have hx := hx.kp hI R2.1 rfl
  have hy := hy.kp hI R2.1 rfl
  have hd := hd.kp hI R2.1 rfl
  have h1 := h1.kp hI R2.1 rfl
  have g1 := g1.kp hI R2.1 rfl
  have g2 := R2.2
  have R3 := fm_plus (to := 24) hI K2 g1 g2 rfl
  obtain ⟨X3, eX3⟩ : ∃ Y, LF_M_plus X2 (r 24) (r 24) (r 25) (r 10) = Y := ⟨_, rfl⟩
  rw [eX3] at R3
  have K3 := K2.kp hI R3.1 rfl
  have hx := hx.kp hI R3.1 rfl
  have hy := hy.kp hI R3.1 rfl
  have hd := hd.kp hI R3.1 rfl
  have h1 := h1.kp hI R3.1 rfl
  have g3 := R3.2
  have R4 := fm_times (to := 25) hI K3 hy hy rfl
  obtain ⟨X4, eX4⟩ : ∃ Y, LF_M_times X3 r (r 25) (r 19) (r 19) (r 10) (r 11) = Y := ⟨_, rfl⟩
  rw [eX4] at R4
  have K4 := K3.kp hI R4.1 rfl
  have hx := hx.kp hI R4.1 rfl
  have hd := hd.kp hI R4.1 rfl
  have h1 := h1.kp hI R4.1 rfl
  have g3 := g3.kp hI R4.1 rfl
  have g4 := R4.2
  have R5 := fm_times (to := 26) hI K4 hx hx rfl
  obtain ⟨X5, eX5⟩ : ∃ Y, LF_M_times X4 r (r 26) (r 18) (r 18) (r 10) (r 11) = Y := ⟨_, rfl⟩
  rw [eX5] at R5
  have K5 := K4.kp hI R5.1 rfl
  have hd := hd.kp hI R5.1 rfl
  have h1 := h1.kp hI R5.1 rfl
  have g3 := g3.kp hI R5.1 rfl
  have g4 := g4.kp hI R5.1 rfl
  have g5 := R5.2
  have R6 := fm_times (to := 27) hI K5 g4 g5 rfl
  obtain ⟨X6, eX6⟩ : ∃ Y, LF_M_times X5 r (r 27) (r 25) (r 26) (r 10) (r 11) = Y := ⟨_, rfl⟩
  rw [eX6] at R6
  have K6 := K5.kp hI R6.1 rfl
  have hd := hd.kp hI R6.1 rfl
  have h1 := h1.kp hI R6.1 rfl
  have g3 := g3.kp hI R6.1 rfl
  have g4 := g4.kp hI R6.1 rfl
  have g5 := g5.kp hI R6.1 rfl
  have g6 := R6.2
  have R7 := fm_plus (to := 25) hI K6 g4 g5 rfl
  obtain ⟨X7, eX7⟩ : ∃ Y, LF_M_plus X6 (r 25) (r 25) (r 26) (r 10) = Y := ⟨_, rfl⟩
  rw [eX7] at R7
  have K7 := K6.kp hI R7.1 rfl
  have hd := hd.kp hI R7.1 rfl
  have h1 := h1.kp hI R7.1 rfl
  have g3 := g3.kp hI R7.1 rfl
  have g6 := g6.kp hI R7.1 rfl
  have g7 := R7.2
  have R8 := fm_times (to := 27) hI K7 g6 hd rfl
  obtain ⟨X8, eX8⟩ : ∃ Y, LF_M_times X7 r (r 27) (r 27) (r 14) (r 10) (r 11) = Y := ⟨_, rfl⟩
  rw [eX8] at R8
  have K8 := K7.kp hI R8.1 rfl
  have h1 := h1.kp hI R8.1 rfl
  have g3 := g3.kp hI R8.1 rfl
  have g7 := g7.kp hI R8.1 rfl
  have g8 := R8.2
  have R9 := fm_plus (to := 28) hI K8 h1 g8 rfl
  obtain ⟨X9, eX9⟩ : ∃ Y, LF_M_plus X8 (r 28) (r 30) (r 27) (r 10) = Y := ⟨_, rfl⟩
  rw [eX9] at R9
  have K9 := K8.kp hI R9.1 rfl
  have h1 := h1.kp hI R9.1 rfl
  have g3 := g3.kp hI R9.1 rfl
  have g7 := g7.kp hI R9.1 rfl
  have g8 := g8.kp hI R9.1 rfl
  have g9 := R9.2
  have R10 := fm_minus (to := 29) hI K9 h1 g8 rfl
  obtain ⟨X10, eX10⟩ : ∃ Y, LF_M_minus X9 (r 29) (r 30) (r 27) (r 10) = Y := ⟨_, rfl⟩
  rw [eX10] at R10
  have K10 := K9.kp hI R10.1 rfl
  have g3 := g3.kp hI R10.1 rfl
  have g7 := g7.kp hI R10.1 rfl
  have g9 := g9.kp hI R10.1 rfl
  have g10 := R10.2
  have R11 := fm_times (to := 26) hI K10 g9 g10 rfl
  obtain ⟨X11, eX11⟩ : ∃ Y, LF_M_times X10 r (r 26) (r 28) (r 29) (r 10) (r 11) = Y := ⟨_, rfl⟩
  rw [eX11] at R11
  have K11 := K10.kp hI R11.1 rfl
  have g3 := g3.kp hI R11.1 rfl
  have g7 := g7.kp hI R11.1 rfl
  have g9 := g9.kp hI R11.1 rfl
  have g10 := g10.kp hI R11.1 rfl
  have g11 := R11.2
  have R12 := fm_inv (to := 26) hI K11 g11 rfl
  obtain ⟨X12, eX12⟩ : ∃ Y, LF_M_inverse X11 r (r 26) (r 26) (r 10) = Y := ⟨_, rfl⟩
  rw [eX12] at R12
  have K12 := K11.kp hI R12.1 rfl
  have g3 := g3.kp hI R12.1 rfl
  have g7 := g7.kp hI R12.1 rfl
  have g9 := g9.kp hI R12.1 rfl
  have g10 := g10.kp hI R12.1 rfl
  have g12 := R12.2
  have R13 := fm_times (to := 24) hI K12 g3 g10 rfl
  obtain ⟨X13, eX13⟩ : ∃ Y, LF_M_times X12 r (r 24) (r 24) (r 29) (r 10) (r 11) = Y := ⟨_, rfl⟩
  rw [eX13] at R13
  have K13 := K12.kp hI R13.1 rfl
  have g7 := g7.kp hI R13.1 rfl
  have g9 := g9.kp hI R13.1 rfl
  have g12 := g12.kp hI R13.1 rfl
  have g13 := R13.2
  have R14 := fm_times (to := 18) hI K13 g13 g12 rfl
  obtain ⟨X14, eX14⟩ : ∃ Y, LF_M_times X13 r (r 18) (r 24) (r 26) (r 10) (r 11) = Y := ⟨_, rfl⟩
  rw [eX14] at R14
  have K14 := K13.kp hI R14.1 rfl
  have g7 := g7.kp hI R14.1 rfl
  have g9 := g9.kp hI R14.1 rfl
  have g12 := g12.kp hI R14.1 rfl
  have g14 := R14.2
  have R15 := fm_times (to := 25) hI K14 g7 g9 rfl
  obtain ⟨X15, eX15⟩ : ∃ Y, LF_M_times X14 r (r 25) (r 25) (r 28) (r 10) (r 11) = Y := ⟨_, rfl⟩
  rw [eX15] at R15
  have K15 := K14.kp hI R15.1 rfl
  have g12 := g12.kp hI R15.1 rfl
  have g14 := g14.kp hI R15.1 rfl
  have g15 := R15.2
  have R16 := fm_times (to := 19) hI K15 g15 g12 rfl
  obtain ⟨X16, eX16⟩ : ∃ Y, LF_M_times X15 r (r 19) (r 25) (r 26) (r 10) (r 11) = Y := ⟨_, rfl⟩
  rw [eX16] at R16
  have K16 := K15.kp hI R16.1 rfl
  have g14 := g14.kp hI R16.1 rfl
  have g16 := R16.2
  have hX : LF_M_add X r (r 18) (r 19) (r 18) (r 19) = X16 := by subst eX1 eX2 eX3 eX4 eX5 eX6 eX7 eX8 eX9 eX10 eX11 eX12 eX13 eX14 eX15 eX16; rfl
  rw [hX]
  have e := add_id c1 c1
  exact ⟨(((((((((((((((((onM.rf (l := [18, 19, 24, 25, 26, 27, 28, 29, 40, 41, 42, 43, 44, 45])).ad R1.1 rfl).ad R2.1 rfl).ad R3.1 rfl).ad R4.1 rfl).ad R5.1 rfl).ad R6.1 rfl).ad R7.1 rfl).ad R8.1 rfl).ad R9.1 rfl).ad R10.1 rfl).ad R11.1 rfl).ad R12.1 rfl).ad R13.1 rfl).ad R14.1 rfl).ad R15.1 rfl).ad R16.1 rfl), g14.ev e.1, g16.ev e.2⟩
set_option maxHeartbeats 4000000 in
theorem fm_adq {X : vM} {r : Nat → Nat} {x y a b : Fp} (hI : MInj r) (hK : Kp X r) (hd : Fm X (r 14) eD) (h1 : Fm X (r 30) 1) (hx : Fm X (r 18) x) (hy : Fm X (r 19) y) (ha : Fm X (r 20) a) (hb : Fm X (r 21) b) (c1 : onC x y) (c2 : onC a b) : onM r [18, 19, 24, 25, 26, 27, 28, 29, 40, 41, 42, 43, 44, 45] X (LF_M_add X r (r 18) (r 19) (r 20) (r 21)) ∧ Fm (LF_M_add X r (r 18) (r 19) (r 20) (r 21)) (r 18) (eadd (x, y) (a, b)).1 ∧ Fm (LF_M_add X r (r 18) (r 19) (r 20) (r 21)) (r 19) (eadd (x, y) (a, b)).2 := by
  have R1 := fm_times (to := 24) hI hK hx hb rfl
  obtain ⟨X1, eX1⟩ : ∃ Y, LF_M_times X r (r 24) (r 18) (r 21) (r 10) (r 11) = Y := ⟨_, rfl⟩
  rw [eX1] at R1
  have K1 := hK.kp hI R1.1 rfl
  have hx := hx.kp hI R1.1 rfl
  have hy := hy.kp hI R1.1 rfl
  have hd := hd.kp hI R1.1 rfl
  have h1 := h1.kp hI R1.1 rfl
  have ha := ha.kp hI R1.1 rfl
  have hb := hb.kp hI R1.1 rfl
  have g1 := R1.2
  have R2 := fm_times (to := 25) hI K1 hy ha rfl
  obtain ⟨X2, eX2⟩ : ∃ Y, LF_M_times X1 r (r 25) (r 19) (r 20) (r 10) (r 11) = Y := ⟨_, rfl⟩
  rw [eX2] at R2
  have K2 := K1.kp hI R2.1 rfl
  have hx := hx.kp hI R2.1 rfl
  have hy := hy.kp hI R2.1 rfl
  have hd := hd.kp hI R2.1 rfl
  have h1 := h1.kp hI R2.1 rfl
  have ha := ha.kp hI R2.1 rfl
  have hb := hb.kp hI R2.1 rfl
  have g1 := g1.kp hI R2.1 rfl
  have g2 := R2.2
  have R3 := fm_plus (to := 24) hI K2 g1 g2 rfl
  obtain ⟨X3, eX3⟩ : ∃ Y, LF_M_plus X2 (r 24) (r 24) (r 25) (r 10) = Y := ⟨_, rfl⟩
  rw [eX3] at R3
  have K3 := K2.kp hI R3.1 rfl
  have hx := hx.kp hI R3.1 rfl
  have hy := hy.kp hI R3.1 rfl
  have hd := hd.kp hI R3.1 rfl
  have h1 := h1.kp hI R3.1 rfl
  have ha := ha.kp hI R3.1 rfl
  have hb := hb.kp hI R3.1 rfl
  have g3 := R3.2
  have R4 := fm_times (to := 25) hI K3 hy hb rfl
  obtain ⟨X4, eX4⟩ : ∃ Y, LF_M_times X3 r (r 25) (r 19) (r 21) (r 10) (r 11) = Y := ⟨_, rfl⟩
  rw [eX4] at R4
  have K4 := K3.kp hI R4.1 rfl
  have hx := hx.kp hI R4.1 rfl
  have hd := hd.kp hI R4.1 rfl
  have h1 := h1.kp hI R4.1 rfl
  have ha := ha.kp hI R4.1 rfl
  have g3 := g3.kp hI R4.1 rfl
  have g4 := R4.2
  have R5 := fm_times (to := 26) hI K4 hx ha rfl
  obtain ⟨X5, eX5⟩ : ∃ Y, LF_M_times X4 r (r 26) (r 18) (r 20) (r 10) (r 11) = Y := ⟨_, rfl⟩
  rw [eX5] at R5
  have K5 := K4.kp hI R5.1 rfl
  have hd := hd.kp hI R5.1 rfl
  have h1 := h1.kp hI R5.1 rfl
  have g3 := g3.kp hI R5.1 rfl
  have g4 := g4.kp hI R5.1 rfl
  have g5 := R5.2
  have R6 := fm_times (to := 27) hI K5 g4 g5 rfl
  obtain ⟨X6, eX6⟩ : ∃ Y, LF_M_times X5 r (r 27) (r 25) (r 26) (r 10) (r 11) = Y := ⟨_, rfl⟩
  rw [eX6] at R6
  have K6 := K5.kp hI R6.1 rfl
  have hd := hd.kp hI R6.1 rfl
  have h1 := h1.kp hI R6.1 rfl
  have g3 := g3.kp hI R6.1 rfl
  have g4 := g4.kp hI R6.1 rfl
  have g5 := g5.kp hI R6.1 rfl
  have g6 := R6.2
  have R7 := fm_plus (to := 25) hI K6 g4 g5 rfl
  obtain ⟨X7, eX7⟩ : ∃ Y, LF_M_plus X6 (r 25) (r 25) (r 26) (r 10) = Y := ⟨_, rfl⟩
  rw [eX7] at R7
  have K7 := K6.kp hI R7.1 rfl
  have hd := hd.kp hI R7.1 rfl
  have h1 := h1.kp hI R7.1 rfl
  have g3 := g3.kp hI R7.1 rfl
  have g6 := g6.kp hI R7.1 rfl
  have g7 := R7.2
  have R8 := fm_times (to := 27) hI K7 g6 hd rfl
  obtain ⟨X8, eX8⟩ : ∃ Y, LF_M_times X7 r (r 27) (r 27) (r 14) (r 10) (r 11) = Y := ⟨_, rfl⟩
  rw [eX8] at R8
  have K8 := K7.kp hI R8.1 rfl
  have h1 := h1.kp hI R8.1 rfl
  have g3 := g3.kp hI R8.1 rfl
  have g7 := g7.kp hI R8.1 rfl
  have g8 := R8.2
  have R9 := fm_plus (to := 28) hI K8 h1 g8 rfl
  obtain ⟨X9, eX9⟩ : ∃ Y, LF_M_plus X8 (r 28) (r 30) (r 27) (r 10) = Y := ⟨_, rfl⟩
  rw [eX9] at R9
  have K9 := K8.kp hI R9.1 rfl
  have h1 := h1.kp hI R9.1 rfl
  have g3 := g3.kp hI R9.1 rfl
  have g7 := g7.kp hI R9.1 rfl
  have g8 := g8.kp hI R9.1 rfl
  have g9 := R9.2
  have R10 := fm_minus (to := 29) hI K9 h1 g8 rfl
  obtain ⟨X10, eX10⟩ : ∃ Y, LF_M_minus X9 (r 29) (r 30) (r 27) (r 10) = Y := ⟨_, rfl⟩
  rw [eX10] at R10
  have K10 := K9.kp hI R10.1 rfl
  have g3 := g3.kp hI R10.1 rfl
  have g7 := g7.kp hI R10.1 rfl
  have g9 := g9.kp hI R10.1 rfl
  have g10 := R10.2
  have R11 := fm_times (to := 26) hI K10 g9 g10 rfl
  obtain ⟨X11, eX11⟩ : ∃ Y, LF_M_times X10 r (r 26) (r 28) (r 29) (r 10) (r 11) = Y := ⟨_, rfl⟩
  rw [eX11] at R11
  have K11 := K10.kp hI R11.1 rfl
  have g3 := g3.kp hI R11.1 rfl
  have g7 := g7.kp hI R11.1 rfl
  have g9 := g9.kp hI R11.1 rfl
  have g10 := g10.kp hI R11.1 rfl
  have g11 := R11.2
  have R12 := fm_inv (to := 26) hI K11 g11 rfl
  obtain ⟨X12, eX12⟩ : ∃ Y, LF_M_inverse X11 r (r 26) (r 26) (r 10) = Y := ⟨_, rfl⟩
  rw [eX12] at R12
  have K12 := K11.kp hI R12.1 rfl
  have g3 := g3.kp hI R12.1 rfl
  have g7 := g7.kp hI R12.1 rfl
  have g9 := g9.kp hI R12.1 rfl
  have g10 := g10.kp hI R12.1 rfl
  have g12 := R12.2
  have R13 := fm_times (to := 24) hI K12 g3 g10 rfl
  obtain ⟨X13, eX13⟩ : ∃ Y, LF_M_times X12 r (r 24) (r 24) (r 29) (r 10) (r 11) = Y := ⟨_, rfl⟩
  rw [eX13] at R13
  have K13 := K12.kp hI R13.1 rfl
  have g7 := g7.kp hI R13.1 rfl
  have g9 := g9.kp hI R13.1 rfl
  have g12 := g12.kp hI R13.1 rfl
  have g13 := R13.2
  have R14 := fm_times (to := 18) hI K13 g13 g12 rfl
  obtain ⟨X14, eX14⟩ : ∃ Y, LF_M_times X13 r (r 18) (r 24) (r 26) (r 10) (r 11) = Y := ⟨_, rfl⟩
  rw [eX14] at R14
  have K14 := K13.kp hI R14.1 rfl
  have g7 := g7.kp hI R14.1 rfl
  have g9 := g9.kp hI R14.1 rfl
  have g12 := g12.kp hI R14.1 rfl
  have g14 := R14.2
  have R15 := fm_times (to := 25) hI K14 g7 g9 rfl
  obtain ⟨X15, eX15⟩ : ∃ Y, LF_M_times X14 r (r 25) (r 25) (r 28) (r 10) (r 11) = Y := ⟨_, rfl⟩
  rw [eX15] at R15
  have K15 := K14.kp hI R15.1 rfl
  have g12 := g12.kp hI R15.1 rfl
  have g14 := g14.kp hI R15.1 rfl
  have g15 := R15.2
  have R16 := fm_times (to := 19) hI K15 g15 g12 rfl
  obtain ⟨X16, eX16⟩ : ∃ Y, LF_M_times X15 r (r 19) (r 25) (r 26) (r 10) (r 11) = Y := ⟨_, rfl⟩
  rw [eX16] at R16
  have K16 := K15.kp hI R16.1 rfl
  have g14 := g14.kp hI R16.1 rfl
  have g16 := R16.2
  have hX : LF_M_add X r (r 18) (r 19) (r 20) (r 21) = X16 := by subst eX1 eX2 eX3 eX4 eX5 eX6 eX7 eX8 eX9 eX10 eX11 eX12 eX13 eX14 eX15 eX16; rfl
  rw [hX]
  have e := add_id c1 c2
  exact ⟨(((((((((((((((((onM.rf (l := [18, 19, 24, 25, 26, 27, 28, 29, 40, 41, 42, 43, 44, 45])).ad R1.1 rfl).ad R2.1 rfl).ad R3.1 rfl).ad R4.1 rfl).ad R5.1 rfl).ad R6.1 rfl).ad R7.1 rfl).ad R8.1 rfl).ad R9.1 rfl).ad R10.1 rfl).ad R11.1 rfl).ad R12.1 rfl).ad R13.1 rfl).ad R14.1 rfl).ad R15.1 rfl).ad R16.1 rfl), g14.ev e.1, g16.ev e.2⟩
set_option maxHeartbeats 4000000 in
theorem fm_adr {X : vM} {r : Nat → Nat} {x y a b : Fp} (hI : MInj r) (hK : Kp X r) (hd : Fm X (r 14) eD) (h1 : Fm X (r 30) 1) (hx : Fm X (r 18) x) (hy : Fm X (r 19) y) (ha : Fm X (r 22) a) (hb : Fm X (r 23) b) (c1 : onC x y) (c2 : onC a b) : onM r [18, 19, 24, 25, 26, 27, 28, 29, 40, 41, 42, 43, 44, 45] X (LF_M_add X r (r 18) (r 19) (r 22) (r 23)) ∧ Fm (LF_M_add X r (r 18) (r 19) (r 22) (r 23)) (r 18) (eadd (x, y) (a, b)).1 ∧ Fm (LF_M_add X r (r 18) (r 19) (r 22) (r 23)) (r 19) (eadd (x, y) (a, b)).2 := by
  have R1 := fm_times (to := 24) hI hK hx hb rfl
  obtain ⟨X1, eX1⟩ : ∃ Y, LF_M_times X r (r 24) (r 18) (r 23) (r 10) (r 11) = Y := ⟨_, rfl⟩
  rw [eX1] at R1
  have K1 := hK.kp hI R1.1 rfl
  have hx := hx.kp hI R1.1 rfl
  have hy := hy.kp hI R1.1 rfl
  have hd := hd.kp hI R1.1 rfl
  have h1 := h1.kp hI R1.1 rfl
  have ha := ha.kp hI R1.1 rfl
  have hb := hb.kp hI R1.1 rfl
  have g1 := R1.2
  have R2 := fm_times (to := 25) hI K1 hy ha rfl
  obtain ⟨X2, eX2⟩ : ∃ Y, LF_M_times X1 r (r 25) (r 19) (r 22) (r 10) (r 11) = Y := ⟨_, rfl⟩
  rw [eX2] at R2
  have K2 := K1.kp hI R2.1 rfl
  have hx := hx.kp hI R2.1 rfl
  have hy := hy.kp hI R2.1 rfl
  have hd := hd.kp hI R2.1 rfl
  have h1 := h1.kp hI R2.1 rfl
  have ha := ha.kp hI R2.1 rfl
  have hb := hb.kp hI R2.1 rfl
  have g1 := g1.kp hI R2.1 rfl
  have g2 := R2.2
  have R3 := fm_plus (to := 24) hI K2 g1 g2 rfl
  obtain ⟨X3, eX3⟩ : ∃ Y, LF_M_plus X2 (r 24) (r 24) (r 25) (r 10) = Y := ⟨_, rfl⟩
  rw [eX3] at R3
  have K3 := K2.kp hI R3.1 rfl
  have hx := hx.kp hI R3.1 rfl
  have hy := hy.kp hI R3.1 rfl
  have hd := hd.kp hI R3.1 rfl
  have h1 := h1.kp hI R3.1 rfl
  have ha := ha.kp hI R3.1 rfl
  have hb := hb.kp hI R3.1 rfl
  have g3 := R3.2
  have R4 := fm_times (to := 25) hI K3 hy hb rfl
  obtain ⟨X4, eX4⟩ : ∃ Y, LF_M_times X3 r (r 25) (r 19) (r 23) (r 10) (r 11) = Y := ⟨_, rfl⟩
  rw [eX4] at R4
  have K4 := K3.kp hI R4.1 rfl
  have hx := hx.kp hI R4.1 rfl
  have hd := hd.kp hI R4.1 rfl
  have h1 := h1.kp hI R4.1 rfl
  have ha := ha.kp hI R4.1 rfl
  have g3 := g3.kp hI R4.1 rfl
  have g4 := R4.2
  have R5 := fm_times (to := 26) hI K4 hx ha rfl
  obtain ⟨X5, eX5⟩ : ∃ Y, LF_M_times X4 r (r 26) (r 18) (r 22) (r 10) (r 11) = Y := ⟨_, rfl⟩
  rw [eX5] at R5
  have K5 := K4.kp hI R5.1 rfl
  have hd := hd.kp hI R5.1 rfl
  have h1 := h1.kp hI R5.1 rfl
  have g3 := g3.kp hI R5.1 rfl
  have g4 := g4.kp hI R5.1 rfl
  have g5 := R5.2
  have R6 := fm_times (to := 27) hI K5 g4 g5 rfl
  obtain ⟨X6, eX6⟩ : ∃ Y, LF_M_times X5 r (r 27) (r 25) (r 26) (r 10) (r 11) = Y := ⟨_, rfl⟩
  rw [eX6] at R6
  have K6 := K5.kp hI R6.1 rfl
  have hd := hd.kp hI R6.1 rfl
  have h1 := h1.kp hI R6.1 rfl
  have g3 := g3.kp hI R6.1 rfl
  have g4 := g4.kp hI R6.1 rfl
  have g5 := g5.kp hI R6.1 rfl
  have g6 := R6.2
  have R7 := fm_plus (to := 25) hI K6 g4 g5 rfl
  obtain ⟨X7, eX7⟩ : ∃ Y, LF_M_plus X6 (r 25) (r 25) (r 26) (r 10) = Y := ⟨_, rfl⟩
  rw [eX7] at R7
  have K7 := K6.kp hI R7.1 rfl
  have hd := hd.kp hI R7.1 rfl
  have h1 := h1.kp hI R7.1 rfl
  have g3 := g3.kp hI R7.1 rfl
  have g6 := g6.kp hI R7.1 rfl
  have g7 := R7.2
  have R8 := fm_times (to := 27) hI K7 g6 hd rfl
  obtain ⟨X8, eX8⟩ : ∃ Y, LF_M_times X7 r (r 27) (r 27) (r 14) (r 10) (r 11) = Y := ⟨_, rfl⟩
  rw [eX8] at R8
  have K8 := K7.kp hI R8.1 rfl
  have h1 := h1.kp hI R8.1 rfl
  have g3 := g3.kp hI R8.1 rfl
  have g7 := g7.kp hI R8.1 rfl
  have g8 := R8.2
  have R9 := fm_plus (to := 28) hI K8 h1 g8 rfl
  obtain ⟨X9, eX9⟩ : ∃ Y, LF_M_plus X8 (r 28) (r 30) (r 27) (r 10) = Y := ⟨_, rfl⟩
  rw [eX9] at R9
  have K9 := K8.kp hI R9.1 rfl
  have h1 := h1.kp hI R9.1 rfl
  have g3 := g3.kp hI R9.1 rfl
  have g7 := g7.kp hI R9.1 rfl
  have g8 := g8.kp hI R9.1 rfl
  have g9 := R9.2
  have R10 := fm_minus (to := 29) hI K9 h1 g8 rfl
  obtain ⟨X10, eX10⟩ : ∃ Y, LF_M_minus X9 (r 29) (r 30) (r 27) (r 10) = Y := ⟨_, rfl⟩
  rw [eX10] at R10
  have K10 := K9.kp hI R10.1 rfl
  have g3 := g3.kp hI R10.1 rfl
  have g7 := g7.kp hI R10.1 rfl
  have g9 := g9.kp hI R10.1 rfl
  have g10 := R10.2
  have R11 := fm_times (to := 26) hI K10 g9 g10 rfl
  obtain ⟨X11, eX11⟩ : ∃ Y, LF_M_times X10 r (r 26) (r 28) (r 29) (r 10) (r 11) = Y := ⟨_, rfl⟩
  rw [eX11] at R11
  have K11 := K10.kp hI R11.1 rfl
  have g3 := g3.kp hI R11.1 rfl
  have g7 := g7.kp hI R11.1 rfl
  have g9 := g9.kp hI R11.1 rfl
  have g10 := g10.kp hI R11.1 rfl
  have g11 := R11.2
  have R12 := fm_inv (to := 26) hI K11 g11 rfl
  obtain ⟨X12, eX12⟩ : ∃ Y, LF_M_inverse X11 r (r 26) (r 26) (r 10) = Y := ⟨_, rfl⟩
  rw [eX12] at R12
  have K12 := K11.kp hI R12.1 rfl
  have g3 := g3.kp hI R12.1 rfl
  have g7 := g7.kp hI R12.1 rfl
  have g9 := g9.kp hI R12.1 rfl
  have g10 := g10.kp hI R12.1 rfl
  have g12 := R12.2
  have R13 := fm_times (to := 24) hI K12 g3 g10 rfl
  obtain ⟨X13, eX13⟩ : ∃ Y, LF_M_times X12 r (r 24) (r 24) (r 29) (r 10) (r 11) = Y := ⟨_, rfl⟩
  rw [eX13] at R13
  have K13 := K12.kp hI R13.1 rfl
  have g7 := g7.kp hI R13.1 rfl
  have g9 := g9.kp hI R13.1 rfl
  have g12 := g12.kp hI R13.1 rfl
  have g13 := R13.2
  have R14 := fm_times (to := 18) hI K13 g13 g12 rfl
  obtain ⟨X14, eX14⟩ : ∃ Y, LF_M_times X13 r (r 18) (r 24) (r 26) (r 10) (r 11) = Y := ⟨_, rfl⟩
  rw [eX14] at R14
  have K14 := K13.kp hI R14.1 rfl
  have g7 := g7.kp hI R14.1 rfl
  have g9 := g9.kp hI R14.1 rfl
  have g12 := g12.kp hI R14.1 rfl
  have g14 := R14.2
  have R15 := fm_times (to := 25) hI K14 g7 g9 rfl
  obtain ⟨X15, eX15⟩ : ∃ Y, LF_M_times X14 r (r 25) (r 25) (r 28) (r 10) (r 11) = Y := ⟨_, rfl⟩
  rw [eX15] at R15
  have K15 := K14.kp hI R15.1 rfl
  have g12 := g12.kp hI R15.1 rfl
  have g14 := g14.kp hI R15.1 rfl
  have g15 := R15.2
  have R16 := fm_times (to := 19) hI K15 g15 g12 rfl
  obtain ⟨X16, eX16⟩ : ∃ Y, LF_M_times X15 r (r 19) (r 25) (r 26) (r 10) (r 11) = Y := ⟨_, rfl⟩
  rw [eX16] at R16
  have K16 := K15.kp hI R16.1 rfl
  have g14 := g14.kp hI R16.1 rfl
  have g16 := R16.2
  have hX : LF_M_add X r (r 18) (r 19) (r 22) (r 23) = X16 := by subst eX1 eX2 eX3 eX4 eX5 eX6 eX7 eX8 eX9 eX10 eX11 eX12 eX13 eX14 eX15 eX16; rfl
  rw [hX]
  have e := add_id c1 c2
  exact ⟨(((((((((((((((((onM.rf (l := [18, 19, 24, 25, 26, 27, 28, 29, 40, 41, 42, 43, 44, 45])).ad R1.1 rfl).ad R2.1 rfl).ad R3.1 rfl).ad R4.1 rfl).ad R5.1 rfl).ad R6.1 rfl).ad R7.1 rfl).ad R8.1 rfl).ad R9.1 rfl).ad R10.1 rfl).ad R11.1 rfl).ad R12.1 rfl).ad R13.1 rfl).ad R14.1 rfl).ad R15.1 rfl).ad R16.1 rfl), g14.ev e.1, g16.ev e.2⟩
theorem m_bitN {X : vM} {a i n : Nat} (ha : M16 X a (n : Int)) (hi : i < 256) : (LF_M_bit X a i = nI 1) ↔ n / 2 ^ i % 2 = 1 := by
  rw [m_bit ha hi]
  have e : (n : Int) / 2 ^ i % 2 = ((n / 2 ^ i % 2 : Nat) : Int) := by
    rw [Int.natCast_emod, Int.natCast_ediv, Int.natCast_pow]
    rfl
  rw [e]
  omega
theorem sh_b (n k : Nat) : n / 2 ^ k = 2 * (n / 2 ^ (k + 1)) + n / 2 ^ k % 2 := by
  rw [Nat.pow_succ, ← Nat.div_div_eq_div_mul]
  omega
/-- powers -/
theorem fm_power {X : vM} {r : Nat → Nat} {to a ex n : Nat} {v : Fp} (hI : MInj r) (hK : Kp X r) (hv : Fm X (r a) v) (hn : M16 X (r ex) (n : Int)) (hc : (okL a [28, 40, 41] && okL ex [28, 40, 41]) = true) : onM r [28, 40, 41, to] X (LF_M_power X r (r to) (r a) (r ex)) ∧ Fm (LF_M_power X r (r to) (r a) (r ex)) (r to) (fpw v n) := by
  rw [Bool.and_eq_true] at hc
  obtain ⟨ca, ce⟩ := hc
  have c1 : (okN a 40 = true) := by have := List.all_eq_true.mp ca 40 (by simp); exact this
  have key : ∀ (k : Nat) (Y : vM), k ≤ 256 → onM r [28, 40, 41] X Y → Fm Y (r 28) (fpw v (n / 2 ^ k)) → onM r [28, 40, 41] X (lpD (LL_M_power_13 r (r ex) (r a)) k Y) ∧ Fm (lpD (LL_M_power_13 r (r ex) (r a)) k Y) (r 28) (fpw v n) := by
    intro k
    induction k with
    | zero =>
      intro Y _ ho hf
      rw [Nat.pow_zero, Nat.div_one] at hf
      exact ⟨ho, hf⟩
    | succ k ih =>
      intro Y hk ho hf
      have K0 := hK.kp hI ho rfl
      have q1 := fm_times (to := 28) hI K0 hf hf rfl
      obtain ⟨Z, eZ⟩ : ∃ Z, LF_M_times Y r (r 28) (r 28) (r 28) (r 10) (r 11) = Z := ⟨_, rfl⟩
      rw [eZ] at q1
      have o1 : onM r [28, 40, 41] X Z := ho.ad q1.1 rfl
      have hb := m_bitN (i := k) (hn.kp hI o1 ce) (by omega)
      show _ ∧ _
      have e : LL_M_power_13 r (r ex) (r a) k Y = if LF_M_bit Z (r ex) k = nI 1 then LF_M_times Z r (r 28) (r 28) (r a) (r 10) (r 11) else Z := by
        unfold LL_M_power_13
        simp only []
        rw [eZ]
      have es : lpD (LL_M_power_13 r (r ex) (r a)) (k + 1) Y = lpD (LL_M_power_13 r (r ex) (r a)) k (LL_M_power_13 r (r ex) (r a) k Y) := rfl
      rw [es, e]
      have ev : fpw v (n / 2 ^ (k + 1)) * fpw v (n / 2 ^ (k + 1)) = fpw v (2 * (n / 2 ^ (k + 1))) := by rw [← fpw_add, Nat.two_mul]
      by_cases h : n / 2 ^ k % 2 = 1
      · rw [if_pos (hb.mpr h)]
        have q2 := fm_times (to := 28) hI (K0.kp hI q1.1 rfl) q1.2 (hv.kp hI o1 ca) (by rw [c1]; rfl)
        refine ih _ (by omega) (o1.ad q2.1 rfl) (q2.2.ev ?_)
        rw [ev, show n / 2 ^ k = 2 * (n / 2 ^ (k + 1)) + 1 by have := sh_b n k; omega]
        rfl
      · rw [if_neg (fun z => h (hb.mp z))]
        refine ih _ (by omega) o1 (q1.2.ev ?_)
        rw [ev, show n / 2 ^ k = 2 * (n / 2 ^ (k + 1)) by have := sh_b n k; omega]
  have q0 := fm_set (X := X) (r := r) (to := 28) 1 (by decide)
  have hlt : n < 2 ^ 256 := by
    have := hn.1.2
    omega
  obtain ⟨k1, k2⟩ := key 256 (LF_M_set X (r 28) (nI 1)) (by omega) (q0.1.mono rfl) (q0.2.ev (by
    rw [Nat.div_eq_of_lt hlt]
    show iF 1 = 1
    decide))
  have q3 := fm_copy (to := to) k2
  exact ⟨(k1.mono (m := [28, 40, 41, to]) (by simp)).tr (q3.1.mono (by simp)), q3.2⟩
/-- multiples of a point -/
def muW : List Nat := [18, 19, 24, 25, 26, 27, 28, 29, 40, 41, 42, 43, 44, 45]
theorem fm_multiply {X : vM} {r : Nat → Nat} {ex n : Nat} {Q : Pt2} (hI : MInj r) (hK : Kp X r) (hd : Fm X (r 14) eD) (h1 : Fm X (r 30) 1) (ha : Fm X (r 20) Q.1) (hb : Fm X (r 21) Q.2) (hQ : onC Q.1 Q.2) (hn : M16 X (r ex) (n : Int)) (hc : okL ex muW = true) : onM r muW X (LF_M_multiply X r (r ex)) ∧ Fm (LF_M_multiply X r (r ex)) (r 18) (emul Q n).1 ∧ Fm (LF_M_multiply X r (r ex)) (r 19) (emul Q n).2 := by
  have key : ∀ (k : Nat) (Y : vM), k ≤ 256 → onM r muW X Y → Fm Y (r 18) (emul Q (n / 2 ^ k)).1 → Fm Y (r 19) (emul Q (n / 2 ^ k)).2 → onM r muW X (lpD (LL_M_multiply_20 r (r ex)) k Y) ∧ Fm (lpD (LL_M_multiply_20 r (r ex)) k Y) (r 18) (emul Q n).1 ∧ Fm (lpD (LL_M_multiply_20 r (r ex)) k Y) (r 19) (emul Q n).2 := by
    intro k
    induction k with
    | zero =>
      intro Y _ ho hx hy
      rw [Nat.pow_zero, Nat.div_one] at hx hy
      exact ⟨ho, hx, hy⟩
    | succ k ih =>
      intro Y hk ho hx hy
      have hP := emul_on hQ (n / 2 ^ (k + 1))
      have e2 : eadd (emul Q (n / 2 ^ (k + 1))) (emul Q (n / 2 ^ (k + 1))) = emul Q (2 * (n / 2 ^ (k + 1))) := by rw [← emul_add hQ, Nat.two_mul]
      obtain ⟨Z, eZ⟩ : ∃ Z, (if LF_M_zero Y (r 18) = true then (if LF_M_one Y (r 19) = true then Y else LF_M_add Y r (r 18) (r 19) (r 18) (r 19)) else LF_M_add Y r (r 18) (r 19) (r 18) (r 19)) = Z := ⟨_, rfl⟩
      have hZ : onM r muW X Z ∧ Fm Z (r 18) (emul Q (2 * (n / 2 ^ (k + 1)))).1 ∧ Fm Z (r 19) (emul Q (2 * (n / 2 ^ (k + 1)))).2 := by
        have q := fm_dbl hI (hK.kp hI ho rfl) (hd.kp hI ho rfl) (h1.kp hI ho rfl) hx hy hP
        rw [show eadd ((emul Q (n / 2 ^ (k + 1))).1, (emul Q (n / 2 ^ (k + 1))).2) ((emul Q (n / 2 ^ (k + 1))).1, (emul Q (n / 2 ^ (k + 1))).2) = emul Q (2 * (n / 2 ^ (k + 1))) from e2] at q
        have hq : onM r muW X (LF_M_add Y r (r 18) (r 19) (r 18) (r 19)) ∧ Fm (LF_M_add Y r (r 18) (r 19) (r 18) (r 19)) (r 18) (emul Q (2 * (n / 2 ^ (k + 1)))).1 ∧ Fm (LF_M_add Y r (r 18) (r 19) (r 18) (r 19)) (r 19) (emul Q (2 * (n / 2 ^ (k + 1)))).2 := ⟨ho.ad q.1 rfl, q.2⟩
        rw [← eZ]
        by_cases c1 : LF_M_zero Y (r 18) = true
        · rw [if_pos c1]
          by_cases c2 : LF_M_one Y (r 19) = true
          · rw [if_pos c2]
            rw [fm_zero hx] at c1
            rw [fm_one hy] at c2
            have hO : emul Q (n / 2 ^ (k + 1)) = eO := Prod.ext (of_decide_eq_true c1) (of_decide_eq_true c2)
            have hO2 : emul Q (2 * (n / 2 ^ (k + 1))) = emul Q (n / 2 ^ (k + 1)) := by rw [← e2, hO, eadd_O]
            rw [hO2]
            exact ⟨ho, hx, hy⟩
          · rw [if_neg c2]
            exact hq
        · rw [if_neg c1]
          exact hq
      obtain ⟨z1, z2, z3⟩ := hZ
      have hbt := m_bitN (i := k) (hn.kp hI z1 hc) (by omega)
      have e : LL_M_multiply_20 r (r ex) k Y = if LF_M_bit Z (r ex) k = nI 1 then LF_M_add Z r (r 18) (r 19) (r 20) (r 21) else Z := by
        rw [← eZ]
        rfl
      have es : lpD (LL_M_multiply_20 r (r ex)) (k + 1) Y = lpD (LL_M_multiply_20 r (r ex)) k (LL_M_multiply_20 r (r ex) k Y) := rfl
      rw [es, e]
      by_cases h : n / 2 ^ k % 2 = 1
      · rw [if_pos (hbt.mpr h)]
        have q := fm_adq hI (hK.kp hI z1 rfl) (hd.kp hI z1 rfl) (h1.kp hI z1 rfl) z2 z3 (ha.kp hI z1 rfl) (hb.kp hI z1 rfl) (emul_on hQ _) hQ
        have e3 : eadd ((emul Q (2 * (n / 2 ^ (k + 1)))).1, (emul Q (2 * (n / 2 ^ (k + 1)))).2) (Q.1, Q.2) = emul Q (n / 2 ^ k) := by
          rw [show n / 2 ^ k = 2 * (n / 2 ^ (k + 1)) + 1 by have := sh_b n k; omega]
          rfl
        rw [e3] at q
        exact ih _ (by omega) (z1.ad q.1 rfl) q.2.1 q.2.2
      · rw [if_neg (fun z => h (hbt.mp z))]
        have e3 : n / 2 ^ k = 2 * (n / 2 ^ (k + 1)) := by have := sh_b n k; omega
        rw [← e3] at z2 z3
        exact ih _ (by omega) z1 z2 z3
  have hlt : n < 2 ^ 256 := by
    have := hn.1.2
    omega
  have q0 := fm_set (X := X) (r := r) (to := 18) 0 (by decide)
  have q1 := fm_set (X := LF_M_set X (r 18) (nI 0)) (r := r) (to := 19) 1 (by decide)
  have h18 := q0.2.kp hI q1.1 rfl
  have h := key 256 (LF_M_set (LF_M_set X (r 18) (nI 0)) (r 19) (nI 1)) (by omega) ((q0.1.mono (m := muW) rfl).ad q1.1 rfl) (h18.ev (by
    rw [Nat.div_eq_of_lt hlt]
    show iF 0 = 0
    decide)) (q1.2.ev (by
    rw [Nat.div_eq_of_lt hlt]
    show iF 1 = 1
    decide))
  exact h
theorem fm_fromBase {X : vM} {r : Nat → Nat} {ex n : Nat} {Q : Pt2} (hI : MInj r) (hK : Kp X r) (hd : Fm X (r 14) eD) (h1 : Fm X (r 30) 1) (ha : Fm X (r 16) Q.1) (hb : Fm X (r 17) Q.2) (hQ : onC Q.1 Q.2) (hn : M16 X (r ex) (n : Int)) (hc : okL ex (20 :: 21 :: muW) = true) : onM r (20 :: 21 :: muW) X (LF_M_fromBase X r (r ex)) ∧ Fm (LF_M_fromBase X r (r ex)) (r 18) (emul Q n).1 ∧ Fm (LF_M_fromBase X r (r ex)) (r 19) (emul Q n).2 := by
  have q1 := fm_copy (to := 20) ha
  have q2 := fm_copy (to := 21) (hb.kp hI q1.1 rfl)
  have oo : onM r (20 :: 21 :: muW) X (LF_M_copy (LF_M_copy X (r 20) (r 16)) (r 21) (r 17)) := (q1.1.mono (m := 20 :: 21 :: muW) rfl).ad q2.1 rfl
  have hc2 : okL ex muW = true := List.all_eq_true.mpr (fun x hx => List.all_eq_true.mp hc x (List.mem_cons_of_mem _ (List.mem_cons_of_mem _ hx)))
  have q := fm_multiply hI (hK.kp hI oo rfl) (hd.kp hI oo rfl) (h1.kp hI oo rfl) (q1.2.kp hI q2.1 rfl) q2.2 hQ (hn.kp hI oo hc) hc2
  exact ⟨oo.ad q.1 rfl, q.2⟩
