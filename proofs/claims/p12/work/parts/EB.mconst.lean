/-! the reference's constants, as its constructor leaves them -/
theorem fpw_c {a b : Fp} {n : Nat} (hn : n < 2 ^ 256) (h : mpw pP 256 a.val n = b.val) : fpw a n = b := Fin.ext (by rw [fpw_val, ← mpw_eq pP 256 a.val n hn, h])
theorem fpi_c {a b : Fp} (h : a * b = 1) : fpi a = b := (fpi_uniq h).symm
theorem k_eD : iF ((0 : Nat) : Int) - iF 121665 * fpi (iF 121666) = eD := by
  rw [fpi_c (a := iF 121666) (b := 37095705934669439343138083508754565189542113879843219016388785533085940283556) (by decide +kernel)]
  decide +kernel
theorem k_eI : fpw (iF ((2 : Nat) : Int)) 14474011154664524427946373126085988481658748083205070504932198000989141204987 = eI := fpw_c (by decide +kernel) (by decide +kernel)
theorem k_By : iF ((4 : Nat) : Int) * fpi (iF ((5 : Nat) : Int)) = eB.2 := by
  rw [fpi_c (a := iF ((5 : Nat) : Int)) (b := 11579208923731619542357098500868790785326998466564056403945758400791312963990) (by decide +kernel)]
  decide +kernel
theorem k_w : rtW eB.2 = 26187595835145689230469591415084376402084551887632582719101735842039498021991 := by
  unfold rtW
  rw [fpi_c (a := eB.2 * eB.2 * eD + 1) (b := 36615873626505047815401509688526422966742341385236691817538452001808239043262) (by decide +kernel)]
  decide +kernel
theorem k_t : rtT 26187595835145689230469591415084376402084551887632582719101735842039498021991 = 42783823269122696939284341094755422415180979639778424813682678720006717057747 := fpw_c (by decide +kernel) (by decide +kernel)
theorem k_x : rtX 26187595835145689230469591415084376402084551887632582719101735842039498021991 = 42783823269122696939284341094755422415180979639778424813682678720006717057747 := by
  unfold rtX
  rw [k_t]
  exact if_pos (by decide +kernel)
theorem k_ok : dOK (rtW eB.2) 0 = true := by
  unfold dOK
  rw [k_w, k_x]
  decide +kernel
theorem k_dX : dX (rtW eB.2) 0 = eB.1 := by
  unfold dX
  rw [k_w, k_x]
  decide +kernel
theorem m_two {Y : vM} {a : Nat} {u v : Int64} {N : Int} (h : M16 Y a 0) (hN : 0 ≤ N ∧ N < 115792089237316195423570985008687907853269984665640564039457584007913129639936) (hd : ∀ i, i < 16 → Int64.ofInt (dgI N i) = if i = 1 then v else if i = 0 then u else 0) : M16 (stL (stL Y a 0 u) a 1 v) a N := ⟨hN, fun i hi => by
  rw [hd i hi]
  show (if a = a ∧ i = 1 then v else if a = a ∧ i = 0 then u else Y.1 a i) = _
  by_cases h1 : i = 1
  · rw [if_pos ⟨rfl, h1⟩, if_pos h1]
  · rw [if_neg (fun z => h1 z.2), if_neg h1]
    by_cases h0 : i = 0
    · rw [if_pos ⟨rfl, h0⟩, if_pos h0]
    · rw [if_neg (fun z => h0 z.2), if_neg h0, h.2 i hi]
      unfold dgI
      rw [Int.zero_ediv]
      rfl⟩
theorem st2_on {Y : vM} {a i j : Nat} {u v : Int64} {S : List Nat} (hs : a ∈ S) : onL S Y (stL (stL Y a i u) a j v) := ⟨rfl, fun b hb => funext fun k => by
  have hn : b ≠ a := fun z => hb (by rw [z]; exact hs)
  show (if b = a ∧ k = j then v else if b = a ∧ k = i then u else Y.1 b k) = _
  rw [if_neg (fun z => hn z.1), if_neg (fun z => hn z.1)]⟩
theorem st2_ne {Y : vM} {a b i j : Nat} {u v : Int64} {N : Int} (h : M16 Y b N) (hn : b ≠ a) : M16 (stL (stL Y a i u) a j v) b N := M16.on (S := [a]) (st2_on List.mem_cons_self) (fun z => hn (List.mem_singleton.mp z)) h
theorem k_pd : ∀ i, i < 16 → (if i = 0 then (65517 : Int64) else (if i = 15 then (32767 : Int64) else (65535 : Int64))) = Int64.ofInt (dgI (pP : Int) i) := by decide +kernel
theorem k_ed : ∀ i, i < 16 → (if i = 0 then (65531 : Int64) else (if i = 15 then (8191 : Int64) else (65535 : Int64))) = Int64.ofInt (dgI ((14474011154664524427946373126085988481658748083205070504932198000989141204987 : Nat) : Int) i) := by decide +kernel
theorem k_ld : ∀ i, i < 16 → 8 ≤ i → (if i = 15 then (4096 : Int64) else (0 : Int64)) = Int64.ofInt (dgI (lL : Int) i) := by decide +kernel
theorem k_by : leN (fun i => ((((Int64.ofInt (dgI (eB.2.val : Int) (i / 2))) >>> ((nI (8 * (i % 2))).toInt64 &&& 63)).toInt32).toInt8.toInt32).toInt8.toInt32) 32 = eB.2.val := by decide +kernel
theorem k_b31 : ub (((((Int64.ofInt (dgI (eB.2.val : Int) (31 / 2))) >>> ((nI (8 * (31 % 2))).toInt64 &&& 63)).toInt32).toInt8.toInt32).toInt8.toInt32) / 128 = 0 := by decide +kernel
theorem k_bm : eB.2.val % 57896044618658097711785492504343953926634992332820282019728792003956564819968 = eB.2.val := by decide +kernel
theorem k_blt : eB.2.val < pP := eB.2.isLt
set_option maxHeartbeats 4000000 in
theorem m_init {X : vM} {r : Nat → Nat} (hI : MInj r) (hlow : ∀ i, i < 8 → (X.2 (r 39) i).toInt64 = Int64.ofInt (dgI (lL : Int) i)) : Mx (LF_M_init X r) r := by
  obtain ⟨X1, eX1⟩ : ∃ Y, LF_M_constants X r = Y := ⟨_, rfl⟩
  obtain ⟨o1, c7, c6⟩ := m_consts (X := X) hI
  rw [eX1] at o1 c7 c6
  obtain ⟨R4, eR4⟩ : ∃ Y, lpU 1 (LL_M_init_443 r) 16 0 X1 = Y := ⟨_, rfl⟩
  have q4 : mR X1 R4 (r 10) (pP : Int) := mR.mk' (eR4.symm.trans ((lp_sv (r 10) 16 _ X1 (fun i => if i = 0 then (65517 : Int64) else (if i = 15 then (32767 : Int64) else (65535 : Int64))) (fun i _ => st_sv X1 (r 10) i (fun i => if i = 0 then (65517 : Int64) else (if i = 15 then (32767 : Int64) else (65535 : Int64))))).trans (svL_ext k_pd))) (by decide)
  have o4 : onM r [10] X1 R4 := q4.on List.mem_cons_self
  have c7 := fun i hi => (congrFun (o4.2 (r 46) (hI.ni 46 rfl)) i).trans (c7 i hi)
  have c6 := fun i hi => (congrFun (o4.2 (r 47) (hI.ni 47 rfl)) i).trans (c6 i hi)
  have hp := q4.2
  obtain ⟨X11, eX11⟩ : ∃ Y, LF_M_remainders R4 (r 11) (r 10) (r 24) = Y := ⟨_, rfl⟩
  obtain ⟨o11, t11⟩ := m_rem (t := r 11) (w := r 24) hp (by decide) (hI.ne 10 24 rfl) (hI.ne 10 11 rfl) (hI.ne 11 24 rfl)
  rw [eX11] at o11 t11
  have o11 : onM r [11, 24] R4 X11 := o11
  have c7 := fun i hi => (congrFun (o11.2 (r 46) (hI.ni 46 rfl)) i).trans (c7 i hi)
  have c6 := fun i hi => (congrFun (o11.2 (r 47) (hI.ni 47 rfl)) i).trans (c6 i hi)
  have hK : Kp X11 r := ⟨hp.kp hI o11 rfl, t11⟩
  obtain ⟨R14, eR14⟩ : ∃ Y, lpU 1 (LL_M_init_503 r) 16 0 X11 = Y := ⟨_, rfl⟩
  have e39 : X11.2 (r 39) = X.2 (r 39) := by rw [o11.1, o4.1, o1.1]
  have q14 : mR X11 R14 (r 12) (lL : Int) := mR.mk' (eR14.symm.trans ((lp_sv (r 12) 16 _ X11 (fun i => if 8 ≤ i then (if i = 15 then (4096 : Int64) else (0 : Int64)) else (X11.2 (r 39) i).toInt64) (fun i _ => st_sv X11 (r 12) i (fun i => if 8 ≤ i then (if i = 15 then (4096 : Int64) else (0 : Int64)) else (X11.2 (r 39) i).toInt64))).trans (svL_ext (fun i hi => by
      show (if 8 ≤ i then (if i = 15 then (4096 : Int64) else (0 : Int64)) else (X11.2 (r 39) i).toInt64) = _
      by_cases h8 : 8 ≤ i
      · rw [if_pos h8]; exact k_ld i hi h8
      · rw [if_neg h8, e39]; exact hlow i (by omega))))) (by decide)
  have o14 : onM r [12] X11 R14 := q14.on List.mem_cons_self
  have c7 := fun i hi => (congrFun (o14.2 (r 46) (hI.ni 46 rfl)) i).trans (c7 i hi)
  have c6 := fun i hi => (congrFun (o14.2 (r 47) (hI.ni 47 rfl)) i).trans (c6 i hi)
  have hK := hK.kp hI o14 rfl
  have hq := q14.2
  obtain ⟨X21, eX21⟩ : ∃ Y, LF_M_remainders R14 (r 13) (r 12) (r 24) = Y := ⟨_, rfl⟩
  obtain ⟨o21, t21⟩ := m_rem (t := r 13) (w := r 24) hq (by decide) (hI.ne 12 24 rfl) (hI.ne 12 13 rfl) (hI.ne 13 24 rfl)
  rw [eX21] at o21 t21
  have o21 : onM r [13, 24] R14 X21 := o21
  have c7 := fun i hi => (congrFun (o21.2 (r 46) (hI.ni 46 rfl)) i).trans (c7 i hi)
  have c6 := fun i hi => (congrFun (o21.2 (r 47) (hI.ni 47 rfl)) i).trans (c6 i hi)
  have hK := hK.kp hI o21 rfl
  have hO : Ko X21 r := ⟨hq.kp hI o21 rfl, t21⟩
  obtain ⟨X22, eX22⟩ : ∃ Y, LF_M_set X21 (r 30) (nI 1) = Y := ⟨_, rfl⟩
  obtain ⟨o22, f30⟩ := fm_set (X := X21) (r := r) (to := 30) 1 (by decide)
  rw [eX22] at o22 f30
  have c7 := fun i hi => (congrFun (o22.2 (r 46) (hI.ni 46 rfl)) i).trans (c7 i hi)
  have c6 := fun i hi => (congrFun (o22.2 (r 47) (hI.ni 47 rfl)) i).trans (c6 i hi)
  have hK := hK.kp hI o22 rfl
  have hO := hO.kp hI o22 rfl
  have f30 : Fm X22 (r 30) 1 := f30
  obtain ⟨X23, eX23⟩ : ∃ Y, LF_M_set X22 (r 24) (nI 0) = Y := ⟨_, rfl⟩
  have q23 := m_set (X := X22) (to := r 24) (n := 0) (by decide)
  rw [eX23] at q23
  obtain ⟨X24, eX24⟩ : ∃ Y, LF_M_set X23 (r 25) (nI 0) = Y := ⟨_, rfl⟩
  have q24 := m_set (X := X23) (to := r 25) (n := 0) (by decide)
  rw [eX24] at q24
  obtain ⟨X26, eX26⟩ : ∃ Y, stL (stL X24 (r 24) 0 (56129 : Int64)) (r 24) 1 (1 : Int64) = Y := ⟨_, rfl⟩
  obtain ⟨X28, eX28⟩ : ∃ Y, stL (stL X26 (r 25) 0 (56130 : Int64)) (r 25) 1 (1 : Int64) = Y := ⟨_, rfl⟩
  have a26 : M16 X26 (r 24) 121665 := by
    rw [← eX26]
    exact m_two (q24.ne (hI.ne 24 25 rfl) q23.2) (by decide) (by decide +kernel)
  have b26 : M16 X26 (r 25) 0 := by
    rw [← eX26]
    exact st2_ne q24.2 (hI.ne 25 24 rfl)
  have b28 : M16 X28 (r 25) 121666 := by
    rw [← eX28]
    exact m_two b26 (by decide) (by decide +kernel)
  have a28 : M16 X28 (r 24) 121665 := by
    rw [← eX28]
    exact st2_ne a26 (hI.ne 24 25 rfl)
  have o28 : onM r [24, 25] X22 X28 := by
    have s1 : onL [r 24, r 25] X22 X24 := (q23.on (List.mem_cons_self)).tr (q24.on (List.mem_cons_of_mem _ List.mem_cons_self))
    have s2 : onL [r 24, r 25] X24 X26 := by rw [← eX26]; exact st2_on List.mem_cons_self
    have s3 : onL [r 24, r 25] X26 X28 := by rw [← eX28]; exact st2_on (List.mem_cons_of_mem _ List.mem_cons_self)
    exact (s1.tr s2).tr s3
  have c7 := fun i hi => (congrFun (o28.2 (r 46) (hI.ni 46 rfl)) i).trans (c7 i hi)
  have c6 := fun i hi => (congrFun (o28.2 (r 47) (hI.ni 47 rfl)) i).trans (c6 i hi)
  have hK := hK.kp hI o28 rfl
  have hO := hO.kp hI o28 rfl
  have f30 := f30.kp hI o28 rfl
  have fa := fm_nat a28 (by decide)
  have fb := fm_nat b28 (by decide)
  obtain ⟨X29, eX29⟩ : ∃ Y, LF_M_inverse X28 r (r 26) (r 25) (r 10) = Y := ⟨_, rfl⟩
  obtain ⟨o29, fc⟩ := fm_inv (to := 26) (a := 25) hI hK fb rfl
  rw [eX29] at o29 fc
  have c7 := fun i hi => (congrFun (o29.2 (r 46) (hI.ni 46 rfl)) i).trans (c7 i hi)
  have c6 := fun i hi => (congrFun (o29.2 (r 47) (hI.ni 47 rfl)) i).trans (c6 i hi)
  have hK := hK.kp hI o29 rfl
  have hO := hO.kp hI o29 rfl
  have f30 := f30.kp hI o29 rfl
  have fa := fa.kp hI o29 rfl
  have fb := fb.kp hI o29 rfl
  obtain ⟨X30, eX30⟩ : ∃ Y, LF_M_times X29 r (r 14) (r 24) (r 26) (r 10) (r 11) = Y := ⟨_, rfl⟩
  obtain ⟨o30, fd⟩ := fm_times (to := 14) (a := 24) (b := 26) hI hK fa fc rfl
  rw [eX30] at o30 fd
  have c7 := fun i hi => (congrFun (o30.2 (r 46) (hI.ni 46 rfl)) i).trans (c7 i hi)
  have c6 := fun i hi => (congrFun (o30.2 (r 47) (hI.ni 47 rfl)) i).trans (c6 i hi)
  have hK := hK.kp hI o30 rfl
  have hO := hO.kp hI o30 rfl
  have f30 := f30.kp hI o30 rfl
  have fa := fa.kp hI o30 rfl
  have fb := fb.kp hI o30 rfl
  have fc := fc.kp hI o30 rfl
  obtain ⟨X31, eX31⟩ : ∃ Y, LF_M_set X30 (r 25) (nI 0) = Y := ⟨_, rfl⟩
  obtain ⟨o31, fz⟩ := fm_set (X := X30) (r := r) (to := 25) 0 (by decide)
  rw [eX31] at o31 fz
  have c7 := fun i hi => (congrFun (o31.2 (r 46) (hI.ni 46 rfl)) i).trans (c7 i hi)
  have c6 := fun i hi => (congrFun (o31.2 (r 47) (hI.ni 47 rfl)) i).trans (c6 i hi)
  have hK := hK.kp hI o31 rfl
  have hO := hO.kp hI o31 rfl
  have f30 := f30.kp hI o31 rfl
  have fa := fa.kp hI o31 rfl
  have fc := fc.kp hI o31 rfl
  have fd := fd.kp hI o31 rfl
  obtain ⟨X32, eX32⟩ : ∃ Y, LF_M_minus X31 (r 14) (r 25) (r 14) (r 10) = Y := ⟨_, rfl⟩
  obtain ⟨o32, fD⟩ := fm_minus (to := 14) (a := 25) (b := 14) hI hK fz fd rfl
  rw [eX32] at o32 fD
  have c7 := fun i hi => (congrFun (o32.2 (r 46) (hI.ni 46 rfl)) i).trans (c7 i hi)
  have c6 := fun i hi => (congrFun (o32.2 (r 47) (hI.ni 47 rfl)) i).trans (c6 i hi)
  have hK := hK.kp hI o32 rfl
  have hO := hO.kp hI o32 rfl
  have f30 := f30.kp hI o32 rfl
  have fa := fa.kp hI o32 rfl
  have fc := fc.kp hI o32 rfl
  have fz := fz.kp hI o32 rfl
  have fD := fD.ev k_eD
  obtain ⟨X33, eX33⟩ : ∃ Y, LF_M_set X32 (r 24) (nI 2) = Y := ⟨_, rfl⟩
  obtain ⟨o33, f2⟩ := fm_set (X := X32) (r := r) (to := 24) 2 (by decide)
  rw [eX33] at o33 f2
  have c7 := fun i hi => (congrFun (o33.2 (r 46) (hI.ni 46 rfl)) i).trans (c7 i hi)
  have c6 := fun i hi => (congrFun (o33.2 (r 47) (hI.ni 47 rfl)) i).trans (c6 i hi)
  have hK := hK.kp hI o33 rfl
  have hO := hO.kp hI o33 rfl
  have f30 := f30.kp hI o33 rfl
  have fD := fD.kp hI o33 rfl
  obtain ⟨R36, eR36⟩ : ∃ Y, lpU 1 (LL_M_init_698 r) 16 0 X33 = Y := ⟨_, rfl⟩
  have q36 : mR X33 R36 (r 27) ((14474011154664524427946373126085988481658748083205070504932198000989141204987 : Nat) : Int) := mR.mk' (eR36.symm.trans ((lp_sv (r 27) 16 _ X33 (fun i => if i = 0 then (65531 : Int64) else (if i = 15 then (8191 : Int64) else (65535 : Int64))) (fun i _ => st_sv X33 (r 27) i (fun i => if i = 0 then (65531 : Int64) else (if i = 15 then (8191 : Int64) else (65535 : Int64))))).trans (svL_ext k_ed))) (by decide)
  have o36 : onM r [27] X33 R36 := q36.on List.mem_cons_self
  have c7 := fun i hi => (congrFun (o36.2 (r 46) (hI.ni 46 rfl)) i).trans (c7 i hi)
  have c6 := fun i hi => (congrFun (o36.2 (r 47) (hI.ni 47 rfl)) i).trans (c6 i hi)
  have hK := hK.kp hI o36 rfl
  have hO := hO.kp hI o36 rfl
  have f30 := f30.kp hI o36 rfl
  have fD := fD.kp hI o36 rfl
  have f2 := f2.kp hI o36 rfl
  obtain ⟨X43, eX43⟩ : ∃ Y, LF_M_power R36 r (r 15) (r 24) (r 27) = Y := ⟨_, rfl⟩
  obtain ⟨o43, fI⟩ := fm_power (to := 15) (a := 24) (ex := 27) hI hK f2 q36.2 rfl
  rw [eX43] at o43 fI
  have c7 := fun i hi => (congrFun (o43.2 (r 46) (hI.ni 46 rfl)) i).trans (c7 i hi)
  have c6 := fun i hi => (congrFun (o43.2 (r 47) (hI.ni 47 rfl)) i).trans (c6 i hi)
  have hK := hK.kp hI o43 rfl
  have hO := hO.kp hI o43 rfl
  have f30 := f30.kp hI o43 rfl
  have fD := fD.kp hI o43 rfl
  have f2 := f2.kp hI o43 rfl
  have fI := fI.ev k_eI
  obtain ⟨X44, eX44⟩ : ∃ Y, LF_M_set X43 (r 24) (nI 5) = Y := ⟨_, rfl⟩
  obtain ⟨o44, f5⟩ := fm_set (X := X43) (r := r) (to := 24) 5 (by decide)
  rw [eX44] at o44 f5
  have c7 := fun i hi => (congrFun (o44.2 (r 46) (hI.ni 46 rfl)) i).trans (c7 i hi)
  have c6 := fun i hi => (congrFun (o44.2 (r 47) (hI.ni 47 rfl)) i).trans (c6 i hi)
  have hK := hK.kp hI o44 rfl
  have hO := hO.kp hI o44 rfl
  have f30 := f30.kp hI o44 rfl
  have fD := fD.kp hI o44 rfl
  have fI := fI.kp hI o44 rfl
  obtain ⟨X45, eX45⟩ : ∃ Y, LF_M_inverse X44 r (r 26) (r 24) (r 10) = Y := ⟨_, rfl⟩
  obtain ⟨o45, fv⟩ := fm_inv (to := 26) (a := 24) hI hK f5 rfl
  rw [eX45] at o45 fv
  have c7 := fun i hi => (congrFun (o45.2 (r 46) (hI.ni 46 rfl)) i).trans (c7 i hi)
  have c6 := fun i hi => (congrFun (o45.2 (r 47) (hI.ni 47 rfl)) i).trans (c6 i hi)
  have hK := hK.kp hI o45 rfl
  have hO := hO.kp hI o45 rfl
  have f30 := f30.kp hI o45 rfl
  have fD := fD.kp hI o45 rfl
  have fI := fI.kp hI o45 rfl
  obtain ⟨X46, eX46⟩ : ∃ Y, LF_M_set X45 (r 24) (nI 4) = Y := ⟨_, rfl⟩
  obtain ⟨o46, f4⟩ := fm_set (X := X45) (r := r) (to := 24) 4 (by decide)
  rw [eX46] at o46 f4
  have c7 := fun i hi => (congrFun (o46.2 (r 46) (hI.ni 46 rfl)) i).trans (c7 i hi)
  have c6 := fun i hi => (congrFun (o46.2 (r 47) (hI.ni 47 rfl)) i).trans (c6 i hi)
  have hK := hK.kp hI o46 rfl
  have hO := hO.kp hI o46 rfl
  have f30 := f30.kp hI o46 rfl
  have fD := fD.kp hI o46 rfl
  have fI := fI.kp hI o46 rfl
  have fv := fv.kp hI o46 rfl
  obtain ⟨X47, eX47⟩ : ∃ Y, LF_M_times X46 r (r 17) (r 24) (r 26) (r 10) (r 11) = Y := ⟨_, rfl⟩
  obtain ⟨o47, fy⟩ := fm_times (to := 17) (a := 24) (b := 26) hI hK f4 fv rfl
  rw [eX47] at o47 fy
  have c7 := fun i hi => (congrFun (o47.2 (r 46) (hI.ni 46 rfl)) i).trans (c7 i hi)
  have c6 := fun i hi => (congrFun (o47.2 (r 47) (hI.ni 47 rfl)) i).trans (c6 i hi)
  have hK := hK.kp hI o47 rfl
  have hO := hO.kp hI o47 rfl
  have f30 := f30.kp hI o47 rfl
  have fD := fD.kp hI o47 rfl
  have fI := fI.kp hI o47 rfl
  have fy := fy.ev k_By
  obtain ⟨R50, eR50⟩ : ∃ Y, lpU 1 (LL_M_init_815 r) 32 0 X47 = Y := ⟨_, rfl⟩
  have s50 : R50 = svI X47 (r 35) 32 (fun i => ((((X47.1 (r 17) (i / 2)) >>> ((nI (8 * (i % 2))).toInt64 &&& 63)).toInt32).toInt8.toInt32).toInt8.toInt32) := eR50.symm.trans (lp_svI (r 35) 32 _ X47 (fun i => ((((X47.1 (r 17) (i / 2)) >>> ((nI (8 * (i % 2))).toInt64 &&& 63)).toInt32).toInt8.toInt32).toInt8.toInt32) (fun i _ => st_svI X47 (r 35) i (fun i => ((((X47.1 (r 17) (i / 2)) >>> ((nI (8 * (i % 2))).toInt64 &&& 63)).toInt32).toInt8.toInt32).toInt8.toInt32)))
  have h50 : R50.1 = X47.1 := by rw [s50]; rfl
  have c7 := fun i hi => (congrFun (congrFun h50 (r 46)) i).trans (c7 i hi)
  have c6 := fun i hi => (congrFun (congrFun h50 (r 47)) i).trans (c6 i hi)
  have hK : Kp R50 r := ⟨M16.mv hK.1 (congrFun h50 _), TbM.mv hK.2 (congrFun h50 _)⟩
  have hO : Ko R50 r := ⟨M16.mv hO.1 (congrFun h50 _), TbM.mv hO.2 (congrFun h50 _)⟩
  have f30 := M16.mv (Y := R50) f30 (congrFun h50 _)
  have fD := M16.mv (Y := R50) fD (congrFun h50 _)
  have fI := M16.mv (Y := R50) fI (congrFun h50 _)
  have fy := M16.mv (Y := R50) fy (congrFun h50 _)
  have r50 : ∀ i, i < 32 → R50.2 (r 35) i = ((((Int64.ofInt (dgI (eB.2.val : Int) (i / 2))) >>> ((nI (8 * (i % 2))).toInt64 &&& 63)).toInt32).toInt8.toInt32).toInt8.toInt32 := fun i hi => by
    have e := fy.2 (i / 2) (by omega)
    rw [congrFun h50 (r 17)] at e
    rw [← e, s50]
    exact if_pos ⟨rfl, hi⟩
  have l50 : leN (R50.2 (r 35)) 32 = eB.2.val := (leN_ext 32 r50).trans k_by
  have u50 : ub (R50.2 (r 35) 31) / 128 = 0 := by rw [r50 31 (by decide)]; exact k_b31
  have dd := d_model (X := R50) hI hK fD f30 fI
  rw [l50, u50, k_bm, iF_nat] at dd
  obtain ⟨X52, eX52⟩ : ∃ Y, (LF_M_decode R50 r).1 = Y := ⟨_, rfl⟩
  obtain ⟨o52, dt, dv⟩ := dd
  have ht : (LF_M_decode R50 r).2 = true := by rw [dt, k_ok, decide_eq_true k_blt]; rfl
  obtain ⟨f20, -⟩ := dv ht
  rw [eX52] at o52 f20
  have c7 := fun i hi => (congrFun (o52.2 (r 46) (hI.ni 46 rfl)) i).trans (c7 i hi)
  have c6 := fun i hi => (congrFun (o52.2 (r 47) (hI.ni 47 rfl)) i).trans (c6 i hi)
  have hK := hK.kp hI o52 rfl
  have hO := hO.kp hI o52 rfl
  have f30 := f30.kp hI o52 rfl
  have fD := fD.kp hI o52 rfl
  have fI := fI.kp hI o52 rfl
  have fy := fy.kp hI o52 rfl
  have f20 := Fm.ev f20 k_dX
  obtain ⟨X53, eX53⟩ : ∃ Y, LF_M_copy X52 (r 16) (r 20) = Y := ⟨_, rfl⟩
  obtain ⟨o53, f16⟩ := fm_copy (r := r) (to := 16) (a := 20) f20
  rw [eX53] at o53 f16
  have c7 := fun i hi => (congrFun (o53.2 (r 46) (hI.ni 46 rfl)) i).trans (c7 i hi)
  have c6 := fun i hi => (congrFun (o53.2 (r 47) (hI.ni 47 rfl)) i).trans (c6 i hi)
  have hK := hK.kp hI o53 rfl
  have hO := hO.kp hI o53 rfl
  have f30 := f30.kp hI o53 rfl
  have fD := fD.kp hI o53 rfl
  have fI := fI.kp hI o53 rfl
  have fy := fy.kp hI o53 rfl
  have f20 := f20.kp hI o53 rfl
  have eq : LF_M_init X r = X53 := by
    subst eX1 eR4 eX11 eR14 eX21 eX22 eX23 eX24 eX26 eX28 eX29 eX30 eX31 eX32 eX33 eR36 eX43 eX44 eX45 eX46 eX47 eR50 eX52 eX53
    rfl
  rw [eq]
  exact ⟨hK, hO, fD, f30, fI, f16, fy, c7, c6⟩
