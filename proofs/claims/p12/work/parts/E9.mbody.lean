def LL_M_init_443 (r : Nat → Nat) : Nat → vM → vM := fun i_0 s_1 => (let J_2 : Int64 := if i_0 = 0 then (65517 : Int64) else (if i_0 = 15 then ((32767 : Int64)) else ((65535 : Int64))); (let X_3 : vM := stL s_1 (r 10) i_0 J_2; X_3))
def LL_M_init_503 (r : Nat → Nat) : Nat → vM → vM := fun i_0 s_1 => (let J_2 : Int64 := if 8 ≤ i_0 then (if i_0 = 15 then ((4096 : Int64)) else ((0 : Int64))) else ((s_1.2 (r 39) i_0).toInt64); (let X_3 : vM := stL s_1 (r 12) i_0 J_2; X_3))
def LL_M_init_698 (r : Nat → Nat) : Nat → vM → vM := fun i_0 s_1 => (let J_2 : Int64 := if i_0 = 0 then (65531 : Int64) else (if i_0 = 15 then ((8191 : Int64)) else ((65535 : Int64))); (let X_3 : vM := stL s_1 (r 27) i_0 J_2; X_3))
def LL_M_init_815 (r : Nat → Nat) : Nat → vM → vM := fun i_0 s_1 => (let X_2 : vM := stI s_1 (r 35) i_0 (((((s_1.1 (r 17) (i_0 / 2)) >>> ((nI (8 * (i_0 % 2))).toInt64 &&& 63)).toInt32).toInt8.toInt32).toInt8.toInt32); X_2)
def LF_M_init (X : vM) (r : Nat → Nat) : vM := (let X1 : vM := (LF_M_constants X r); let R4 : vM := lpU 1 (LL_M_init_443 r) 16 0 X1; (let X11 : vM := (LF_M_remainders R4 (r 11) (r 10) (r 24)); let R14 : vM := lpU 1 (LL_M_init_503 r) 16 0 X11; (let X21 : vM := (LF_M_remainders R14 (r 13) (r 12) (r 24)); let X22 : vM := (LF_M_set X21 (r 30) (nI 1)); let X23 : vM := (LF_M_set X22 (r 24) (nI 0)); let X24 : vM := (LF_M_set X23 (r 25) (nI 0)); let X25 : vM := stL X24 (r 24) 0 (56129 : Int64); let X26 : vM := stL X25 (r 24) 1 (1 : Int64); let X27 : vM := stL X26 (r 25) 0 (56130 : Int64); let X28 : vM := stL X27 (r 25) 1 (1 : Int64); let X29 : vM := (LF_M_inverse X28 r (r 26) (r 25) (r 10)); let X30 : vM := (LF_M_times X29 r (r 14) (r 24) (r 26) (r 10) (r 11)); let X31 : vM := (LF_M_set X30 (r 25) (nI 0)); let X32 : vM := (LF_M_minus X31 (r 14) (r 25) (r 14) (r 10)); let X33 : vM := (LF_M_set X32 (r 24) (nI 2)); let R36 : vM := lpU 1 (LL_M_init_698 r) 16 0 X33; (let X43 : vM := (LF_M_power R36 r (r 15) (r 24) (r 27)); let X44 : vM := (LF_M_set X43 (r 24) (nI 5)); let X45 : vM := (LF_M_inverse X44 r (r 26) (r 24) (r 10)); let X46 : vM := (LF_M_set X45 (r 24) (nI 4)); let X47 : vM := (LF_M_times X46 r (r 17) (r 24) (r 26) (r 10) (r 11)); let R50 : vM := lpU 1 (LL_M_init_815 r) 32 0 X47; (let X52 : vM := (LF_M_decode R50 r).1; let X53 : vM := (LF_M_copy X52 (r 16) (r 20)); X53)))))
abbrev rm_M_init : Room := { frames := 5, cells := 48, slots := 201362, locals := 130 }
set_option maxHeartbeats 4000000 in
set_option maxRecDepth 100000 in
theorem e_M_init {l : Launch} {D : va_G} {g : ClassId → FieldType → Prop} {E F : Nat → Prop} {H0 : Heap} {o : Nat} {r : Nat → Nat} {i : Nat → Int32} {X : vM} (hM : mo_ D g H0 o r i) (hE : ¬ E o) (hW : ∀ q ∈ mo_wr, E (r q.1)) (hV : mm g H0 = X) {p : Program} {e : Env} {s : State} {m : MethodId} {args : Array Value} {below : List Frame} {meth : Method} {c : Code} {Q : State → Prop} {ls : Array Slot} {locs : List Loc} (EE : sx_E p s m args c b_M_init 2 R_M D g) (hl : lv_has ls 2 [(0, .ref o)]) (hS : sx_S g E F H0 H0 locs) (hret : ∀ (H : Heap) (locs : List Loc) (ls : Array Slot) (pc : Nat) (X1 : vM), LF_M_init X r = X1 → sx_S g E F H0 H locs → mm g H = X1 → decode b_M_init pc = .ok (.return_, 1) → W p l e rm_M_init s m args below meth c H locs 48 201362 Q (F0 m pc ls [])) : W p l e rm_M_init s m args below meth c H0 locs 48 201362 Q (F0 m 437 ls []) := by
  obtain ⟨hx, hb, hml, hown, hts, hG, hK⟩ := id EE
  refine lv_aload_n hx hb d_M_init_437 rfl (lv_at hl 0 rfl) ?_
  refine vx_gv (sx_runV (As := []) (rest := []) EE (hS.1.ob hE hM.1) rfl rfl (v_M_constants (X := X) (hM.kept hS.1 hE) hE hW hV) w_M_162 rfl ⟨rfl, rfl⟩ ⟨Nat.le_of_ble_eq_true rfl, Nat.le_of_ble_eq_true rfl⟩ ⟨Nat.le_of_ble_eq_true rfl, Nat.le_of_ble_eq_true rfl⟩ hl.1 rfl (Nat.le_of_ble_eq_true rfl) d_M_init_438) hS (fun H locs X1 eX1 hS hV => ?_)
  refine lv_iconst (v := nI 0) hx hb d_M_init_441 (by decide +kernel) ?_
  refine lv_istore_n (lv' := [(1, .int (nI (0))), (0, .ref o)]) hx hb d_M_init_442 rfl hl (by decide) rfl (fun ls hl => ?_)
  obtain ⟨R4, eR4⟩ : ∃ t : vM, lpU 1 (LL_M_init_443 r) 16 0 X1 = t := ⟨_, rfl⟩
  refine lpU_go (σ := vM) (P := fun i2 s3 H locs ls => sx_S g E F H0 H locs ∧ mm g H = s3 ∧ lv_has ls 2 [(1, .int (nI (i2))), (0, .ref o)]) (Wd := fun H locs ls => W p l e rm_M_init s m args below meth c H locs 48 201362 Q (F0 m 443 ls [])) (N := 16) (d := 1) (by decide) ?_ ?_ 16 0 _ (by omega) eR4 _ _ _ ⟨hS, hV, lv_sub hl [0, 1] rfl⟩
  · intro i2 s3 H locs ls hii2 hP ihi2
    obtain ⟨hS, hV, hl⟩ := hP
    refine lv_iload_n hx hb d_M_init_443 rfl (lv_at hl 0 rfl) ?_
    refine lv_bipush (v := nI 16) hx hb d_M_init_444 (by decide +kernel) ?_
    refine lv_icmp_ge (tgt := 486) hx hb d_M_init_446 (by decide) (fun q => absurd q (nI_ge (by omega) (by omega))) (fun _ => ?_)
    refine lv_aload_n hx hb d_M_init_449 rfl (lv_at hl 1 rfl) ?_
    refine sx_get EE (hS.1.ob hE hM.1) rfl i_M 10 (by decide) rfl fl_M_27 rfl d_M_init_450 ?_
    refine lv_iload_n hx hb d_M_init_453 rfl (lv_at hl 0 rfl) ?_
    refine lv_iload_n hx hb d_M_init_454 rfl (lv_at hl 0 rfl) ?_
    have jn479_7 : ∀ (J7 : Int64) (H : Heap) (locs : List Loc) (ls : Array Slot), (if i2 = 0 then (65517 : Int64) else (if i2 = 15 then ((32767 : Int64)) else ((65535 : Int64)))) = J7 → sx_S g E F H0 H locs → mm g H = s3 → lv_has ls 2 [(1, .int (nI (i2))), (0, .ref o)] → W p l e rm_M_init s m args below meth c H locs 48 201362 Q (F0 m 479 ls [.long J7, .int (nI (i2)), .ref (r 10)]) := by
      intro J7 H locs ls eJ7 hS hV hl
      refine vx_last hx hb hG hS hV (mo_10 hM) (mow_10 hW) (by omega) (by decide) d_M_init_479 (fun H locs X9 eX9 hS hV => ?_)
      refine lv_iinc (v := nI (i2 + 1)) (lv' := [(1, .int (nI (i2 + 1))), (0, .ref o)]) hx hb d_M_init_480 hl (k := 0) rfl (sx_inc _ _) (by decide) rfl (fun ls hl => ?_)
      refine lv_goto (tgt := 443) hx hb d_M_init_483 (by decide) ?_
      exact ihi2 X9 _ _ _ (by subst eJ7 eX9; exact rfl) ⟨hS, hV, lv_sub hl [0, 1] rfl⟩
    refine lv_if_ne (tgt := 464) hx hb d_M_init_455 (by decide) (fun q455_4 => ?_) (fun q455_4 => ?_)
    · skip
      have q455_4 : ¬ (i2 = 0) := fun z => q455_4 ((nI_eq (a := i2) (b := 0) (by omega) (by omega)).mpr z)
      refine lv_iload_n hx hb d_M_init_464 rfl (lv_at hl 0 rfl) ?_
      refine lv_bipush (v := nI 15) hx hb d_M_init_465 (by decide +kernel) ?_
      refine lv_icmp_ne (tgt := 476) hx hb d_M_init_467 (by decide) (fun q467_9 => ?_) (fun q467_9 => ?_)
      · skip
        have q467_9 : ¬ (i2 = 15) := fun z => q467_9 ((nI_eq (a := i2) (b := 15) (by omega) (by omega)).mpr z)
        refine lv_ldc2 (v := (65535)) hx hb hown (hts (.constantLong R_M 169 (65535)) (by decide +kernel)) d_M_init_476 ?_
        exact jn479_7 (65535 : Int64) _ _ _ (vx_n q455_4 (vx_n q467_9 rfl)) hS hV (lv_sub hl [0, 1] rfl)
      · skip
        have q467_9 : i2 = 15 := (nI_eq (a := i2) (b := 15) (by omega) (by omega)).mp q467_9
        refine lv_ldc2 (v := (32767)) hx hb hown (hts (.constantLong R_M 167 (32767)) (by decide +kernel)) d_M_init_470 ?_
        refine lv_goto (tgt := 479) hx hb d_M_init_473 (by decide) ?_
        exact jn479_7 (32767 : Int64) _ _ _ (vx_n q455_4 (vx_p q467_9 rfl)) hS hV (lv_sub hl [0, 1] rfl)
    · skip
      have q455_4 : i2 = 0 := (nI_eq (a := i2) (b := 0) (by omega) (by omega)).mp q455_4
      refine lv_ldc2 (v := (65517)) hx hb hown (hts (.constantLong R_M 165 (65517)) (by decide +kernel)) d_M_init_458 ?_
      refine lv_goto (tgt := 479) hx hb d_M_init_461 (by decide) ?_
      exact jn479_7 (65517 : Int64) _ _ _ (vx_p q455_4 rfl) hS hV (lv_sub hl [0, 1] rfl)
  · intro H locs ls hP
    obtain ⟨hS, hV, hl⟩ := hP
    refine lv_iload_n hx hb d_M_init_443 rfl (lv_at hl 0 rfl) ?_
    refine lv_bipush (v := nI 16) hx hb d_M_init_444 (by decide +kernel) ?_
    refine lv_icmp_ge (tgt := 486) hx hb d_M_init_446 (by decide) (fun _ => ?_) (fun q => absurd (nI_le (by omega) (by omega)) q)
    refine lv_aload_n hx hb d_M_init_486 rfl (lv_at hl 1 rfl) ?_
    refine sx_get EE (hS.1.ob hE hM.1) rfl i_M 11 (by decide) rfl fl_M_31 rfl d_M_init_487 ?_
    refine lv_aload_n hx hb d_M_init_490 rfl (lv_at hl 1 rfl) ?_
    refine sx_get EE (hS.1.ob hE hM.1) rfl i_M 10 (by decide) rfl fl_M_27 rfl d_M_init_491 ?_
    refine lv_aload_n hx hb d_M_init_494 rfl (lv_at hl 1 rfl) ?_
    refine sx_get EE (hS.1.ob hE hM.1) rfl i_M 24 (by decide) rfl fl_M_70 rfl d_M_init_495 ?_
    refine vx_gv (sx_runS (As := [.ref (r 11), .ref (r 10), .ref (r 24)]) (rest := []) EE (v_M_remainders (X := R4) (hS.a (mo_11 hM)) (mow_11 hW) (hS.a (mo_10 hM)) (hS.a (mo_24 hM)) (mow_24 hW) hV) w_M_171 rfl ⟨rfl, rfl⟩ ⟨Nat.le_of_ble_eq_true rfl, Nat.le_of_ble_eq_true rfl⟩ ⟨Nat.le_of_ble_eq_true rfl, Nat.le_of_ble_eq_true rfl⟩ hl.1 rfl (Nat.le_of_ble_eq_true rfl) d_M_init_498) hS (fun H locs X11 eX11 hS hV => ?_)
    refine lv_iconst (v := nI 0) hx hb d_M_init_501 (by decide +kernel) ?_
    refine lv_istore_n (lv' := [(1, .int (nI (0))), (0, .ref o)]) hx hb d_M_init_502 rfl hl (by decide) rfl (fun ls hl => ?_)
    obtain ⟨R14, eR14⟩ : ∃ t : vM, lpU 1 (LL_M_init_503 r) 16 0 X11 = t := ⟨_, rfl⟩
    refine lpU_go (σ := vM) (P := fun i12 s13 H locs ls => sx_S g E F H0 H locs ∧ mm g H = s13 ∧ lv_has ls 2 [(1, .int (nI (i12))), (0, .ref o)]) (Wd := fun H locs ls => W p l e rm_M_init s m args below meth c H locs 48 201362 Q (F0 m 503 ls [])) (N := 16) (d := 1) (by decide) ?_ ?_ 16 0 _ (by omega) eR14 _ _ _ ⟨hS, hV, lv_sub hl [0, 1] rfl⟩
    · intro i12 s13 H locs ls hii12 hP ihi12
      obtain ⟨hS, hV, hl⟩ := hP
      refine lv_iload_n hx hb d_M_init_503 rfl (lv_at hl 0 rfl) ?_
      refine lv_bipush (v := nI 16) hx hb d_M_init_504 (by decide +kernel) ?_
      refine lv_icmp_ge (tgt := 550) hx hb d_M_init_506 (by decide) (fun q => absurd q (nI_ge (by omega) (by omega))) (fun _ => ?_)
      refine lv_aload_n hx hb d_M_init_509 rfl (lv_at hl 1 rfl) ?_
      refine sx_get EE (hS.1.ob hE hM.1) rfl i_M 12 (by decide) rfl fl_M_34 rfl d_M_init_510 ?_
      refine lv_iload_n hx hb d_M_init_513 rfl (lv_at hl 0 rfl) ?_
      refine lv_iload_n hx hb d_M_init_514 rfl (lv_at hl 0 rfl) ?_
      refine lv_bipush (v := nI 8) hx hb d_M_init_515 (by decide +kernel) ?_
      have jn543_17 : ∀ (J17 : Int64) (H : Heap) (locs : List Loc) (ls : Array Slot), (if 8 ≤ i12 then (if i12 = 15 then ((4096 : Int64)) else ((0 : Int64))) else ((s13.2 (r 39) i12).toInt64)) = J17 → sx_S g E F H0 H locs → mm g H = s13 → lv_has ls 2 [(1, .int (nI (i12))), (0, .ref o)] → W p l e rm_M_init s m args below meth c H locs 48 201362 Q (F0 m 543 ls [.long J17, .int (nI (i12)), .ref (r 12)]) := by
        intro J17 H locs ls eJ17 hS hV hl
        refine vx_last hx hb hG hS hV (mo_12 hM) (mow_12 hW) (by omega) (by decide) d_M_init_543 (fun H locs X19 eX19 hS hV => ?_)
        refine lv_iinc (v := nI (i12 + 1)) (lv' := [(1, .int (nI (i12 + 1))), (0, .ref o)]) hx hb d_M_init_544 hl (k := 0) rfl (sx_inc _ _) (by decide) rfl (fun ls hl => ?_)
        refine lv_goto (tgt := 503) hx hb d_M_init_547 (by decide) ?_
        exact ihi12 X19 _ _ _ (by subst eJ17 eX19; exact rfl) ⟨hS, hV, lv_sub hl [0, 1] rfl⟩
      refine lv_icmp_ge (tgt := 530) hx hb d_M_init_517 (by decide) (fun q517_14 => ?_) (fun q517_14 => ?_)
      · skip
        have q517_14 : 8 ≤ i12 := (nI_leI (a := 8) (b := i12) (by omega) (by omega)).mp q517_14
        refine lv_iload_n hx hb d_M_init_530 rfl (lv_at hl 0 rfl) ?_
        refine lv_bipush (v := nI 15) hx hb d_M_init_531 (by decide +kernel) ?_
        refine lv_icmp_ne (tgt := 542) hx hb d_M_init_533 (by decide) (fun q533_19 => ?_) (fun q533_19 => ?_)
        · skip
          have q533_19 : ¬ (i12 = 15) := fun z => q533_19 ((nI_eq (a := i12) (b := 15) (by omega) (by omega)).mpr z)
          refine lv_lconst (v := 0) hx hb d_M_init_542 (by decide +kernel) ?_
          exact jn543_17 (0 : Int64) _ _ _ (vx_p q517_14 (vx_n q533_19 rfl)) hS hV (lv_sub hl [0, 1] rfl)
        · skip
          have q533_19 : i12 = 15 := (nI_eq (a := i12) (b := 15) (by omega) (by omega)).mp q533_19
          refine lv_ldc2 (v := (4096)) hx hb hown (hts (.constantLong R_M 175 (4096)) (by decide +kernel)) d_M_init_536 ?_
          refine lv_goto (tgt := 543) hx hb d_M_init_539 (by decide) ?_
          exact jn543_17 (4096 : Int64) _ _ _ (vx_p q517_14 (vx_p q533_19 rfl)) hS hV (lv_sub hl [0, 1] rfl)
      · skip
        have q517_14 : ¬ (8 ≤ i12) := fun z => q517_14 ((nI_leI (a := 8) (b := i12) (by omega) (by omega)).mpr z)
        refine lv_aload_n hx hb d_M_init_520 rfl (lv_at hl 1 rfl) ?_
        refine sx_get EE (hS.1.ob hE hM.1) rfl i_M 39 (by decide) rfl fl_M_120 rfl d_M_init_521 ?_
        refine lv_iload_n hx hb d_M_init_524 rfl (lv_at hl 0 rfl) ?_
        refine vx_iald hx hb hG hS hV (mo_39 hM) (by omega) (by decide) d_M_init_525 ?_
        refine lv_i2l hx hb d_M_init_526 rfl ?_
        refine lv_goto (tgt := 543) hx hb d_M_init_527 (by decide) ?_
        exact jn543_17 ((s13.2 (r 39) i12).toInt64) _ _ _ (vx_n q517_14 rfl) hS hV (lv_sub hl [0, 1] rfl)
    · intro H locs ls hP
      obtain ⟨hS, hV, hl⟩ := hP
      refine lv_iload_n hx hb d_M_init_503 rfl (lv_at hl 0 rfl) ?_
      refine lv_bipush (v := nI 16) hx hb d_M_init_504 (by decide +kernel) ?_
      refine lv_icmp_ge (tgt := 550) hx hb d_M_init_506 (by decide) (fun _ => ?_) (fun q => absurd (nI_le (by omega) (by omega)) q)
      refine lv_aload_n hx hb d_M_init_550 rfl (lv_at hl 1 rfl) ?_
      refine sx_get EE (hS.1.ob hE hM.1) rfl i_M 13 (by decide) rfl fl_M_37 rfl d_M_init_551 ?_
      refine lv_aload_n hx hb d_M_init_554 rfl (lv_at hl 1 rfl) ?_
      refine sx_get EE (hS.1.ob hE hM.1) rfl i_M 12 (by decide) rfl fl_M_34 rfl d_M_init_555 ?_
      refine lv_aload_n hx hb d_M_init_558 rfl (lv_at hl 1 rfl) ?_
      refine sx_get EE (hS.1.ob hE hM.1) rfl i_M 24 (by decide) rfl fl_M_70 rfl d_M_init_559 ?_
      refine vx_gv (sx_runS (As := [.ref (r 13), .ref (r 12), .ref (r 24)]) (rest := []) EE (v_M_remainders (X := R14) (hS.a (mo_13 hM)) (mow_13 hW) (hS.a (mo_12 hM)) (hS.a (mo_24 hM)) (mow_24 hW) hV) w_M_171 rfl ⟨rfl, rfl⟩ ⟨Nat.le_of_ble_eq_true rfl, Nat.le_of_ble_eq_true rfl⟩ ⟨Nat.le_of_ble_eq_true rfl, Nat.le_of_ble_eq_true rfl⟩ hl.1 rfl (Nat.le_of_ble_eq_true rfl) d_M_init_562) hS (fun H locs X21 eX21 hS hV => ?_)
      refine lv_aload_n hx hb d_M_init_565 rfl (lv_at hl 1 rfl) ?_
      refine sx_get EE (hS.1.ob hE hM.1) rfl i_M 30 (by decide) rfl fl_M_88 rfl d_M_init_566 ?_
      refine lv_iconst (v := nI 1) hx hb d_M_init_569 (by decide +kernel) ?_
      refine vx_gv (sx_runS (As := [.ref (r 30), .int (nI (1))]) (rest := []) EE (v_M_set (X := X21) (hS.a (mo_30 hM)) (mow_30 hW) hV) w_M_177 rfl ⟨rfl, rfl⟩ ⟨Nat.le_of_ble_eq_true rfl, Nat.le_of_ble_eq_true rfl⟩ ⟨Nat.le_of_ble_eq_true rfl, Nat.le_of_ble_eq_true rfl⟩ hl.1 rfl (Nat.le_of_ble_eq_true rfl) d_M_init_570) hS (fun H locs X22 eX22 hS hV => ?_)
      refine lv_aload_n hx hb d_M_init_573 rfl (lv_at hl 1 rfl) ?_
      refine sx_get EE (hS.1.ob hE hM.1) rfl i_M 24 (by decide) rfl fl_M_70 rfl d_M_init_574 ?_
      refine lv_iconst (v := nI 0) hx hb d_M_init_577 (by decide +kernel) ?_
      refine vx_gv (sx_runS (As := [.ref (r 24), .int (nI (0))]) (rest := []) EE (v_M_set (X := X22) (hS.a (mo_24 hM)) (mow_24 hW) hV) w_M_177 rfl ⟨rfl, rfl⟩ ⟨Nat.le_of_ble_eq_true rfl, Nat.le_of_ble_eq_true rfl⟩ ⟨Nat.le_of_ble_eq_true rfl, Nat.le_of_ble_eq_true rfl⟩ hl.1 rfl (Nat.le_of_ble_eq_true rfl) d_M_init_578) hS (fun H locs X23 eX23 hS hV => ?_)
      refine lv_aload_n hx hb d_M_init_581 rfl (lv_at hl 1 rfl) ?_
      refine sx_get EE (hS.1.ob hE hM.1) rfl i_M 25 (by decide) rfl fl_M_73 rfl d_M_init_582 ?_
      refine lv_iconst (v := nI 0) hx hb d_M_init_585 (by decide +kernel) ?_
      refine vx_gv (sx_runS (As := [.ref (r 25), .int (nI (0))]) (rest := []) EE (v_M_set (X := X23) (hS.a (mo_25 hM)) (mow_25 hW) hV) w_M_177 rfl ⟨rfl, rfl⟩ ⟨Nat.le_of_ble_eq_true rfl, Nat.le_of_ble_eq_true rfl⟩ ⟨Nat.le_of_ble_eq_true rfl, Nat.le_of_ble_eq_true rfl⟩ hl.1 rfl (Nat.le_of_ble_eq_true rfl) d_M_init_586) hS (fun H locs X24 eX24 hS hV => ?_)
      refine lv_aload_n hx hb d_M_init_589 rfl (lv_at hl 1 rfl) ?_
      refine sx_get EE (hS.1.ob hE hM.1) rfl i_M 24 (by decide) rfl fl_M_70 rfl d_M_init_590 ?_
      refine lv_iconst (v := nI 0) hx hb d_M_init_593 (by decide +kernel) ?_
      refine lv_ldc2 (v := (56129)) hx hb hown (hts (.constantLong R_M 181 (56129)) (by decide +kernel)) d_M_init_594 ?_
      refine vx_last hx hb hG hS hV (mo_24 hM) (mow_24 hW) (by omega) (by decide) d_M_init_597 (fun H locs X25 eX25 hS hV => ?_)
      refine lv_aload_n hx hb d_M_init_598 rfl (lv_at hl 1 rfl) ?_
      refine sx_get EE (hS.1.ob hE hM.1) rfl i_M 24 (by decide) rfl fl_M_70 rfl d_M_init_599 ?_
      refine lv_iconst (v := nI 1) hx hb d_M_init_602 (by decide +kernel) ?_
      refine lv_lconst (v := 1) hx hb d_M_init_603 (by decide +kernel) ?_
      refine vx_last hx hb hG hS hV (mo_24 hM) (mow_24 hW) (by omega) (by decide) d_M_init_604 (fun H locs X26 eX26 hS hV => ?_)
      refine lv_aload_n hx hb d_M_init_605 rfl (lv_at hl 1 rfl) ?_
      refine sx_get EE (hS.1.ob hE hM.1) rfl i_M 25 (by decide) rfl fl_M_73 rfl d_M_init_606 ?_
      refine lv_iconst (v := nI 0) hx hb d_M_init_609 (by decide +kernel) ?_
      refine lv_ldc2 (v := (56130)) hx hb hown (hts (.constantLong R_M 183 (56130)) (by decide +kernel)) d_M_init_610 ?_
      refine vx_last hx hb hG hS hV (mo_25 hM) (mow_25 hW) (by omega) (by decide) d_M_init_613 (fun H locs X27 eX27 hS hV => ?_)
      refine lv_aload_n hx hb d_M_init_614 rfl (lv_at hl 1 rfl) ?_
      refine sx_get EE (hS.1.ob hE hM.1) rfl i_M 25 (by decide) rfl fl_M_73 rfl d_M_init_615 ?_
      refine lv_iconst (v := nI 1) hx hb d_M_init_618 (by decide +kernel) ?_
      refine lv_lconst (v := 1) hx hb d_M_init_619 (by decide +kernel) ?_
      refine vx_last hx hb hG hS hV (mo_25 hM) (mow_25 hW) (by omega) (by decide) d_M_init_620 (fun H locs X28 eX28 hS hV => ?_)
      refine lv_aload_n hx hb d_M_init_621 rfl (lv_at hl 1 rfl) ?_
      refine lv_aload_n hx hb d_M_init_622 rfl (lv_at hl 1 rfl) ?_
      refine sx_get EE (hS.1.ob hE hM.1) rfl i_M 26 (by decide) rfl fl_M_76 rfl d_M_init_623 ?_
      refine lv_aload_n hx hb d_M_init_626 rfl (lv_at hl 1 rfl) ?_
      refine sx_get EE (hS.1.ob hE hM.1) rfl i_M 25 (by decide) rfl fl_M_73 rfl d_M_init_627 ?_
      refine lv_aload_n hx hb d_M_init_630 rfl (lv_at hl 1 rfl) ?_
      refine sx_get EE (hS.1.ob hE hM.1) rfl i_M 10 (by decide) rfl fl_M_27 rfl d_M_init_631 ?_
      refine vx_gv (sx_runV (As := [.ref (r 26), .ref (r 25), .ref (r 10)]) (rest := []) EE (hS.1.ob hE hM.1) rfl rfl (v_M_inverse (X := X28) (hM.kept hS.1 hE) hE hW (hS.a (mo_26 hM)) (mow_26 hW) (hS.a (mo_25 hM)) (hS.a (mo_10 hM)) hV) w_M_185 rfl ⟨rfl, rfl⟩ ⟨Nat.le_of_ble_eq_true rfl, Nat.le_of_ble_eq_true rfl⟩ ⟨Nat.le_of_ble_eq_true rfl, Nat.le_of_ble_eq_true rfl⟩ hl.1 rfl (Nat.le_of_ble_eq_true rfl) d_M_init_634) hS (fun H locs X29 eX29 hS hV => ?_)
      refine lv_aload_n hx hb d_M_init_637 rfl (lv_at hl 1 rfl) ?_
      refine lv_aload_n hx hb d_M_init_638 rfl (lv_at hl 1 rfl) ?_
      refine sx_get EE (hS.1.ob hE hM.1) rfl i_M 14 (by decide) rfl fl_M_40 rfl d_M_init_639 ?_
      refine lv_aload_n hx hb d_M_init_642 rfl (lv_at hl 1 rfl) ?_
      refine sx_get EE (hS.1.ob hE hM.1) rfl i_M 24 (by decide) rfl fl_M_70 rfl d_M_init_643 ?_
      refine lv_aload_n hx hb d_M_init_646 rfl (lv_at hl 1 rfl) ?_
      refine sx_get EE (hS.1.ob hE hM.1) rfl i_M 26 (by decide) rfl fl_M_76 rfl d_M_init_647 ?_
      refine lv_aload_n hx hb d_M_init_650 rfl (lv_at hl 1 rfl) ?_
      refine sx_get EE (hS.1.ob hE hM.1) rfl i_M 10 (by decide) rfl fl_M_27 rfl d_M_init_651 ?_
      refine lv_aload_n hx hb d_M_init_654 rfl (lv_at hl 1 rfl) ?_
      refine sx_get EE (hS.1.ob hE hM.1) rfl i_M 11 (by decide) rfl fl_M_31 rfl d_M_init_655 ?_
      refine vx_gv (sx_runV (As := [.ref (r 14), .ref (r 24), .ref (r 26), .ref (r 10), .ref (r 11)]) (rest := []) EE (hS.1.ob hE hM.1) rfl rfl (v_M_times (X := X29) (hM.kept hS.1 hE) hE hW (hS.a (mo_14 hM)) (mow_14 hW) (hS.a (mo_24 hM)) (hS.a (mo_26 hM)) (hS.a (mo_10 hM)) (hS.a (mo_11 hM)) hV) w_M_188 rfl ⟨rfl, rfl⟩ ⟨Nat.le_of_ble_eq_true rfl, Nat.le_of_ble_eq_true rfl⟩ ⟨Nat.le_of_ble_eq_true rfl, Nat.le_of_ble_eq_true rfl⟩ hl.1 rfl (Nat.le_of_ble_eq_true rfl) d_M_init_658) hS (fun H locs X30 eX30 hS hV => ?_)
      refine lv_aload_n hx hb d_M_init_661 rfl (lv_at hl 1 rfl) ?_
      refine sx_get EE (hS.1.ob hE hM.1) rfl i_M 25 (by decide) rfl fl_M_73 rfl d_M_init_662 ?_
      refine lv_iconst (v := nI 0) hx hb d_M_init_665 (by decide +kernel) ?_
      refine vx_gv (sx_runS (As := [.ref (r 25), .int (nI (0))]) (rest := []) EE (v_M_set (X := X30) (hS.a (mo_25 hM)) (mow_25 hW) hV) w_M_177 rfl ⟨rfl, rfl⟩ ⟨Nat.le_of_ble_eq_true rfl, Nat.le_of_ble_eq_true rfl⟩ ⟨Nat.le_of_ble_eq_true rfl, Nat.le_of_ble_eq_true rfl⟩ hl.1 rfl (Nat.le_of_ble_eq_true rfl) d_M_init_666) hS (fun H locs X31 eX31 hS hV => ?_)
      refine lv_aload_n hx hb d_M_init_669 rfl (lv_at hl 1 rfl) ?_
      refine sx_get EE (hS.1.ob hE hM.1) rfl i_M 14 (by decide) rfl fl_M_40 rfl d_M_init_670 ?_
      refine lv_aload_n hx hb d_M_init_673 rfl (lv_at hl 1 rfl) ?_
      refine sx_get EE (hS.1.ob hE hM.1) rfl i_M 25 (by decide) rfl fl_M_73 rfl d_M_init_674 ?_
      refine lv_aload_n hx hb d_M_init_677 rfl (lv_at hl 1 rfl) ?_
      refine sx_get EE (hS.1.ob hE hM.1) rfl i_M 14 (by decide) rfl fl_M_40 rfl d_M_init_678 ?_
      refine lv_aload_n hx hb d_M_init_681 rfl (lv_at hl 1 rfl) ?_
      refine sx_get EE (hS.1.ob hE hM.1) rfl i_M 10 (by decide) rfl fl_M_27 rfl d_M_init_682 ?_
      refine vx_gv (sx_runS (As := [.ref (r 14), .ref (r 25), .ref (r 14), .ref (r 10)]) (rest := []) EE (v_M_minus (X := X31) (hS.a (mo_14 hM)) (mow_14 hW) (hS.a (mo_25 hM)) (hS.a (mo_14 hM)) (hS.a (mo_10 hM)) hV) w_M_192 rfl ⟨rfl, rfl⟩ ⟨Nat.le_of_ble_eq_true rfl, Nat.le_of_ble_eq_true rfl⟩ ⟨Nat.le_of_ble_eq_true rfl, Nat.le_of_ble_eq_true rfl⟩ hl.1 rfl (Nat.le_of_ble_eq_true rfl) d_M_init_685) hS (fun H locs X32 eX32 hS hV => ?_)
      refine lv_aload_n hx hb d_M_init_688 rfl (lv_at hl 1 rfl) ?_
      refine sx_get EE (hS.1.ob hE hM.1) rfl i_M 24 (by decide) rfl fl_M_70 rfl d_M_init_689 ?_
      refine lv_iconst (v := nI 2) hx hb d_M_init_692 (by decide +kernel) ?_
      refine vx_gv (sx_runS (As := [.ref (r 24), .int (nI (2))]) (rest := []) EE (v_M_set (X := X32) (hS.a (mo_24 hM)) (mow_24 hW) hV) w_M_177 rfl ⟨rfl, rfl⟩ ⟨Nat.le_of_ble_eq_true rfl, Nat.le_of_ble_eq_true rfl⟩ ⟨Nat.le_of_ble_eq_true rfl, Nat.le_of_ble_eq_true rfl⟩ hl.1 rfl (Nat.le_of_ble_eq_true rfl) d_M_init_693) hS (fun H locs X33 eX33 hS hV => ?_)
      refine lv_iconst (v := nI 0) hx hb d_M_init_696 (by decide +kernel) ?_
      refine lv_istore_n (lv' := [(1, .int (nI (0))), (0, .ref o)]) hx hb d_M_init_697 rfl hl (by decide) rfl (fun ls hl => ?_)
      obtain ⟨R36, eR36⟩ : ∃ t : vM, lpU 1 (LL_M_init_698 r) 16 0 X33 = t := ⟨_, rfl⟩
      refine lpU_go (σ := vM) (P := fun i34 s35 H locs ls => sx_S g E F H0 H locs ∧ mm g H = s35 ∧ lv_has ls 2 [(1, .int (nI (i34))), (0, .ref o)]) (Wd := fun H locs ls => W p l e rm_M_init s m args below meth c H locs 48 201362 Q (F0 m 698 ls [])) (N := 16) (d := 1) (by decide) ?_ ?_ 16 0 _ (by omega) eR36 _ _ _ ⟨hS, hV, lv_sub hl [0, 1] rfl⟩
      · intro i34 s35 H locs ls hii34 hP ihi34
        obtain ⟨hS, hV, hl⟩ := hP
        refine lv_iload_n hx hb d_M_init_698 rfl (lv_at hl 0 rfl) ?_
        refine lv_bipush (v := nI 16) hx hb d_M_init_699 (by decide +kernel) ?_
        refine lv_icmp_ge (tgt := 741) hx hb d_M_init_701 (by decide) (fun q => absurd q (nI_ge (by omega) (by omega))) (fun _ => ?_)
        refine lv_aload_n hx hb d_M_init_704 rfl (lv_at hl 1 rfl) ?_
        refine sx_get EE (hS.1.ob hE hM.1) rfl i_M 27 (by decide) rfl fl_M_79 rfl d_M_init_705 ?_
        refine lv_iload_n hx hb d_M_init_708 rfl (lv_at hl 0 rfl) ?_
        refine lv_iload_n hx hb d_M_init_709 rfl (lv_at hl 0 rfl) ?_
        have jn734_39 : ∀ (J39 : Int64) (H : Heap) (locs : List Loc) (ls : Array Slot), (if i34 = 0 then (65531 : Int64) else (if i34 = 15 then ((8191 : Int64)) else ((65535 : Int64)))) = J39 → sx_S g E F H0 H locs → mm g H = s35 → lv_has ls 2 [(1, .int (nI (i34))), (0, .ref o)] → W p l e rm_M_init s m args below meth c H locs 48 201362 Q (F0 m 734 ls [.long J39, .int (nI (i34)), .ref (r 27)]) := by
          intro J39 H locs ls eJ39 hS hV hl
          refine vx_last hx hb hG hS hV (mo_27 hM) (mow_27 hW) (by omega) (by decide) d_M_init_734 (fun H locs X41 eX41 hS hV => ?_)
          refine lv_iinc (v := nI (i34 + 1)) (lv' := [(1, .int (nI (i34 + 1))), (0, .ref o)]) hx hb d_M_init_735 hl (k := 0) rfl (sx_inc _ _) (by decide) rfl (fun ls hl => ?_)
          refine lv_goto (tgt := 698) hx hb d_M_init_738 (by decide) ?_
          exact ihi34 X41 _ _ _ (by subst eJ39 eX41; exact rfl) ⟨hS, hV, lv_sub hl [0, 1] rfl⟩
        refine lv_if_ne (tgt := 719) hx hb d_M_init_710 (by decide) (fun q710_36 => ?_) (fun q710_36 => ?_)
        · skip
          have q710_36 : ¬ (i34 = 0) := fun z => q710_36 ((nI_eq (a := i34) (b := 0) (by omega) (by omega)).mpr z)
          refine lv_iload_n hx hb d_M_init_719 rfl (lv_at hl 0 rfl) ?_
          refine lv_bipush (v := nI 15) hx hb d_M_init_720 (by decide +kernel) ?_
          refine lv_icmp_ne (tgt := 731) hx hb d_M_init_722 (by decide) (fun q722_41 => ?_) (fun q722_41 => ?_)
          · skip
            have q722_41 : ¬ (i34 = 15) := fun z => q722_41 ((nI_eq (a := i34) (b := 15) (by omega) (by omega)).mpr z)
            refine lv_ldc2 (v := (65535)) hx hb hown (hts (.constantLong R_M 169 (65535)) (by decide +kernel)) d_M_init_731 ?_
            exact jn734_39 (65535 : Int64) _ _ _ (vx_n q710_36 (vx_n q722_41 rfl)) hS hV (lv_sub hl [0, 1] rfl)
          · skip
            have q722_41 : i34 = 15 := (nI_eq (a := i34) (b := 15) (by omega) (by omega)).mp q722_41
            refine lv_ldc2 (v := (8191)) hx hb hown (hts (.constantLong R_M 198 (8191)) (by decide +kernel)) d_M_init_725 ?_
            refine lv_goto (tgt := 734) hx hb d_M_init_728 (by decide) ?_
            exact jn734_39 (8191 : Int64) _ _ _ (vx_n q710_36 (vx_p q722_41 rfl)) hS hV (lv_sub hl [0, 1] rfl)
        · skip
          have q710_36 : i34 = 0 := (nI_eq (a := i34) (b := 0) (by omega) (by omega)).mp q710_36
          refine lv_ldc2 (v := (65531)) hx hb hown (hts (.constantLong R_M 196 (65531)) (by decide +kernel)) d_M_init_713 ?_
          refine lv_goto (tgt := 734) hx hb d_M_init_716 (by decide) ?_
          exact jn734_39 (65531 : Int64) _ _ _ (vx_p q710_36 rfl) hS hV (lv_sub hl [0, 1] rfl)
      · intro H locs ls hP
        obtain ⟨hS, hV, hl⟩ := hP
        refine lv_iload_n hx hb d_M_init_698 rfl (lv_at hl 0 rfl) ?_
        refine lv_bipush (v := nI 16) hx hb d_M_init_699 (by decide +kernel) ?_
        refine lv_icmp_ge (tgt := 741) hx hb d_M_init_701 (by decide) (fun _ => ?_) (fun q => absurd (nI_le (by omega) (by omega)) q)
        refine lv_aload_n hx hb d_M_init_741 rfl (lv_at hl 1 rfl) ?_
        refine lv_aload_n hx hb d_M_init_742 rfl (lv_at hl 1 rfl) ?_
        refine sx_get EE (hS.1.ob hE hM.1) rfl i_M 15 (by decide) rfl fl_M_43 rfl d_M_init_743 ?_
        refine lv_aload_n hx hb d_M_init_746 rfl (lv_at hl 1 rfl) ?_
        refine sx_get EE (hS.1.ob hE hM.1) rfl i_M 24 (by decide) rfl fl_M_70 rfl d_M_init_747 ?_
        refine lv_aload_n hx hb d_M_init_750 rfl (lv_at hl 1 rfl) ?_
        refine sx_get EE (hS.1.ob hE hM.1) rfl i_M 27 (by decide) rfl fl_M_79 rfl d_M_init_751 ?_
        refine vx_gv (sx_runV (As := [.ref (r 15), .ref (r 24), .ref (r 27)]) (rest := []) EE (hS.1.ob hE hM.1) rfl rfl (v_M_power (X := R36) (hM.kept hS.1 hE) hE hW (hS.a (mo_15 hM)) (mow_15 hW) (hS.a (mo_24 hM)) (hS.a (mo_27 hM)) hV) w_M_200 rfl ⟨rfl, rfl⟩ ⟨Nat.le_of_ble_eq_true rfl, Nat.le_of_ble_eq_true rfl⟩ ⟨Nat.le_of_ble_eq_true rfl, Nat.le_of_ble_eq_true rfl⟩ hl.1 rfl (Nat.le_of_ble_eq_true rfl) d_M_init_754) hS (fun H locs X43 eX43 hS hV => ?_)
        refine lv_aload_n hx hb d_M_init_757 rfl (lv_at hl 1 rfl) ?_
        refine sx_get EE (hS.1.ob hE hM.1) rfl i_M 24 (by decide) rfl fl_M_70 rfl d_M_init_758 ?_
        refine lv_iconst (v := nI 5) hx hb d_M_init_761 (by decide +kernel) ?_
        refine vx_gv (sx_runS (As := [.ref (r 24), .int (nI (5))]) (rest := []) EE (v_M_set (X := X43) (hS.a (mo_24 hM)) (mow_24 hW) hV) w_M_177 rfl ⟨rfl, rfl⟩ ⟨Nat.le_of_ble_eq_true rfl, Nat.le_of_ble_eq_true rfl⟩ ⟨Nat.le_of_ble_eq_true rfl, Nat.le_of_ble_eq_true rfl⟩ hl.1 rfl (Nat.le_of_ble_eq_true rfl) d_M_init_762) hS (fun H locs X44 eX44 hS hV => ?_)
        refine lv_aload_n hx hb d_M_init_765 rfl (lv_at hl 1 rfl) ?_
        refine lv_aload_n hx hb d_M_init_766 rfl (lv_at hl 1 rfl) ?_
        refine sx_get EE (hS.1.ob hE hM.1) rfl i_M 26 (by decide) rfl fl_M_76 rfl d_M_init_767 ?_
        refine lv_aload_n hx hb d_M_init_770 rfl (lv_at hl 1 rfl) ?_
        refine sx_get EE (hS.1.ob hE hM.1) rfl i_M 24 (by decide) rfl fl_M_70 rfl d_M_init_771 ?_
        refine lv_aload_n hx hb d_M_init_774 rfl (lv_at hl 1 rfl) ?_
        refine sx_get EE (hS.1.ob hE hM.1) rfl i_M 10 (by decide) rfl fl_M_27 rfl d_M_init_775 ?_
        refine vx_gv (sx_runV (As := [.ref (r 26), .ref (r 24), .ref (r 10)]) (rest := []) EE (hS.1.ob hE hM.1) rfl rfl (v_M_inverse (X := X44) (hM.kept hS.1 hE) hE hW (hS.a (mo_26 hM)) (mow_26 hW) (hS.a (mo_24 hM)) (hS.a (mo_10 hM)) hV) w_M_185 rfl ⟨rfl, rfl⟩ ⟨Nat.le_of_ble_eq_true rfl, Nat.le_of_ble_eq_true rfl⟩ ⟨Nat.le_of_ble_eq_true rfl, Nat.le_of_ble_eq_true rfl⟩ hl.1 rfl (Nat.le_of_ble_eq_true rfl) d_M_init_778) hS (fun H locs X45 eX45 hS hV => ?_)
        refine lv_aload_n hx hb d_M_init_781 rfl (lv_at hl 1 rfl) ?_
        refine sx_get EE (hS.1.ob hE hM.1) rfl i_M 24 (by decide) rfl fl_M_70 rfl d_M_init_782 ?_
        refine lv_iconst (v := nI 4) hx hb d_M_init_785 (by decide +kernel) ?_
        refine vx_gv (sx_runS (As := [.ref (r 24), .int (nI (4))]) (rest := []) EE (v_M_set (X := X45) (hS.a (mo_24 hM)) (mow_24 hW) hV) w_M_177 rfl ⟨rfl, rfl⟩ ⟨Nat.le_of_ble_eq_true rfl, Nat.le_of_ble_eq_true rfl⟩ ⟨Nat.le_of_ble_eq_true rfl, Nat.le_of_ble_eq_true rfl⟩ hl.1 rfl (Nat.le_of_ble_eq_true rfl) d_M_init_786) hS (fun H locs X46 eX46 hS hV => ?_)
        refine lv_aload_n hx hb d_M_init_789 rfl (lv_at hl 1 rfl) ?_
        refine lv_aload_n hx hb d_M_init_790 rfl (lv_at hl 1 rfl) ?_
        refine sx_get EE (hS.1.ob hE hM.1) rfl i_M 17 (by decide) rfl fl_M_49 rfl d_M_init_791 ?_
        refine lv_aload_n hx hb d_M_init_794 rfl (lv_at hl 1 rfl) ?_
        refine sx_get EE (hS.1.ob hE hM.1) rfl i_M 24 (by decide) rfl fl_M_70 rfl d_M_init_795 ?_
        refine lv_aload_n hx hb d_M_init_798 rfl (lv_at hl 1 rfl) ?_
        refine sx_get EE (hS.1.ob hE hM.1) rfl i_M 26 (by decide) rfl fl_M_76 rfl d_M_init_799 ?_
        refine lv_aload_n hx hb d_M_init_802 rfl (lv_at hl 1 rfl) ?_
        refine sx_get EE (hS.1.ob hE hM.1) rfl i_M 10 (by decide) rfl fl_M_27 rfl d_M_init_803 ?_
        refine lv_aload_n hx hb d_M_init_806 rfl (lv_at hl 1 rfl) ?_
        refine sx_get EE (hS.1.ob hE hM.1) rfl i_M 11 (by decide) rfl fl_M_31 rfl d_M_init_807 ?_
        refine vx_gv (sx_runV (As := [.ref (r 17), .ref (r 24), .ref (r 26), .ref (r 10), .ref (r 11)]) (rest := []) EE (hS.1.ob hE hM.1) rfl rfl (v_M_times (X := X46) (hM.kept hS.1 hE) hE hW (hS.a (mo_17 hM)) (mow_17 hW) (hS.a (mo_24 hM)) (hS.a (mo_26 hM)) (hS.a (mo_10 hM)) (hS.a (mo_11 hM)) hV) w_M_188 rfl ⟨rfl, rfl⟩ ⟨Nat.le_of_ble_eq_true rfl, Nat.le_of_ble_eq_true rfl⟩ ⟨Nat.le_of_ble_eq_true rfl, Nat.le_of_ble_eq_true rfl⟩ hl.1 rfl (Nat.le_of_ble_eq_true rfl) d_M_init_810) hS (fun H locs X47 eX47 hS hV => ?_)
        refine lv_iconst (v := nI 0) hx hb d_M_init_813 (by decide +kernel) ?_
        refine lv_istore_n (lv' := [(1, .int (nI (0))), (0, .ref o)]) hx hb d_M_init_814 rfl hl (by decide) rfl (fun ls hl => ?_)
        obtain ⟨R50, eR50⟩ : ∃ t : vM, lpU 1 (LL_M_init_815 r) 32 0 X47 = t := ⟨_, rfl⟩
        refine lpU_go (σ := vM) (P := fun i48 s49 H locs ls => sx_S g E F H0 H locs ∧ mm g H = s49 ∧ lv_has ls 2 [(1, .int (nI (i48))), (0, .ref o)]) (Wd := fun H locs ls => W p l e rm_M_init s m args below meth c H locs 48 201362 Q (F0 m 815 ls [])) (N := 32) (d := 1) (by decide) ?_ ?_ 32 0 _ (by omega) eR50 _ _ _ ⟨hS, hV, lv_sub hl [0, 1] rfl⟩
        · intro i48 s49 H locs ls hii48 hP ihi48
          obtain ⟨hS, hV, hl⟩ := hP
          refine lv_iload_n hx hb d_M_init_815 rfl (lv_at hl 0 rfl) ?_
          refine lv_bipush (v := nI 32) hx hb d_M_init_816 (by decide +kernel) ?_
          refine lv_icmp_ge (tgt := 850) hx hb d_M_init_818 (by decide) (fun q => absurd q (nI_ge (by omega) (by omega))) (fun _ => ?_)
          refine lv_aload_n hx hb d_M_init_821 rfl (lv_at hl 1 rfl) ?_
          refine sx_get EE (hS.1.ob hE hM.1) rfl i_M 35 (by decide) rfl fl_M_103 rfl d_M_init_822 ?_
          refine lv_iload_n hx hb d_M_init_825 rfl (lv_at hl 0 rfl) ?_
          refine lv_aload_n hx hb d_M_init_826 rfl (lv_at hl 1 rfl) ?_
          refine sx_get EE (hS.1.ob hE hM.1) rfl i_M 17 (by decide) rfl fl_M_49 rfl d_M_init_827 ?_
          refine lv_iload_n hx hb d_M_init_830 rfl (lv_at hl 0 rfl) ?_
          refine lv_iconst (v := nI 2) hx hb d_M_init_831 (by decide +kernel) ?_
          refine lv_idiv hx hb d_M_init_832 (nI_ne0 (by omega) (by omega)) ?_
          refine sx_ti (y := nI (i48 / 2)) (pk_div (by omega) (by omega) (by omega)) ?_
          refine vx_lald hx hb hG hS hV (mo_17 hM) (by omega) (by decide) d_M_init_833 ?_
          refine lv_bipush (v := nI 8) hx hb d_M_init_834 (by decide +kernel) ?_
          refine lv_iload_n hx hb d_M_init_836 rfl (lv_at hl 0 rfl) ?_
          refine lv_iconst (v := nI 2) hx hb d_M_init_837 (by decide +kernel) ?_
          refine lv_irem hx hb d_M_init_838 (nI_ne0 (by omega) (by omega)) ?_
          refine sx_ti (y := nI (i48 % 2)) (pk_rem (by omega) (by omega) (by omega)) ?_
          refine lv_imul hx hb d_M_init_839 ?_
          refine sx_ti (y := nI (8 * (i48 % 2))) (pk_mul _ _) ?_
          refine lv_lshr hx hb d_M_init_840 rfl ?_
          refine lv_l2i hx hb d_M_init_841 rfl ?_
          refine lv_i2b hx hb d_M_init_842 rfl ?_
          refine vx_bast hx hb hG hS hV (mo_35 hM) (mow_35 hW) (by omega) (by decide) d_M_init_843 (fun H locs X51 eX51 hS hV => ?_)
          refine lv_iinc (v := nI (i48 + 1)) (lv' := [(1, .int (nI (i48 + 1))), (0, .ref o)]) hx hb d_M_init_844 hl (k := 0) rfl (sx_inc _ _) (by decide) rfl (fun ls hl => ?_)
          refine lv_goto (tgt := 815) hx hb d_M_init_847 (by decide) ?_
          exact ihi48 X51 _ _ _ (by subst eX51; exact rfl) ⟨hS, hV, lv_sub hl [0, 1] rfl⟩
        · intro H locs ls hP
          obtain ⟨hS, hV, hl⟩ := hP
          refine lv_iload_n hx hb d_M_init_815 rfl (lv_at hl 0 rfl) ?_
          refine lv_bipush (v := nI 32) hx hb d_M_init_816 (by decide +kernel) ?_
          refine lv_icmp_ge (tgt := 850) hx hb d_M_init_818 (by decide) (fun _ => ?_) (fun q => absurd (nI_le (by omega) (by omega)) q)
          refine lv_aload_n hx hb d_M_init_850 rfl (lv_at hl 1 rfl) ?_
          refine vx_gi (sx_runV (As := []) (rest := []) EE (hS.1.ob hE hM.1) rfl rfl (v_M_decode (X := R50) (hM.kept hS.1 hE) hE hW hV) w_M_203 rfl ⟨rfl, rfl⟩ ⟨Nat.le_of_ble_eq_true rfl, Nat.le_of_ble_eq_true rfl⟩ ⟨Nat.le_of_ble_eq_true rfl, Nat.le_of_ble_eq_true rfl⟩ hl.1 rfl (Nat.le_of_ble_eq_true rfl) d_M_init_851) hS (fun H locs X52 eX52 hS hV => ?_)
          refine lv_pop hx hb d_M_init_854 rfl ?_
          refine lv_aload_n hx hb d_M_init_855 rfl (lv_at hl 1 rfl) ?_
          refine sx_get EE (hS.1.ob hE hM.1) rfl i_M 16 (by decide) rfl fl_M_46 rfl d_M_init_856 ?_
          refine lv_aload_n hx hb d_M_init_859 rfl (lv_at hl 1 rfl) ?_
          refine sx_get EE (hS.1.ob hE hM.1) rfl i_M 20 (by decide) rfl fl_M_58 rfl d_M_init_860 ?_
          refine vx_gv (sx_runS (As := [.ref (r 16), .ref (r 20)]) (rest := []) EE (v_M_copy (X := X52) (hS.a (mo_16 hM)) (mow_16 hW) (hS.a (mo_20 hM)) hV) w_M_207 rfl ⟨rfl, rfl⟩ ⟨Nat.le_of_ble_eq_true rfl, Nat.le_of_ble_eq_true rfl⟩ ⟨Nat.le_of_ble_eq_true rfl, Nat.le_of_ble_eq_true rfl⟩ hl.1 rfl (Nat.le_of_ble_eq_true rfl) d_M_init_863) hS (fun H locs X53 eX53 hS hV => ?_)
          exact hret _ _ _ _ _ (by subst eX1 eR4 eX11 eR14 eX21 eX22 eX23 eX24 eX25 eX26 eX27 eX28 eX29 eX30 eX31 eX32 eX33 eR36 eX43 eX44 eX45 eX46 eX47 eR50 eX52 eX53; exact rfl) hS hV d_M_init_866
