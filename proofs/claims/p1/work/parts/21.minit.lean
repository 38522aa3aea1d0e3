abbrev rm_M_init : Room := { frames := 5, cells := 48, slots := 201362, locals := 130 }
set_option maxHeartbeats 4000000 in
set_option maxRecDepth 100000 in
theorem e_M_init {l : Launch} {D : va_G} {g : ClassId → FieldType → Prop} {E F : Nat → Prop} {H0 : Heap} {o : Nat} {r : Nat → Nat} {i : Nat → Int32} (hM : mo_ D g H0 o r i) (hE : ¬ E o) (hW : ∀ q ∈ mo_wr, E (r q.1)) {p : Program} {e : Env} {s : State} {m : MethodId} {args : Array Value} {below : List Frame} {meth : Method} {c : Code} {Q : State → Prop} {ls : Array Slot} {locs : List Loc} (EE : sx_E p s m args c b_M_init 2 R_M D g) (hl : lv_has ls 2 [(0, .ref o)]) (hS : sx_S g E F H0 H0 locs) (hret : ∀ (H : Heap) (locs : List Loc) (ls : Array Slot) (pc : Nat), sx_S g E F H0 H locs → decode b_M_init pc = .ok (.return_, 1) → W p l e rm_M_init s m args below meth c H locs 48 201362 Q (F0 m pc ls [])) : W p l e rm_M_init s m args below meth c H0 locs 48 201362 Q (F0 m 437 ls []) := by
  obtain ⟨hx, hb, hml, hown, hts, hG, hK⟩ := id EE
  refine lv_aload_n hx hb d_M_init_437 rfl (lv_at hl 0 rfl) ?_
  refine sx_gv (sx_runV (As := []) (rest := []) EE (hS.1.ob hE hM.1) rfl rfl (c_M_constants (hM.kept hS.1 hE) hE hW) w_M_162 rfl ⟨rfl, rfl⟩ ⟨Nat.le_of_ble_eq_true rfl, Nat.le_of_ble_eq_true rfl⟩ ⟨Nat.le_of_ble_eq_true rfl, Nat.le_of_ble_eq_true rfl⟩ hl.1 rfl (Nat.le_of_ble_eq_true rfl) d_M_init_438) hS (fun H locs hS => ?_)
  refine lv_iconst (v := nI 0) hx hb d_M_init_441 (by decide +kernel) ?_
  refine lv_istore_n (lv' := [(1, .int (nI (0))), (0, .ref o)]) hx hb d_M_init_442 rfl hl (by decide) rfl (fun ls hl => ?_)
  have lp443 : ∀ (k i1 : Nat) (H : Heap) (locs : List Loc) (ls : Array Slot), i1 + k = 16 → sx_S g E F H0 H locs → lv_has ls 2 [(1, .int (nI (i1))), (0, .ref o)] → W p l e rm_M_init s m args below meth c H locs 48 201362 Q (F0 m 443 ls []) := by
    intro k
    induction k with
    | zero =>
      intro i1  H locs ls hi  hS hl
      refine lv_iload_n hx hb d_M_init_443 rfl (lv_at hl 0 rfl) ?_
      refine lv_bipush (v := nI 16) hx hb d_M_init_444 (by decide +kernel) ?_
      refine lv_icmp_ge (tgt := 486) hx hb d_M_init_446 (by decide) (fun _ => ?_) (fun q => absurd (nI_le (by omega) (by omega)) q)
      refine lv_aload_n hx hb d_M_init_486 rfl (lv_at hl 1 rfl) ?_
      refine sx_get EE (hS.1.ob hE hM.1) rfl i_M 11 (by decide) rfl fl_M_31 rfl d_M_init_487 ?_
      refine lv_aload_n hx hb d_M_init_490 rfl (lv_at hl 1 rfl) ?_
      refine sx_get EE (hS.1.ob hE hM.1) rfl i_M 10 (by decide) rfl fl_M_27 rfl d_M_init_491 ?_
      refine lv_aload_n hx hb d_M_init_494 rfl (lv_at hl 1 rfl) ?_
      refine sx_get EE (hS.1.ob hE hM.1) rfl i_M 24 (by decide) rfl fl_M_70 rfl d_M_init_495 ?_
      refine sx_gv (sx_runS (As := [.ref (r 11), .ref (r 10), .ref (r 24)]) (rest := []) EE (c_M_remainders (hS.a (mo_11 hM)) (mow_11 hW) (hS.a (mo_10 hM)) (hS.a (mo_24 hM)) (mow_24 hW)) w_M_171 rfl ⟨rfl, rfl⟩ ⟨Nat.le_of_ble_eq_true rfl, Nat.le_of_ble_eq_true rfl⟩ ⟨Nat.le_of_ble_eq_true rfl, Nat.le_of_ble_eq_true rfl⟩ hl.1 rfl (Nat.le_of_ble_eq_true rfl) d_M_init_498) hS (fun H locs hS => ?_)
      refine lv_iconst (v := nI 0) hx hb d_M_init_501 (by decide +kernel) ?_
      refine lv_istore_n (lv' := [(1, .int (nI (0))), (0, .ref o)]) hx hb d_M_init_502 rfl hl (by decide) rfl (fun ls hl => ?_)
      have lp503 : ∀ (k i2 : Nat) (H : Heap) (locs : List Loc) (ls : Array Slot), i2 + k = 16 → sx_S g E F H0 H locs → lv_has ls 2 [(1, .int (nI (i2))), (0, .ref o)] → W p l e rm_M_init s m args below meth c H locs 48 201362 Q (F0 m 503 ls []) := by
        intro k
        induction k with
        | zero =>
          intro i2  H locs ls hi  hS hl
          refine lv_iload_n hx hb d_M_init_503 rfl (lv_at hl 0 rfl) ?_
          refine lv_bipush (v := nI 16) hx hb d_M_init_504 (by decide +kernel) ?_
          refine lv_icmp_ge (tgt := 550) hx hb d_M_init_506 (by decide) (fun _ => ?_) (fun q => absurd (nI_le (by omega) (by omega)) q)
          refine lv_aload_n hx hb d_M_init_550 rfl (lv_at hl 1 rfl) ?_
          refine sx_get EE (hS.1.ob hE hM.1) rfl i_M 13 (by decide) rfl fl_M_37 rfl d_M_init_551 ?_
          refine lv_aload_n hx hb d_M_init_554 rfl (lv_at hl 1 rfl) ?_
          refine sx_get EE (hS.1.ob hE hM.1) rfl i_M 12 (by decide) rfl fl_M_34 rfl d_M_init_555 ?_
          refine lv_aload_n hx hb d_M_init_558 rfl (lv_at hl 1 rfl) ?_
          refine sx_get EE (hS.1.ob hE hM.1) rfl i_M 24 (by decide) rfl fl_M_70 rfl d_M_init_559 ?_
          refine sx_gv (sx_runS (As := [.ref (r 13), .ref (r 12), .ref (r 24)]) (rest := []) EE (c_M_remainders (hS.a (mo_13 hM)) (mow_13 hW) (hS.a (mo_12 hM)) (hS.a (mo_24 hM)) (mow_24 hW)) w_M_171 rfl ⟨rfl, rfl⟩ ⟨Nat.le_of_ble_eq_true rfl, Nat.le_of_ble_eq_true rfl⟩ ⟨Nat.le_of_ble_eq_true rfl, Nat.le_of_ble_eq_true rfl⟩ hl.1 rfl (Nat.le_of_ble_eq_true rfl) d_M_init_562) hS (fun H locs hS => ?_)
          refine lv_aload_n hx hb d_M_init_565 rfl (lv_at hl 1 rfl) ?_
          refine sx_get EE (hS.1.ob hE hM.1) rfl i_M 30 (by decide) rfl fl_M_88 rfl d_M_init_566 ?_
          refine lv_iconst (v := nI 1) hx hb d_M_init_569 (by decide +kernel) ?_
          refine sx_gv (sx_runS (As := [.ref (r 30), .int (nI (1))]) (rest := []) EE (c_M_set (hS.a (mo_30 hM)) (mow_30 hW)) w_M_177 rfl ⟨rfl, rfl⟩ ⟨Nat.le_of_ble_eq_true rfl, Nat.le_of_ble_eq_true rfl⟩ ⟨Nat.le_of_ble_eq_true rfl, Nat.le_of_ble_eq_true rfl⟩ hl.1 rfl (Nat.le_of_ble_eq_true rfl) d_M_init_570) hS (fun H locs hS => ?_)
          refine lv_aload_n hx hb d_M_init_573 rfl (lv_at hl 1 rfl) ?_
          refine sx_get EE (hS.1.ob hE hM.1) rfl i_M 24 (by decide) rfl fl_M_70 rfl d_M_init_574 ?_
          refine lv_iconst (v := nI 0) hx hb d_M_init_577 (by decide +kernel) ?_
          refine sx_gv (sx_runS (As := [.ref (r 24), .int (nI (0))]) (rest := []) EE (c_M_set (hS.a (mo_24 hM)) (mow_24 hW)) w_M_177 rfl ⟨rfl, rfl⟩ ⟨Nat.le_of_ble_eq_true rfl, Nat.le_of_ble_eq_true rfl⟩ ⟨Nat.le_of_ble_eq_true rfl, Nat.le_of_ble_eq_true rfl⟩ hl.1 rfl (Nat.le_of_ble_eq_true rfl) d_M_init_578) hS (fun H locs hS => ?_)
          refine lv_aload_n hx hb d_M_init_581 rfl (lv_at hl 1 rfl) ?_
          refine sx_get EE (hS.1.ob hE hM.1) rfl i_M 25 (by decide) rfl fl_M_73 rfl d_M_init_582 ?_
          refine lv_iconst (v := nI 0) hx hb d_M_init_585 (by decide +kernel) ?_
          refine sx_gv (sx_runS (As := [.ref (r 25), .int (nI (0))]) (rest := []) EE (c_M_set (hS.a (mo_25 hM)) (mow_25 hW)) w_M_177 rfl ⟨rfl, rfl⟩ ⟨Nat.le_of_ble_eq_true rfl, Nat.le_of_ble_eq_true rfl⟩ ⟨Nat.le_of_ble_eq_true rfl, Nat.le_of_ble_eq_true rfl⟩ hl.1 rfl (Nat.le_of_ble_eq_true rfl) d_M_init_586) hS (fun H locs hS => ?_)
          refine lv_aload_n hx hb d_M_init_589 rfl (lv_at hl 1 rfl) ?_
          refine sx_get EE (hS.1.ob hE hM.1) rfl i_M 24 (by decide) rfl fl_M_70 rfl d_M_init_590 ?_
          refine lv_iconst (v := nI 0) hx hb d_M_init_593 (by decide +kernel) ?_
          refine lv_ldc2 (v := (56129)) hx hb hown (hts (.constantLong R_M 181 (56129)) (by decide +kernel)) d_M_init_594 ?_
          refine sx_last hx hb hG hS (mo_24 hM) (mow_24 hW) (sx_in (by omega) (by decide)) d_M_init_597 (fun H locs hS => ?_)
          refine lv_aload_n hx hb d_M_init_598 rfl (lv_at hl 1 rfl) ?_
          refine sx_get EE (hS.1.ob hE hM.1) rfl i_M 24 (by decide) rfl fl_M_70 rfl d_M_init_599 ?_
          refine lv_iconst (v := nI 1) hx hb d_M_init_602 (by decide +kernel) ?_
          refine lv_lconst (v := 1) hx hb d_M_init_603 (by decide +kernel) ?_
          refine sx_last hx hb hG hS (mo_24 hM) (mow_24 hW) (sx_in (by omega) (by decide)) d_M_init_604 (fun H locs hS => ?_)
          refine lv_aload_n hx hb d_M_init_605 rfl (lv_at hl 1 rfl) ?_
          refine sx_get EE (hS.1.ob hE hM.1) rfl i_M 25 (by decide) rfl fl_M_73 rfl d_M_init_606 ?_
          refine lv_iconst (v := nI 0) hx hb d_M_init_609 (by decide +kernel) ?_
          refine lv_ldc2 (v := (56130)) hx hb hown (hts (.constantLong R_M 183 (56130)) (by decide +kernel)) d_M_init_610 ?_
          refine sx_last hx hb hG hS (mo_25 hM) (mow_25 hW) (sx_in (by omega) (by decide)) d_M_init_613 (fun H locs hS => ?_)
          refine lv_aload_n hx hb d_M_init_614 rfl (lv_at hl 1 rfl) ?_
          refine sx_get EE (hS.1.ob hE hM.1) rfl i_M 25 (by decide) rfl fl_M_73 rfl d_M_init_615 ?_
          refine lv_iconst (v := nI 1) hx hb d_M_init_618 (by decide +kernel) ?_
          refine lv_lconst (v := 1) hx hb d_M_init_619 (by decide +kernel) ?_
          refine sx_last hx hb hG hS (mo_25 hM) (mow_25 hW) (sx_in (by omega) (by decide)) d_M_init_620 (fun H locs hS => ?_)
          refine lv_aload_n hx hb d_M_init_621 rfl (lv_at hl 1 rfl) ?_
          refine lv_aload_n hx hb d_M_init_622 rfl (lv_at hl 1 rfl) ?_
          refine sx_get EE (hS.1.ob hE hM.1) rfl i_M 26 (by decide) rfl fl_M_76 rfl d_M_init_623 ?_
          refine lv_aload_n hx hb d_M_init_626 rfl (lv_at hl 1 rfl) ?_
          refine sx_get EE (hS.1.ob hE hM.1) rfl i_M 25 (by decide) rfl fl_M_73 rfl d_M_init_627 ?_
          refine lv_aload_n hx hb d_M_init_630 rfl (lv_at hl 1 rfl) ?_
          refine sx_get EE (hS.1.ob hE hM.1) rfl i_M 10 (by decide) rfl fl_M_27 rfl d_M_init_631 ?_
          refine sx_gv (sx_runV (As := [.ref (r 26), .ref (r 25), .ref (r 10)]) (rest := []) EE (hS.1.ob hE hM.1) rfl rfl (c_M_inverse (hM.kept hS.1 hE) hE hW (hS.a (mo_26 hM)) (mow_26 hW) (hS.a (mo_25 hM)) (hS.a (mo_10 hM))) w_M_185 rfl ⟨rfl, rfl⟩ ⟨Nat.le_of_ble_eq_true rfl, Nat.le_of_ble_eq_true rfl⟩ ⟨Nat.le_of_ble_eq_true rfl, Nat.le_of_ble_eq_true rfl⟩ hl.1 rfl (Nat.le_of_ble_eq_true rfl) d_M_init_634) hS (fun H locs hS => ?_)
          refine lv_aload_n hx hb d_M_init_637 rfl (lv_at hl 1 rfl) ?_
          refine lv_aload_n hx hb d_M_init_638 rfl (lv_at hl 1 rfl) ?_
          refine sx_get EE (hS.1.ob hE hM.1) rfl i_M 14 (by decide) rfl fl_M_40 rfl d_M_init_639 ?_
          refine lv_aload_n hx hb d_M_init_642 rfl (lv_at hl 1 rfl) ?_
          refine sx_get EE (hS.1.ob hE hM.1) rfl i_M 24 (by decide) rfl fl_M_70 rfl d_M_init_643 ?_
          refine lv_aload_n hx hb d_M_init_646 rfl (lv_at hl 1 rfl) ?_
          refine sx_get EE (hS.1.ob hE hM.1) rfl i_M 26 (by decide) rfl fl_M_76 rfl d_M_init_647 ?_
          refine lv_aload_n hx hb d_M_init_650 rfl (lv_at hl 1 rfl) ?_
          refine sx_get EE (hS.1.ob hE hM.1) rfl i_M 10 (by decide) rfl fl_M_27 rfl d_M_init_651 ?_
          refine lv_aload_n hx hb d_M_init_654 rfl (lv_at hl 1 rfl) ?_
          refine sx_get EE (hS.1.ob hE hM.1) rfl i_M 11 (by decide) rfl fl_M_31 rfl d_M_init_655 ?_
          refine sx_gv (sx_runV (As := [.ref (r 14), .ref (r 24), .ref (r 26), .ref (r 10), .ref (r 11)]) (rest := []) EE (hS.1.ob hE hM.1) rfl rfl (c_M_times (hM.kept hS.1 hE) hE hW (hS.a (mo_14 hM)) (mow_14 hW) (hS.a (mo_24 hM)) (hS.a (mo_26 hM)) (hS.a (mo_10 hM)) (hS.a (mo_11 hM))) w_M_188 rfl ⟨rfl, rfl⟩ ⟨Nat.le_of_ble_eq_true rfl, Nat.le_of_ble_eq_true rfl⟩ ⟨Nat.le_of_ble_eq_true rfl, Nat.le_of_ble_eq_true rfl⟩ hl.1 rfl (Nat.le_of_ble_eq_true rfl) d_M_init_658) hS (fun H locs hS => ?_)
          refine lv_aload_n hx hb d_M_init_661 rfl (lv_at hl 1 rfl) ?_
          refine sx_get EE (hS.1.ob hE hM.1) rfl i_M 25 (by decide) rfl fl_M_73 rfl d_M_init_662 ?_
          refine lv_iconst (v := nI 0) hx hb d_M_init_665 (by decide +kernel) ?_
          refine sx_gv (sx_runS (As := [.ref (r 25), .int (nI (0))]) (rest := []) EE (c_M_set (hS.a (mo_25 hM)) (mow_25 hW)) w_M_177 rfl ⟨rfl, rfl⟩ ⟨Nat.le_of_ble_eq_true rfl, Nat.le_of_ble_eq_true rfl⟩ ⟨Nat.le_of_ble_eq_true rfl, Nat.le_of_ble_eq_true rfl⟩ hl.1 rfl (Nat.le_of_ble_eq_true rfl) d_M_init_666) hS (fun H locs hS => ?_)
          refine lv_aload_n hx hb d_M_init_669 rfl (lv_at hl 1 rfl) ?_
          refine sx_get EE (hS.1.ob hE hM.1) rfl i_M 14 (by decide) rfl fl_M_40 rfl d_M_init_670 ?_
          refine lv_aload_n hx hb d_M_init_673 rfl (lv_at hl 1 rfl) ?_
          refine sx_get EE (hS.1.ob hE hM.1) rfl i_M 25 (by decide) rfl fl_M_73 rfl d_M_init_674 ?_
          refine lv_aload_n hx hb d_M_init_677 rfl (lv_at hl 1 rfl) ?_
          refine sx_get EE (hS.1.ob hE hM.1) rfl i_M 14 (by decide) rfl fl_M_40 rfl d_M_init_678 ?_
          refine lv_aload_n hx hb d_M_init_681 rfl (lv_at hl 1 rfl) ?_
          refine sx_get EE (hS.1.ob hE hM.1) rfl i_M 10 (by decide) rfl fl_M_27 rfl d_M_init_682 ?_
          refine sx_gv (sx_runS (As := [.ref (r 14), .ref (r 25), .ref (r 14), .ref (r 10)]) (rest := []) EE (c_M_minus (hS.a (mo_14 hM)) (mow_14 hW) (hS.a (mo_25 hM)) (hS.a (mo_14 hM)) (hS.a (mo_10 hM))) w_M_192 rfl ⟨rfl, rfl⟩ ⟨Nat.le_of_ble_eq_true rfl, Nat.le_of_ble_eq_true rfl⟩ ⟨Nat.le_of_ble_eq_true rfl, Nat.le_of_ble_eq_true rfl⟩ hl.1 rfl (Nat.le_of_ble_eq_true rfl) d_M_init_685) hS (fun H locs hS => ?_)
          refine lv_aload_n hx hb d_M_init_688 rfl (lv_at hl 1 rfl) ?_
          refine sx_get EE (hS.1.ob hE hM.1) rfl i_M 24 (by decide) rfl fl_M_70 rfl d_M_init_689 ?_
          refine lv_iconst (v := nI 2) hx hb d_M_init_692 (by decide +kernel) ?_
          refine sx_gv (sx_runS (As := [.ref (r 24), .int (nI (2))]) (rest := []) EE (c_M_set (hS.a (mo_24 hM)) (mow_24 hW)) w_M_177 rfl ⟨rfl, rfl⟩ ⟨Nat.le_of_ble_eq_true rfl, Nat.le_of_ble_eq_true rfl⟩ ⟨Nat.le_of_ble_eq_true rfl, Nat.le_of_ble_eq_true rfl⟩ hl.1 rfl (Nat.le_of_ble_eq_true rfl) d_M_init_693) hS (fun H locs hS => ?_)
          refine lv_iconst (v := nI 0) hx hb d_M_init_696 (by decide +kernel) ?_
          refine lv_istore_n (lv' := [(1, .int (nI (0))), (0, .ref o)]) hx hb d_M_init_697 rfl hl (by decide) rfl (fun ls hl => ?_)
          have lp698 : ∀ (k i3 : Nat) (H : Heap) (locs : List Loc) (ls : Array Slot), i3 + k = 16 → sx_S g E F H0 H locs → lv_has ls 2 [(1, .int (nI (i3))), (0, .ref o)] → W p l e rm_M_init s m args below meth c H locs 48 201362 Q (F0 m 698 ls []) := by
            intro k
            induction k with
            | zero =>
              intro i3  H locs ls hi  hS hl
              refine lv_iload_n hx hb d_M_init_698 rfl (lv_at hl 0 rfl) ?_
              refine lv_bipush (v := nI 16) hx hb d_M_init_699 (by decide +kernel) ?_
              refine lv_icmp_ge (tgt := 741) hx hb d_M_init_701 (by decide) (fun _ => ?_) (fun q => absurd (nI_le (by omega) (by omega)) q)
              refine lv_aload_n hx hb d_M_init_741 rfl (lv_at hl 1 rfl) ?_
              refine lv_aload_n hx hb d_M_init_742 rfl (lv_at hl 1 rfl) ?_
              refine sx_get EE (hS.1.ob hE hM.1) rfl i_M 15 (by decide) rfl fl_M_43 rfl d_M_init_743 ?_
              refine lv_aload_n hx hb d_M_init_746 rfl (lv_at hl 1 rfl) ?_
              refine sx_get EE (hS.1.ob hE hM.1) rfl i_M 24 (by decide) rfl fl_M_70 rfl d_M_init_747 ?_
              refine lv_aload_n hx hb d_M_init_750 rfl (lv_at hl 1 rfl) ?_
              refine sx_get EE (hS.1.ob hE hM.1) rfl i_M 27 (by decide) rfl fl_M_79 rfl d_M_init_751 ?_
              refine sx_gv (sx_runV (As := [.ref (r 15), .ref (r 24), .ref (r 27)]) (rest := []) EE (hS.1.ob hE hM.1) rfl rfl (c_M_power (hM.kept hS.1 hE) hE hW (hS.a (mo_15 hM)) (mow_15 hW) (hS.a (mo_24 hM)) (hS.a (mo_27 hM))) w_M_200 rfl ⟨rfl, rfl⟩ ⟨Nat.le_of_ble_eq_true rfl, Nat.le_of_ble_eq_true rfl⟩ ⟨Nat.le_of_ble_eq_true rfl, Nat.le_of_ble_eq_true rfl⟩ hl.1 rfl (Nat.le_of_ble_eq_true rfl) d_M_init_754) hS (fun H locs hS => ?_)
              refine lv_aload_n hx hb d_M_init_757 rfl (lv_at hl 1 rfl) ?_
              refine sx_get EE (hS.1.ob hE hM.1) rfl i_M 24 (by decide) rfl fl_M_70 rfl d_M_init_758 ?_
              refine lv_iconst (v := nI 5) hx hb d_M_init_761 (by decide +kernel) ?_
              refine sx_gv (sx_runS (As := [.ref (r 24), .int (nI (5))]) (rest := []) EE (c_M_set (hS.a (mo_24 hM)) (mow_24 hW)) w_M_177 rfl ⟨rfl, rfl⟩ ⟨Nat.le_of_ble_eq_true rfl, Nat.le_of_ble_eq_true rfl⟩ ⟨Nat.le_of_ble_eq_true rfl, Nat.le_of_ble_eq_true rfl⟩ hl.1 rfl (Nat.le_of_ble_eq_true rfl) d_M_init_762) hS (fun H locs hS => ?_)
              refine lv_aload_n hx hb d_M_init_765 rfl (lv_at hl 1 rfl) ?_
              refine lv_aload_n hx hb d_M_init_766 rfl (lv_at hl 1 rfl) ?_
              refine sx_get EE (hS.1.ob hE hM.1) rfl i_M 26 (by decide) rfl fl_M_76 rfl d_M_init_767 ?_
              refine lv_aload_n hx hb d_M_init_770 rfl (lv_at hl 1 rfl) ?_
              refine sx_get EE (hS.1.ob hE hM.1) rfl i_M 24 (by decide) rfl fl_M_70 rfl d_M_init_771 ?_
              refine lv_aload_n hx hb d_M_init_774 rfl (lv_at hl 1 rfl) ?_
              refine sx_get EE (hS.1.ob hE hM.1) rfl i_M 10 (by decide) rfl fl_M_27 rfl d_M_init_775 ?_
              refine sx_gv (sx_runV (As := [.ref (r 26), .ref (r 24), .ref (r 10)]) (rest := []) EE (hS.1.ob hE hM.1) rfl rfl (c_M_inverse (hM.kept hS.1 hE) hE hW (hS.a (mo_26 hM)) (mow_26 hW) (hS.a (mo_24 hM)) (hS.a (mo_10 hM))) w_M_185 rfl ⟨rfl, rfl⟩ ⟨Nat.le_of_ble_eq_true rfl, Nat.le_of_ble_eq_true rfl⟩ ⟨Nat.le_of_ble_eq_true rfl, Nat.le_of_ble_eq_true rfl⟩ hl.1 rfl (Nat.le_of_ble_eq_true rfl) d_M_init_778) hS (fun H locs hS => ?_)
              refine lv_aload_n hx hb d_M_init_781 rfl (lv_at hl 1 rfl) ?_
              refine sx_get EE (hS.1.ob hE hM.1) rfl i_M 24 (by decide) rfl fl_M_70 rfl d_M_init_782 ?_
              refine lv_iconst (v := nI 4) hx hb d_M_init_785 (by decide +kernel) ?_
              refine sx_gv (sx_runS (As := [.ref (r 24), .int (nI (4))]) (rest := []) EE (c_M_set (hS.a (mo_24 hM)) (mow_24 hW)) w_M_177 rfl ⟨rfl, rfl⟩ ⟨Nat.le_of_ble_eq_true rfl, Nat.le_of_ble_eq_true rfl⟩ ⟨Nat.le_of_ble_eq_true rfl, Nat.le_of_ble_eq_true rfl⟩ hl.1 rfl (Nat.le_of_ble_eq_true rfl) d_M_init_786) hS (fun H locs hS => ?_)
              refine lv_aload_n hx hb d_M_init_789 rfl (lv_at hl 1 rfl) ?_
              refine lv_aload_n hx hb d_M_init_790 rfl (lv_at hl 1 rfl) ?_
              refine sx_get EE (hS.1.ob hE hM.1) rfl i_M 17 (by decide) rfl fl_M_49 rfl d_M_init_791 ?_
              refine lv_aload_n hx hb d_M_init_794 rfl (lv_at hl 1 rfl) ?_
              refine sx_get EE (hS.1.ob hE hM.1) rfl i_M 24 (by decide) rfl fl_M_70 rfl d_M_init_795 ?_
              refine lv_aload_n hx hb d_M_init_798 rfl (lv_at hl 1 rfl) ?_
              refine sx_get EE (hS.1.ob hE hM.1) rfl i_M 26 (by decide) rfl fl_M_76 rfl d_M_init_799 ?_
              refine lv_aload_n hx hb d_M_init_802 rfl (lv_at hl 1 rfl) ?_
              refine sx_get EE (hS.1.ob hE hM.1) rfl i_M 10 (by decide) rfl fl_M_27 rfl d_M_init_803 ?_
              refine lv_aload_n hx hb d_M_init_806 rfl (lv_at hl 1 rfl) ?_
              refine sx_get EE (hS.1.ob hE hM.1) rfl i_M 11 (by decide) rfl fl_M_31 rfl d_M_init_807 ?_
              refine sx_gv (sx_runV (As := [.ref (r 17), .ref (r 24), .ref (r 26), .ref (r 10), .ref (r 11)]) (rest := []) EE (hS.1.ob hE hM.1) rfl rfl (c_M_times (hM.kept hS.1 hE) hE hW (hS.a (mo_17 hM)) (mow_17 hW) (hS.a (mo_24 hM)) (hS.a (mo_26 hM)) (hS.a (mo_10 hM)) (hS.a (mo_11 hM))) w_M_188 rfl ⟨rfl, rfl⟩ ⟨Nat.le_of_ble_eq_true rfl, Nat.le_of_ble_eq_true rfl⟩ ⟨Nat.le_of_ble_eq_true rfl, Nat.le_of_ble_eq_true rfl⟩ hl.1 rfl (Nat.le_of_ble_eq_true rfl) d_M_init_810) hS (fun H locs hS => ?_)
              refine lv_iconst (v := nI 0) hx hb d_M_init_813 (by decide +kernel) ?_
              refine lv_istore_n (lv' := [(1, .int (nI (0))), (0, .ref o)]) hx hb d_M_init_814 rfl hl (by decide) rfl (fun ls hl => ?_)
              have lp815 : ∀ (k i4 : Nat) (H : Heap) (locs : List Loc) (ls : Array Slot), i4 + k = 32 → sx_S g E F H0 H locs → lv_has ls 2 [(1, .int (nI (i4))), (0, .ref o)] → W p l e rm_M_init s m args below meth c H locs 48 201362 Q (F0 m 815 ls []) := by
                intro k
                induction k with
                | zero =>
                  intro i4  H locs ls hi  hS hl
                  refine lv_iload_n hx hb d_M_init_815 rfl (lv_at hl 0 rfl) ?_
                  refine lv_bipush (v := nI 32) hx hb d_M_init_816 (by decide +kernel) ?_
                  refine lv_icmp_ge (tgt := 850) hx hb d_M_init_818 (by decide) (fun _ => ?_) (fun q => absurd (nI_le (by omega) (by omega)) q)
                  refine lv_aload_n hx hb d_M_init_850 rfl (lv_at hl 1 rfl) ?_
                  refine sx_gn (sx_runV (As := []) (rest := []) EE (hS.1.ob hE hM.1) rfl rfl (c_M_decode (hM.kept hS.1 hE) hE hW) w_M_203 rfl ⟨rfl, rfl⟩ ⟨Nat.le_of_ble_eq_true rfl, Nat.le_of_ble_eq_true rfl⟩ ⟨Nat.le_of_ble_eq_true rfl, Nat.le_of_ble_eq_true rfl⟩ hl.1 rfl (Nat.le_of_ble_eq_true rfl) d_M_init_851) hS (fun n5 h_n5 H locs hS => ?_)
                  have h_n5 : n5 ≤ 1 := h_n5
                  refine lv_pop hx hb d_M_init_854 rfl ?_
                  refine lv_aload_n hx hb d_M_init_855 rfl (lv_at hl 1 rfl) ?_
                  refine sx_get EE (hS.1.ob hE hM.1) rfl i_M 16 (by decide) rfl fl_M_46 rfl d_M_init_856 ?_
                  refine lv_aload_n hx hb d_M_init_859 rfl (lv_at hl 1 rfl) ?_
                  refine sx_get EE (hS.1.ob hE hM.1) rfl i_M 20 (by decide) rfl fl_M_58 rfl d_M_init_860 ?_
                  refine sx_gv (sx_runS (As := [.ref (r 16), .ref (r 20)]) (rest := []) EE (c_M_copy (hS.a (mo_16 hM)) (mow_16 hW) (hS.a (mo_20 hM))) w_M_207 rfl ⟨rfl, rfl⟩ ⟨Nat.le_of_ble_eq_true rfl, Nat.le_of_ble_eq_true rfl⟩ ⟨Nat.le_of_ble_eq_true rfl, Nat.le_of_ble_eq_true rfl⟩ hl.1 rfl (Nat.le_of_ble_eq_true rfl) d_M_init_863) hS (fun H locs hS => ?_)
                  exact hret _ _ _ _ hS d_M_init_866
                | succ k ih815 =>
                  intro i4  H locs ls hi  hS hl
                  refine lv_iload_n hx hb d_M_init_815 rfl (lv_at hl 0 rfl) ?_
                  refine lv_bipush (v := nI 32) hx hb d_M_init_816 (by decide +kernel) ?_
                  refine lv_icmp_ge (tgt := 850) hx hb d_M_init_818 (by decide) (fun q => absurd q (nI_ge (by omega) (by omega))) (fun _ => ?_)
                  refine lv_aload_n hx hb d_M_init_821 rfl (lv_at hl 1 rfl) ?_
                  refine sx_get EE (hS.1.ob hE hM.1) rfl i_M 35 (by decide) rfl fl_M_103 rfl d_M_init_822 ?_
                  refine lv_iload_n hx hb d_M_init_825 rfl (lv_at hl 0 rfl) ?_
                  refine lv_aload_n hx hb d_M_init_826 rfl (lv_at hl 1 rfl) ?_
                  refine sx_get EE (hS.1.ob hE hM.1) rfl i_M 17 (by decide) rfl fl_M_49 rfl d_M_init_827 ?_
                  refine lv_iload_n hx hb d_M_init_830 rfl (lv_at hl 0 rfl) ?_
                  refine lv_iconst (v := nI 2) hx hb d_M_init_831 (by decide +kernel) ?_
                  refine lv_idiv hx hb d_M_init_832 (nI_ne0 (by omega) (by omega)) ?_
                  refine sx_ti (y := nI (i4 / 2)) (pk_div (by omega) (by omega) (by omega)) ?_
                  refine sx_lald hx hb hG hS (mo_17 hM) (sx_in (by omega) (by decide)) d_M_init_833 (fun z6 => ?_)
                  refine lv_bipush (v := nI 8) hx hb d_M_init_834 (by decide +kernel) ?_
                  refine lv_iload_n hx hb d_M_init_836 rfl (lv_at hl 0 rfl) ?_
                  refine lv_iconst (v := nI 2) hx hb d_M_init_837 (by decide +kernel) ?_
                  refine lv_irem hx hb d_M_init_838 (nI_ne0 (by omega) (by omega)) ?_
                  refine sx_ti (y := nI (i4 % 2)) (pk_rem (by omega) (by omega) (by omega)) ?_
                  refine lv_imul hx hb d_M_init_839 ?_
                  refine sx_ti (y := nI (8 * (i4 % 2))) (pk_mul _ _) ?_
                  refine sx_lshr hx hb d_M_init_840 (fun z7 => ?_)
                  refine sx_l2i hx hb d_M_init_841 (fun z8 => ?_)
                  refine sx_i2b hx hb d_M_init_842 (fun z9 => ?_)
                  refine sx_bast hx hb hG hS (mo_35 hM) (mow_35 hW) (sx_in (by omega) (by decide)) d_M_init_843 (fun H locs hS => ?_)
                  refine lv_iinc (v := nI (i4 + 1)) (lv' := [(1, .int (nI (i4 + 1))), (0, .ref o)]) hx hb d_M_init_844 hl (k := 0) rfl (sx_inc _ _) (by decide) rfl (fun ls hl => ?_)
                  refine lv_goto (tgt := 815) hx hb d_M_init_847 (by decide) ?_
                  exact ih815 (i4 + 1)  _ _ _ (by omega)  hS (lv_sub hl [0, 1] rfl)
              exact lp815 (32) 0  _ _ _ (by omega)  hS (lv_sub hl [0, 1] rfl)
            | succ k ih698 =>
              intro i3  H locs ls hi  hS hl
              refine lv_iload_n hx hb d_M_init_698 rfl (lv_at hl 0 rfl) ?_
              refine lv_bipush (v := nI 16) hx hb d_M_init_699 (by decide +kernel) ?_
              refine lv_icmp_ge (tgt := 741) hx hb d_M_init_701 (by decide) (fun q => absurd q (nI_ge (by omega) (by omega))) (fun _ => ?_)
              refine lv_aload_n hx hb d_M_init_704 rfl (lv_at hl 1 rfl) ?_
              refine sx_get EE (hS.1.ob hE hM.1) rfl i_M 27 (by decide) rfl fl_M_79 rfl d_M_init_705 ?_
              refine lv_iload_n hx hb d_M_init_708 rfl (lv_at hl 0 rfl) ?_
              refine lv_iload_n hx hb d_M_init_709 rfl (lv_at hl 0 rfl) ?_
              have jn734_10 : ∀ (w10 : Int64) (H : Heap) (locs : List Loc) (ls : Array Slot), sx_S g E F H0 H locs → lv_has ls 2 [(1, .int (nI (i3))), (0, .ref o)] → W p l e rm_M_init s m args below meth c H locs 48 201362 Q (F0 m 734 ls [.long w10, .int (nI (i3)), .ref (r 27)]) := by
                intro w10 H locs ls  hS hl
                refine sx_last hx hb hG hS (mo_27 hM) (mow_27 hW) (sx_in (by omega) (by decide)) d_M_init_734 (fun H locs hS => ?_)
                refine lv_iinc (v := nI (i3 + 1)) (lv' := [(1, .int (nI (i3 + 1))), (0, .ref o)]) hx hb d_M_init_735 hl (k := 0) rfl (sx_inc _ _) (by decide) rfl (fun ls hl => ?_)
                refine lv_goto (tgt := 698) hx hb d_M_init_738 (by decide) ?_
                exact ih698 (i3 + 1)  _ _ _ (by omega)  hS (lv_sub hl [0, 1] rfl)
              refine lv_if_ne (tgt := 719) hx hb d_M_init_710 (by decide) (fun q710 => ?_) (fun q710 => ?_)
              · skip
                have q710 : ¬ (i3 = 0) := fun z => q710 ((nI_eq (a := i3) (b := 0) (by omega) (by omega)).mpr z)
                refine lv_iload_n hx hb d_M_init_719 rfl (lv_at hl 0 rfl) ?_
                refine lv_bipush (v := nI 15) hx hb d_M_init_720 (by decide +kernel) ?_
                refine lv_icmp_ne (tgt := 731) hx hb d_M_init_722 (by decide) (fun q722 => ?_) (fun q722 => ?_)
                · skip
                  have q722 : ¬ (i3 = 15) := fun z => q722 ((nI_eq (a := i3) (b := 15) (by omega) (by omega)).mpr z)
                  refine lv_ldc2 (v := (65535)) hx hb hown (hts (.constantLong R_M 169 (65535)) (by decide +kernel)) d_M_init_731 ?_
                  exact jn734_10 ((65535)) _ _ _  hS (lv_sub hl [0, 1] rfl)
                · skip
                  have q722 : i3 = 15 := (nI_eq (a := i3) (b := 15) (by omega) (by omega)).mp q722
                  refine lv_ldc2 (v := (8191)) hx hb hown (hts (.constantLong R_M 198 (8191)) (by decide +kernel)) d_M_init_725 ?_
                  refine lv_goto (tgt := 734) hx hb d_M_init_728 (by decide) ?_
                  exact jn734_10 ((8191)) _ _ _  hS (lv_sub hl [0, 1] rfl)
              · skip
                have q710 : i3 = 0 := (nI_eq (a := i3) (b := 0) (by omega) (by omega)).mp q710
                refine lv_ldc2 (v := (65531)) hx hb hown (hts (.constantLong R_M 196 (65531)) (by decide +kernel)) d_M_init_713 ?_
                refine lv_goto (tgt := 734) hx hb d_M_init_716 (by decide) ?_
                exact jn734_10 ((65531)) _ _ _  hS (lv_sub hl [0, 1] rfl)
          exact lp698 (16) 0  _ _ _ (by omega)  hS (lv_sub hl [0, 1] rfl)
        | succ k ih503 =>
          intro i2  H locs ls hi  hS hl
          refine lv_iload_n hx hb d_M_init_503 rfl (lv_at hl 0 rfl) ?_
          refine lv_bipush (v := nI 16) hx hb d_M_init_504 (by decide +kernel) ?_
          refine lv_icmp_ge (tgt := 550) hx hb d_M_init_506 (by decide) (fun q => absurd q (nI_ge (by omega) (by omega))) (fun _ => ?_)
          refine lv_aload_n hx hb d_M_init_509 rfl (lv_at hl 1 rfl) ?_
          refine sx_get EE (hS.1.ob hE hM.1) rfl i_M 12 (by decide) rfl fl_M_34 rfl d_M_init_510 ?_
          refine lv_iload_n hx hb d_M_init_513 rfl (lv_at hl 0 rfl) ?_
          refine lv_iload_n hx hb d_M_init_514 rfl (lv_at hl 0 rfl) ?_
          refine lv_bipush (v := nI 8) hx hb d_M_init_515 (by decide +kernel) ?_
          have jn543_14 : ∀ (w14 : Int64) (H : Heap) (locs : List Loc) (ls : Array Slot), sx_S g E F H0 H locs → lv_has ls 2 [(1, .int (nI (i2))), (0, .ref o)] → W p l e rm_M_init s m args below meth c H locs 48 201362 Q (F0 m 543 ls [.long w14, .int (nI (i2)), .ref (r 12)]) := by
            intro w14 H locs ls  hS hl
            refine sx_last hx hb hG hS (mo_12 hM) (mow_12 hW) (sx_in (by omega) (by decide)) d_M_init_543 (fun H locs hS => ?_)
            refine lv_iinc (v := nI (i2 + 1)) (lv' := [(1, .int (nI (i2 + 1))), (0, .ref o)]) hx hb d_M_init_544 hl (k := 0) rfl (sx_inc _ _) (by decide) rfl (fun ls hl => ?_)
            refine lv_goto (tgt := 503) hx hb d_M_init_547 (by decide) ?_
            exact ih503 (i2 + 1)  _ _ _ (by omega)  hS (lv_sub hl [0, 1] rfl)
          refine lv_icmp_ge (tgt := 530) hx hb d_M_init_517 (by decide) (fun q517 => ?_) (fun q517 => ?_)
          · skip
            have q517 : 8 ≤ i2 := (nI_leI (a := 8) (b := i2) (by omega) (by omega)).mp q517
            refine lv_iload_n hx hb d_M_init_530 rfl (lv_at hl 0 rfl) ?_
            refine lv_bipush (v := nI 15) hx hb d_M_init_531 (by decide +kernel) ?_
            refine lv_icmp_ne (tgt := 542) hx hb d_M_init_533 (by decide) (fun q533 => ?_) (fun q533 => ?_)
            · skip
              have q533 : ¬ (i2 = 15) := fun z => q533 ((nI_eq (a := i2) (b := 15) (by omega) (by omega)).mpr z)
              refine lv_lconst (v := 0) hx hb d_M_init_542 (by decide +kernel) ?_
              exact jn543_14 0 _ _ _  hS (lv_sub hl [0, 1] rfl)
            · skip
              have q533 : i2 = 15 := (nI_eq (a := i2) (b := 15) (by omega) (by omega)).mp q533
              refine lv_ldc2 (v := (4096)) hx hb hown (hts (.constantLong R_M 175 (4096)) (by decide +kernel)) d_M_init_536 ?_
              refine lv_goto (tgt := 543) hx hb d_M_init_539 (by decide) ?_
              exact jn543_14 ((4096)) _ _ _  hS (lv_sub hl [0, 1] rfl)
          · skip
            have q517 : ¬ (8 ≤ i2) := fun z => q517 ((nI_leI (a := 8) (b := i2) (by omega) (by omega)).mpr z)
            refine lv_aload_n hx hb d_M_init_520 rfl (lv_at hl 1 rfl) ?_
            refine sx_get EE (hS.1.ob hE hM.1) rfl i_M 39 (by decide) rfl fl_M_120 rfl d_M_init_521 ?_
            refine lv_iload_n hx hb d_M_init_524 rfl (lv_at hl 0 rfl) ?_
            refine sx_iald hx hb hG hS (mo_39 hM) (sx_in (by omega) (by decide)) d_M_init_525 (fun z16 => ?_)
            refine sx_i2l hx hb d_M_init_526 (fun z17 => ?_)
            refine lv_goto (tgt := 543) hx hb d_M_init_527 (by decide) ?_
            exact jn543_14 z17 _ _ _  hS (lv_sub hl [0, 1] rfl)
      exact lp503 (16) 0  _ _ _ (by omega)  hS (lv_sub hl [0, 1] rfl)
    | succ k ih443 =>
      intro i1  H locs ls hi  hS hl
      refine lv_iload_n hx hb d_M_init_443 rfl (lv_at hl 0 rfl) ?_
      refine lv_bipush (v := nI 16) hx hb d_M_init_444 (by decide +kernel) ?_
      refine lv_icmp_ge (tgt := 486) hx hb d_M_init_446 (by decide) (fun q => absurd q (nI_ge (by omega) (by omega))) (fun _ => ?_)
      refine lv_aload_n hx hb d_M_init_449 rfl (lv_at hl 1 rfl) ?_
      refine sx_get EE (hS.1.ob hE hM.1) rfl i_M 10 (by decide) rfl fl_M_27 rfl d_M_init_450 ?_
      refine lv_iload_n hx hb d_M_init_453 rfl (lv_at hl 0 rfl) ?_
      refine lv_iload_n hx hb d_M_init_454 rfl (lv_at hl 0 rfl) ?_
      have jn479_18 : ∀ (w18 : Int64) (H : Heap) (locs : List Loc) (ls : Array Slot), sx_S g E F H0 H locs → lv_has ls 2 [(1, .int (nI (i1))), (0, .ref o)] → W p l e rm_M_init s m args below meth c H locs 48 201362 Q (F0 m 479 ls [.long w18, .int (nI (i1)), .ref (r 10)]) := by
        intro w18 H locs ls  hS hl
        refine sx_last hx hb hG hS (mo_10 hM) (mow_10 hW) (sx_in (by omega) (by decide)) d_M_init_479 (fun H locs hS => ?_)
        refine lv_iinc (v := nI (i1 + 1)) (lv' := [(1, .int (nI (i1 + 1))), (0, .ref o)]) hx hb d_M_init_480 hl (k := 0) rfl (sx_inc _ _) (by decide) rfl (fun ls hl => ?_)
        refine lv_goto (tgt := 443) hx hb d_M_init_483 (by decide) ?_
        exact ih443 (i1 + 1)  _ _ _ (by omega)  hS (lv_sub hl [0, 1] rfl)
      refine lv_if_ne (tgt := 464) hx hb d_M_init_455 (by decide) (fun q455 => ?_) (fun q455 => ?_)
      · skip
        have q455 : ¬ (i1 = 0) := fun z => q455 ((nI_eq (a := i1) (b := 0) (by omega) (by omega)).mpr z)
        refine lv_iload_n hx hb d_M_init_464 rfl (lv_at hl 0 rfl) ?_
        refine lv_bipush (v := nI 15) hx hb d_M_init_465 (by decide +kernel) ?_
        refine lv_icmp_ne (tgt := 476) hx hb d_M_init_467 (by decide) (fun q467 => ?_) (fun q467 => ?_)
        · skip
          have q467 : ¬ (i1 = 15) := fun z => q467 ((nI_eq (a := i1) (b := 15) (by omega) (by omega)).mpr z)
          refine lv_ldc2 (v := (65535)) hx hb hown (hts (.constantLong R_M 169 (65535)) (by decide +kernel)) d_M_init_476 ?_
          exact jn479_18 ((65535)) _ _ _  hS (lv_sub hl [0, 1] rfl)
        · skip
          have q467 : i1 = 15 := (nI_eq (a := i1) (b := 15) (by omega) (by omega)).mp q467
          refine lv_ldc2 (v := (32767)) hx hb hown (hts (.constantLong R_M 167 (32767)) (by decide +kernel)) d_M_init_470 ?_
          refine lv_goto (tgt := 479) hx hb d_M_init_473 (by decide) ?_
          exact jn479_18 ((32767)) _ _ _  hS (lv_sub hl [0, 1] rfl)
      · skip
        have q455 : i1 = 0 := (nI_eq (a := i1) (b := 0) (by omega) (by omega)).mp q455
        refine lv_ldc2 (v := (65517)) hx hb hown (hts (.constantLong R_M 165 (65517)) (by decide +kernel)) d_M_init_458 ?_
        refine lv_goto (tgt := 479) hx hb d_M_init_461 (by decide) ?_
        exact jn479_18 ((65517)) _ _ _  hS (lv_sub hl [0, 1] rfl)
  exact lp443 (16) 0  _ _ _ (by omega)  hS (lv_sub hl [0, 1] rfl)
set_option maxHeartbeats 4000000 in
set_option maxRecDepth 100000 in
theorem c_M_init {l : Launch} {D : va_G} {g : ClassId → FieldType → Prop} {E : Nat → Prop} {H0 : Heap} {o : Nat} (hEo : E o) (hEn : ∀ q, H0.size ≤ q → E q) (hO : va_P D classes [(o, .inr (0, [.int 0, .null, .null, .null, .null, .int 0, .int 0, .int 0, .int 0, .null, .null, .null, .null, .null, .null, .null, .null, .null, .null, .null, .null, .null, .null, .null, .null, .null, .null, .null, .null, .null, .null, .null, .null, .null, .null, .null, .null, .null, .null, .null, .null, .null, .null, .null, .null, .null, .null, .null, .null, .null, .null, .null, .null]))] H0) : Met l y_M_init (.code y_M_init b_M_init 2 none :: G_) rm_M_init (sx_Pc [.ref o] H0 D g) (va_Qv (fun _ : Unit => True) (fun _ t => sx_J g E H0 t.heap ∧ ∃ r : Nat → Nat, mo_ D g t.heap o r (fun _ => 0) ∧ zi_ t.heap (r 9) 6 ∧ ∀ q ∈ mo_arr, H0.size ≤ r q.1) E) 48 201362 E := by
  refine sx_mva (own := R_M) (P := fun H => ∃ r : Nat → Nat, mo_ D g H o r (fun _ => 0) ∧ zi_ H (r 9) 6 ∧ ∀ q ∈ mo_arr, H0.size ≤ r q.1) (by decide) rfl (Nat.le_of_ble_eq_true rfl) ?_
  intro p e s m args below meth c Q ls EE hin hl hret
  obtain ⟨hx, hb, hml, hown, hts, hG, hK⟩ := id EE
  have hS : sx_S g E E H0 H0 [] := sx_S.rf
  have hA : sx_AR g H0 [] := sx_AR.nil
  have hZ : ∀ q ∈ ([] : List (Nat × FieldType × Nat)), H0.size ≤ q.1 := fun q h => by cases h
  have ho : o < H0.size := (hO 0 _ rfl).lt
  have hl : lv_has ls 2 [(0, .ref o)] := hl
  refine lv_aload_n hx hb d_M_init_0 rfl (lv_at hl 0 rfl) ?_
  refine W.objInit hx hb hown (hts (.methodLink R_M 1 objectInit) (by decide +kernel)) (hts (.instanceMethod objectInit) (by decide +kernel)) (hts (.code objectInit ⟨#[0xb1]⟩ 1 none) (by decide +kernel)) rfl (by rw [hml]; exact hl.1) rfl d_M_init_1 (Nat.le_of_ble_eq_true rfl) (Nat.le_of_ble_eq_true rfl) ?_
  refine W.eq (g2 := F0 m 4 ls []) rfl ?_
  refine lv_aload_n hx hb d_M_init_4 rfl (lv_at hl 0 rfl) ?_
  refine lv_ldc (v := nI 65536) hx hb hown (hts (.constant R_M 7 (nI 65536)) (by decide +kernel)) d_M_init_5 ?_
  have hz := hS.1.1
  refine sx_newa (cells' := 1) (slots' := 65536) hx hb hG hts rfl (Or.inr (Or.inl rfl)) (by decide +kernel) (by decide) (by decide) rfl rfl (Nat.le_of_ble_eq_true rfl) (Nat.le_of_ble_eq_true rfl) hS d_M_init_7 (fun q7 H e0 a0 l0 y0 hJ hk hS => ?_)
  have hA := (hA.kept hJ).cons a0 l0
  have hO := hO.grown hk
  have z0 : H0.size ≤ q7 := e0 ▸ hz
  have hZ : ∀ z ∈ ([(q7, .byte, 65536)] : List (Nat × FieldType × Nat)), H0.size ≤ z.1 := fun z hz => (List.mem_cons.mp hz).elim (fun e => by rw [e]; exact z0) (hZ z)
  refine sx_putF EE hin hO rfl i_M t_M tok_M n_M 1 (by decide) rfl fl_M_8 (ty := t_M 1) (by decide +kernel) rfl rfl (Nat.le_of_ble_eq_true rfl) hEo hS d_M_init_9 (fun H locs hO hJ hs hS => ?_)
  have hA := hA.kept hJ
  have hO : va_P D classes [(o, .inr (0, [.int 0, .ref q7, .null, .null, .null, .int 0, .int 0, .int 0, .int 0, .null, .null, .null, .null, .null, .null, .null, .null, .null, .null, .null, .null, .null, .null, .null, .null, .null, .null, .null, .null, .null, .null, .null, .null, .null, .null, .null, .null, .null, .null, .null, .null, .null, .null, .null, .null, .null, .null, .null, .null, .null, .null, .null, .null]))] H := hO
  refine lv_aload_n hx hb d_M_init_12 rfl (lv_at hl 0 rfl) ?_
  refine lv_ldc (v := nI 65536) hx hb hown (hts (.constant R_M 7 (nI 65536)) (by decide +kernel)) d_M_init_13 ?_
  have hz := hS.1.1
  refine sx_newa (cells' := 2) (slots' := 131072) hx hb hG hts rfl (Or.inr (Or.inl rfl)) (by decide +kernel) (by decide) (by decide) rfl rfl (Nat.le_of_ble_eq_true rfl) (Nat.le_of_ble_eq_true rfl) hS d_M_init_15 (fun q15 H e0 a0 l0 y0 hJ hk hS => ?_)
  have hA := (hA.kept hJ).cons a0 l0
  have hO := hO.grown hk
  have z0 : H0.size ≤ q15 := e0 ▸ hz
  have hZ : ∀ z ∈ ([(q15, .byte, 65536), (q7, .byte, 65536)] : List (Nat × FieldType × Nat)), H0.size ≤ z.1 := fun z hz => (List.mem_cons.mp hz).elim (fun e => by rw [e]; exact z0) (hZ z)
  refine sx_putF EE hin hO rfl i_M t_M tok_M n_M 2 (by decide) rfl fl_M_14 (ty := t_M 2) (by decide +kernel) rfl rfl (Nat.le_of_ble_eq_true rfl) hEo hS d_M_init_17 (fun H locs hO hJ hs hS => ?_)
  have hA := hA.kept hJ
  have hO : va_P D classes [(o, .inr (0, [.int 0, .ref q7, .ref q15, .null, .null, .int 0, .int 0, .int 0, .int 0, .null, .null, .null, .null, .null, .null, .null, .null, .null, .null, .null, .null, .null, .null, .null, .null, .null, .null, .null, .null, .null, .null, .null, .null, .null, .null, .null, .null, .null, .null, .null, .null, .null, .null, .null, .null, .null, .null, .null, .null, .null, .null, .null, .null]))] H := hO
  refine lv_aload_n hx hb d_M_init_20 rfl (lv_at hl 0 rfl) ?_
  refine lv_bipush (v := nI 64) hx hb d_M_init_21 (by decide +kernel) ?_
  have hz := hS.1.1
  refine sx_newa (cells' := 3) (slots' := 131136) hx hb hG hts rfl (Or.inr (Or.inl rfl)) (by decide +kernel) (by decide) (by decide) rfl rfl (Nat.le_of_ble_eq_true rfl) (Nat.le_of_ble_eq_true rfl) hS d_M_init_23 (fun q23 H e0 a0 l0 y0 hJ hk hS => ?_)
  have hA := (hA.kept hJ).cons a0 l0
  have hO := hO.grown hk
  have z0 : H0.size ≤ q23 := e0 ▸ hz
  have hZ : ∀ z ∈ ([(q23, .byte, 64), (q15, .byte, 65536), (q7, .byte, 65536)] : List (Nat × FieldType × Nat)), H0.size ≤ z.1 := fun z hz => (List.mem_cons.mp hz).elim (fun e => by rw [e]; exact z0) (hZ z)
  refine sx_putF EE hin hO rfl i_M t_M tok_M n_M 3 (by decide) rfl fl_M_17 (ty := t_M 3) (by decide +kernel) rfl rfl (Nat.le_of_ble_eq_true rfl) hEo hS d_M_init_25 (fun H locs hO hJ hs hS => ?_)
  have hA := hA.kept hJ
  have hO : va_P D classes [(o, .inr (0, [.int 0, .ref q7, .ref q15, .ref q23, .null, .int 0, .int 0, .int 0, .int 0, .null, .null, .null, .null, .null, .null, .null, .null, .null, .null, .null, .null, .null, .null, .null, .null, .null, .null, .null, .null, .null, .null, .null, .null, .null, .null, .null, .null, .null, .null, .null, .null, .null, .null, .null, .null, .null, .null, .null, .null, .null, .null, .null, .null]))] H := hO
  refine lv_aload_n hx hb d_M_init_28 rfl (lv_at hl 0 rfl) ?_
  refine lv_sipush (v := nI 3200) hx hb d_M_init_29 (by decide +kernel) ?_
  have hz := hS.1.1
  refine sx_newa (cells' := 4) (slots' := 134336) hx hb hG hts rfl (Or.inr (Or.inl rfl)) (by decide +kernel) (by decide) (by decide) rfl rfl (Nat.le_of_ble_eq_true rfl) (Nat.le_of_ble_eq_true rfl) hS d_M_init_32 (fun q32 H e0 a0 l0 y0 hJ hk hS => ?_)
  have hA := (hA.kept hJ).cons a0 l0
  have hO := hO.grown hk
  have z0 : H0.size ≤ q32 := e0 ▸ hz
  have hZ : ∀ z ∈ ([(q32, .byte, 3200), (q23, .byte, 64), (q15, .byte, 65536), (q7, .byte, 65536)] : List (Nat × FieldType × Nat)), H0.size ≤ z.1 := fun z hz => (List.mem_cons.mp hz).elim (fun e => by rw [e]; exact z0) (hZ z)
  refine sx_putF EE hin hO rfl i_M t_M tok_M n_M 4 (by decide) rfl fl_M_20 (ty := t_M 4) (by decide +kernel) rfl rfl (Nat.le_of_ble_eq_true rfl) hEo hS d_M_init_34 (fun H locs hO hJ hs hS => ?_)
  have hA := hA.kept hJ
  have hO : va_P D classes [(o, .inr (0, [.int 0, .ref q7, .ref q15, .ref q23, .ref q32, .int 0, .int 0, .int 0, .int 0, .null, .null, .null, .null, .null, .null, .null, .null, .null, .null, .null, .null, .null, .null, .null, .null, .null, .null, .null, .null, .null, .null, .null, .null, .null, .null, .null, .null, .null, .null, .null, .null, .null, .null, .null, .null, .null, .null, .null, .null, .null, .null, .null, .null]))] H := hO
  refine lv_aload_n hx hb d_M_init_37 rfl (lv_at hl 0 rfl) ?_
  refine lv_bipush (v := nI 6) hx hb d_M_init_38 (by decide +kernel) ?_
  have hz := hS.1.1
  refine sx_newa (cells' := 5) (slots' := 134342) hx hb hG hts rfl (Or.inr (Or.inr rfl)) (by decide +kernel) (by decide) (by decide) rfl rfl (Nat.le_of_ble_eq_true rfl) (Nat.le_of_ble_eq_true rfl) hS d_M_init_40 (fun q40 H e0 a0 l0 y0 hJ hk hS => ?_)
  have hA := (hA.kept hJ).cons a0 l0
  have hO := hO.grown hk
  have z0 : H0.size ≤ q40 := e0 ▸ hz
  have hZ : ∀ z ∈ ([(q40, .int, 6), (q32, .byte, 3200), (q23, .byte, 64), (q15, .byte, 65536), (q7, .byte, 65536)] : List (Nat × FieldType × Nat)), H0.size ≤ z.1 := fun z hz => (List.mem_cons.mp hz).elim (fun e => by rw [e]; exact z0) (hZ z)
  refine sx_putF EE hin hO rfl i_M t_M tok_M n_M 9 (by decide) rfl fl_M_23 (ty := t_M 9) (by decide +kernel) rfl rfl (Nat.le_of_ble_eq_true rfl) hEo hS d_M_init_42 (fun H locs hO hJ hs hS => ?_)
  have hA := hA.kept hJ
  have hO : va_P D classes [(o, .inr (0, [.int 0, .ref q7, .ref q15, .ref q23, .ref q32, .int 0, .int 0, .int 0, .int 0, .ref q40, .null, .null, .null, .null, .null, .null, .null, .null, .null, .null, .null, .null, .null, .null, .null, .null, .null, .null, .null, .null, .null, .null, .null, .null, .null, .null, .null, .null, .null, .null, .null, .null, .null, .null, .null, .null, .null, .null, .null, .null, .null, .null, .null]))] H := hO
  have hT : zi_ H q40 6 := zi_.kept y0 (hs _ (Nat.ne_of_gt (Nat.lt_of_lt_of_le ho z0)))
  have hV : ∀ z ∈ ([] : List (Nat × FieldType × Nat)), q40 < z.1 := fun z h => by cases h
  refine lv_aload_n hx hb d_M_init_45 rfl (lv_at hl 0 rfl) ?_
  refine lv_bipush (v := nI 16) hx hb d_M_init_46 (by decide +kernel) ?_
  have hz := hS.1.1
  refine sx_newa (cells' := 6) (slots' := 134358) hx hb hG hts rfl (Or.inl rfl) (by decide +kernel) (by decide) (by decide) rfl rfl (Nat.le_of_ble_eq_true rfl) (Nat.le_of_ble_eq_true rfl) hS d_M_init_48 (fun q48 H e0 a0 l0 y0 hJ hk hS => ?_)
  have u0 : q40 < q48 := e0 ▸ hT.lt
  have hT := hT.grown hk
  have hA := (hA.kept hJ).cons a0 l0
  have hO := hO.grown hk
  have z0 : H0.size ≤ q48 := e0 ▸ hz
  have hZ : ∀ z ∈ ([(q48, .long, 16), (q40, .int, 6), (q32, .byte, 3200), (q23, .byte, 64), (q15, .byte, 65536), (q7, .byte, 65536)] : List (Nat × FieldType × Nat)), H0.size ≤ z.1 := fun z hz => (List.mem_cons.mp hz).elim (fun e => by rw [e]; exact z0) (hZ z)
  have hV : ∀ z ∈ ([(q48, .long, 16)] : List (Nat × FieldType × Nat)), q40 < z.1 := fun z hz => (List.mem_cons.mp hz).elim (fun e => by rw [e]; exact u0) (hV z)
  refine sx_putF EE hin hO rfl i_M t_M tok_M n_M 10 (by decide) rfl fl_M_27 (ty := t_M 10) (by decide +kernel) rfl rfl (Nat.le_of_ble_eq_true rfl) hEo hS d_M_init_50 (fun H locs hO hJ hs hS => ?_)
  have hA := hA.kept hJ
  have hO : va_P D classes [(o, .inr (0, [.int 0, .ref q7, .ref q15, .ref q23, .ref q32, .int 0, .int 0, .int 0, .int 0, .ref q40, .ref q48, .null, .null, .null, .null, .null, .null, .null, .null, .null, .null, .null, .null, .null, .null, .null, .null, .null, .null, .null, .null, .null, .null, .null, .null, .null, .null, .null, .null, .null, .null, .null, .null, .null, .null, .null, .null, .null, .null, .null, .null, .null, .null]))] H := hO
  have hT := hT.kept (hs _ (Nat.ne_of_gt (Nat.lt_of_lt_of_le ho (hZ (q40, .int, 6) (by simp)))))
  refine lv_aload_n hx hb d_M_init_53 rfl (lv_at hl 0 rfl) ?_
  refine lv_sipush (v := nI 256) hx hb d_M_init_54 (by decide +kernel) ?_
  have hz := hS.1.1
  refine sx_newa (cells' := 7) (slots' := 134614) hx hb hG hts rfl (Or.inl rfl) (by decide +kernel) (by decide) (by decide) rfl rfl (Nat.le_of_ble_eq_true rfl) (Nat.le_of_ble_eq_true rfl) hS d_M_init_57 (fun q57 H e0 a0 l0 y0 hJ hk hS => ?_)
  have u0 : q40 < q57 := e0 ▸ hT.lt
  have hT := hT.grown hk
  have hA := (hA.kept hJ).cons a0 l0
  have hO := hO.grown hk
  have z0 : H0.size ≤ q57 := e0 ▸ hz
  have hZ : ∀ z ∈ ([(q57, .long, 256), (q48, .long, 16), (q40, .int, 6), (q32, .byte, 3200), (q23, .byte, 64), (q15, .byte, 65536), (q7, .byte, 65536)] : List (Nat × FieldType × Nat)), H0.size ≤ z.1 := fun z hz => (List.mem_cons.mp hz).elim (fun e => by rw [e]; exact z0) (hZ z)
  have hV : ∀ z ∈ ([(q57, .long, 256), (q48, .long, 16)] : List (Nat × FieldType × Nat)), q40 < z.1 := fun z hz => (List.mem_cons.mp hz).elim (fun e => by rw [e]; exact u0) (hV z)
  refine sx_putF EE hin hO rfl i_M t_M tok_M n_M 11 (by decide) rfl fl_M_31 (ty := t_M 11) (by decide +kernel) rfl rfl (Nat.le_of_ble_eq_true rfl) hEo hS d_M_init_59 (fun H locs hO hJ hs hS => ?_)
  have hA := hA.kept hJ
  have hO : va_P D classes [(o, .inr (0, [.int 0, .ref q7, .ref q15, .ref q23, .ref q32, .int 0, .int 0, .int 0, .int 0, .ref q40, .ref q48, .ref q57, .null, .null, .null, .null, .null, .null, .null, .null, .null, .null, .null, .null, .null, .null, .null, .null, .null, .null, .null, .null, .null, .null, .null, .null, .null, .null, .null, .null, .null, .null, .null, .null, .null, .null, .null, .null, .null, .null, .null, .null, .null]))] H := hO
  have hT := hT.kept (hs _ (Nat.ne_of_gt (Nat.lt_of_lt_of_le ho (hZ (q40, .int, 6) (by simp)))))
  refine lv_aload_n hx hb d_M_init_62 rfl (lv_at hl 0 rfl) ?_
  refine lv_bipush (v := nI 16) hx hb d_M_init_63 (by decide +kernel) ?_
  have hz := hS.1.1
  refine sx_newa (cells' := 8) (slots' := 134630) hx hb hG hts rfl (Or.inl rfl) (by decide +kernel) (by decide) (by decide) rfl rfl (Nat.le_of_ble_eq_true rfl) (Nat.le_of_ble_eq_true rfl) hS d_M_init_65 (fun q65 H e0 a0 l0 y0 hJ hk hS => ?_)
  have u0 : q40 < q65 := e0 ▸ hT.lt
  have hT := hT.grown hk
  have hA := (hA.kept hJ).cons a0 l0
  have hO := hO.grown hk
  have z0 : H0.size ≤ q65 := e0 ▸ hz
  have hZ : ∀ z ∈ ([(q65, .long, 16), (q57, .long, 256), (q48, .long, 16), (q40, .int, 6), (q32, .byte, 3200), (q23, .byte, 64), (q15, .byte, 65536), (q7, .byte, 65536)] : List (Nat × FieldType × Nat)), H0.size ≤ z.1 := fun z hz => (List.mem_cons.mp hz).elim (fun e => by rw [e]; exact z0) (hZ z)
  have hV : ∀ z ∈ ([(q65, .long, 16), (q57, .long, 256), (q48, .long, 16)] : List (Nat × FieldType × Nat)), q40 < z.1 := fun z hz => (List.mem_cons.mp hz).elim (fun e => by rw [e]; exact u0) (hV z)
  refine sx_putF EE hin hO rfl i_M t_M tok_M n_M 12 (by decide) rfl fl_M_34 (ty := t_M 12) (by decide +kernel) rfl rfl (Nat.le_of_ble_eq_true rfl) hEo hS d_M_init_67 (fun H locs hO hJ hs hS => ?_)
  have hA := hA.kept hJ
  have hO : va_P D classes [(o, .inr (0, [.int 0, .ref q7, .ref q15, .ref q23, .ref q32, .int 0, .int 0, .int 0, .int 0, .ref q40, .ref q48, .ref q57, .ref q65, .null, .null, .null, .null, .null, .null, .null, .null, .null, .null, .null, .null, .null, .null, .null, .null, .null, .null, .null, .null, .null, .null, .null, .null, .null, .null, .null, .null, .null, .null, .null, .null, .null, .null, .null, .null, .null, .null, .null, .null]))] H := hO
  have hT := hT.kept (hs _ (Nat.ne_of_gt (Nat.lt_of_lt_of_le ho (hZ (q40, .int, 6) (by simp)))))
  refine lv_aload_n hx hb d_M_init_70 rfl (lv_at hl 0 rfl) ?_
  refine lv_sipush (v := nI 256) hx hb d_M_init_71 (by decide +kernel) ?_
  have hz := hS.1.1
  refine sx_newa (cells' := 9) (slots' := 134886) hx hb hG hts rfl (Or.inl rfl) (by decide +kernel) (by decide) (by decide) rfl rfl (Nat.le_of_ble_eq_true rfl) (Nat.le_of_ble_eq_true rfl) hS d_M_init_74 (fun q74 H e0 a0 l0 y0 hJ hk hS => ?_)
  have u0 : q40 < q74 := e0 ▸ hT.lt
  have hT := hT.grown hk
  have hA := (hA.kept hJ).cons a0 l0
  have hO := hO.grown hk
  have z0 : H0.size ≤ q74 := e0 ▸ hz
  have hZ : ∀ z ∈ ([(q74, .long, 256), (q65, .long, 16), (q57, .long, 256), (q48, .long, 16), (q40, .int, 6), (q32, .byte, 3200), (q23, .byte, 64), (q15, .byte, 65536), (q7, .byte, 65536)] : List (Nat × FieldType × Nat)), H0.size ≤ z.1 := fun z hz => (List.mem_cons.mp hz).elim (fun e => by rw [e]; exact z0) (hZ z)
  have hV : ∀ z ∈ ([(q74, .long, 256), (q65, .long, 16), (q57, .long, 256), (q48, .long, 16)] : List (Nat × FieldType × Nat)), q40 < z.1 := fun z hz => (List.mem_cons.mp hz).elim (fun e => by rw [e]; exact u0) (hV z)
  refine sx_putF EE hin hO rfl i_M t_M tok_M n_M 13 (by decide) rfl fl_M_37 (ty := t_M 13) (by decide +kernel) rfl rfl (Nat.le_of_ble_eq_true rfl) hEo hS d_M_init_76 (fun H locs hO hJ hs hS => ?_)
  have hA := hA.kept hJ
  have hO : va_P D classes [(o, .inr (0, [.int 0, .ref q7, .ref q15, .ref q23, .ref q32, .int 0, .int 0, .int 0, .int 0, .ref q40, .ref q48, .ref q57, .ref q65, .ref q74, .null, .null, .null, .null, .null, .null, .null, .null, .null, .null, .null, .null, .null, .null, .null, .null, .null, .null, .null, .null, .null, .null, .null, .null, .null, .null, .null, .null, .null, .null, .null, .null, .null, .null, .null, .null, .null, .null, .null]))] H := hO
  have hT := hT.kept (hs _ (Nat.ne_of_gt (Nat.lt_of_lt_of_le ho (hZ (q40, .int, 6) (by simp)))))
  refine lv_aload_n hx hb d_M_init_79 rfl (lv_at hl 0 rfl) ?_
  refine lv_bipush (v := nI 16) hx hb d_M_init_80 (by decide +kernel) ?_
  have hz := hS.1.1
  refine sx_newa (cells' := 10) (slots' := 134902) hx hb hG hts rfl (Or.inl rfl) (by decide +kernel) (by decide) (by decide) rfl rfl (Nat.le_of_ble_eq_true rfl) (Nat.le_of_ble_eq_true rfl) hS d_M_init_82 (fun q82 H e0 a0 l0 y0 hJ hk hS => ?_)
  have u0 : q40 < q82 := e0 ▸ hT.lt
  have hT := hT.grown hk
  have hA := (hA.kept hJ).cons a0 l0
  have hO := hO.grown hk
  have z0 : H0.size ≤ q82 := e0 ▸ hz
  have hZ : ∀ z ∈ ([(q82, .long, 16), (q74, .long, 256), (q65, .long, 16), (q57, .long, 256), (q48, .long, 16), (q40, .int, 6), (q32, .byte, 3200), (q23, .byte, 64), (q15, .byte, 65536), (q7, .byte, 65536)] : List (Nat × FieldType × Nat)), H0.size ≤ z.1 := fun z hz => (List.mem_cons.mp hz).elim (fun e => by rw [e]; exact z0) (hZ z)
  have hV : ∀ z ∈ ([(q82, .long, 16), (q74, .long, 256), (q65, .long, 16), (q57, .long, 256), (q48, .long, 16)] : List (Nat × FieldType × Nat)), q40 < z.1 := fun z hz => (List.mem_cons.mp hz).elim (fun e => by rw [e]; exact u0) (hV z)
  refine sx_putF EE hin hO rfl i_M t_M tok_M n_M 14 (by decide) rfl fl_M_40 (ty := t_M 14) (by decide +kernel) rfl rfl (Nat.le_of_ble_eq_true rfl) hEo hS d_M_init_84 (fun H locs hO hJ hs hS => ?_)
  have hA := hA.kept hJ
  have hO : va_P D classes [(o, .inr (0, [.int 0, .ref q7, .ref q15, .ref q23, .ref q32, .int 0, .int 0, .int 0, .int 0, .ref q40, .ref q48, .ref q57, .ref q65, .ref q74, .ref q82, .null, .null, .null, .null, .null, .null, .null, .null, .null, .null, .null, .null, .null, .null, .null, .null, .null, .null, .null, .null, .null, .null, .null, .null, .null, .null, .null, .null, .null, .null, .null, .null, .null, .null, .null, .null, .null, .null]))] H := hO
  have hT := hT.kept (hs _ (Nat.ne_of_gt (Nat.lt_of_lt_of_le ho (hZ (q40, .int, 6) (by simp)))))
  refine lv_aload_n hx hb d_M_init_87 rfl (lv_at hl 0 rfl) ?_
  refine lv_bipush (v := nI 16) hx hb d_M_init_88 (by decide +kernel) ?_
  have hz := hS.1.1
  refine sx_newa (cells' := 11) (slots' := 134918) hx hb hG hts rfl (Or.inl rfl) (by decide +kernel) (by decide) (by decide) rfl rfl (Nat.le_of_ble_eq_true rfl) (Nat.le_of_ble_eq_true rfl) hS d_M_init_90 (fun q90 H e0 a0 l0 y0 hJ hk hS => ?_)
  have u0 : q40 < q90 := e0 ▸ hT.lt
  have hT := hT.grown hk
  have hA := (hA.kept hJ).cons a0 l0
  have hO := hO.grown hk
  have z0 : H0.size ≤ q90 := e0 ▸ hz
  have hZ : ∀ z ∈ ([(q90, .long, 16), (q82, .long, 16), (q74, .long, 256), (q65, .long, 16), (q57, .long, 256), (q48, .long, 16), (q40, .int, 6), (q32, .byte, 3200), (q23, .byte, 64), (q15, .byte, 65536), (q7, .byte, 65536)] : List (Nat × FieldType × Nat)), H0.size ≤ z.1 := fun z hz => (List.mem_cons.mp hz).elim (fun e => by rw [e]; exact z0) (hZ z)
  have hV : ∀ z ∈ ([(q90, .long, 16), (q82, .long, 16), (q74, .long, 256), (q65, .long, 16), (q57, .long, 256), (q48, .long, 16)] : List (Nat × FieldType × Nat)), q40 < z.1 := fun z hz => (List.mem_cons.mp hz).elim (fun e => by rw [e]; exact u0) (hV z)
  refine sx_putF EE hin hO rfl i_M t_M tok_M n_M 15 (by decide) rfl fl_M_43 (ty := t_M 15) (by decide +kernel) rfl rfl (Nat.le_of_ble_eq_true rfl) hEo hS d_M_init_92 (fun H locs hO hJ hs hS => ?_)
  have hA := hA.kept hJ
  have hO : va_P D classes [(o, .inr (0, [.int 0, .ref q7, .ref q15, .ref q23, .ref q32, .int 0, .int 0, .int 0, .int 0, .ref q40, .ref q48, .ref q57, .ref q65, .ref q74, .ref q82, .ref q90, .null, .null, .null, .null, .null, .null, .null, .null, .null, .null, .null, .null, .null, .null, .null, .null, .null, .null, .null, .null, .null, .null, .null, .null, .null, .null, .null, .null, .null, .null, .null, .null, .null, .null, .null, .null, .null]))] H := hO
  have hT := hT.kept (hs _ (Nat.ne_of_gt (Nat.lt_of_lt_of_le ho (hZ (q40, .int, 6) (by simp)))))
  refine lv_aload_n hx hb d_M_init_95 rfl (lv_at hl 0 rfl) ?_
  refine lv_bipush (v := nI 16) hx hb d_M_init_96 (by decide +kernel) ?_
  have hz := hS.1.1
  refine sx_newa (cells' := 12) (slots' := 134934) hx hb hG hts rfl (Or.inl rfl) (by decide +kernel) (by decide) (by decide) rfl rfl (Nat.le_of_ble_eq_true rfl) (Nat.le_of_ble_eq_true rfl) hS d_M_init_98 (fun q98 H e0 a0 l0 y0 hJ hk hS => ?_)
  have u0 : q40 < q98 := e0 ▸ hT.lt
  have hT := hT.grown hk
  have hA := (hA.kept hJ).cons a0 l0
  have hO := hO.grown hk
  have z0 : H0.size ≤ q98 := e0 ▸ hz
  have hZ : ∀ z ∈ ([(q98, .long, 16), (q90, .long, 16), (q82, .long, 16), (q74, .long, 256), (q65, .long, 16), (q57, .long, 256), (q48, .long, 16), (q40, .int, 6), (q32, .byte, 3200), (q23, .byte, 64), (q15, .byte, 65536), (q7, .byte, 65536)] : List (Nat × FieldType × Nat)), H0.size ≤ z.1 := fun z hz => (List.mem_cons.mp hz).elim (fun e => by rw [e]; exact z0) (hZ z)
  have hV : ∀ z ∈ ([(q98, .long, 16), (q90, .long, 16), (q82, .long, 16), (q74, .long, 256), (q65, .long, 16), (q57, .long, 256), (q48, .long, 16)] : List (Nat × FieldType × Nat)), q40 < z.1 := fun z hz => (List.mem_cons.mp hz).elim (fun e => by rw [e]; exact u0) (hV z)
  refine sx_putF EE hin hO rfl i_M t_M tok_M n_M 16 (by decide) rfl fl_M_46 (ty := t_M 16) (by decide +kernel) rfl rfl (Nat.le_of_ble_eq_true rfl) hEo hS d_M_init_100 (fun H locs hO hJ hs hS => ?_)
  have hA := hA.kept hJ
  have hO : va_P D classes [(o, .inr (0, [.int 0, .ref q7, .ref q15, .ref q23, .ref q32, .int 0, .int 0, .int 0, .int 0, .ref q40, .ref q48, .ref q57, .ref q65, .ref q74, .ref q82, .ref q90, .ref q98, .null, .null, .null, .null, .null, .null, .null, .null, .null, .null, .null, .null, .null, .null, .null, .null, .null, .null, .null, .null, .null, .null, .null, .null, .null, .null, .null, .null, .null, .null, .null, .null, .null, .null, .null, .null]))] H := hO
  have hT := hT.kept (hs _ (Nat.ne_of_gt (Nat.lt_of_lt_of_le ho (hZ (q40, .int, 6) (by simp)))))
  refine lv_aload_n hx hb d_M_init_103 rfl (lv_at hl 0 rfl) ?_
  refine lv_bipush (v := nI 16) hx hb d_M_init_104 (by decide +kernel) ?_
  have hz := hS.1.1
  refine sx_newa (cells' := 13) (slots' := 134950) hx hb hG hts rfl (Or.inl rfl) (by decide +kernel) (by decide) (by decide) rfl rfl (Nat.le_of_ble_eq_true rfl) (Nat.le_of_ble_eq_true rfl) hS d_M_init_106 (fun q106 H e0 a0 l0 y0 hJ hk hS => ?_)
  have u0 : q40 < q106 := e0 ▸ hT.lt
  have hT := hT.grown hk
  have hA := (hA.kept hJ).cons a0 l0
  have hO := hO.grown hk
  have z0 : H0.size ≤ q106 := e0 ▸ hz
  have hZ : ∀ z ∈ ([(q106, .long, 16), (q98, .long, 16), (q90, .long, 16), (q82, .long, 16), (q74, .long, 256), (q65, .long, 16), (q57, .long, 256), (q48, .long, 16), (q40, .int, 6), (q32, .byte, 3200), (q23, .byte, 64), (q15, .byte, 65536), (q7, .byte, 65536)] : List (Nat × FieldType × Nat)), H0.size ≤ z.1 := fun z hz => (List.mem_cons.mp hz).elim (fun e => by rw [e]; exact z0) (hZ z)
  have hV : ∀ z ∈ ([(q106, .long, 16), (q98, .long, 16), (q90, .long, 16), (q82, .long, 16), (q74, .long, 256), (q65, .long, 16), (q57, .long, 256), (q48, .long, 16)] : List (Nat × FieldType × Nat)), q40 < z.1 := fun z hz => (List.mem_cons.mp hz).elim (fun e => by rw [e]; exact u0) (hV z)
  refine sx_putF EE hin hO rfl i_M t_M tok_M n_M 17 (by decide) rfl fl_M_49 (ty := t_M 17) (by decide +kernel) rfl rfl (Nat.le_of_ble_eq_true rfl) hEo hS d_M_init_108 (fun H locs hO hJ hs hS => ?_)
  have hA := hA.kept hJ
  have hO : va_P D classes [(o, .inr (0, [.int 0, .ref q7, .ref q15, .ref q23, .ref q32, .int 0, .int 0, .int 0, .int 0, .ref q40, .ref q48, .ref q57, .ref q65, .ref q74, .ref q82, .ref q90, .ref q98, .ref q106, .null, .null, .null, .null, .null, .null, .null, .null, .null, .null, .null, .null, .null, .null, .null, .null, .null, .null, .null, .null, .null, .null, .null, .null, .null, .null, .null, .null, .null, .null, .null, .null, .null, .null, .null]))] H := hO
  have hT := hT.kept (hs _ (Nat.ne_of_gt (Nat.lt_of_lt_of_le ho (hZ (q40, .int, 6) (by simp)))))
  refine lv_aload_n hx hb d_M_init_111 rfl (lv_at hl 0 rfl) ?_
  refine lv_bipush (v := nI 16) hx hb d_M_init_112 (by decide +kernel) ?_
  have hz := hS.1.1
  refine sx_newa (cells' := 14) (slots' := 134966) hx hb hG hts rfl (Or.inl rfl) (by decide +kernel) (by decide) (by decide) rfl rfl (Nat.le_of_ble_eq_true rfl) (Nat.le_of_ble_eq_true rfl) hS d_M_init_114 (fun q114 H e0 a0 l0 y0 hJ hk hS => ?_)
  have u0 : q40 < q114 := e0 ▸ hT.lt
  have hT := hT.grown hk
  have hA := (hA.kept hJ).cons a0 l0
  have hO := hO.grown hk
  have z0 : H0.size ≤ q114 := e0 ▸ hz
  have hZ : ∀ z ∈ ([(q114, .long, 16), (q106, .long, 16), (q98, .long, 16), (q90, .long, 16), (q82, .long, 16), (q74, .long, 256), (q65, .long, 16), (q57, .long, 256), (q48, .long, 16), (q40, .int, 6), (q32, .byte, 3200), (q23, .byte, 64), (q15, .byte, 65536), (q7, .byte, 65536)] : List (Nat × FieldType × Nat)), H0.size ≤ z.1 := fun z hz => (List.mem_cons.mp hz).elim (fun e => by rw [e]; exact z0) (hZ z)
  have hV : ∀ z ∈ ([(q114, .long, 16), (q106, .long, 16), (q98, .long, 16), (q90, .long, 16), (q82, .long, 16), (q74, .long, 256), (q65, .long, 16), (q57, .long, 256), (q48, .long, 16)] : List (Nat × FieldType × Nat)), q40 < z.1 := fun z hz => (List.mem_cons.mp hz).elim (fun e => by rw [e]; exact u0) (hV z)
  refine sx_putF EE hin hO rfl i_M t_M tok_M n_M 18 (by decide) rfl fl_M_52 (ty := t_M 18) (by decide +kernel) rfl rfl (Nat.le_of_ble_eq_true rfl) hEo hS d_M_init_116 (fun H locs hO hJ hs hS => ?_)
  have hA := hA.kept hJ
  have hO : va_P D classes [(o, .inr (0, [.int 0, .ref q7, .ref q15, .ref q23, .ref q32, .int 0, .int 0, .int 0, .int 0, .ref q40, .ref q48, .ref q57, .ref q65, .ref q74, .ref q82, .ref q90, .ref q98, .ref q106, .ref q114, .null, .null, .null, .null, .null, .null, .null, .null, .null, .null, .null, .null, .null, .null, .null, .null, .null, .null, .null, .null, .null, .null, .null, .null, .null, .null, .null, .null, .null, .null, .null, .null, .null, .null]))] H := hO
  have hT := hT.kept (hs _ (Nat.ne_of_gt (Nat.lt_of_lt_of_le ho (hZ (q40, .int, 6) (by simp)))))
  refine lv_aload_n hx hb d_M_init_119 rfl (lv_at hl 0 rfl) ?_
  refine lv_bipush (v := nI 16) hx hb d_M_init_120 (by decide +kernel) ?_
  have hz := hS.1.1
  refine sx_newa (cells' := 15) (slots' := 134982) hx hb hG hts rfl (Or.inl rfl) (by decide +kernel) (by decide) (by decide) rfl rfl (Nat.le_of_ble_eq_true rfl) (Nat.le_of_ble_eq_true rfl) hS d_M_init_122 (fun q122 H e0 a0 l0 y0 hJ hk hS => ?_)
  have u0 : q40 < q122 := e0 ▸ hT.lt
  have hT := hT.grown hk
  have hA := (hA.kept hJ).cons a0 l0
  have hO := hO.grown hk
  have z0 : H0.size ≤ q122 := e0 ▸ hz
  have hZ : ∀ z ∈ ([(q122, .long, 16), (q114, .long, 16), (q106, .long, 16), (q98, .long, 16), (q90, .long, 16), (q82, .long, 16), (q74, .long, 256), (q65, .long, 16), (q57, .long, 256), (q48, .long, 16), (q40, .int, 6), (q32, .byte, 3200), (q23, .byte, 64), (q15, .byte, 65536), (q7, .byte, 65536)] : List (Nat × FieldType × Nat)), H0.size ≤ z.1 := fun z hz => (List.mem_cons.mp hz).elim (fun e => by rw [e]; exact z0) (hZ z)
  have hV : ∀ z ∈ ([(q122, .long, 16), (q114, .long, 16), (q106, .long, 16), (q98, .long, 16), (q90, .long, 16), (q82, .long, 16), (q74, .long, 256), (q65, .long, 16), (q57, .long, 256), (q48, .long, 16)] : List (Nat × FieldType × Nat)), q40 < z.1 := fun z hz => (List.mem_cons.mp hz).elim (fun e => by rw [e]; exact u0) (hV z)
  refine sx_putF EE hin hO rfl i_M t_M tok_M n_M 19 (by decide) rfl fl_M_55 (ty := t_M 19) (by decide +kernel) rfl rfl (Nat.le_of_ble_eq_true rfl) hEo hS d_M_init_124 (fun H locs hO hJ hs hS => ?_)
  have hA := hA.kept hJ
  have hO : va_P D classes [(o, .inr (0, [.int 0, .ref q7, .ref q15, .ref q23, .ref q32, .int 0, .int 0, .int 0, .int 0, .ref q40, .ref q48, .ref q57, .ref q65, .ref q74, .ref q82, .ref q90, .ref q98, .ref q106, .ref q114, .ref q122, .null, .null, .null, .null, .null, .null, .null, .null, .null, .null, .null, .null, .null, .null, .null, .null, .null, .null, .null, .null, .null, .null, .null, .null, .null, .null, .null, .null, .null, .null, .null, .null, .null]))] H := hO
  have hT := hT.kept (hs _ (Nat.ne_of_gt (Nat.lt_of_lt_of_le ho (hZ (q40, .int, 6) (by simp)))))
  refine lv_aload_n hx hb d_M_init_127 rfl (lv_at hl 0 rfl) ?_
  refine lv_bipush (v := nI 16) hx hb d_M_init_128 (by decide +kernel) ?_
  have hz := hS.1.1
  refine sx_newa (cells' := 16) (slots' := 134998) hx hb hG hts rfl (Or.inl rfl) (by decide +kernel) (by decide) (by decide) rfl rfl (Nat.le_of_ble_eq_true rfl) (Nat.le_of_ble_eq_true rfl) hS d_M_init_130 (fun q130 H e0 a0 l0 y0 hJ hk hS => ?_)
  have u0 : q40 < q130 := e0 ▸ hT.lt
  have hT := hT.grown hk
  have hA := (hA.kept hJ).cons a0 l0
  have hO := hO.grown hk
  have z0 : H0.size ≤ q130 := e0 ▸ hz
  have hZ : ∀ z ∈ ([(q130, .long, 16), (q122, .long, 16), (q114, .long, 16), (q106, .long, 16), (q98, .long, 16), (q90, .long, 16), (q82, .long, 16), (q74, .long, 256), (q65, .long, 16), (q57, .long, 256), (q48, .long, 16), (q40, .int, 6), (q32, .byte, 3200), (q23, .byte, 64), (q15, .byte, 65536), (q7, .byte, 65536)] : List (Nat × FieldType × Nat)), H0.size ≤ z.1 := fun z hz => (List.mem_cons.mp hz).elim (fun e => by rw [e]; exact z0) (hZ z)
  have hV : ∀ z ∈ ([(q130, .long, 16), (q122, .long, 16), (q114, .long, 16), (q106, .long, 16), (q98, .long, 16), (q90, .long, 16), (q82, .long, 16), (q74, .long, 256), (q65, .long, 16), (q57, .long, 256), (q48, .long, 16)] : List (Nat × FieldType × Nat)), q40 < z.1 := fun z hz => (List.mem_cons.mp hz).elim (fun e => by rw [e]; exact u0) (hV z)
  refine sx_putF EE hin hO rfl i_M t_M tok_M n_M 20 (by decide) rfl fl_M_58 (ty := t_M 20) (by decide +kernel) rfl rfl (Nat.le_of_ble_eq_true rfl) hEo hS d_M_init_132 (fun H locs hO hJ hs hS => ?_)
  have hA := hA.kept hJ
  have hO : va_P D classes [(o, .inr (0, [.int 0, .ref q7, .ref q15, .ref q23, .ref q32, .int 0, .int 0, .int 0, .int 0, .ref q40, .ref q48, .ref q57, .ref q65, .ref q74, .ref q82, .ref q90, .ref q98, .ref q106, .ref q114, .ref q122, .ref q130, .null, .null, .null, .null, .null, .null, .null, .null, .null, .null, .null, .null, .null, .null, .null, .null, .null, .null, .null, .null, .null, .null, .null, .null, .null, .null, .null, .null, .null, .null, .null, .null]))] H := hO
  have hT := hT.kept (hs _ (Nat.ne_of_gt (Nat.lt_of_lt_of_le ho (hZ (q40, .int, 6) (by simp)))))
  refine lv_aload_n hx hb d_M_init_135 rfl (lv_at hl 0 rfl) ?_
  refine lv_bipush (v := nI 16) hx hb d_M_init_136 (by decide +kernel) ?_
  have hz := hS.1.1
  refine sx_newa (cells' := 17) (slots' := 135014) hx hb hG hts rfl (Or.inl rfl) (by decide +kernel) (by decide) (by decide) rfl rfl (Nat.le_of_ble_eq_true rfl) (Nat.le_of_ble_eq_true rfl) hS d_M_init_138 (fun q138 H e0 a0 l0 y0 hJ hk hS => ?_)
  have u0 : q40 < q138 := e0 ▸ hT.lt
  have hT := hT.grown hk
  have hA := (hA.kept hJ).cons a0 l0
  have hO := hO.grown hk
  have z0 : H0.size ≤ q138 := e0 ▸ hz
  have hZ : ∀ z ∈ ([(q138, .long, 16), (q130, .long, 16), (q122, .long, 16), (q114, .long, 16), (q106, .long, 16), (q98, .long, 16), (q90, .long, 16), (q82, .long, 16), (q74, .long, 256), (q65, .long, 16), (q57, .long, 256), (q48, .long, 16), (q40, .int, 6), (q32, .byte, 3200), (q23, .byte, 64), (q15, .byte, 65536), (q7, .byte, 65536)] : List (Nat × FieldType × Nat)), H0.size ≤ z.1 := fun z hz => (List.mem_cons.mp hz).elim (fun e => by rw [e]; exact z0) (hZ z)
  have hV : ∀ z ∈ ([(q138, .long, 16), (q130, .long, 16), (q122, .long, 16), (q114, .long, 16), (q106, .long, 16), (q98, .long, 16), (q90, .long, 16), (q82, .long, 16), (q74, .long, 256), (q65, .long, 16), (q57, .long, 256), (q48, .long, 16)] : List (Nat × FieldType × Nat)), q40 < z.1 := fun z hz => (List.mem_cons.mp hz).elim (fun e => by rw [e]; exact u0) (hV z)
  refine sx_putF EE hin hO rfl i_M t_M tok_M n_M 21 (by decide) rfl fl_M_61 (ty := t_M 21) (by decide +kernel) rfl rfl (Nat.le_of_ble_eq_true rfl) hEo hS d_M_init_140 (fun H locs hO hJ hs hS => ?_)
  have hA := hA.kept hJ
  have hO : va_P D classes [(o, .inr (0, [.int 0, .ref q7, .ref q15, .ref q23, .ref q32, .int 0, .int 0, .int 0, .int 0, .ref q40, .ref q48, .ref q57, .ref q65, .ref q74, .ref q82, .ref q90, .ref q98, .ref q106, .ref q114, .ref q122, .ref q130, .ref q138, .null, .null, .null, .null, .null, .null, .null, .null, .null, .null, .null, .null, .null, .null, .null, .null, .null, .null, .null, .null, .null, .null, .null, .null, .null, .null, .null, .null, .null, .null, .null]))] H := hO
  have hT := hT.kept (hs _ (Nat.ne_of_gt (Nat.lt_of_lt_of_le ho (hZ (q40, .int, 6) (by simp)))))
  refine lv_aload_n hx hb d_M_init_143 rfl (lv_at hl 0 rfl) ?_
  refine lv_bipush (v := nI 16) hx hb d_M_init_144 (by decide +kernel) ?_
  have hz := hS.1.1
  refine sx_newa (cells' := 18) (slots' := 135030) hx hb hG hts rfl (Or.inl rfl) (by decide +kernel) (by decide) (by decide) rfl rfl (Nat.le_of_ble_eq_true rfl) (Nat.le_of_ble_eq_true rfl) hS d_M_init_146 (fun q146 H e0 a0 l0 y0 hJ hk hS => ?_)
  have u0 : q40 < q146 := e0 ▸ hT.lt
  have hT := hT.grown hk
  have hA := (hA.kept hJ).cons a0 l0
  have hO := hO.grown hk
  have z0 : H0.size ≤ q146 := e0 ▸ hz
  have hZ : ∀ z ∈ ([(q146, .long, 16), (q138, .long, 16), (q130, .long, 16), (q122, .long, 16), (q114, .long, 16), (q106, .long, 16), (q98, .long, 16), (q90, .long, 16), (q82, .long, 16), (q74, .long, 256), (q65, .long, 16), (q57, .long, 256), (q48, .long, 16), (q40, .int, 6), (q32, .byte, 3200), (q23, .byte, 64), (q15, .byte, 65536), (q7, .byte, 65536)] : List (Nat × FieldType × Nat)), H0.size ≤ z.1 := fun z hz => (List.mem_cons.mp hz).elim (fun e => by rw [e]; exact z0) (hZ z)
  have hV : ∀ z ∈ ([(q146, .long, 16), (q138, .long, 16), (q130, .long, 16), (q122, .long, 16), (q114, .long, 16), (q106, .long, 16), (q98, .long, 16), (q90, .long, 16), (q82, .long, 16), (q74, .long, 256), (q65, .long, 16), (q57, .long, 256), (q48, .long, 16)] : List (Nat × FieldType × Nat)), q40 < z.1 := fun z hz => (List.mem_cons.mp hz).elim (fun e => by rw [e]; exact u0) (hV z)
  refine sx_putF EE hin hO rfl i_M t_M tok_M n_M 22 (by decide) rfl fl_M_64 (ty := t_M 22) (by decide +kernel) rfl rfl (Nat.le_of_ble_eq_true rfl) hEo hS d_M_init_148 (fun H locs hO hJ hs hS => ?_)
  have hA := hA.kept hJ
  have hO : va_P D classes [(o, .inr (0, [.int 0, .ref q7, .ref q15, .ref q23, .ref q32, .int 0, .int 0, .int 0, .int 0, .ref q40, .ref q48, .ref q57, .ref q65, .ref q74, .ref q82, .ref q90, .ref q98, .ref q106, .ref q114, .ref q122, .ref q130, .ref q138, .ref q146, .null, .null, .null, .null, .null, .null, .null, .null, .null, .null, .null, .null, .null, .null, .null, .null, .null, .null, .null, .null, .null, .null, .null, .null, .null, .null, .null, .null, .null, .null]))] H := hO
  have hT := hT.kept (hs _ (Nat.ne_of_gt (Nat.lt_of_lt_of_le ho (hZ (q40, .int, 6) (by simp)))))
  refine lv_aload_n hx hb d_M_init_151 rfl (lv_at hl 0 rfl) ?_
  refine lv_bipush (v := nI 16) hx hb d_M_init_152 (by decide +kernel) ?_
  have hz := hS.1.1
  refine sx_newa (cells' := 19) (slots' := 135046) hx hb hG hts rfl (Or.inl rfl) (by decide +kernel) (by decide) (by decide) rfl rfl (Nat.le_of_ble_eq_true rfl) (Nat.le_of_ble_eq_true rfl) hS d_M_init_154 (fun q154 H e0 a0 l0 y0 hJ hk hS => ?_)
  have u0 : q40 < q154 := e0 ▸ hT.lt
  have hT := hT.grown hk
  have hA := (hA.kept hJ).cons a0 l0
  have hO := hO.grown hk
  have z0 : H0.size ≤ q154 := e0 ▸ hz
  have hZ : ∀ z ∈ ([(q154, .long, 16), (q146, .long, 16), (q138, .long, 16), (q130, .long, 16), (q122, .long, 16), (q114, .long, 16), (q106, .long, 16), (q98, .long, 16), (q90, .long, 16), (q82, .long, 16), (q74, .long, 256), (q65, .long, 16), (q57, .long, 256), (q48, .long, 16), (q40, .int, 6), (q32, .byte, 3200), (q23, .byte, 64), (q15, .byte, 65536), (q7, .byte, 65536)] : List (Nat × FieldType × Nat)), H0.size ≤ z.1 := fun z hz => (List.mem_cons.mp hz).elim (fun e => by rw [e]; exact z0) (hZ z)
  have hV : ∀ z ∈ ([(q154, .long, 16), (q146, .long, 16), (q138, .long, 16), (q130, .long, 16), (q122, .long, 16), (q114, .long, 16), (q106, .long, 16), (q98, .long, 16), (q90, .long, 16), (q82, .long, 16), (q74, .long, 256), (q65, .long, 16), (q57, .long, 256), (q48, .long, 16)] : List (Nat × FieldType × Nat)), q40 < z.1 := fun z hz => (List.mem_cons.mp hz).elim (fun e => by rw [e]; exact u0) (hV z)
  refine sx_putF EE hin hO rfl i_M t_M tok_M n_M 23 (by decide) rfl fl_M_67 (ty := t_M 23) (by decide +kernel) rfl rfl (Nat.le_of_ble_eq_true rfl) hEo hS d_M_init_156 (fun H locs hO hJ hs hS => ?_)
  have hA := hA.kept hJ
  have hO : va_P D classes [(o, .inr (0, [.int 0, .ref q7, .ref q15, .ref q23, .ref q32, .int 0, .int 0, .int 0, .int 0, .ref q40, .ref q48, .ref q57, .ref q65, .ref q74, .ref q82, .ref q90, .ref q98, .ref q106, .ref q114, .ref q122, .ref q130, .ref q138, .ref q146, .ref q154, .null, .null, .null, .null, .null, .null, .null, .null, .null, .null, .null, .null, .null, .null, .null, .null, .null, .null, .null, .null, .null, .null, .null, .null, .null, .null, .null, .null, .null]))] H := hO
  have hT := hT.kept (hs _ (Nat.ne_of_gt (Nat.lt_of_lt_of_le ho (hZ (q40, .int, 6) (by simp)))))
  refine lv_aload_n hx hb d_M_init_159 rfl (lv_at hl 0 rfl) ?_
  refine lv_bipush (v := nI 16) hx hb d_M_init_160 (by decide +kernel) ?_
  have hz := hS.1.1
  refine sx_newa (cells' := 20) (slots' := 135062) hx hb hG hts rfl (Or.inl rfl) (by decide +kernel) (by decide) (by decide) rfl rfl (Nat.le_of_ble_eq_true rfl) (Nat.le_of_ble_eq_true rfl) hS d_M_init_162 (fun q162 H e0 a0 l0 y0 hJ hk hS => ?_)
  have u0 : q40 < q162 := e0 ▸ hT.lt
  have hT := hT.grown hk
  have hA := (hA.kept hJ).cons a0 l0
  have hO := hO.grown hk
  have z0 : H0.size ≤ q162 := e0 ▸ hz
  have hZ : ∀ z ∈ ([(q162, .long, 16), (q154, .long, 16), (q146, .long, 16), (q138, .long, 16), (q130, .long, 16), (q122, .long, 16), (q114, .long, 16), (q106, .long, 16), (q98, .long, 16), (q90, .long, 16), (q82, .long, 16), (q74, .long, 256), (q65, .long, 16), (q57, .long, 256), (q48, .long, 16), (q40, .int, 6), (q32, .byte, 3200), (q23, .byte, 64), (q15, .byte, 65536), (q7, .byte, 65536)] : List (Nat × FieldType × Nat)), H0.size ≤ z.1 := fun z hz => (List.mem_cons.mp hz).elim (fun e => by rw [e]; exact z0) (hZ z)
  have hV : ∀ z ∈ ([(q162, .long, 16), (q154, .long, 16), (q146, .long, 16), (q138, .long, 16), (q130, .long, 16), (q122, .long, 16), (q114, .long, 16), (q106, .long, 16), (q98, .long, 16), (q90, .long, 16), (q82, .long, 16), (q74, .long, 256), (q65, .long, 16), (q57, .long, 256), (q48, .long, 16)] : List (Nat × FieldType × Nat)), q40 < z.1 := fun z hz => (List.mem_cons.mp hz).elim (fun e => by rw [e]; exact u0) (hV z)
  refine sx_putF EE hin hO rfl i_M t_M tok_M n_M 24 (by decide) rfl fl_M_70 (ty := t_M 24) (by decide +kernel) rfl rfl (Nat.le_of_ble_eq_true rfl) hEo hS d_M_init_164 (fun H locs hO hJ hs hS => ?_)
  have hA := hA.kept hJ
  have hO : va_P D classes [(o, .inr (0, [.int 0, .ref q7, .ref q15, .ref q23, .ref q32, .int 0, .int 0, .int 0, .int 0, .ref q40, .ref q48, .ref q57, .ref q65, .ref q74, .ref q82, .ref q90, .ref q98, .ref q106, .ref q114, .ref q122, .ref q130, .ref q138, .ref q146, .ref q154, .ref q162, .null, .null, .null, .null, .null, .null, .null, .null, .null, .null, .null, .null, .null, .null, .null, .null, .null, .null, .null, .null, .null, .null, .null, .null, .null, .null, .null, .null]))] H := hO
  have hT := hT.kept (hs _ (Nat.ne_of_gt (Nat.lt_of_lt_of_le ho (hZ (q40, .int, 6) (by simp)))))
  refine lv_aload_n hx hb d_M_init_167 rfl (lv_at hl 0 rfl) ?_
  refine lv_bipush (v := nI 16) hx hb d_M_init_168 (by decide +kernel) ?_
  have hz := hS.1.1
  refine sx_newa (cells' := 21) (slots' := 135078) hx hb hG hts rfl (Or.inl rfl) (by decide +kernel) (by decide) (by decide) rfl rfl (Nat.le_of_ble_eq_true rfl) (Nat.le_of_ble_eq_true rfl) hS d_M_init_170 (fun q170 H e0 a0 l0 y0 hJ hk hS => ?_)
  have u0 : q40 < q170 := e0 ▸ hT.lt
  have hT := hT.grown hk
  have hA := (hA.kept hJ).cons a0 l0
  have hO := hO.grown hk
  have z0 : H0.size ≤ q170 := e0 ▸ hz
  have hZ : ∀ z ∈ ([(q170, .long, 16), (q162, .long, 16), (q154, .long, 16), (q146, .long, 16), (q138, .long, 16), (q130, .long, 16), (q122, .long, 16), (q114, .long, 16), (q106, .long, 16), (q98, .long, 16), (q90, .long, 16), (q82, .long, 16), (q74, .long, 256), (q65, .long, 16), (q57, .long, 256), (q48, .long, 16), (q40, .int, 6), (q32, .byte, 3200), (q23, .byte, 64), (q15, .byte, 65536), (q7, .byte, 65536)] : List (Nat × FieldType × Nat)), H0.size ≤ z.1 := fun z hz => (List.mem_cons.mp hz).elim (fun e => by rw [e]; exact z0) (hZ z)
  have hV : ∀ z ∈ ([(q170, .long, 16), (q162, .long, 16), (q154, .long, 16), (q146, .long, 16), (q138, .long, 16), (q130, .long, 16), (q122, .long, 16), (q114, .long, 16), (q106, .long, 16), (q98, .long, 16), (q90, .long, 16), (q82, .long, 16), (q74, .long, 256), (q65, .long, 16), (q57, .long, 256), (q48, .long, 16)] : List (Nat × FieldType × Nat)), q40 < z.1 := fun z hz => (List.mem_cons.mp hz).elim (fun e => by rw [e]; exact u0) (hV z)
  refine sx_putF EE hin hO rfl i_M t_M tok_M n_M 25 (by decide) rfl fl_M_73 (ty := t_M 25) (by decide +kernel) rfl rfl (Nat.le_of_ble_eq_true rfl) hEo hS d_M_init_172 (fun H locs hO hJ hs hS => ?_)
  have hA := hA.kept hJ
  have hO : va_P D classes [(o, .inr (0, [.int 0, .ref q7, .ref q15, .ref q23, .ref q32, .int 0, .int 0, .int 0, .int 0, .ref q40, .ref q48, .ref q57, .ref q65, .ref q74, .ref q82, .ref q90, .ref q98, .ref q106, .ref q114, .ref q122, .ref q130, .ref q138, .ref q146, .ref q154, .ref q162, .ref q170, .null, .null, .null, .null, .null, .null, .null, .null, .null, .null, .null, .null, .null, .null, .null, .null, .null, .null, .null, .null, .null, .null, .null, .null, .null, .null, .null]))] H := hO
  have hT := hT.kept (hs _ (Nat.ne_of_gt (Nat.lt_of_lt_of_le ho (hZ (q40, .int, 6) (by simp)))))
  refine lv_aload_n hx hb d_M_init_175 rfl (lv_at hl 0 rfl) ?_
  refine lv_bipush (v := nI 16) hx hb d_M_init_176 (by decide +kernel) ?_
  have hz := hS.1.1
  refine sx_newa (cells' := 22) (slots' := 135094) hx hb hG hts rfl (Or.inl rfl) (by decide +kernel) (by decide) (by decide) rfl rfl (Nat.le_of_ble_eq_true rfl) (Nat.le_of_ble_eq_true rfl) hS d_M_init_178 (fun q178 H e0 a0 l0 y0 hJ hk hS => ?_)
  have u0 : q40 < q178 := e0 ▸ hT.lt
  have hT := hT.grown hk
  have hA := (hA.kept hJ).cons a0 l0
  have hO := hO.grown hk
  have z0 : H0.size ≤ q178 := e0 ▸ hz
  have hZ : ∀ z ∈ ([(q178, .long, 16), (q170, .long, 16), (q162, .long, 16), (q154, .long, 16), (q146, .long, 16), (q138, .long, 16), (q130, .long, 16), (q122, .long, 16), (q114, .long, 16), (q106, .long, 16), (q98, .long, 16), (q90, .long, 16), (q82, .long, 16), (q74, .long, 256), (q65, .long, 16), (q57, .long, 256), (q48, .long, 16), (q40, .int, 6), (q32, .byte, 3200), (q23, .byte, 64), (q15, .byte, 65536), (q7, .byte, 65536)] : List (Nat × FieldType × Nat)), H0.size ≤ z.1 := fun z hz => (List.mem_cons.mp hz).elim (fun e => by rw [e]; exact z0) (hZ z)
  have hV : ∀ z ∈ ([(q178, .long, 16), (q170, .long, 16), (q162, .long, 16), (q154, .long, 16), (q146, .long, 16), (q138, .long, 16), (q130, .long, 16), (q122, .long, 16), (q114, .long, 16), (q106, .long, 16), (q98, .long, 16), (q90, .long, 16), (q82, .long, 16), (q74, .long, 256), (q65, .long, 16), (q57, .long, 256), (q48, .long, 16)] : List (Nat × FieldType × Nat)), q40 < z.1 := fun z hz => (List.mem_cons.mp hz).elim (fun e => by rw [e]; exact u0) (hV z)
  refine sx_putF EE hin hO rfl i_M t_M tok_M n_M 26 (by decide) rfl fl_M_76 (ty := t_M 26) (by decide +kernel) rfl rfl (Nat.le_of_ble_eq_true rfl) hEo hS d_M_init_180 (fun H locs hO hJ hs hS => ?_)
  have hA := hA.kept hJ
  have hO : va_P D classes [(o, .inr (0, [.int 0, .ref q7, .ref q15, .ref q23, .ref q32, .int 0, .int 0, .int 0, .int 0, .ref q40, .ref q48, .ref q57, .ref q65, .ref q74, .ref q82, .ref q90, .ref q98, .ref q106, .ref q114, .ref q122, .ref q130, .ref q138, .ref q146, .ref q154, .ref q162, .ref q170, .ref q178, .null, .null, .null, .null, .null, .null, .null, .null, .null, .null, .null, .null, .null, .null, .null, .null, .null, .null, .null, .null, .null, .null, .null, .null, .null, .null]))] H := hO
  have hT := hT.kept (hs _ (Nat.ne_of_gt (Nat.lt_of_lt_of_le ho (hZ (q40, .int, 6) (by simp)))))
  refine lv_aload_n hx hb d_M_init_183 rfl (lv_at hl 0 rfl) ?_
  refine lv_bipush (v := nI 16) hx hb d_M_init_184 (by decide +kernel) ?_
  have hz := hS.1.1
  refine sx_newa (cells' := 23) (slots' := 135110) hx hb hG hts rfl (Or.inl rfl) (by decide +kernel) (by decide) (by decide) rfl rfl (Nat.le_of_ble_eq_true rfl) (Nat.le_of_ble_eq_true rfl) hS d_M_init_186 (fun q186 H e0 a0 l0 y0 hJ hk hS => ?_)
  have u0 : q40 < q186 := e0 ▸ hT.lt
  have hT := hT.grown hk
  have hA := (hA.kept hJ).cons a0 l0
  have hO := hO.grown hk
  have z0 : H0.size ≤ q186 := e0 ▸ hz
  have hZ : ∀ z ∈ ([(q186, .long, 16), (q178, .long, 16), (q170, .long, 16), (q162, .long, 16), (q154, .long, 16), (q146, .long, 16), (q138, .long, 16), (q130, .long, 16), (q122, .long, 16), (q114, .long, 16), (q106, .long, 16), (q98, .long, 16), (q90, .long, 16), (q82, .long, 16), (q74, .long, 256), (q65, .long, 16), (q57, .long, 256), (q48, .long, 16), (q40, .int, 6), (q32, .byte, 3200), (q23, .byte, 64), (q15, .byte, 65536), (q7, .byte, 65536)] : List (Nat × FieldType × Nat)), H0.size ≤ z.1 := fun z hz => (List.mem_cons.mp hz).elim (fun e => by rw [e]; exact z0) (hZ z)
  have hV : ∀ z ∈ ([(q186, .long, 16), (q178, .long, 16), (q170, .long, 16), (q162, .long, 16), (q154, .long, 16), (q146, .long, 16), (q138, .long, 16), (q130, .long, 16), (q122, .long, 16), (q114, .long, 16), (q106, .long, 16), (q98, .long, 16), (q90, .long, 16), (q82, .long, 16), (q74, .long, 256), (q65, .long, 16), (q57, .long, 256), (q48, .long, 16)] : List (Nat × FieldType × Nat)), q40 < z.1 := fun z hz => (List.mem_cons.mp hz).elim (fun e => by rw [e]; exact u0) (hV z)
  refine sx_putF EE hin hO rfl i_M t_M tok_M n_M 27 (by decide) rfl fl_M_79 (ty := t_M 27) (by decide +kernel) rfl rfl (Nat.le_of_ble_eq_true rfl) hEo hS d_M_init_188 (fun H locs hO hJ hs hS => ?_)
  have hA := hA.kept hJ
  have hO : va_P D classes [(o, .inr (0, [.int 0, .ref q7, .ref q15, .ref q23, .ref q32, .int 0, .int 0, .int 0, .int 0, .ref q40, .ref q48, .ref q57, .ref q65, .ref q74, .ref q82, .ref q90, .ref q98, .ref q106, .ref q114, .ref q122, .ref q130, .ref q138, .ref q146, .ref q154, .ref q162, .ref q170, .ref q178, .ref q186, .null, .null, .null, .null, .null, .null, .null, .null, .null, .null, .null, .null, .null, .null, .null, .null, .null, .null, .null, .null, .null, .null, .null, .null, .null]))] H := hO
  have hT := hT.kept (hs _ (Nat.ne_of_gt (Nat.lt_of_lt_of_le ho (hZ (q40, .int, 6) (by simp)))))
  refine lv_aload_n hx hb d_M_init_191 rfl (lv_at hl 0 rfl) ?_
  refine lv_bipush (v := nI 16) hx hb d_M_init_192 (by decide +kernel) ?_
  have hz := hS.1.1
  refine sx_newa (cells' := 24) (slots' := 135126) hx hb hG hts rfl (Or.inl rfl) (by decide +kernel) (by decide) (by decide) rfl rfl (Nat.le_of_ble_eq_true rfl) (Nat.le_of_ble_eq_true rfl) hS d_M_init_194 (fun q194 H e0 a0 l0 y0 hJ hk hS => ?_)
  have u0 : q40 < q194 := e0 ▸ hT.lt
  have hT := hT.grown hk
  have hA := (hA.kept hJ).cons a0 l0
  have hO := hO.grown hk
  have z0 : H0.size ≤ q194 := e0 ▸ hz
  have hZ : ∀ z ∈ ([(q194, .long, 16), (q186, .long, 16), (q178, .long, 16), (q170, .long, 16), (q162, .long, 16), (q154, .long, 16), (q146, .long, 16), (q138, .long, 16), (q130, .long, 16), (q122, .long, 16), (q114, .long, 16), (q106, .long, 16), (q98, .long, 16), (q90, .long, 16), (q82, .long, 16), (q74, .long, 256), (q65, .long, 16), (q57, .long, 256), (q48, .long, 16), (q40, .int, 6), (q32, .byte, 3200), (q23, .byte, 64), (q15, .byte, 65536), (q7, .byte, 65536)] : List (Nat × FieldType × Nat)), H0.size ≤ z.1 := fun z hz => (List.mem_cons.mp hz).elim (fun e => by rw [e]; exact z0) (hZ z)
  have hV : ∀ z ∈ ([(q194, .long, 16), (q186, .long, 16), (q178, .long, 16), (q170, .long, 16), (q162, .long, 16), (q154, .long, 16), (q146, .long, 16), (q138, .long, 16), (q130, .long, 16), (q122, .long, 16), (q114, .long, 16), (q106, .long, 16), (q98, .long, 16), (q90, .long, 16), (q82, .long, 16), (q74, .long, 256), (q65, .long, 16), (q57, .long, 256), (q48, .long, 16)] : List (Nat × FieldType × Nat)), q40 < z.1 := fun z hz => (List.mem_cons.mp hz).elim (fun e => by rw [e]; exact u0) (hV z)
  refine sx_putF EE hin hO rfl i_M t_M tok_M n_M 28 (by decide) rfl fl_M_82 (ty := t_M 28) (by decide +kernel) rfl rfl (Nat.le_of_ble_eq_true rfl) hEo hS d_M_init_196 (fun H locs hO hJ hs hS => ?_)
  have hA := hA.kept hJ
  have hO : va_P D classes [(o, .inr (0, [.int 0, .ref q7, .ref q15, .ref q23, .ref q32, .int 0, .int 0, .int 0, .int 0, .ref q40, .ref q48, .ref q57, .ref q65, .ref q74, .ref q82, .ref q90, .ref q98, .ref q106, .ref q114, .ref q122, .ref q130, .ref q138, .ref q146, .ref q154, .ref q162, .ref q170, .ref q178, .ref q186, .ref q194, .null, .null, .null, .null, .null, .null, .null, .null, .null, .null, .null, .null, .null, .null, .null, .null, .null, .null, .null, .null, .null, .null, .null, .null]))] H := hO
  have hT := hT.kept (hs _ (Nat.ne_of_gt (Nat.lt_of_lt_of_le ho (hZ (q40, .int, 6) (by simp)))))
  refine lv_aload_n hx hb d_M_init_199 rfl (lv_at hl 0 rfl) ?_
  refine lv_bipush (v := nI 16) hx hb d_M_init_200 (by decide +kernel) ?_
  have hz := hS.1.1
  refine sx_newa (cells' := 25) (slots' := 135142) hx hb hG hts rfl (Or.inl rfl) (by decide +kernel) (by decide) (by decide) rfl rfl (Nat.le_of_ble_eq_true rfl) (Nat.le_of_ble_eq_true rfl) hS d_M_init_202 (fun q202 H e0 a0 l0 y0 hJ hk hS => ?_)
  have u0 : q40 < q202 := e0 ▸ hT.lt
  have hT := hT.grown hk
  have hA := (hA.kept hJ).cons a0 l0
  have hO := hO.grown hk
  have z0 : H0.size ≤ q202 := e0 ▸ hz
  have hZ : ∀ z ∈ ([(q202, .long, 16), (q194, .long, 16), (q186, .long, 16), (q178, .long, 16), (q170, .long, 16), (q162, .long, 16), (q154, .long, 16), (q146, .long, 16), (q138, .long, 16), (q130, .long, 16), (q122, .long, 16), (q114, .long, 16), (q106, .long, 16), (q98, .long, 16), (q90, .long, 16), (q82, .long, 16), (q74, .long, 256), (q65, .long, 16), (q57, .long, 256), (q48, .long, 16), (q40, .int, 6), (q32, .byte, 3200), (q23, .byte, 64), (q15, .byte, 65536), (q7, .byte, 65536)] : List (Nat × FieldType × Nat)), H0.size ≤ z.1 := fun z hz => (List.mem_cons.mp hz).elim (fun e => by rw [e]; exact z0) (hZ z)
  have hV : ∀ z ∈ ([(q202, .long, 16), (q194, .long, 16), (q186, .long, 16), (q178, .long, 16), (q170, .long, 16), (q162, .long, 16), (q154, .long, 16), (q146, .long, 16), (q138, .long, 16), (q130, .long, 16), (q122, .long, 16), (q114, .long, 16), (q106, .long, 16), (q98, .long, 16), (q90, .long, 16), (q82, .long, 16), (q74, .long, 256), (q65, .long, 16), (q57, .long, 256), (q48, .long, 16)] : List (Nat × FieldType × Nat)), q40 < z.1 := fun z hz => (List.mem_cons.mp hz).elim (fun e => by rw [e]; exact u0) (hV z)
  refine sx_putF EE hin hO rfl i_M t_M tok_M n_M 29 (by decide) rfl fl_M_85 (ty := t_M 29) (by decide +kernel) rfl rfl (Nat.le_of_ble_eq_true rfl) hEo hS d_M_init_204 (fun H locs hO hJ hs hS => ?_)
  have hA := hA.kept hJ
  have hO : va_P D classes [(o, .inr (0, [.int 0, .ref q7, .ref q15, .ref q23, .ref q32, .int 0, .int 0, .int 0, .int 0, .ref q40, .ref q48, .ref q57, .ref q65, .ref q74, .ref q82, .ref q90, .ref q98, .ref q106, .ref q114, .ref q122, .ref q130, .ref q138, .ref q146, .ref q154, .ref q162, .ref q170, .ref q178, .ref q186, .ref q194, .ref q202, .null, .null, .null, .null, .null, .null, .null, .null, .null, .null, .null, .null, .null, .null, .null, .null, .null, .null, .null, .null, .null, .null, .null]))] H := hO
  have hT := hT.kept (hs _ (Nat.ne_of_gt (Nat.lt_of_lt_of_le ho (hZ (q40, .int, 6) (by simp)))))
  refine lv_aload_n hx hb d_M_init_207 rfl (lv_at hl 0 rfl) ?_
  refine lv_bipush (v := nI 16) hx hb d_M_init_208 (by decide +kernel) ?_
  have hz := hS.1.1
  refine sx_newa (cells' := 26) (slots' := 135158) hx hb hG hts rfl (Or.inl rfl) (by decide +kernel) (by decide) (by decide) rfl rfl (Nat.le_of_ble_eq_true rfl) (Nat.le_of_ble_eq_true rfl) hS d_M_init_210 (fun q210 H e0 a0 l0 y0 hJ hk hS => ?_)
  have u0 : q40 < q210 := e0 ▸ hT.lt
  have hT := hT.grown hk
  have hA := (hA.kept hJ).cons a0 l0
  have hO := hO.grown hk
  have z0 : H0.size ≤ q210 := e0 ▸ hz
  have hZ : ∀ z ∈ ([(q210, .long, 16), (q202, .long, 16), (q194, .long, 16), (q186, .long, 16), (q178, .long, 16), (q170, .long, 16), (q162, .long, 16), (q154, .long, 16), (q146, .long, 16), (q138, .long, 16), (q130, .long, 16), (q122, .long, 16), (q114, .long, 16), (q106, .long, 16), (q98, .long, 16), (q90, .long, 16), (q82, .long, 16), (q74, .long, 256), (q65, .long, 16), (q57, .long, 256), (q48, .long, 16), (q40, .int, 6), (q32, .byte, 3200), (q23, .byte, 64), (q15, .byte, 65536), (q7, .byte, 65536)] : List (Nat × FieldType × Nat)), H0.size ≤ z.1 := fun z hz => (List.mem_cons.mp hz).elim (fun e => by rw [e]; exact z0) (hZ z)
  have hV : ∀ z ∈ ([(q210, .long, 16), (q202, .long, 16), (q194, .long, 16), (q186, .long, 16), (q178, .long, 16), (q170, .long, 16), (q162, .long, 16), (q154, .long, 16), (q146, .long, 16), (q138, .long, 16), (q130, .long, 16), (q122, .long, 16), (q114, .long, 16), (q106, .long, 16), (q98, .long, 16), (q90, .long, 16), (q82, .long, 16), (q74, .long, 256), (q65, .long, 16), (q57, .long, 256), (q48, .long, 16)] : List (Nat × FieldType × Nat)), q40 < z.1 := fun z hz => (List.mem_cons.mp hz).elim (fun e => by rw [e]; exact u0) (hV z)
  refine sx_putF EE hin hO rfl i_M t_M tok_M n_M 30 (by decide) rfl fl_M_88 (ty := t_M 30) (by decide +kernel) rfl rfl (Nat.le_of_ble_eq_true rfl) hEo hS d_M_init_212 (fun H locs hO hJ hs hS => ?_)
  have hA := hA.kept hJ
  have hO : va_P D classes [(o, .inr (0, [.int 0, .ref q7, .ref q15, .ref q23, .ref q32, .int 0, .int 0, .int 0, .int 0, .ref q40, .ref q48, .ref q57, .ref q65, .ref q74, .ref q82, .ref q90, .ref q98, .ref q106, .ref q114, .ref q122, .ref q130, .ref q138, .ref q146, .ref q154, .ref q162, .ref q170, .ref q178, .ref q186, .ref q194, .ref q202, .ref q210, .null, .null, .null, .null, .null, .null, .null, .null, .null, .null, .null, .null, .null, .null, .null, .null, .null, .null, .null, .null, .null, .null]))] H := hO
  have hT := hT.kept (hs _ (Nat.ne_of_gt (Nat.lt_of_lt_of_le ho (hZ (q40, .int, 6) (by simp)))))
  refine lv_aload_n hx hb d_M_init_215 rfl (lv_at hl 0 rfl) ?_
  refine lv_bipush (v := nI 16) hx hb d_M_init_216 (by decide +kernel) ?_
  have hz := hS.1.1
  refine sx_newa (cells' := 27) (slots' := 135174) hx hb hG hts rfl (Or.inl rfl) (by decide +kernel) (by decide) (by decide) rfl rfl (Nat.le_of_ble_eq_true rfl) (Nat.le_of_ble_eq_true rfl) hS d_M_init_218 (fun q218 H e0 a0 l0 y0 hJ hk hS => ?_)
  have u0 : q40 < q218 := e0 ▸ hT.lt
  have hT := hT.grown hk
  have hA := (hA.kept hJ).cons a0 l0
  have hO := hO.grown hk
  have z0 : H0.size ≤ q218 := e0 ▸ hz
  have hZ : ∀ z ∈ ([(q218, .long, 16), (q210, .long, 16), (q202, .long, 16), (q194, .long, 16), (q186, .long, 16), (q178, .long, 16), (q170, .long, 16), (q162, .long, 16), (q154, .long, 16), (q146, .long, 16), (q138, .long, 16), (q130, .long, 16), (q122, .long, 16), (q114, .long, 16), (q106, .long, 16), (q98, .long, 16), (q90, .long, 16), (q82, .long, 16), (q74, .long, 256), (q65, .long, 16), (q57, .long, 256), (q48, .long, 16), (q40, .int, 6), (q32, .byte, 3200), (q23, .byte, 64), (q15, .byte, 65536), (q7, .byte, 65536)] : List (Nat × FieldType × Nat)), H0.size ≤ z.1 := fun z hz => (List.mem_cons.mp hz).elim (fun e => by rw [e]; exact z0) (hZ z)
  have hV : ∀ z ∈ ([(q218, .long, 16), (q210, .long, 16), (q202, .long, 16), (q194, .long, 16), (q186, .long, 16), (q178, .long, 16), (q170, .long, 16), (q162, .long, 16), (q154, .long, 16), (q146, .long, 16), (q138, .long, 16), (q130, .long, 16), (q122, .long, 16), (q114, .long, 16), (q106, .long, 16), (q98, .long, 16), (q90, .long, 16), (q82, .long, 16), (q74, .long, 256), (q65, .long, 16), (q57, .long, 256), (q48, .long, 16)] : List (Nat × FieldType × Nat)), q40 < z.1 := fun z hz => (List.mem_cons.mp hz).elim (fun e => by rw [e]; exact u0) (hV z)
  refine sx_putF EE hin hO rfl i_M t_M tok_M n_M 31 (by decide) rfl fl_M_91 (ty := t_M 31) (by decide +kernel) rfl rfl (Nat.le_of_ble_eq_true rfl) hEo hS d_M_init_220 (fun H locs hO hJ hs hS => ?_)
  have hA := hA.kept hJ
  have hO : va_P D classes [(o, .inr (0, [.int 0, .ref q7, .ref q15, .ref q23, .ref q32, .int 0, .int 0, .int 0, .int 0, .ref q40, .ref q48, .ref q57, .ref q65, .ref q74, .ref q82, .ref q90, .ref q98, .ref q106, .ref q114, .ref q122, .ref q130, .ref q138, .ref q146, .ref q154, .ref q162, .ref q170, .ref q178, .ref q186, .ref q194, .ref q202, .ref q210, .ref q218, .null, .null, .null, .null, .null, .null, .null, .null, .null, .null, .null, .null, .null, .null, .null, .null, .null, .null, .null, .null, .null]))] H := hO
  have hT := hT.kept (hs _ (Nat.ne_of_gt (Nat.lt_of_lt_of_le ho (hZ (q40, .int, 6) (by simp)))))
  refine lv_aload_n hx hb d_M_init_223 rfl (lv_at hl 0 rfl) ?_
  refine lv_bipush (v := nI 16) hx hb d_M_init_224 (by decide +kernel) ?_
  have hz := hS.1.1
  refine sx_newa (cells' := 28) (slots' := 135190) hx hb hG hts rfl (Or.inl rfl) (by decide +kernel) (by decide) (by decide) rfl rfl (Nat.le_of_ble_eq_true rfl) (Nat.le_of_ble_eq_true rfl) hS d_M_init_226 (fun q226 H e0 a0 l0 y0 hJ hk hS => ?_)
  have u0 : q40 < q226 := e0 ▸ hT.lt
  have hT := hT.grown hk
  have hA := (hA.kept hJ).cons a0 l0
  have hO := hO.grown hk
  have z0 : H0.size ≤ q226 := e0 ▸ hz
  have hZ : ∀ z ∈ ([(q226, .long, 16), (q218, .long, 16), (q210, .long, 16), (q202, .long, 16), (q194, .long, 16), (q186, .long, 16), (q178, .long, 16), (q170, .long, 16), (q162, .long, 16), (q154, .long, 16), (q146, .long, 16), (q138, .long, 16), (q130, .long, 16), (q122, .long, 16), (q114, .long, 16), (q106, .long, 16), (q98, .long, 16), (q90, .long, 16), (q82, .long, 16), (q74, .long, 256), (q65, .long, 16), (q57, .long, 256), (q48, .long, 16), (q40, .int, 6), (q32, .byte, 3200), (q23, .byte, 64), (q15, .byte, 65536), (q7, .byte, 65536)] : List (Nat × FieldType × Nat)), H0.size ≤ z.1 := fun z hz => (List.mem_cons.mp hz).elim (fun e => by rw [e]; exact z0) (hZ z)
  have hV : ∀ z ∈ ([(q226, .long, 16), (q218, .long, 16), (q210, .long, 16), (q202, .long, 16), (q194, .long, 16), (q186, .long, 16), (q178, .long, 16), (q170, .long, 16), (q162, .long, 16), (q154, .long, 16), (q146, .long, 16), (q138, .long, 16), (q130, .long, 16), (q122, .long, 16), (q114, .long, 16), (q106, .long, 16), (q98, .long, 16), (q90, .long, 16), (q82, .long, 16), (q74, .long, 256), (q65, .long, 16), (q57, .long, 256), (q48, .long, 16)] : List (Nat × FieldType × Nat)), q40 < z.1 := fun z hz => (List.mem_cons.mp hz).elim (fun e => by rw [e]; exact u0) (hV z)
  refine sx_putF EE hin hO rfl i_M t_M tok_M n_M 32 (by decide) rfl fl_M_94 (ty := t_M 32) (by decide +kernel) rfl rfl (Nat.le_of_ble_eq_true rfl) hEo hS d_M_init_228 (fun H locs hO hJ hs hS => ?_)
  have hA := hA.kept hJ
  have hO : va_P D classes [(o, .inr (0, [.int 0, .ref q7, .ref q15, .ref q23, .ref q32, .int 0, .int 0, .int 0, .int 0, .ref q40, .ref q48, .ref q57, .ref q65, .ref q74, .ref q82, .ref q90, .ref q98, .ref q106, .ref q114, .ref q122, .ref q130, .ref q138, .ref q146, .ref q154, .ref q162, .ref q170, .ref q178, .ref q186, .ref q194, .ref q202, .ref q210, .ref q218, .ref q226, .null, .null, .null, .null, .null, .null, .null, .null, .null, .null, .null, .null, .null, .null, .null, .null, .null, .null, .null, .null]))] H := hO
  have hT := hT.kept (hs _ (Nat.ne_of_gt (Nat.lt_of_lt_of_le ho (hZ (q40, .int, 6) (by simp)))))
  refine lv_aload_n hx hb d_M_init_231 rfl (lv_at hl 0 rfl) ?_
  refine lv_bipush (v := nI 16) hx hb d_M_init_232 (by decide +kernel) ?_
  have hz := hS.1.1
  refine sx_newa (cells' := 29) (slots' := 135206) hx hb hG hts rfl (Or.inl rfl) (by decide +kernel) (by decide) (by decide) rfl rfl (Nat.le_of_ble_eq_true rfl) (Nat.le_of_ble_eq_true rfl) hS d_M_init_234 (fun q234 H e0 a0 l0 y0 hJ hk hS => ?_)
  have u0 : q40 < q234 := e0 ▸ hT.lt
  have hT := hT.grown hk
  have hA := (hA.kept hJ).cons a0 l0
  have hO := hO.grown hk
  have z0 : H0.size ≤ q234 := e0 ▸ hz
  have hZ : ∀ z ∈ ([(q234, .long, 16), (q226, .long, 16), (q218, .long, 16), (q210, .long, 16), (q202, .long, 16), (q194, .long, 16), (q186, .long, 16), (q178, .long, 16), (q170, .long, 16), (q162, .long, 16), (q154, .long, 16), (q146, .long, 16), (q138, .long, 16), (q130, .long, 16), (q122, .long, 16), (q114, .long, 16), (q106, .long, 16), (q98, .long, 16), (q90, .long, 16), (q82, .long, 16), (q74, .long, 256), (q65, .long, 16), (q57, .long, 256), (q48, .long, 16), (q40, .int, 6), (q32, .byte, 3200), (q23, .byte, 64), (q15, .byte, 65536), (q7, .byte, 65536)] : List (Nat × FieldType × Nat)), H0.size ≤ z.1 := fun z hz => (List.mem_cons.mp hz).elim (fun e => by rw [e]; exact z0) (hZ z)
  have hV : ∀ z ∈ ([(q234, .long, 16), (q226, .long, 16), (q218, .long, 16), (q210, .long, 16), (q202, .long, 16), (q194, .long, 16), (q186, .long, 16), (q178, .long, 16), (q170, .long, 16), (q162, .long, 16), (q154, .long, 16), (q146, .long, 16), (q138, .long, 16), (q130, .long, 16), (q122, .long, 16), (q114, .long, 16), (q106, .long, 16), (q98, .long, 16), (q90, .long, 16), (q82, .long, 16), (q74, .long, 256), (q65, .long, 16), (q57, .long, 256), (q48, .long, 16)] : List (Nat × FieldType × Nat)), q40 < z.1 := fun z hz => (List.mem_cons.mp hz).elim (fun e => by rw [e]; exact u0) (hV z)
  refine sx_putF EE hin hO rfl i_M t_M tok_M n_M 33 (by decide) rfl fl_M_97 (ty := t_M 33) (by decide +kernel) rfl rfl (Nat.le_of_ble_eq_true rfl) hEo hS d_M_init_236 (fun H locs hO hJ hs hS => ?_)
  have hA := hA.kept hJ
  have hO : va_P D classes [(o, .inr (0, [.int 0, .ref q7, .ref q15, .ref q23, .ref q32, .int 0, .int 0, .int 0, .int 0, .ref q40, .ref q48, .ref q57, .ref q65, .ref q74, .ref q82, .ref q90, .ref q98, .ref q106, .ref q114, .ref q122, .ref q130, .ref q138, .ref q146, .ref q154, .ref q162, .ref q170, .ref q178, .ref q186, .ref q194, .ref q202, .ref q210, .ref q218, .ref q226, .ref q234, .null, .null, .null, .null, .null, .null, .null, .null, .null, .null, .null, .null, .null, .null, .null, .null, .null, .null, .null]))] H := hO
  have hT := hT.kept (hs _ (Nat.ne_of_gt (Nat.lt_of_lt_of_le ho (hZ (q40, .int, 6) (by simp)))))
  refine lv_aload_n hx hb d_M_init_239 rfl (lv_at hl 0 rfl) ?_
  refine lv_bipush (v := nI 16) hx hb d_M_init_240 (by decide +kernel) ?_
  have hz := hS.1.1
  refine sx_newa (cells' := 30) (slots' := 135222) hx hb hG hts rfl (Or.inl rfl) (by decide +kernel) (by decide) (by decide) rfl rfl (Nat.le_of_ble_eq_true rfl) (Nat.le_of_ble_eq_true rfl) hS d_M_init_242 (fun q242 H e0 a0 l0 y0 hJ hk hS => ?_)
  have u0 : q40 < q242 := e0 ▸ hT.lt
  have hT := hT.grown hk
  have hA := (hA.kept hJ).cons a0 l0
  have hO := hO.grown hk
  have z0 : H0.size ≤ q242 := e0 ▸ hz
  have hZ : ∀ z ∈ ([(q242, .long, 16), (q234, .long, 16), (q226, .long, 16), (q218, .long, 16), (q210, .long, 16), (q202, .long, 16), (q194, .long, 16), (q186, .long, 16), (q178, .long, 16), (q170, .long, 16), (q162, .long, 16), (q154, .long, 16), (q146, .long, 16), (q138, .long, 16), (q130, .long, 16), (q122, .long, 16), (q114, .long, 16), (q106, .long, 16), (q98, .long, 16), (q90, .long, 16), (q82, .long, 16), (q74, .long, 256), (q65, .long, 16), (q57, .long, 256), (q48, .long, 16), (q40, .int, 6), (q32, .byte, 3200), (q23, .byte, 64), (q15, .byte, 65536), (q7, .byte, 65536)] : List (Nat × FieldType × Nat)), H0.size ≤ z.1 := fun z hz => (List.mem_cons.mp hz).elim (fun e => by rw [e]; exact z0) (hZ z)
  have hV : ∀ z ∈ ([(q242, .long, 16), (q234, .long, 16), (q226, .long, 16), (q218, .long, 16), (q210, .long, 16), (q202, .long, 16), (q194, .long, 16), (q186, .long, 16), (q178, .long, 16), (q170, .long, 16), (q162, .long, 16), (q154, .long, 16), (q146, .long, 16), (q138, .long, 16), (q130, .long, 16), (q122, .long, 16), (q114, .long, 16), (q106, .long, 16), (q98, .long, 16), (q90, .long, 16), (q82, .long, 16), (q74, .long, 256), (q65, .long, 16), (q57, .long, 256), (q48, .long, 16)] : List (Nat × FieldType × Nat)), q40 < z.1 := fun z hz => (List.mem_cons.mp hz).elim (fun e => by rw [e]; exact u0) (hV z)
  refine sx_putF EE hin hO rfl i_M t_M tok_M n_M 34 (by decide) rfl fl_M_100 (ty := t_M 34) (by decide +kernel) rfl rfl (Nat.le_of_ble_eq_true rfl) hEo hS d_M_init_244 (fun H locs hO hJ hs hS => ?_)
  have hA := hA.kept hJ
  have hO : va_P D classes [(o, .inr (0, [.int 0, .ref q7, .ref q15, .ref q23, .ref q32, .int 0, .int 0, .int 0, .int 0, .ref q40, .ref q48, .ref q57, .ref q65, .ref q74, .ref q82, .ref q90, .ref q98, .ref q106, .ref q114, .ref q122, .ref q130, .ref q138, .ref q146, .ref q154, .ref q162, .ref q170, .ref q178, .ref q186, .ref q194, .ref q202, .ref q210, .ref q218, .ref q226, .ref q234, .ref q242, .null, .null, .null, .null, .null, .null, .null, .null, .null, .null, .null, .null, .null, .null, .null, .null, .null, .null]))] H := hO
  have hT := hT.kept (hs _ (Nat.ne_of_gt (Nat.lt_of_lt_of_le ho (hZ (q40, .int, 6) (by simp)))))
  refine lv_aload_n hx hb d_M_init_247 rfl (lv_at hl 0 rfl) ?_
  refine lv_bipush (v := nI 32) hx hb d_M_init_248 (by decide +kernel) ?_
  have hz := hS.1.1
  refine sx_newa (cells' := 31) (slots' := 135254) hx hb hG hts rfl (Or.inr (Or.inl rfl)) (by decide +kernel) (by decide) (by decide) rfl rfl (Nat.le_of_ble_eq_true rfl) (Nat.le_of_ble_eq_true rfl) hS d_M_init_250 (fun q250 H e0 a0 l0 y0 hJ hk hS => ?_)
  have u0 : q40 < q250 := e0 ▸ hT.lt
  have hT := hT.grown hk
  have hA := (hA.kept hJ).cons a0 l0
  have hO := hO.grown hk
  have z0 : H0.size ≤ q250 := e0 ▸ hz
  have hZ : ∀ z ∈ ([(q250, .byte, 32), (q242, .long, 16), (q234, .long, 16), (q226, .long, 16), (q218, .long, 16), (q210, .long, 16), (q202, .long, 16), (q194, .long, 16), (q186, .long, 16), (q178, .long, 16), (q170, .long, 16), (q162, .long, 16), (q154, .long, 16), (q146, .long, 16), (q138, .long, 16), (q130, .long, 16), (q122, .long, 16), (q114, .long, 16), (q106, .long, 16), (q98, .long, 16), (q90, .long, 16), (q82, .long, 16), (q74, .long, 256), (q65, .long, 16), (q57, .long, 256), (q48, .long, 16), (q40, .int, 6), (q32, .byte, 3200), (q23, .byte, 64), (q15, .byte, 65536), (q7, .byte, 65536)] : List (Nat × FieldType × Nat)), H0.size ≤ z.1 := fun z hz => (List.mem_cons.mp hz).elim (fun e => by rw [e]; exact z0) (hZ z)
  have hV : ∀ z ∈ ([(q250, .byte, 32), (q242, .long, 16), (q234, .long, 16), (q226, .long, 16), (q218, .long, 16), (q210, .long, 16), (q202, .long, 16), (q194, .long, 16), (q186, .long, 16), (q178, .long, 16), (q170, .long, 16), (q162, .long, 16), (q154, .long, 16), (q146, .long, 16), (q138, .long, 16), (q130, .long, 16), (q122, .long, 16), (q114, .long, 16), (q106, .long, 16), (q98, .long, 16), (q90, .long, 16), (q82, .long, 16), (q74, .long, 256), (q65, .long, 16), (q57, .long, 256), (q48, .long, 16)] : List (Nat × FieldType × Nat)), q40 < z.1 := fun z hz => (List.mem_cons.mp hz).elim (fun e => by rw [e]; exact u0) (hV z)
  refine sx_putF EE hin hO rfl i_M t_M tok_M n_M 35 (by decide) rfl fl_M_103 (ty := t_M 35) (by decide +kernel) rfl rfl (Nat.le_of_ble_eq_true rfl) hEo hS d_M_init_252 (fun H locs hO hJ hs hS => ?_)
  have hA := hA.kept hJ
  have hO : va_P D classes [(o, .inr (0, [.int 0, .ref q7, .ref q15, .ref q23, .ref q32, .int 0, .int 0, .int 0, .int 0, .ref q40, .ref q48, .ref q57, .ref q65, .ref q74, .ref q82, .ref q90, .ref q98, .ref q106, .ref q114, .ref q122, .ref q130, .ref q138, .ref q146, .ref q154, .ref q162, .ref q170, .ref q178, .ref q186, .ref q194, .ref q202, .ref q210, .ref q218, .ref q226, .ref q234, .ref q242, .ref q250, .null, .null, .null, .null, .null, .null, .null, .null, .null, .null, .null, .null, .null, .null, .null, .null, .null]))] H := hO
  have hT := hT.kept (hs _ (Nat.ne_of_gt (Nat.lt_of_lt_of_le ho (hZ (q40, .int, 6) (by simp)))))
  refine lv_aload_n hx hb d_M_init_255 rfl (lv_at hl 0 rfl) ?_
  refine lv_bipush (v := nI 32) hx hb d_M_init_256 (by decide +kernel) ?_
  have hz := hS.1.1
  refine sx_newa (cells' := 32) (slots' := 135286) hx hb hG hts rfl (Or.inr (Or.inl rfl)) (by decide +kernel) (by decide) (by decide) rfl rfl (Nat.le_of_ble_eq_true rfl) (Nat.le_of_ble_eq_true rfl) hS d_M_init_258 (fun q258 H e0 a0 l0 y0 hJ hk hS => ?_)
  have u0 : q40 < q258 := e0 ▸ hT.lt
  have hT := hT.grown hk
  have hA := (hA.kept hJ).cons a0 l0
  have hO := hO.grown hk
  have z0 : H0.size ≤ q258 := e0 ▸ hz
  have hZ : ∀ z ∈ ([(q258, .byte, 32), (q250, .byte, 32), (q242, .long, 16), (q234, .long, 16), (q226, .long, 16), (q218, .long, 16), (q210, .long, 16), (q202, .long, 16), (q194, .long, 16), (q186, .long, 16), (q178, .long, 16), (q170, .long, 16), (q162, .long, 16), (q154, .long, 16), (q146, .long, 16), (q138, .long, 16), (q130, .long, 16), (q122, .long, 16), (q114, .long, 16), (q106, .long, 16), (q98, .long, 16), (q90, .long, 16), (q82, .long, 16), (q74, .long, 256), (q65, .long, 16), (q57, .long, 256), (q48, .long, 16), (q40, .int, 6), (q32, .byte, 3200), (q23, .byte, 64), (q15, .byte, 65536), (q7, .byte, 65536)] : List (Nat × FieldType × Nat)), H0.size ≤ z.1 := fun z hz => (List.mem_cons.mp hz).elim (fun e => by rw [e]; exact z0) (hZ z)
  have hV : ∀ z ∈ ([(q258, .byte, 32), (q250, .byte, 32), (q242, .long, 16), (q234, .long, 16), (q226, .long, 16), (q218, .long, 16), (q210, .long, 16), (q202, .long, 16), (q194, .long, 16), (q186, .long, 16), (q178, .long, 16), (q170, .long, 16), (q162, .long, 16), (q154, .long, 16), (q146, .long, 16), (q138, .long, 16), (q130, .long, 16), (q122, .long, 16), (q114, .long, 16), (q106, .long, 16), (q98, .long, 16), (q90, .long, 16), (q82, .long, 16), (q74, .long, 256), (q65, .long, 16), (q57, .long, 256), (q48, .long, 16)] : List (Nat × FieldType × Nat)), q40 < z.1 := fun z hz => (List.mem_cons.mp hz).elim (fun e => by rw [e]; exact u0) (hV z)
  refine sx_putF EE hin hO rfl i_M t_M tok_M n_M 36 (by decide) rfl fl_M_106 (ty := t_M 36) (by decide +kernel) rfl rfl (Nat.le_of_ble_eq_true rfl) hEo hS d_M_init_260 (fun H locs hO hJ hs hS => ?_)
  have hA := hA.kept hJ
  have hO : va_P D classes [(o, .inr (0, [.int 0, .ref q7, .ref q15, .ref q23, .ref q32, .int 0, .int 0, .int 0, .int 0, .ref q40, .ref q48, .ref q57, .ref q65, .ref q74, .ref q82, .ref q90, .ref q98, .ref q106, .ref q114, .ref q122, .ref q130, .ref q138, .ref q146, .ref q154, .ref q162, .ref q170, .ref q178, .ref q186, .ref q194, .ref q202, .ref q210, .ref q218, .ref q226, .ref q234, .ref q242, .ref q250, .ref q258, .null, .null, .null, .null, .null, .null, .null, .null, .null, .null, .null, .null, .null, .null, .null, .null]))] H := hO
  have hT := hT.kept (hs _ (Nat.ne_of_gt (Nat.lt_of_lt_of_le ho (hZ (q40, .int, 6) (by simp)))))
  refine lv_aload_n hx hb d_M_init_263 rfl (lv_at hl 0 rfl) ?_
  refine lv_bipush (v := nI 32) hx hb d_M_init_264 (by decide +kernel) ?_
  have hz := hS.1.1
  refine sx_newa (cells' := 33) (slots' := 135318) hx hb hG hts rfl (Or.inr (Or.inl rfl)) (by decide +kernel) (by decide) (by decide) rfl rfl (Nat.le_of_ble_eq_true rfl) (Nat.le_of_ble_eq_true rfl) hS d_M_init_266 (fun q266 H e0 a0 l0 y0 hJ hk hS => ?_)
  have u0 : q40 < q266 := e0 ▸ hT.lt
  have hT := hT.grown hk
  have hA := (hA.kept hJ).cons a0 l0
  have hO := hO.grown hk
  have z0 : H0.size ≤ q266 := e0 ▸ hz
  have hZ : ∀ z ∈ ([(q266, .byte, 32), (q258, .byte, 32), (q250, .byte, 32), (q242, .long, 16), (q234, .long, 16), (q226, .long, 16), (q218, .long, 16), (q210, .long, 16), (q202, .long, 16), (q194, .long, 16), (q186, .long, 16), (q178, .long, 16), (q170, .long, 16), (q162, .long, 16), (q154, .long, 16), (q146, .long, 16), (q138, .long, 16), (q130, .long, 16), (q122, .long, 16), (q114, .long, 16), (q106, .long, 16), (q98, .long, 16), (q90, .long, 16), (q82, .long, 16), (q74, .long, 256), (q65, .long, 16), (q57, .long, 256), (q48, .long, 16), (q40, .int, 6), (q32, .byte, 3200), (q23, .byte, 64), (q15, .byte, 65536), (q7, .byte, 65536)] : List (Nat × FieldType × Nat)), H0.size ≤ z.1 := fun z hz => (List.mem_cons.mp hz).elim (fun e => by rw [e]; exact z0) (hZ z)
  have hV : ∀ z ∈ ([(q266, .byte, 32), (q258, .byte, 32), (q250, .byte, 32), (q242, .long, 16), (q234, .long, 16), (q226, .long, 16), (q218, .long, 16), (q210, .long, 16), (q202, .long, 16), (q194, .long, 16), (q186, .long, 16), (q178, .long, 16), (q170, .long, 16), (q162, .long, 16), (q154, .long, 16), (q146, .long, 16), (q138, .long, 16), (q130, .long, 16), (q122, .long, 16), (q114, .long, 16), (q106, .long, 16), (q98, .long, 16), (q90, .long, 16), (q82, .long, 16), (q74, .long, 256), (q65, .long, 16), (q57, .long, 256), (q48, .long, 16)] : List (Nat × FieldType × Nat)), q40 < z.1 := fun z hz => (List.mem_cons.mp hz).elim (fun e => by rw [e]; exact u0) (hV z)
  refine sx_putF EE hin hO rfl i_M t_M tok_M n_M 37 (by decide) rfl fl_M_109 (ty := t_M 37) (by decide +kernel) rfl rfl (Nat.le_of_ble_eq_true rfl) hEo hS d_M_init_268 (fun H locs hO hJ hs hS => ?_)
  have hA := hA.kept hJ
  have hO : va_P D classes [(o, .inr (0, [.int 0, .ref q7, .ref q15, .ref q23, .ref q32, .int 0, .int 0, .int 0, .int 0, .ref q40, .ref q48, .ref q57, .ref q65, .ref q74, .ref q82, .ref q90, .ref q98, .ref q106, .ref q114, .ref q122, .ref q130, .ref q138, .ref q146, .ref q154, .ref q162, .ref q170, .ref q178, .ref q186, .ref q194, .ref q202, .ref q210, .ref q218, .ref q226, .ref q234, .ref q242, .ref q250, .ref q258, .ref q266, .null, .null, .null, .null, .null, .null, .null, .null, .null, .null, .null, .null, .null, .null, .null]))] H := hO
  have hT := hT.kept (hs _ (Nat.ne_of_gt (Nat.lt_of_lt_of_le ho (hZ (q40, .int, 6) (by simp)))))
  refine lv_aload_n hx hb d_M_init_271 rfl (lv_at hl 0 rfl) ?_
  refine lv_ldc (v := nI 65664) hx hb hown (hts (.constant R_M 112 (nI 65664)) (by decide +kernel)) d_M_init_272 ?_
  have hz := hS.1.1
  refine sx_newa (cells' := 34) (slots' := 200982) hx hb hG hts rfl (Or.inr (Or.inl rfl)) (by decide +kernel) (by decide) (by decide) rfl rfl (Nat.le_of_ble_eq_true rfl) (Nat.le_of_ble_eq_true rfl) hS d_M_init_274 (fun q274 H e0 a0 l0 y0 hJ hk hS => ?_)
  have u0 : q40 < q274 := e0 ▸ hT.lt
  have hT := hT.grown hk
  have hA := (hA.kept hJ).cons a0 l0
  have hO := hO.grown hk
  have z0 : H0.size ≤ q274 := e0 ▸ hz
  have hZ : ∀ z ∈ ([(q274, .byte, 65664), (q266, .byte, 32), (q258, .byte, 32), (q250, .byte, 32), (q242, .long, 16), (q234, .long, 16), (q226, .long, 16), (q218, .long, 16), (q210, .long, 16), (q202, .long, 16), (q194, .long, 16), (q186, .long, 16), (q178, .long, 16), (q170, .long, 16), (q162, .long, 16), (q154, .long, 16), (q146, .long, 16), (q138, .long, 16), (q130, .long, 16), (q122, .long, 16), (q114, .long, 16), (q106, .long, 16), (q98, .long, 16), (q90, .long, 16), (q82, .long, 16), (q74, .long, 256), (q65, .long, 16), (q57, .long, 256), (q48, .long, 16), (q40, .int, 6), (q32, .byte, 3200), (q23, .byte, 64), (q15, .byte, 65536), (q7, .byte, 65536)] : List (Nat × FieldType × Nat)), H0.size ≤ z.1 := fun z hz => (List.mem_cons.mp hz).elim (fun e => by rw [e]; exact z0) (hZ z)
  have hV : ∀ z ∈ ([(q274, .byte, 65664), (q266, .byte, 32), (q258, .byte, 32), (q250, .byte, 32), (q242, .long, 16), (q234, .long, 16), (q226, .long, 16), (q218, .long, 16), (q210, .long, 16), (q202, .long, 16), (q194, .long, 16), (q186, .long, 16), (q178, .long, 16), (q170, .long, 16), (q162, .long, 16), (q154, .long, 16), (q146, .long, 16), (q138, .long, 16), (q130, .long, 16), (q122, .long, 16), (q114, .long, 16), (q106, .long, 16), (q98, .long, 16), (q90, .long, 16), (q82, .long, 16), (q74, .long, 256), (q65, .long, 16), (q57, .long, 256), (q48, .long, 16)] : List (Nat × FieldType × Nat)), q40 < z.1 := fun z hz => (List.mem_cons.mp hz).elim (fun e => by rw [e]; exact u0) (hV z)
  refine sx_putF EE hin hO rfl i_M t_M tok_M n_M 38 (by decide) rfl fl_M_113 (ty := t_M 38) (by decide +kernel) rfl rfl (Nat.le_of_ble_eq_true rfl) hEo hS d_M_init_276 (fun H locs hO hJ hs hS => ?_)
  have hA := hA.kept hJ
  have hO : va_P D classes [(o, .inr (0, [.int 0, .ref q7, .ref q15, .ref q23, .ref q32, .int 0, .int 0, .int 0, .int 0, .ref q40, .ref q48, .ref q57, .ref q65, .ref q74, .ref q82, .ref q90, .ref q98, .ref q106, .ref q114, .ref q122, .ref q130, .ref q138, .ref q146, .ref q154, .ref q162, .ref q170, .ref q178, .ref q186, .ref q194, .ref q202, .ref q210, .ref q218, .ref q226, .ref q234, .ref q242, .ref q250, .ref q258, .ref q266, .ref q274, .null, .null, .null, .null, .null, .null, .null, .null, .null, .null, .null, .null, .null, .null]))] H := hO
  have hT := hT.kept (hs _ (Nat.ne_of_gt (Nat.lt_of_lt_of_le ho (hZ (q40, .int, 6) (by simp)))))
  refine lv_aload_n hx hb d_M_init_279 rfl (lv_at hl 0 rfl) ?_
  refine lv_bipush (v := nI 8) hx hb d_M_init_280 (by decide +kernel) ?_
  have hz := hS.1.1
  refine sx_newa (cells' := 35) (slots' := 200990) hx hb hG hts rfl (Or.inr (Or.inr rfl)) (by decide +kernel) (by decide) (by decide) rfl rfl (Nat.le_of_ble_eq_true rfl) (Nat.le_of_ble_eq_true rfl) hS d_M_init_282 (fun q282 H e0 a0 l0 y0 hJ hk hS => ?_)
  have u0 : q40 < q282 := e0 ▸ hT.lt
  have hT := hT.grown hk
  have hA := (hA.kept hJ).cons a0 l0
  have hO := hO.grown hk
  have z0 : H0.size ≤ q282 := e0 ▸ hz
  have hZ : ∀ z ∈ ([(q282, .int, 8), (q274, .byte, 65664), (q266, .byte, 32), (q258, .byte, 32), (q250, .byte, 32), (q242, .long, 16), (q234, .long, 16), (q226, .long, 16), (q218, .long, 16), (q210, .long, 16), (q202, .long, 16), (q194, .long, 16), (q186, .long, 16), (q178, .long, 16), (q170, .long, 16), (q162, .long, 16), (q154, .long, 16), (q146, .long, 16), (q138, .long, 16), (q130, .long, 16), (q122, .long, 16), (q114, .long, 16), (q106, .long, 16), (q98, .long, 16), (q90, .long, 16), (q82, .long, 16), (q74, .long, 256), (q65, .long, 16), (q57, .long, 256), (q48, .long, 16), (q40, .int, 6), (q32, .byte, 3200), (q23, .byte, 64), (q15, .byte, 65536), (q7, .byte, 65536)] : List (Nat × FieldType × Nat)), H0.size ≤ z.1 := fun z hz => (List.mem_cons.mp hz).elim (fun e => by rw [e]; exact z0) (hZ z)
  have hV : ∀ z ∈ ([(q282, .int, 8), (q274, .byte, 65664), (q266, .byte, 32), (q258, .byte, 32), (q250, .byte, 32), (q242, .long, 16), (q234, .long, 16), (q226, .long, 16), (q218, .long, 16), (q210, .long, 16), (q202, .long, 16), (q194, .long, 16), (q186, .long, 16), (q178, .long, 16), (q170, .long, 16), (q162, .long, 16), (q154, .long, 16), (q146, .long, 16), (q138, .long, 16), (q130, .long, 16), (q122, .long, 16), (q114, .long, 16), (q106, .long, 16), (q98, .long, 16), (q90, .long, 16), (q82, .long, 16), (q74, .long, 256), (q65, .long, 16), (q57, .long, 256), (q48, .long, 16)] : List (Nat × FieldType × Nat)), q40 < z.1 := fun z hz => (List.mem_cons.mp hz).elim (fun e => by rw [e]; exact u0) (hV z)
  refine lv_dup hx hb d_M_init_284 rfl ?_
  refine lv_iconst (v := nI 0) hx hb d_M_init_285 (by decide +kernel) ?_
  refine lv_ldc (v := nI 54253) hx hb hown (hts (.constant R_M 116 (nI 54253)) (by decide +kernel)) d_M_init_286 ?_
  refine sx_iast (E := fun z => z = q282) (F := E) (H0 := H) hx hb hG ⟨sx_J.rf, fun z h => h ▸ hEn _ z0, hS.2.2⟩ (show sx_A g .int H q282 8 from (hA (q282, .int, 8) (List.mem_cons_self)).1) rfl (sx_in (by decide) (by decide)) d_M_init_288 (fun H locs hS1 => ?_)
  have hA := hA.kept hS1.1
  have hO := hS1.1.ob (fun e => absurd z0 (by rw [← e]; exact Nat.not_le.mpr ho)) hO
  have hS : sx_S g E E H0 H locs := ⟨hS.1.tr (hS1.1.mono (fun z h => h ▸ hEn _ z0)), fun _ h => h, hS1.2.2⟩
  have hT := hT.kept (hS1.1.2.1 _ hT.lt (Nat.ne_of_lt u0))
  refine lv_dup hx hb d_M_init_289 rfl ?_
  refine lv_iconst (v := nI 1) hx hb d_M_init_290 (by decide +kernel) ?_
  refine lv_sipush (v := nI 23797) hx hb d_M_init_291 (by decide +kernel) ?_
  refine sx_iast (E := fun z => z = q282) (F := E) (H0 := H) hx hb hG ⟨sx_J.rf, fun z h => h ▸ hEn _ z0, hS.2.2⟩ (show sx_A g .int H q282 8 from (hA (q282, .int, 8) (List.mem_cons_self)).1) rfl (sx_in (by decide) (by decide)) d_M_init_294 (fun H locs hS1 => ?_)
  have hA := hA.kept hS1.1
  have hO := hS1.1.ob (fun e => absurd z0 (by rw [← e]; exact Nat.not_le.mpr ho)) hO
  have hS : sx_S g E E H0 H locs := ⟨hS.1.tr (hS1.1.mono (fun z h => h ▸ hEn _ z0)), fun _ h => h, hS1.2.2⟩
  have hT := hT.kept (hS1.1.2.1 _ hT.lt (Nat.ne_of_lt u0))
  refine lv_dup hx hb d_M_init_295 rfl ?_
  refine lv_iconst (v := nI 2) hx hb d_M_init_296 (by decide +kernel) ?_
  refine lv_sipush (v := nI 25370) hx hb d_M_init_297 (by decide +kernel) ?_
  refine sx_iast (E := fun z => z = q282) (F := E) (H0 := H) hx hb hG ⟨sx_J.rf, fun z h => h ▸ hEn _ z0, hS.2.2⟩ (show sx_A g .int H q282 8 from (hA (q282, .int, 8) (List.mem_cons_self)).1) rfl (sx_in (by decide) (by decide)) d_M_init_300 (fun H locs hS1 => ?_)
  have hA := hA.kept hS1.1
  have hO := hS1.1.ob (fun e => absurd z0 (by rw [← e]; exact Nat.not_le.mpr ho)) hO
  have hS : sx_S g E E H0 H locs := ⟨hS.1.tr (hS1.1.mono (fun z h => h ▸ hEn _ z0)), fun _ h => h, hS1.2.2⟩
  have hT := hT.kept (hS1.1.2.1 _ hT.lt (Nat.ne_of_lt u0))
  refine lv_dup hx hb d_M_init_301 rfl ?_
  refine lv_iconst (v := nI 3) hx hb d_M_init_302 (by decide +kernel) ?_
  refine lv_sipush (v := nI 22546) hx hb d_M_init_303 (by decide +kernel) ?_
  refine sx_iast (E := fun z => z = q282) (F := E) (H0 := H) hx hb hG ⟨sx_J.rf, fun z h => h ▸ hEn _ z0, hS.2.2⟩ (show sx_A g .int H q282 8 from (hA (q282, .int, 8) (List.mem_cons_self)).1) rfl (sx_in (by decide) (by decide)) d_M_init_306 (fun H locs hS1 => ?_)
  have hA := hA.kept hS1.1
  have hO := hS1.1.ob (fun e => absurd z0 (by rw [← e]; exact Nat.not_le.mpr ho)) hO
  have hS : sx_S g E E H0 H locs := ⟨hS.1.tr (hS1.1.mono (fun z h => h ▸ hEn _ z0)), fun _ h => h, hS1.2.2⟩
  have hT := hT.kept (hS1.1.2.1 _ hT.lt (Nat.ne_of_lt u0))
  refine lv_dup hx hb d_M_init_307 rfl ?_
  refine lv_iconst (v := nI 4) hx hb d_M_init_308 (by decide +kernel) ?_
  refine lv_ldc (v := nI 40150) hx hb hown (hts (.constant R_M 117 (nI 40150)) (by decide +kernel)) d_M_init_309 ?_
  refine sx_iast (E := fun z => z = q282) (F := E) (H0 := H) hx hb hG ⟨sx_J.rf, fun z h => h ▸ hEn _ z0, hS.2.2⟩ (show sx_A g .int H q282 8 from (hA (q282, .int, 8) (List.mem_cons_self)).1) rfl (sx_in (by decide) (by decide)) d_M_init_311 (fun H locs hS1 => ?_)
  have hA := hA.kept hS1.1
  have hO := hS1.1.ob (fun e => absurd z0 (by rw [← e]; exact Nat.not_le.mpr ho)) hO
  have hS : sx_S g E E H0 H locs := ⟨hS.1.tr (hS1.1.mono (fun z h => h ▸ hEn _ z0)), fun _ h => h, hS1.2.2⟩
  have hT := hT.kept (hS1.1.2.1 _ hT.lt (Nat.ne_of_lt u0))
  refine lv_dup hx hb d_M_init_312 rfl ?_
  refine lv_iconst (v := nI 5) hx hb d_M_init_313 (by decide +kernel) ?_
  refine lv_ldc (v := nI 41719) hx hb hown (hts (.constant R_M 118 (nI 41719)) (by decide +kernel)) d_M_init_314 ?_
  refine sx_iast (E := fun z => z = q282) (F := E) (H0 := H) hx hb hG ⟨sx_J.rf, fun z h => h ▸ hEn _ z0, hS.2.2⟩ (show sx_A g .int H q282 8 from (hA (q282, .int, 8) (List.mem_cons_self)).1) rfl (sx_in (by decide) (by decide)) d_M_init_316 (fun H locs hS1 => ?_)
  have hA := hA.kept hS1.1
  have hO := hS1.1.ob (fun e => absurd z0 (by rw [← e]; exact Nat.not_le.mpr ho)) hO
  have hS : sx_S g E E H0 H locs := ⟨hS.1.tr (hS1.1.mono (fun z h => h ▸ hEn _ z0)), fun _ h => h, hS1.2.2⟩
  have hT := hT.kept (hS1.1.2.1 _ hT.lt (Nat.ne_of_lt u0))
  refine lv_dup hx hb d_M_init_317 rfl ?_
  refine lv_bipush (v := nI 6) hx hb d_M_init_318 (by decide +kernel) ?_
  refine lv_ldc (v := nI 63966) hx hb hown (hts (.constant R_M 119 (nI 63966)) (by decide +kernel)) d_M_init_320 ?_
  refine sx_iast (E := fun z => z = q282) (F := E) (H0 := H) hx hb hG ⟨sx_J.rf, fun z h => h ▸ hEn _ z0, hS.2.2⟩ (show sx_A g .int H q282 8 from (hA (q282, .int, 8) (List.mem_cons_self)).1) rfl (sx_in (by decide) (by decide)) d_M_init_322 (fun H locs hS1 => ?_)
  have hA := hA.kept hS1.1
  have hO := hS1.1.ob (fun e => absurd z0 (by rw [← e]; exact Nat.not_le.mpr ho)) hO
  have hS : sx_S g E E H0 H locs := ⟨hS.1.tr (hS1.1.mono (fun z h => h ▸ hEn _ z0)), fun _ h => h, hS1.2.2⟩
  have hT := hT.kept (hS1.1.2.1 _ hT.lt (Nat.ne_of_lt u0))
  refine lv_dup hx hb d_M_init_323 rfl ?_
  refine lv_bipush (v := nI 7) hx hb d_M_init_324 (by decide +kernel) ?_
  refine lv_sipush (v := nI 5342) hx hb d_M_init_326 (by decide +kernel) ?_
  refine sx_iast (E := fun z => z = q282) (F := E) (H0 := H) hx hb hG ⟨sx_J.rf, fun z h => h ▸ hEn _ z0, hS.2.2⟩ (show sx_A g .int H q282 8 from (hA (q282, .int, 8) (List.mem_cons_self)).1) rfl (sx_in (by decide) (by decide)) d_M_init_329 (fun H locs hS1 => ?_)
  have hA := hA.kept hS1.1
  have hO := hS1.1.ob (fun e => absurd z0 (by rw [← e]; exact Nat.not_le.mpr ho)) hO
  have hS : sx_S g E E H0 H locs := ⟨hS.1.tr (hS1.1.mono (fun z h => h ▸ hEn _ z0)), fun _ h => h, hS1.2.2⟩
  have hT := hT.kept (hS1.1.2.1 _ hT.lt (Nat.ne_of_lt u0))
  refine sx_putF EE hin hO rfl i_M t_M tok_M n_M 39 (by decide) rfl fl_M_120 (ty := t_M 39) (by decide +kernel) rfl rfl (Nat.le_of_ble_eq_true rfl) hEo hS d_M_init_330 (fun H locs hO hJ hs hS => ?_)
  have hA := hA.kept hJ
  have hO : va_P D classes [(o, .inr (0, [.int 0, .ref q7, .ref q15, .ref q23, .ref q32, .int 0, .int 0, .int 0, .int 0, .ref q40, .ref q48, .ref q57, .ref q65, .ref q74, .ref q82, .ref q90, .ref q98, .ref q106, .ref q114, .ref q122, .ref q130, .ref q138, .ref q146, .ref q154, .ref q162, .ref q170, .ref q178, .ref q186, .ref q194, .ref q202, .ref q210, .ref q218, .ref q226, .ref q234, .ref q242, .ref q250, .ref q258, .ref q266, .ref q274, .ref q282, .null, .null, .null, .null, .null, .null, .null, .null, .null, .null, .null, .null, .null]))] H := hO
  have hT := hT.kept (hs _ (Nat.ne_of_gt (Nat.lt_of_lt_of_le ho (hZ (q40, .int, 6) (by simp)))))
  refine lv_aload_n hx hb d_M_init_333 rfl (lv_at hl 0 rfl) ?_
  refine lv_bipush (v := nI 32) hx hb d_M_init_334 (by decide +kernel) ?_
  have hz := hS.1.1
  refine sx_newa (cells' := 36) (slots' := 201022) hx hb hG hts rfl (Or.inl rfl) (by decide +kernel) (by decide) (by decide) rfl rfl (Nat.le_of_ble_eq_true rfl) (Nat.le_of_ble_eq_true rfl) hS d_M_init_336 (fun q336 H e0 a0 l0 y0 hJ hk hS => ?_)
  have u0 : q40 < q336 := e0 ▸ hT.lt
  have hT := hT.grown hk
  have hA := (hA.kept hJ).cons a0 l0
  have hO := hO.grown hk
  have z0 : H0.size ≤ q336 := e0 ▸ hz
  have hZ : ∀ z ∈ ([(q336, .long, 32), (q282, .int, 8), (q274, .byte, 65664), (q266, .byte, 32), (q258, .byte, 32), (q250, .byte, 32), (q242, .long, 16), (q234, .long, 16), (q226, .long, 16), (q218, .long, 16), (q210, .long, 16), (q202, .long, 16), (q194, .long, 16), (q186, .long, 16), (q178, .long, 16), (q170, .long, 16), (q162, .long, 16), (q154, .long, 16), (q146, .long, 16), (q138, .long, 16), (q130, .long, 16), (q122, .long, 16), (q114, .long, 16), (q106, .long, 16), (q98, .long, 16), (q90, .long, 16), (q82, .long, 16), (q74, .long, 256), (q65, .long, 16), (q57, .long, 256), (q48, .long, 16), (q40, .int, 6), (q32, .byte, 3200), (q23, .byte, 64), (q15, .byte, 65536), (q7, .byte, 65536)] : List (Nat × FieldType × Nat)), H0.size ≤ z.1 := fun z hz => (List.mem_cons.mp hz).elim (fun e => by rw [e]; exact z0) (hZ z)
  have hV : ∀ z ∈ ([(q336, .long, 32), (q282, .int, 8), (q274, .byte, 65664), (q266, .byte, 32), (q258, .byte, 32), (q250, .byte, 32), (q242, .long, 16), (q234, .long, 16), (q226, .long, 16), (q218, .long, 16), (q210, .long, 16), (q202, .long, 16), (q194, .long, 16), (q186, .long, 16), (q178, .long, 16), (q170, .long, 16), (q162, .long, 16), (q154, .long, 16), (q146, .long, 16), (q138, .long, 16), (q130, .long, 16), (q122, .long, 16), (q114, .long, 16), (q106, .long, 16), (q98, .long, 16), (q90, .long, 16), (q82, .long, 16), (q74, .long, 256), (q65, .long, 16), (q57, .long, 256), (q48, .long, 16)] : List (Nat × FieldType × Nat)), q40 < z.1 := fun z hz => (List.mem_cons.mp hz).elim (fun e => by rw [e]; exact u0) (hV z)
  refine sx_putF EE hin hO rfl i_M t_M tok_M n_M 40 (by decide) rfl fl_M_123 (ty := t_M 40) (by decide +kernel) rfl rfl (Nat.le_of_ble_eq_true rfl) hEo hS d_M_init_338 (fun H locs hO hJ hs hS => ?_)
  have hA := hA.kept hJ
  have hO : va_P D classes [(o, .inr (0, [.int 0, .ref q7, .ref q15, .ref q23, .ref q32, .int 0, .int 0, .int 0, .int 0, .ref q40, .ref q48, .ref q57, .ref q65, .ref q74, .ref q82, .ref q90, .ref q98, .ref q106, .ref q114, .ref q122, .ref q130, .ref q138, .ref q146, .ref q154, .ref q162, .ref q170, .ref q178, .ref q186, .ref q194, .ref q202, .ref q210, .ref q218, .ref q226, .ref q234, .ref q242, .ref q250, .ref q258, .ref q266, .ref q274, .ref q282, .ref q336, .null, .null, .null, .null, .null, .null, .null, .null, .null, .null, .null, .null]))] H := hO
  have hT := hT.kept (hs _ (Nat.ne_of_gt (Nat.lt_of_lt_of_le ho (hZ (q40, .int, 6) (by simp)))))
  refine lv_aload_n hx hb d_M_init_341 rfl (lv_at hl 0 rfl) ?_
  refine lv_bipush (v := nI 18) hx hb d_M_init_342 (by decide +kernel) ?_
  have hz := hS.1.1
  refine sx_newa (cells' := 37) (slots' := 201040) hx hb hG hts rfl (Or.inl rfl) (by decide +kernel) (by decide) (by decide) rfl rfl (Nat.le_of_ble_eq_true rfl) (Nat.le_of_ble_eq_true rfl) hS d_M_init_344 (fun q344 H e0 a0 l0 y0 hJ hk hS => ?_)
  have u0 : q40 < q344 := e0 ▸ hT.lt
  have hT := hT.grown hk
  have hA := (hA.kept hJ).cons a0 l0
  have hO := hO.grown hk
  have z0 : H0.size ≤ q344 := e0 ▸ hz
  have hZ : ∀ z ∈ ([(q344, .long, 18), (q336, .long, 32), (q282, .int, 8), (q274, .byte, 65664), (q266, .byte, 32), (q258, .byte, 32), (q250, .byte, 32), (q242, .long, 16), (q234, .long, 16), (q226, .long, 16), (q218, .long, 16), (q210, .long, 16), (q202, .long, 16), (q194, .long, 16), (q186, .long, 16), (q178, .long, 16), (q170, .long, 16), (q162, .long, 16), (q154, .long, 16), (q146, .long, 16), (q138, .long, 16), (q130, .long, 16), (q122, .long, 16), (q114, .long, 16), (q106, .long, 16), (q98, .long, 16), (q90, .long, 16), (q82, .long, 16), (q74, .long, 256), (q65, .long, 16), (q57, .long, 256), (q48, .long, 16), (q40, .int, 6), (q32, .byte, 3200), (q23, .byte, 64), (q15, .byte, 65536), (q7, .byte, 65536)] : List (Nat × FieldType × Nat)), H0.size ≤ z.1 := fun z hz => (List.mem_cons.mp hz).elim (fun e => by rw [e]; exact z0) (hZ z)
  have hV : ∀ z ∈ ([(q344, .long, 18), (q336, .long, 32), (q282, .int, 8), (q274, .byte, 65664), (q266, .byte, 32), (q258, .byte, 32), (q250, .byte, 32), (q242, .long, 16), (q234, .long, 16), (q226, .long, 16), (q218, .long, 16), (q210, .long, 16), (q202, .long, 16), (q194, .long, 16), (q186, .long, 16), (q178, .long, 16), (q170, .long, 16), (q162, .long, 16), (q154, .long, 16), (q146, .long, 16), (q138, .long, 16), (q130, .long, 16), (q122, .long, 16), (q114, .long, 16), (q106, .long, 16), (q98, .long, 16), (q90, .long, 16), (q82, .long, 16), (q74, .long, 256), (q65, .long, 16), (q57, .long, 256), (q48, .long, 16)] : List (Nat × FieldType × Nat)), q40 < z.1 := fun z hz => (List.mem_cons.mp hz).elim (fun e => by rw [e]; exact u0) (hV z)
  refine sx_putF EE hin hO rfl i_M t_M tok_M n_M 41 (by decide) rfl fl_M_126 (ty := t_M 41) (by decide +kernel) rfl rfl (Nat.le_of_ble_eq_true rfl) hEo hS d_M_init_346 (fun H locs hO hJ hs hS => ?_)
  have hA := hA.kept hJ
  have hO : va_P D classes [(o, .inr (0, [.int 0, .ref q7, .ref q15, .ref q23, .ref q32, .int 0, .int 0, .int 0, .int 0, .ref q40, .ref q48, .ref q57, .ref q65, .ref q74, .ref q82, .ref q90, .ref q98, .ref q106, .ref q114, .ref q122, .ref q130, .ref q138, .ref q146, .ref q154, .ref q162, .ref q170, .ref q178, .ref q186, .ref q194, .ref q202, .ref q210, .ref q218, .ref q226, .ref q234, .ref q242, .ref q250, .ref q258, .ref q266, .ref q274, .ref q282, .ref q336, .ref q344, .null, .null, .null, .null, .null, .null, .null, .null, .null, .null, .null]))] H := hO
  have hT := hT.kept (hs _ (Nat.ne_of_gt (Nat.lt_of_lt_of_le ho (hZ (q40, .int, 6) (by simp)))))
  refine lv_aload_n hx hb d_M_init_349 rfl (lv_at hl 0 rfl) ?_
  refine lv_bipush (v := nI 16) hx hb d_M_init_350 (by decide +kernel) ?_
  have hz := hS.1.1
  refine sx_newa (cells' := 38) (slots' := 201056) hx hb hG hts rfl (Or.inl rfl) (by decide +kernel) (by decide) (by decide) rfl rfl (Nat.le_of_ble_eq_true rfl) (Nat.le_of_ble_eq_true rfl) hS d_M_init_352 (fun q352 H e0 a0 l0 y0 hJ hk hS => ?_)
  have u0 : q40 < q352 := e0 ▸ hT.lt
  have hT := hT.grown hk
  have hA := (hA.kept hJ).cons a0 l0
  have hO := hO.grown hk
  have z0 : H0.size ≤ q352 := e0 ▸ hz
  have hZ : ∀ z ∈ ([(q352, .long, 16), (q344, .long, 18), (q336, .long, 32), (q282, .int, 8), (q274, .byte, 65664), (q266, .byte, 32), (q258, .byte, 32), (q250, .byte, 32), (q242, .long, 16), (q234, .long, 16), (q226, .long, 16), (q218, .long, 16), (q210, .long, 16), (q202, .long, 16), (q194, .long, 16), (q186, .long, 16), (q178, .long, 16), (q170, .long, 16), (q162, .long, 16), (q154, .long, 16), (q146, .long, 16), (q138, .long, 16), (q130, .long, 16), (q122, .long, 16), (q114, .long, 16), (q106, .long, 16), (q98, .long, 16), (q90, .long, 16), (q82, .long, 16), (q74, .long, 256), (q65, .long, 16), (q57, .long, 256), (q48, .long, 16), (q40, .int, 6), (q32, .byte, 3200), (q23, .byte, 64), (q15, .byte, 65536), (q7, .byte, 65536)] : List (Nat × FieldType × Nat)), H0.size ≤ z.1 := fun z hz => (List.mem_cons.mp hz).elim (fun e => by rw [e]; exact z0) (hZ z)
  have hV : ∀ z ∈ ([(q352, .long, 16), (q344, .long, 18), (q336, .long, 32), (q282, .int, 8), (q274, .byte, 65664), (q266, .byte, 32), (q258, .byte, 32), (q250, .byte, 32), (q242, .long, 16), (q234, .long, 16), (q226, .long, 16), (q218, .long, 16), (q210, .long, 16), (q202, .long, 16), (q194, .long, 16), (q186, .long, 16), (q178, .long, 16), (q170, .long, 16), (q162, .long, 16), (q154, .long, 16), (q146, .long, 16), (q138, .long, 16), (q130, .long, 16), (q122, .long, 16), (q114, .long, 16), (q106, .long, 16), (q98, .long, 16), (q90, .long, 16), (q82, .long, 16), (q74, .long, 256), (q65, .long, 16), (q57, .long, 256), (q48, .long, 16)] : List (Nat × FieldType × Nat)), q40 < z.1 := fun z hz => (List.mem_cons.mp hz).elim (fun e => by rw [e]; exact u0) (hV z)
  refine sx_putF EE hin hO rfl i_M t_M tok_M n_M 42 (by decide) rfl fl_M_129 (ty := t_M 42) (by decide +kernel) rfl rfl (Nat.le_of_ble_eq_true rfl) hEo hS d_M_init_354 (fun H locs hO hJ hs hS => ?_)
  have hA := hA.kept hJ
  have hO : va_P D classes [(o, .inr (0, [.int 0, .ref q7, .ref q15, .ref q23, .ref q32, .int 0, .int 0, .int 0, .int 0, .ref q40, .ref q48, .ref q57, .ref q65, .ref q74, .ref q82, .ref q90, .ref q98, .ref q106, .ref q114, .ref q122, .ref q130, .ref q138, .ref q146, .ref q154, .ref q162, .ref q170, .ref q178, .ref q186, .ref q194, .ref q202, .ref q210, .ref q218, .ref q226, .ref q234, .ref q242, .ref q250, .ref q258, .ref q266, .ref q274, .ref q282, .ref q336, .ref q344, .ref q352, .null, .null, .null, .null, .null, .null, .null, .null, .null, .null]))] H := hO
  have hT := hT.kept (hs _ (Nat.ne_of_gt (Nat.lt_of_lt_of_le ho (hZ (q40, .int, 6) (by simp)))))
  refine lv_aload_n hx hb d_M_init_357 rfl (lv_at hl 0 rfl) ?_
  refine lv_bipush (v := nI 16) hx hb d_M_init_358 (by decide +kernel) ?_
  have hz := hS.1.1
  refine sx_newa (cells' := 39) (slots' := 201072) hx hb hG hts rfl (Or.inl rfl) (by decide +kernel) (by decide) (by decide) rfl rfl (Nat.le_of_ble_eq_true rfl) (Nat.le_of_ble_eq_true rfl) hS d_M_init_360 (fun q360 H e0 a0 l0 y0 hJ hk hS => ?_)
  have u0 : q40 < q360 := e0 ▸ hT.lt
  have hT := hT.grown hk
  have hA := (hA.kept hJ).cons a0 l0
  have hO := hO.grown hk
  have z0 : H0.size ≤ q360 := e0 ▸ hz
  have hZ : ∀ z ∈ ([(q360, .long, 16), (q352, .long, 16), (q344, .long, 18), (q336, .long, 32), (q282, .int, 8), (q274, .byte, 65664), (q266, .byte, 32), (q258, .byte, 32), (q250, .byte, 32), (q242, .long, 16), (q234, .long, 16), (q226, .long, 16), (q218, .long, 16), (q210, .long, 16), (q202, .long, 16), (q194, .long, 16), (q186, .long, 16), (q178, .long, 16), (q170, .long, 16), (q162, .long, 16), (q154, .long, 16), (q146, .long, 16), (q138, .long, 16), (q130, .long, 16), (q122, .long, 16), (q114, .long, 16), (q106, .long, 16), (q98, .long, 16), (q90, .long, 16), (q82, .long, 16), (q74, .long, 256), (q65, .long, 16), (q57, .long, 256), (q48, .long, 16), (q40, .int, 6), (q32, .byte, 3200), (q23, .byte, 64), (q15, .byte, 65536), (q7, .byte, 65536)] : List (Nat × FieldType × Nat)), H0.size ≤ z.1 := fun z hz => (List.mem_cons.mp hz).elim (fun e => by rw [e]; exact z0) (hZ z)
  have hV : ∀ z ∈ ([(q360, .long, 16), (q352, .long, 16), (q344, .long, 18), (q336, .long, 32), (q282, .int, 8), (q274, .byte, 65664), (q266, .byte, 32), (q258, .byte, 32), (q250, .byte, 32), (q242, .long, 16), (q234, .long, 16), (q226, .long, 16), (q218, .long, 16), (q210, .long, 16), (q202, .long, 16), (q194, .long, 16), (q186, .long, 16), (q178, .long, 16), (q170, .long, 16), (q162, .long, 16), (q154, .long, 16), (q146, .long, 16), (q138, .long, 16), (q130, .long, 16), (q122, .long, 16), (q114, .long, 16), (q106, .long, 16), (q98, .long, 16), (q90, .long, 16), (q82, .long, 16), (q74, .long, 256), (q65, .long, 16), (q57, .long, 256), (q48, .long, 16)] : List (Nat × FieldType × Nat)), q40 < z.1 := fun z hz => (List.mem_cons.mp hz).elim (fun e => by rw [e]; exact u0) (hV z)
  refine sx_putF EE hin hO rfl i_M t_M tok_M n_M 43 (by decide) rfl fl_M_132 (ty := t_M 43) (by decide +kernel) rfl rfl (Nat.le_of_ble_eq_true rfl) hEo hS d_M_init_362 (fun H locs hO hJ hs hS => ?_)
  have hA := hA.kept hJ
  have hO : va_P D classes [(o, .inr (0, [.int 0, .ref q7, .ref q15, .ref q23, .ref q32, .int 0, .int 0, .int 0, .int 0, .ref q40, .ref q48, .ref q57, .ref q65, .ref q74, .ref q82, .ref q90, .ref q98, .ref q106, .ref q114, .ref q122, .ref q130, .ref q138, .ref q146, .ref q154, .ref q162, .ref q170, .ref q178, .ref q186, .ref q194, .ref q202, .ref q210, .ref q218, .ref q226, .ref q234, .ref q242, .ref q250, .ref q258, .ref q266, .ref q274, .ref q282, .ref q336, .ref q344, .ref q352, .ref q360, .null, .null, .null, .null, .null, .null, .null, .null, .null]))] H := hO
  have hT := hT.kept (hs _ (Nat.ne_of_gt (Nat.lt_of_lt_of_le ho (hZ (q40, .int, 6) (by simp)))))
  refine lv_aload_n hx hb d_M_init_365 rfl (lv_at hl 0 rfl) ?_
  refine lv_bipush (v := nI 17) hx hb d_M_init_366 (by decide +kernel) ?_
  have hz := hS.1.1
  refine sx_newa (cells' := 40) (slots' := 201089) hx hb hG hts rfl (Or.inl rfl) (by decide +kernel) (by decide) (by decide) rfl rfl (Nat.le_of_ble_eq_true rfl) (Nat.le_of_ble_eq_true rfl) hS d_M_init_368 (fun q368 H e0 a0 l0 y0 hJ hk hS => ?_)
  have u0 : q40 < q368 := e0 ▸ hT.lt
  have hT := hT.grown hk
  have hA := (hA.kept hJ).cons a0 l0
  have hO := hO.grown hk
  have z0 : H0.size ≤ q368 := e0 ▸ hz
  have hZ : ∀ z ∈ ([(q368, .long, 17), (q360, .long, 16), (q352, .long, 16), (q344, .long, 18), (q336, .long, 32), (q282, .int, 8), (q274, .byte, 65664), (q266, .byte, 32), (q258, .byte, 32), (q250, .byte, 32), (q242, .long, 16), (q234, .long, 16), (q226, .long, 16), (q218, .long, 16), (q210, .long, 16), (q202, .long, 16), (q194, .long, 16), (q186, .long, 16), (q178, .long, 16), (q170, .long, 16), (q162, .long, 16), (q154, .long, 16), (q146, .long, 16), (q138, .long, 16), (q130, .long, 16), (q122, .long, 16), (q114, .long, 16), (q106, .long, 16), (q98, .long, 16), (q90, .long, 16), (q82, .long, 16), (q74, .long, 256), (q65, .long, 16), (q57, .long, 256), (q48, .long, 16), (q40, .int, 6), (q32, .byte, 3200), (q23, .byte, 64), (q15, .byte, 65536), (q7, .byte, 65536)] : List (Nat × FieldType × Nat)), H0.size ≤ z.1 := fun z hz => (List.mem_cons.mp hz).elim (fun e => by rw [e]; exact z0) (hZ z)
  have hV : ∀ z ∈ ([(q368, .long, 17), (q360, .long, 16), (q352, .long, 16), (q344, .long, 18), (q336, .long, 32), (q282, .int, 8), (q274, .byte, 65664), (q266, .byte, 32), (q258, .byte, 32), (q250, .byte, 32), (q242, .long, 16), (q234, .long, 16), (q226, .long, 16), (q218, .long, 16), (q210, .long, 16), (q202, .long, 16), (q194, .long, 16), (q186, .long, 16), (q178, .long, 16), (q170, .long, 16), (q162, .long, 16), (q154, .long, 16), (q146, .long, 16), (q138, .long, 16), (q130, .long, 16), (q122, .long, 16), (q114, .long, 16), (q106, .long, 16), (q98, .long, 16), (q90, .long, 16), (q82, .long, 16), (q74, .long, 256), (q65, .long, 16), (q57, .long, 256), (q48, .long, 16)] : List (Nat × FieldType × Nat)), q40 < z.1 := fun z hz => (List.mem_cons.mp hz).elim (fun e => by rw [e]; exact u0) (hV z)
  refine sx_putF EE hin hO rfl i_M t_M tok_M n_M 44 (by decide) rfl fl_M_135 (ty := t_M 44) (by decide +kernel) rfl rfl (Nat.le_of_ble_eq_true rfl) hEo hS d_M_init_370 (fun H locs hO hJ hs hS => ?_)
  have hA := hA.kept hJ
  have hO : va_P D classes [(o, .inr (0, [.int 0, .ref q7, .ref q15, .ref q23, .ref q32, .int 0, .int 0, .int 0, .int 0, .ref q40, .ref q48, .ref q57, .ref q65, .ref q74, .ref q82, .ref q90, .ref q98, .ref q106, .ref q114, .ref q122, .ref q130, .ref q138, .ref q146, .ref q154, .ref q162, .ref q170, .ref q178, .ref q186, .ref q194, .ref q202, .ref q210, .ref q218, .ref q226, .ref q234, .ref q242, .ref q250, .ref q258, .ref q266, .ref q274, .ref q282, .ref q336, .ref q344, .ref q352, .ref q360, .ref q368, .null, .null, .null, .null, .null, .null, .null, .null]))] H := hO
  have hT := hT.kept (hs _ (Nat.ne_of_gt (Nat.lt_of_lt_of_le ho (hZ (q40, .int, 6) (by simp)))))
  refine lv_aload_n hx hb d_M_init_373 rfl (lv_at hl 0 rfl) ?_
  refine lv_bipush (v := nI 17) hx hb d_M_init_374 (by decide +kernel) ?_
  have hz := hS.1.1
  refine sx_newa (cells' := 41) (slots' := 201106) hx hb hG hts rfl (Or.inl rfl) (by decide +kernel) (by decide) (by decide) rfl rfl (Nat.le_of_ble_eq_true rfl) (Nat.le_of_ble_eq_true rfl) hS d_M_init_376 (fun q376 H e0 a0 l0 y0 hJ hk hS => ?_)
  have u0 : q40 < q376 := e0 ▸ hT.lt
  have hT := hT.grown hk
  have hA := (hA.kept hJ).cons a0 l0
  have hO := hO.grown hk
  have z0 : H0.size ≤ q376 := e0 ▸ hz
  have hZ : ∀ z ∈ ([(q376, .long, 17), (q368, .long, 17), (q360, .long, 16), (q352, .long, 16), (q344, .long, 18), (q336, .long, 32), (q282, .int, 8), (q274, .byte, 65664), (q266, .byte, 32), (q258, .byte, 32), (q250, .byte, 32), (q242, .long, 16), (q234, .long, 16), (q226, .long, 16), (q218, .long, 16), (q210, .long, 16), (q202, .long, 16), (q194, .long, 16), (q186, .long, 16), (q178, .long, 16), (q170, .long, 16), (q162, .long, 16), (q154, .long, 16), (q146, .long, 16), (q138, .long, 16), (q130, .long, 16), (q122, .long, 16), (q114, .long, 16), (q106, .long, 16), (q98, .long, 16), (q90, .long, 16), (q82, .long, 16), (q74, .long, 256), (q65, .long, 16), (q57, .long, 256), (q48, .long, 16), (q40, .int, 6), (q32, .byte, 3200), (q23, .byte, 64), (q15, .byte, 65536), (q7, .byte, 65536)] : List (Nat × FieldType × Nat)), H0.size ≤ z.1 := fun z hz => (List.mem_cons.mp hz).elim (fun e => by rw [e]; exact z0) (hZ z)
  have hV : ∀ z ∈ ([(q376, .long, 17), (q368, .long, 17), (q360, .long, 16), (q352, .long, 16), (q344, .long, 18), (q336, .long, 32), (q282, .int, 8), (q274, .byte, 65664), (q266, .byte, 32), (q258, .byte, 32), (q250, .byte, 32), (q242, .long, 16), (q234, .long, 16), (q226, .long, 16), (q218, .long, 16), (q210, .long, 16), (q202, .long, 16), (q194, .long, 16), (q186, .long, 16), (q178, .long, 16), (q170, .long, 16), (q162, .long, 16), (q154, .long, 16), (q146, .long, 16), (q138, .long, 16), (q130, .long, 16), (q122, .long, 16), (q114, .long, 16), (q106, .long, 16), (q98, .long, 16), (q90, .long, 16), (q82, .long, 16), (q74, .long, 256), (q65, .long, 16), (q57, .long, 256), (q48, .long, 16)] : List (Nat × FieldType × Nat)), q40 < z.1 := fun z hz => (List.mem_cons.mp hz).elim (fun e => by rw [e]; exact u0) (hV z)
  refine sx_putF EE hin hO rfl i_M t_M tok_M n_M 45 (by decide) rfl fl_M_138 (ty := t_M 45) (by decide +kernel) rfl rfl (Nat.le_of_ble_eq_true rfl) hEo hS d_M_init_378 (fun H locs hO hJ hs hS => ?_)
  have hA := hA.kept hJ
  have hO : va_P D classes [(o, .inr (0, [.int 0, .ref q7, .ref q15, .ref q23, .ref q32, .int 0, .int 0, .int 0, .int 0, .ref q40, .ref q48, .ref q57, .ref q65, .ref q74, .ref q82, .ref q90, .ref q98, .ref q106, .ref q114, .ref q122, .ref q130, .ref q138, .ref q146, .ref q154, .ref q162, .ref q170, .ref q178, .ref q186, .ref q194, .ref q202, .ref q210, .ref q218, .ref q226, .ref q234, .ref q242, .ref q250, .ref q258, .ref q266, .ref q274, .ref q282, .ref q336, .ref q344, .ref q352, .ref q360, .ref q368, .ref q376, .null, .null, .null, .null, .null, .null, .null]))] H := hO
  have hT := hT.kept (hs _ (Nat.ne_of_gt (Nat.lt_of_lt_of_le ho (hZ (q40, .int, 6) (by simp)))))
  refine lv_aload_n hx hb d_M_init_381 rfl (lv_at hl 0 rfl) ?_
  refine lv_bipush (v := nI 80) hx hb d_M_init_382 (by decide +kernel) ?_
  have hz := hS.1.1
  refine sx_newa (cells' := 42) (slots' := 201186) hx hb hG hts rfl (Or.inl rfl) (by decide +kernel) (by decide) (by decide) rfl rfl (Nat.le_of_ble_eq_true rfl) (Nat.le_of_ble_eq_true rfl) hS d_M_init_384 (fun q384 H e0 a0 l0 y0 hJ hk hS => ?_)
  have u0 : q40 < q384 := e0 ▸ hT.lt
  have hT := hT.grown hk
  have hA := (hA.kept hJ).cons a0 l0
  have hO := hO.grown hk
  have z0 : H0.size ≤ q384 := e0 ▸ hz
  have hZ : ∀ z ∈ ([(q384, .long, 80), (q376, .long, 17), (q368, .long, 17), (q360, .long, 16), (q352, .long, 16), (q344, .long, 18), (q336, .long, 32), (q282, .int, 8), (q274, .byte, 65664), (q266, .byte, 32), (q258, .byte, 32), (q250, .byte, 32), (q242, .long, 16), (q234, .long, 16), (q226, .long, 16), (q218, .long, 16), (q210, .long, 16), (q202, .long, 16), (q194, .long, 16), (q186, .long, 16), (q178, .long, 16), (q170, .long, 16), (q162, .long, 16), (q154, .long, 16), (q146, .long, 16), (q138, .long, 16), (q130, .long, 16), (q122, .long, 16), (q114, .long, 16), (q106, .long, 16), (q98, .long, 16), (q90, .long, 16), (q82, .long, 16), (q74, .long, 256), (q65, .long, 16), (q57, .long, 256), (q48, .long, 16), (q40, .int, 6), (q32, .byte, 3200), (q23, .byte, 64), (q15, .byte, 65536), (q7, .byte, 65536)] : List (Nat × FieldType × Nat)), H0.size ≤ z.1 := fun z hz => (List.mem_cons.mp hz).elim (fun e => by rw [e]; exact z0) (hZ z)
  have hV : ∀ z ∈ ([(q384, .long, 80), (q376, .long, 17), (q368, .long, 17), (q360, .long, 16), (q352, .long, 16), (q344, .long, 18), (q336, .long, 32), (q282, .int, 8), (q274, .byte, 65664), (q266, .byte, 32), (q258, .byte, 32), (q250, .byte, 32), (q242, .long, 16), (q234, .long, 16), (q226, .long, 16), (q218, .long, 16), (q210, .long, 16), (q202, .long, 16), (q194, .long, 16), (q186, .long, 16), (q178, .long, 16), (q170, .long, 16), (q162, .long, 16), (q154, .long, 16), (q146, .long, 16), (q138, .long, 16), (q130, .long, 16), (q122, .long, 16), (q114, .long, 16), (q106, .long, 16), (q98, .long, 16), (q90, .long, 16), (q82, .long, 16), (q74, .long, 256), (q65, .long, 16), (q57, .long, 256), (q48, .long, 16)] : List (Nat × FieldType × Nat)), q40 < z.1 := fun z hz => (List.mem_cons.mp hz).elim (fun e => by rw [e]; exact u0) (hV z)
  refine sx_putF EE hin hO rfl i_M t_M tok_M n_M 46 (by decide) rfl fl_M_141 (ty := t_M 46) (by decide +kernel) rfl rfl (Nat.le_of_ble_eq_true rfl) hEo hS d_M_init_386 (fun H locs hO hJ hs hS => ?_)
  have hA := hA.kept hJ
  have hO : va_P D classes [(o, .inr (0, [.int 0, .ref q7, .ref q15, .ref q23, .ref q32, .int 0, .int 0, .int 0, .int 0, .ref q40, .ref q48, .ref q57, .ref q65, .ref q74, .ref q82, .ref q90, .ref q98, .ref q106, .ref q114, .ref q122, .ref q130, .ref q138, .ref q146, .ref q154, .ref q162, .ref q170, .ref q178, .ref q186, .ref q194, .ref q202, .ref q210, .ref q218, .ref q226, .ref q234, .ref q242, .ref q250, .ref q258, .ref q266, .ref q274, .ref q282, .ref q336, .ref q344, .ref q352, .ref q360, .ref q368, .ref q376, .ref q384, .null, .null, .null, .null, .null, .null]))] H := hO
  have hT := hT.kept (hs _ (Nat.ne_of_gt (Nat.lt_of_lt_of_le ho (hZ (q40, .int, 6) (by simp)))))
  refine lv_aload_n hx hb d_M_init_389 rfl (lv_at hl 0 rfl) ?_
  refine lv_bipush (v := nI 8) hx hb d_M_init_390 (by decide +kernel) ?_
  have hz := hS.1.1
  refine sx_newa (cells' := 43) (slots' := 201194) hx hb hG hts rfl (Or.inl rfl) (by decide +kernel) (by decide) (by decide) rfl rfl (Nat.le_of_ble_eq_true rfl) (Nat.le_of_ble_eq_true rfl) hS d_M_init_392 (fun q392 H e0 a0 l0 y0 hJ hk hS => ?_)
  have u0 : q40 < q392 := e0 ▸ hT.lt
  have hT := hT.grown hk
  have hA := (hA.kept hJ).cons a0 l0
  have hO := hO.grown hk
  have z0 : H0.size ≤ q392 := e0 ▸ hz
  have hZ : ∀ z ∈ ([(q392, .long, 8), (q384, .long, 80), (q376, .long, 17), (q368, .long, 17), (q360, .long, 16), (q352, .long, 16), (q344, .long, 18), (q336, .long, 32), (q282, .int, 8), (q274, .byte, 65664), (q266, .byte, 32), (q258, .byte, 32), (q250, .byte, 32), (q242, .long, 16), (q234, .long, 16), (q226, .long, 16), (q218, .long, 16), (q210, .long, 16), (q202, .long, 16), (q194, .long, 16), (q186, .long, 16), (q178, .long, 16), (q170, .long, 16), (q162, .long, 16), (q154, .long, 16), (q146, .long, 16), (q138, .long, 16), (q130, .long, 16), (q122, .long, 16), (q114, .long, 16), (q106, .long, 16), (q98, .long, 16), (q90, .long, 16), (q82, .long, 16), (q74, .long, 256), (q65, .long, 16), (q57, .long, 256), (q48, .long, 16), (q40, .int, 6), (q32, .byte, 3200), (q23, .byte, 64), (q15, .byte, 65536), (q7, .byte, 65536)] : List (Nat × FieldType × Nat)), H0.size ≤ z.1 := fun z hz => (List.mem_cons.mp hz).elim (fun e => by rw [e]; exact z0) (hZ z)
  have hV : ∀ z ∈ ([(q392, .long, 8), (q384, .long, 80), (q376, .long, 17), (q368, .long, 17), (q360, .long, 16), (q352, .long, 16), (q344, .long, 18), (q336, .long, 32), (q282, .int, 8), (q274, .byte, 65664), (q266, .byte, 32), (q258, .byte, 32), (q250, .byte, 32), (q242, .long, 16), (q234, .long, 16), (q226, .long, 16), (q218, .long, 16), (q210, .long, 16), (q202, .long, 16), (q194, .long, 16), (q186, .long, 16), (q178, .long, 16), (q170, .long, 16), (q162, .long, 16), (q154, .long, 16), (q146, .long, 16), (q138, .long, 16), (q130, .long, 16), (q122, .long, 16), (q114, .long, 16), (q106, .long, 16), (q98, .long, 16), (q90, .long, 16), (q82, .long, 16), (q74, .long, 256), (q65, .long, 16), (q57, .long, 256), (q48, .long, 16)] : List (Nat × FieldType × Nat)), q40 < z.1 := fun z hz => (List.mem_cons.mp hz).elim (fun e => by rw [e]; exact u0) (hV z)
  refine sx_putF EE hin hO rfl i_M t_M tok_M n_M 47 (by decide) rfl fl_M_144 (ty := t_M 47) (by decide +kernel) rfl rfl (Nat.le_of_ble_eq_true rfl) hEo hS d_M_init_394 (fun H locs hO hJ hs hS => ?_)
  have hA := hA.kept hJ
  have hO : va_P D classes [(o, .inr (0, [.int 0, .ref q7, .ref q15, .ref q23, .ref q32, .int 0, .int 0, .int 0, .int 0, .ref q40, .ref q48, .ref q57, .ref q65, .ref q74, .ref q82, .ref q90, .ref q98, .ref q106, .ref q114, .ref q122, .ref q130, .ref q138, .ref q146, .ref q154, .ref q162, .ref q170, .ref q178, .ref q186, .ref q194, .ref q202, .ref q210, .ref q218, .ref q226, .ref q234, .ref q242, .ref q250, .ref q258, .ref q266, .ref q274, .ref q282, .ref q336, .ref q344, .ref q352, .ref q360, .ref q368, .ref q376, .ref q384, .ref q392, .null, .null, .null, .null, .null]))] H := hO
  have hT := hT.kept (hs _ (Nat.ne_of_gt (Nat.lt_of_lt_of_le ho (hZ (q40, .int, 6) (by simp)))))
  refine lv_aload_n hx hb d_M_init_397 rfl (lv_at hl 0 rfl) ?_
  refine lv_bipush (v := nI 80) hx hb d_M_init_398 (by decide +kernel) ?_
  have hz := hS.1.1
  refine sx_newa (cells' := 44) (slots' := 201274) hx hb hG hts rfl (Or.inl rfl) (by decide +kernel) (by decide) (by decide) rfl rfl (Nat.le_of_ble_eq_true rfl) (Nat.le_of_ble_eq_true rfl) hS d_M_init_400 (fun q400 H e0 a0 l0 y0 hJ hk hS => ?_)
  have u0 : q40 < q400 := e0 ▸ hT.lt
  have hT := hT.grown hk
  have hA := (hA.kept hJ).cons a0 l0
  have hO := hO.grown hk
  have z0 : H0.size ≤ q400 := e0 ▸ hz
  have hZ : ∀ z ∈ ([(q400, .long, 80), (q392, .long, 8), (q384, .long, 80), (q376, .long, 17), (q368, .long, 17), (q360, .long, 16), (q352, .long, 16), (q344, .long, 18), (q336, .long, 32), (q282, .int, 8), (q274, .byte, 65664), (q266, .byte, 32), (q258, .byte, 32), (q250, .byte, 32), (q242, .long, 16), (q234, .long, 16), (q226, .long, 16), (q218, .long, 16), (q210, .long, 16), (q202, .long, 16), (q194, .long, 16), (q186, .long, 16), (q178, .long, 16), (q170, .long, 16), (q162, .long, 16), (q154, .long, 16), (q146, .long, 16), (q138, .long, 16), (q130, .long, 16), (q122, .long, 16), (q114, .long, 16), (q106, .long, 16), (q98, .long, 16), (q90, .long, 16), (q82, .long, 16), (q74, .long, 256), (q65, .long, 16), (q57, .long, 256), (q48, .long, 16), (q40, .int, 6), (q32, .byte, 3200), (q23, .byte, 64), (q15, .byte, 65536), (q7, .byte, 65536)] : List (Nat × FieldType × Nat)), H0.size ≤ z.1 := fun z hz => (List.mem_cons.mp hz).elim (fun e => by rw [e]; exact z0) (hZ z)
  have hV : ∀ z ∈ ([(q400, .long, 80), (q392, .long, 8), (q384, .long, 80), (q376, .long, 17), (q368, .long, 17), (q360, .long, 16), (q352, .long, 16), (q344, .long, 18), (q336, .long, 32), (q282, .int, 8), (q274, .byte, 65664), (q266, .byte, 32), (q258, .byte, 32), (q250, .byte, 32), (q242, .long, 16), (q234, .long, 16), (q226, .long, 16), (q218, .long, 16), (q210, .long, 16), (q202, .long, 16), (q194, .long, 16), (q186, .long, 16), (q178, .long, 16), (q170, .long, 16), (q162, .long, 16), (q154, .long, 16), (q146, .long, 16), (q138, .long, 16), (q130, .long, 16), (q122, .long, 16), (q114, .long, 16), (q106, .long, 16), (q98, .long, 16), (q90, .long, 16), (q82, .long, 16), (q74, .long, 256), (q65, .long, 16), (q57, .long, 256), (q48, .long, 16)] : List (Nat × FieldType × Nat)), q40 < z.1 := fun z hz => (List.mem_cons.mp hz).elim (fun e => by rw [e]; exact u0) (hV z)
  refine sx_putF EE hin hO rfl i_M t_M tok_M n_M 48 (by decide) rfl fl_M_147 (ty := t_M 48) (by decide +kernel) rfl rfl (Nat.le_of_ble_eq_true rfl) hEo hS d_M_init_402 (fun H locs hO hJ hs hS => ?_)
  have hA := hA.kept hJ
  have hO : va_P D classes [(o, .inr (0, [.int 0, .ref q7, .ref q15, .ref q23, .ref q32, .int 0, .int 0, .int 0, .int 0, .ref q40, .ref q48, .ref q57, .ref q65, .ref q74, .ref q82, .ref q90, .ref q98, .ref q106, .ref q114, .ref q122, .ref q130, .ref q138, .ref q146, .ref q154, .ref q162, .ref q170, .ref q178, .ref q186, .ref q194, .ref q202, .ref q210, .ref q218, .ref q226, .ref q234, .ref q242, .ref q250, .ref q258, .ref q266, .ref q274, .ref q282, .ref q336, .ref q344, .ref q352, .ref q360, .ref q368, .ref q376, .ref q384, .ref q392, .ref q400, .null, .null, .null, .null]))] H := hO
  have hT := hT.kept (hs _ (Nat.ne_of_gt (Nat.lt_of_lt_of_le ho (hZ (q40, .int, 6) (by simp)))))
  refine lv_aload_n hx hb d_M_init_405 rfl (lv_at hl 0 rfl) ?_
  refine lv_bipush (v := nI 8) hx hb d_M_init_406 (by decide +kernel) ?_
  have hz := hS.1.1
  refine sx_newa (cells' := 45) (slots' := 201282) hx hb hG hts rfl (Or.inl rfl) (by decide +kernel) (by decide) (by decide) rfl rfl (Nat.le_of_ble_eq_true rfl) (Nat.le_of_ble_eq_true rfl) hS d_M_init_408 (fun q408 H e0 a0 l0 y0 hJ hk hS => ?_)
  have u0 : q40 < q408 := e0 ▸ hT.lt
  have hT := hT.grown hk
  have hA := (hA.kept hJ).cons a0 l0
  have hO := hO.grown hk
  have z0 : H0.size ≤ q408 := e0 ▸ hz
  have hZ : ∀ z ∈ ([(q408, .long, 8), (q400, .long, 80), (q392, .long, 8), (q384, .long, 80), (q376, .long, 17), (q368, .long, 17), (q360, .long, 16), (q352, .long, 16), (q344, .long, 18), (q336, .long, 32), (q282, .int, 8), (q274, .byte, 65664), (q266, .byte, 32), (q258, .byte, 32), (q250, .byte, 32), (q242, .long, 16), (q234, .long, 16), (q226, .long, 16), (q218, .long, 16), (q210, .long, 16), (q202, .long, 16), (q194, .long, 16), (q186, .long, 16), (q178, .long, 16), (q170, .long, 16), (q162, .long, 16), (q154, .long, 16), (q146, .long, 16), (q138, .long, 16), (q130, .long, 16), (q122, .long, 16), (q114, .long, 16), (q106, .long, 16), (q98, .long, 16), (q90, .long, 16), (q82, .long, 16), (q74, .long, 256), (q65, .long, 16), (q57, .long, 256), (q48, .long, 16), (q40, .int, 6), (q32, .byte, 3200), (q23, .byte, 64), (q15, .byte, 65536), (q7, .byte, 65536)] : List (Nat × FieldType × Nat)), H0.size ≤ z.1 := fun z hz => (List.mem_cons.mp hz).elim (fun e => by rw [e]; exact z0) (hZ z)
  have hV : ∀ z ∈ ([(q408, .long, 8), (q400, .long, 80), (q392, .long, 8), (q384, .long, 80), (q376, .long, 17), (q368, .long, 17), (q360, .long, 16), (q352, .long, 16), (q344, .long, 18), (q336, .long, 32), (q282, .int, 8), (q274, .byte, 65664), (q266, .byte, 32), (q258, .byte, 32), (q250, .byte, 32), (q242, .long, 16), (q234, .long, 16), (q226, .long, 16), (q218, .long, 16), (q210, .long, 16), (q202, .long, 16), (q194, .long, 16), (q186, .long, 16), (q178, .long, 16), (q170, .long, 16), (q162, .long, 16), (q154, .long, 16), (q146, .long, 16), (q138, .long, 16), (q130, .long, 16), (q122, .long, 16), (q114, .long, 16), (q106, .long, 16), (q98, .long, 16), (q90, .long, 16), (q82, .long, 16), (q74, .long, 256), (q65, .long, 16), (q57, .long, 256), (q48, .long, 16)] : List (Nat × FieldType × Nat)), q40 < z.1 := fun z hz => (List.mem_cons.mp hz).elim (fun e => by rw [e]; exact u0) (hV z)
  refine sx_putF EE hin hO rfl i_M t_M tok_M n_M 49 (by decide) rfl fl_M_150 (ty := t_M 49) (by decide +kernel) rfl rfl (Nat.le_of_ble_eq_true rfl) hEo hS d_M_init_410 (fun H locs hO hJ hs hS => ?_)
  have hA := hA.kept hJ
  have hO : va_P D classes [(o, .inr (0, [.int 0, .ref q7, .ref q15, .ref q23, .ref q32, .int 0, .int 0, .int 0, .int 0, .ref q40, .ref q48, .ref q57, .ref q65, .ref q74, .ref q82, .ref q90, .ref q98, .ref q106, .ref q114, .ref q122, .ref q130, .ref q138, .ref q146, .ref q154, .ref q162, .ref q170, .ref q178, .ref q186, .ref q194, .ref q202, .ref q210, .ref q218, .ref q226, .ref q234, .ref q242, .ref q250, .ref q258, .ref q266, .ref q274, .ref q282, .ref q336, .ref q344, .ref q352, .ref q360, .ref q368, .ref q376, .ref q384, .ref q392, .ref q400, .ref q408, .null, .null, .null]))] H := hO
  have hT := hT.kept (hs _ (Nat.ne_of_gt (Nat.lt_of_lt_of_le ho (hZ (q40, .int, 6) (by simp)))))
  refine lv_aload_n hx hb d_M_init_413 rfl (lv_at hl 0 rfl) ?_
  refine lv_bipush (v := nI 8) hx hb d_M_init_414 (by decide +kernel) ?_
  have hz := hS.1.1
  refine sx_newa (cells' := 46) (slots' := 201290) hx hb hG hts rfl (Or.inl rfl) (by decide +kernel) (by decide) (by decide) rfl rfl (Nat.le_of_ble_eq_true rfl) (Nat.le_of_ble_eq_true rfl) hS d_M_init_416 (fun q416 H e0 a0 l0 y0 hJ hk hS => ?_)
  have u0 : q40 < q416 := e0 ▸ hT.lt
  have hT := hT.grown hk
  have hA := (hA.kept hJ).cons a0 l0
  have hO := hO.grown hk
  have z0 : H0.size ≤ q416 := e0 ▸ hz
  have hZ : ∀ z ∈ ([(q416, .long, 8), (q408, .long, 8), (q400, .long, 80), (q392, .long, 8), (q384, .long, 80), (q376, .long, 17), (q368, .long, 17), (q360, .long, 16), (q352, .long, 16), (q344, .long, 18), (q336, .long, 32), (q282, .int, 8), (q274, .byte, 65664), (q266, .byte, 32), (q258, .byte, 32), (q250, .byte, 32), (q242, .long, 16), (q234, .long, 16), (q226, .long, 16), (q218, .long, 16), (q210, .long, 16), (q202, .long, 16), (q194, .long, 16), (q186, .long, 16), (q178, .long, 16), (q170, .long, 16), (q162, .long, 16), (q154, .long, 16), (q146, .long, 16), (q138, .long, 16), (q130, .long, 16), (q122, .long, 16), (q114, .long, 16), (q106, .long, 16), (q98, .long, 16), (q90, .long, 16), (q82, .long, 16), (q74, .long, 256), (q65, .long, 16), (q57, .long, 256), (q48, .long, 16), (q40, .int, 6), (q32, .byte, 3200), (q23, .byte, 64), (q15, .byte, 65536), (q7, .byte, 65536)] : List (Nat × FieldType × Nat)), H0.size ≤ z.1 := fun z hz => (List.mem_cons.mp hz).elim (fun e => by rw [e]; exact z0) (hZ z)
  have hV : ∀ z ∈ ([(q416, .long, 8), (q408, .long, 8), (q400, .long, 80), (q392, .long, 8), (q384, .long, 80), (q376, .long, 17), (q368, .long, 17), (q360, .long, 16), (q352, .long, 16), (q344, .long, 18), (q336, .long, 32), (q282, .int, 8), (q274, .byte, 65664), (q266, .byte, 32), (q258, .byte, 32), (q250, .byte, 32), (q242, .long, 16), (q234, .long, 16), (q226, .long, 16), (q218, .long, 16), (q210, .long, 16), (q202, .long, 16), (q194, .long, 16), (q186, .long, 16), (q178, .long, 16), (q170, .long, 16), (q162, .long, 16), (q154, .long, 16), (q146, .long, 16), (q138, .long, 16), (q130, .long, 16), (q122, .long, 16), (q114, .long, 16), (q106, .long, 16), (q98, .long, 16), (q90, .long, 16), (q82, .long, 16), (q74, .long, 256), (q65, .long, 16), (q57, .long, 256), (q48, .long, 16)] : List (Nat × FieldType × Nat)), q40 < z.1 := fun z hz => (List.mem_cons.mp hz).elim (fun e => by rw [e]; exact u0) (hV z)
  refine sx_putF EE hin hO rfl i_M t_M tok_M n_M 50 (by decide) rfl fl_M_153 (ty := t_M 50) (by decide +kernel) rfl rfl (Nat.le_of_ble_eq_true rfl) hEo hS d_M_init_418 (fun H locs hO hJ hs hS => ?_)
  have hA := hA.kept hJ
  have hO : va_P D classes [(o, .inr (0, [.int 0, .ref q7, .ref q15, .ref q23, .ref q32, .int 0, .int 0, .int 0, .int 0, .ref q40, .ref q48, .ref q57, .ref q65, .ref q74, .ref q82, .ref q90, .ref q98, .ref q106, .ref q114, .ref q122, .ref q130, .ref q138, .ref q146, .ref q154, .ref q162, .ref q170, .ref q178, .ref q186, .ref q194, .ref q202, .ref q210, .ref q218, .ref q226, .ref q234, .ref q242, .ref q250, .ref q258, .ref q266, .ref q274, .ref q282, .ref q336, .ref q344, .ref q352, .ref q360, .ref q368, .ref q376, .ref q384, .ref q392, .ref q400, .ref q408, .ref q416, .null, .null]))] H := hO
  have hT := hT.kept (hs _ (Nat.ne_of_gt (Nat.lt_of_lt_of_le ho (hZ (q40, .int, 6) (by simp)))))
  refine lv_aload_n hx hb d_M_init_421 rfl (lv_at hl 0 rfl) ?_
  refine lv_bipush (v := nI 8) hx hb d_M_init_422 (by decide +kernel) ?_
  have hz := hS.1.1
  refine sx_newa (cells' := 47) (slots' := 201298) hx hb hG hts rfl (Or.inl rfl) (by decide +kernel) (by decide) (by decide) rfl rfl (Nat.le_of_ble_eq_true rfl) (Nat.le_of_ble_eq_true rfl) hS d_M_init_424 (fun q424 H e0 a0 l0 y0 hJ hk hS => ?_)
  have u0 : q40 < q424 := e0 ▸ hT.lt
  have hT := hT.grown hk
  have hA := (hA.kept hJ).cons a0 l0
  have hO := hO.grown hk
  have z0 : H0.size ≤ q424 := e0 ▸ hz
  have hZ : ∀ z ∈ ([(q424, .long, 8), (q416, .long, 8), (q408, .long, 8), (q400, .long, 80), (q392, .long, 8), (q384, .long, 80), (q376, .long, 17), (q368, .long, 17), (q360, .long, 16), (q352, .long, 16), (q344, .long, 18), (q336, .long, 32), (q282, .int, 8), (q274, .byte, 65664), (q266, .byte, 32), (q258, .byte, 32), (q250, .byte, 32), (q242, .long, 16), (q234, .long, 16), (q226, .long, 16), (q218, .long, 16), (q210, .long, 16), (q202, .long, 16), (q194, .long, 16), (q186, .long, 16), (q178, .long, 16), (q170, .long, 16), (q162, .long, 16), (q154, .long, 16), (q146, .long, 16), (q138, .long, 16), (q130, .long, 16), (q122, .long, 16), (q114, .long, 16), (q106, .long, 16), (q98, .long, 16), (q90, .long, 16), (q82, .long, 16), (q74, .long, 256), (q65, .long, 16), (q57, .long, 256), (q48, .long, 16), (q40, .int, 6), (q32, .byte, 3200), (q23, .byte, 64), (q15, .byte, 65536), (q7, .byte, 65536)] : List (Nat × FieldType × Nat)), H0.size ≤ z.1 := fun z hz => (List.mem_cons.mp hz).elim (fun e => by rw [e]; exact z0) (hZ z)
  have hV : ∀ z ∈ ([(q424, .long, 8), (q416, .long, 8), (q408, .long, 8), (q400, .long, 80), (q392, .long, 8), (q384, .long, 80), (q376, .long, 17), (q368, .long, 17), (q360, .long, 16), (q352, .long, 16), (q344, .long, 18), (q336, .long, 32), (q282, .int, 8), (q274, .byte, 65664), (q266, .byte, 32), (q258, .byte, 32), (q250, .byte, 32), (q242, .long, 16), (q234, .long, 16), (q226, .long, 16), (q218, .long, 16), (q210, .long, 16), (q202, .long, 16), (q194, .long, 16), (q186, .long, 16), (q178, .long, 16), (q170, .long, 16), (q162, .long, 16), (q154, .long, 16), (q146, .long, 16), (q138, .long, 16), (q130, .long, 16), (q122, .long, 16), (q114, .long, 16), (q106, .long, 16), (q98, .long, 16), (q90, .long, 16), (q82, .long, 16), (q74, .long, 256), (q65, .long, 16), (q57, .long, 256), (q48, .long, 16)] : List (Nat × FieldType × Nat)), q40 < z.1 := fun z hz => (List.mem_cons.mp hz).elim (fun e => by rw [e]; exact u0) (hV z)
  refine sx_putF EE hin hO rfl i_M t_M tok_M n_M 51 (by decide) rfl fl_M_156 (ty := t_M 51) (by decide +kernel) rfl rfl (Nat.le_of_ble_eq_true rfl) hEo hS d_M_init_426 (fun H locs hO hJ hs hS => ?_)
  have hA := hA.kept hJ
  have hO : va_P D classes [(o, .inr (0, [.int 0, .ref q7, .ref q15, .ref q23, .ref q32, .int 0, .int 0, .int 0, .int 0, .ref q40, .ref q48, .ref q57, .ref q65, .ref q74, .ref q82, .ref q90, .ref q98, .ref q106, .ref q114, .ref q122, .ref q130, .ref q138, .ref q146, .ref q154, .ref q162, .ref q170, .ref q178, .ref q186, .ref q194, .ref q202, .ref q210, .ref q218, .ref q226, .ref q234, .ref q242, .ref q250, .ref q258, .ref q266, .ref q274, .ref q282, .ref q336, .ref q344, .ref q352, .ref q360, .ref q368, .ref q376, .ref q384, .ref q392, .ref q400, .ref q408, .ref q416, .ref q424, .null]))] H := hO
  have hT := hT.kept (hs _ (Nat.ne_of_gt (Nat.lt_of_lt_of_le ho (hZ (q40, .int, 6) (by simp)))))
  refine lv_aload_n hx hb d_M_init_429 rfl (lv_at hl 0 rfl) ?_
  refine lv_bipush (v := nI 64) hx hb d_M_init_430 (by decide +kernel) ?_
  have hz := hS.1.1
  refine sx_newa (cells' := 48) (slots' := 201362) hx hb hG hts rfl (Or.inr (Or.inl rfl)) (by decide +kernel) (by decide) (by decide) rfl rfl (Nat.le_of_ble_eq_true rfl) (Nat.le_of_ble_eq_true rfl) hS d_M_init_432 (fun q432 H e0 a0 l0 y0 hJ hk hS => ?_)
  have u0 : q40 < q432 := e0 ▸ hT.lt
  have hT := hT.grown hk
  have hA := (hA.kept hJ).cons a0 l0
  have hO := hO.grown hk
  have z0 : H0.size ≤ q432 := e0 ▸ hz
  have hZ : ∀ z ∈ ([(q432, .byte, 64), (q424, .long, 8), (q416, .long, 8), (q408, .long, 8), (q400, .long, 80), (q392, .long, 8), (q384, .long, 80), (q376, .long, 17), (q368, .long, 17), (q360, .long, 16), (q352, .long, 16), (q344, .long, 18), (q336, .long, 32), (q282, .int, 8), (q274, .byte, 65664), (q266, .byte, 32), (q258, .byte, 32), (q250, .byte, 32), (q242, .long, 16), (q234, .long, 16), (q226, .long, 16), (q218, .long, 16), (q210, .long, 16), (q202, .long, 16), (q194, .long, 16), (q186, .long, 16), (q178, .long, 16), (q170, .long, 16), (q162, .long, 16), (q154, .long, 16), (q146, .long, 16), (q138, .long, 16), (q130, .long, 16), (q122, .long, 16), (q114, .long, 16), (q106, .long, 16), (q98, .long, 16), (q90, .long, 16), (q82, .long, 16), (q74, .long, 256), (q65, .long, 16), (q57, .long, 256), (q48, .long, 16), (q40, .int, 6), (q32, .byte, 3200), (q23, .byte, 64), (q15, .byte, 65536), (q7, .byte, 65536)] : List (Nat × FieldType × Nat)), H0.size ≤ z.1 := fun z hz => (List.mem_cons.mp hz).elim (fun e => by rw [e]; exact z0) (hZ z)
  have hV : ∀ z ∈ ([(q432, .byte, 64), (q424, .long, 8), (q416, .long, 8), (q408, .long, 8), (q400, .long, 80), (q392, .long, 8), (q384, .long, 80), (q376, .long, 17), (q368, .long, 17), (q360, .long, 16), (q352, .long, 16), (q344, .long, 18), (q336, .long, 32), (q282, .int, 8), (q274, .byte, 65664), (q266, .byte, 32), (q258, .byte, 32), (q250, .byte, 32), (q242, .long, 16), (q234, .long, 16), (q226, .long, 16), (q218, .long, 16), (q210, .long, 16), (q202, .long, 16), (q194, .long, 16), (q186, .long, 16), (q178, .long, 16), (q170, .long, 16), (q162, .long, 16), (q154, .long, 16), (q146, .long, 16), (q138, .long, 16), (q130, .long, 16), (q122, .long, 16), (q114, .long, 16), (q106, .long, 16), (q98, .long, 16), (q90, .long, 16), (q82, .long, 16), (q74, .long, 256), (q65, .long, 16), (q57, .long, 256), (q48, .long, 16)] : List (Nat × FieldType × Nat)), q40 < z.1 := fun z hz => (List.mem_cons.mp hz).elim (fun e => by rw [e]; exact u0) (hV z)
  refine sx_putF EE hin hO rfl i_M t_M tok_M n_M 52 (by decide) rfl fl_M_159 (ty := t_M 52) (by decide +kernel) rfl rfl (Nat.le_of_ble_eq_true rfl) hEo hS d_M_init_434 (fun H locs hO hJ hs hS => ?_)
  have hA := hA.kept hJ
  have hO : va_P D classes [(o, .inr (0, [.int 0, .ref q7, .ref q15, .ref q23, .ref q32, .int 0, .int 0, .int 0, .int 0, .ref q40, .ref q48, .ref q57, .ref q65, .ref q74, .ref q82, .ref q90, .ref q98, .ref q106, .ref q114, .ref q122, .ref q130, .ref q138, .ref q146, .ref q154, .ref q162, .ref q170, .ref q178, .ref q186, .ref q194, .ref q202, .ref q210, .ref q218, .ref q226, .ref q234, .ref q242, .ref q250, .ref q258, .ref q266, .ref q274, .ref q282, .ref q336, .ref q344, .ref q352, .ref q360, .ref q368, .ref q376, .ref q384, .ref q392, .ref q400, .ref q408, .ref q416, .ref q424, .ref q432]))] H := hO
  have hT := hT.kept (hs _ (Nat.ne_of_gt (Nat.lt_of_lt_of_le ho (hZ (q40, .int, 6) (by simp)))))
  obtain ⟨r, hr⟩ : ∃ r : Nat → Nat, r = (fun k => ([0, q7, q15, q23, q32, 0, 0, 0, 0, q40, q48, q57, q65, q74, q82, q90, q98, q106, q114, q122, q130, q138, q146, q154, q162, q170, q178, q186, q194, q202, q210, q218, q226, q234, q242, q250, q258, q266, q274, q282, q336, q344, q352, q360, q368, q376, q384, q392, q400, q408, q416, q424, q432] : List Nat).getD k 0) := ⟨_, rfl⟩
  have hA : sx_AR g H ((mo_arr.map (fun q => (r q.1, q.2.1, q.2.2))).reverse) := by rw [hr]; exact hA
  have hZ : ∀ z ∈ (mo_arr.map (fun q => (r q.1, q.2.1, q.2.2))).reverse, H0.size ≤ z.1 := by rw [hr]; exact hZ
  have hO : va_P D classes [(o, .inr (0, mo_fs r (fun _ => 0)))] H := by rw [hr]; exact hO
  have hV : ∀ z ∈ (mo_wr.map (fun q => (r q.1, q.2.1, q.2.2))).reverse, r 9 < z.1 := by rw [hr]; exact hV
  have hT : zi_ H (r 9) 6 := by rw [hr]; exact hT
  have hvr : ∀ q ∈ mo_wr, r 9 < r q.1 := fun q hq => hV (r q.1, q.2.1, q.2.2) (List.mem_reverse.mpr (List.mem_map_of_mem (f := fun q : Nat × FieldType × Nat => (r q.1, q.2.1, q.2.2)) hq))
  have hsub : ∀ q ∈ mo_wr, q ∈ mo_arr := by decide +kernel
  have hzr : ∀ q ∈ mo_arr, H0.size ≤ r q.1 := fun q hq => hZ (r q.1, q.2.1, q.2.2) (List.mem_reverse.mpr (List.mem_map_of_mem (f := fun q : Nat × FieldType × Nat => (r q.1, q.2.1, q.2.2)) hq))
  have hM : mo_ D g H o r (fun _ => 0) := ⟨hO, fun q hq => (hA (r q.1, q.2.1, q.2.2) (List.mem_reverse.mpr (List.mem_map_of_mem (f := fun q : Nat × FieldType × Nat => (r q.1, q.2.1, q.2.2)) hq))).1⟩
  refine e_M_init (E := fun q => E q ∧ q ≠ o ∧ q ≠ r 9) (F := E) hM (fun h => h.2.1 rfl) (fun q hq => ⟨hEn _ (hzr q (hsub q hq)), Nat.ne_of_gt (Nat.lt_of_lt_of_le ho (hzr q (hsub q hq))), Nat.ne_of_gt (hvr q hq)⟩) EE hl ⟨sx_J.rf, fun _ h => h.1, hS.2.2⟩ (fun H2 locs2 ls pc hS2 hd => ?_)
  exact hret H2 locs2 ls pc ⟨r, hM.kept hS2.1 (fun h => h.2.1 rfl), hT.kept (hS2.1.2.1 _ hT.lt (fun h => h.2.2 rfl)), hzr⟩ (hS.1.tr (hS2.1.mono (fun _ h => h.1))) hS2.2.2 hd
