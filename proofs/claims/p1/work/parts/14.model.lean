abbrev rm_M_remainders : Room := { frames := 2, cells := 0, slots := 0, locals := 53 }
set_option maxHeartbeats 4000000 in
set_option maxRecDepth 100000 in
theorem c_M_remainders {l : Launch} {D : va_G} {g : ClassId → FieldType → Prop} {E : Nat → Prop} {H0 : Heap} {a0 : Nat} {a1 : Nat} {a2 : Nat} (f0 : sx_A g .long H0 a0 256) (o0 : E a0) (f1 : sx_A g .long H0 a1 16) (f2 : sx_A g .long H0 a2 16) (o2 : E a2) : Met l y_M_remainders (.code y_M_remainders b_M_remainders 5 none :: G_) rm_M_remainders (sx_Pc [.ref a0, .ref a1, .ref a2] H0 D g) (sx_Qv g E H0) 0 0 E := by
  refine sx_mv (own := R_M) (by decide) rfl rfl rfl (Nat.le_of_ble_eq_true rfl) ?_
  intro p e s m args below meth c Q ls EE hl hret
  obtain ⟨hx, hb, hml, hown, hts, hG, hK⟩ := id EE
  have hS : sx_S g E E H0 H0 [] := sx_S.rf
  have hl : lv_has ls 5 [(0, .ref a0), (1, .ref a1), (2, .ref a2)] := hl
  refine lv_aload_n hx hb d_M_remainders_0 rfl (lv_at hl 2 rfl) ?_
  refine lv_iconst (v := nI 1) hx hb d_M_remainders_1 (by decide +kernel) ?_
  refine sx_gv (sx_runS (As := [.ref a2, .int (nI (1))]) (rest := []) EE (c_M_set (hS.a f2) o2) w_M_177 rfl ⟨rfl, rfl⟩ ⟨Nat.le_of_ble_eq_true rfl, Nat.le_of_ble_eq_true rfl⟩ ⟨Nat.zero_le _, Nat.zero_le _⟩ hl.1 rfl (Nat.le_of_ble_eq_true rfl) d_M_remainders_2) hS (fun H locs hS => ?_)
  refine lv_iconst (v := nI 0) hx hb d_M_remainders_5 (by decide +kernel) ?_
  refine lv_istore_n (lv' := [(3, .int (nI (0))), (0, .ref a0), (1, .ref a1), (2, .ref a2)]) hx hb d_M_remainders_6 rfl hl (by decide) rfl (fun ls hl => ?_)
  have lp7 : ∀ (k i1 : Nat) (H : Heap) (locs : List Loc) (ls : Array Slot), i1 + k = 496 → sx_S g E E H0 H locs → lv_has ls 5 [(3, .int (nI (i1))), (0, .ref a0), (1, .ref a1), (2, .ref a2)] → W p l e rm_M_remainders s m args below meth c H locs 0 0 Q (F0 m 7 ls []) := by
    intro k
    induction k with
    | zero =>
      intro i1  H locs ls hi  hS hl
      refine lv_iload_n hx hb d_M_remainders_7 rfl (lv_at hl 0 rfl) ?_
      refine lv_sipush (v := nI 496) hx hb d_M_remainders_8 (by decide +kernel) ?_
      refine lv_icmp_ge (tgt := 73) hx hb d_M_remainders_11 (by decide) (fun _ => ?_) (fun q => absurd (nI_le (by omega) (by omega)) q)
      exact hret _ _ _ _ hS d_M_remainders_73
    | succ k ih7 =>
      intro i1  H locs ls hi  hS hl
      refine lv_iload_n hx hb d_M_remainders_7 rfl (lv_at hl 0 rfl) ?_
      refine lv_sipush (v := nI 496) hx hb d_M_remainders_8 (by decide +kernel) ?_
      refine lv_icmp_ge (tgt := 73) hx hb d_M_remainders_11 (by decide) (fun q => absurd q (nI_ge (by omega) (by omega))) (fun _ => ?_)
      refine lv_aload_n hx hb d_M_remainders_14 rfl (lv_at hl 3 rfl) ?_
      refine lv_aload_n hx hb d_M_remainders_15 rfl (lv_at hl 3 rfl) ?_
      refine lv_aload_n hx hb d_M_remainders_16 rfl (lv_at hl 3 rfl) ?_
      refine lv_aload_n hx hb d_M_remainders_17 rfl (lv_at hl 2 rfl) ?_
      refine sx_gv (sx_runS (As := [.ref a2, .ref a2, .ref a2, .ref a1]) (rest := []) EE (c_M_plus (hS.a f2) o2 (hS.a f2) (hS.a f2) (hS.a f1)) w_M_222 rfl ⟨rfl, rfl⟩ ⟨Nat.le_of_ble_eq_true rfl, Nat.le_of_ble_eq_true rfl⟩ ⟨Nat.zero_le _, Nat.zero_le _⟩ hl.1 rfl (Nat.le_of_ble_eq_true rfl) d_M_remainders_18) hS (fun H locs hS => ?_)
      refine lv_iload_n hx hb d_M_remainders_21 rfl (lv_at hl 0 rfl) ?_
      refine lv_sipush (v := nI 255) hx hb d_M_remainders_22 (by decide +kernel) ?_
      have jn67_3 : ∀ (H : Heap) (locs : List Loc) (ls : Array Slot), sx_S g E E H0 H locs → lv_has ls 5 [(3, .int (nI (i1))), (0, .ref a0), (1, .ref a1), (2, .ref a2)] → W p l e rm_M_remainders s m args below meth c H locs 0 0 Q (F0 m 67 ls []) := by
        intro  H locs ls  hS hl
        refine lv_iinc (v := nI (i1 + 1)) (lv' := [(3, .int (nI (i1 + 1))), (0, .ref a0), (1, .ref a1), (2, .ref a2)]) hx hb d_M_remainders_67 hl (k := 0) rfl (sx_inc _ _) (by decide) rfl (fun ls hl => ?_)
        refine lv_goto (tgt := 7) hx hb d_M_remainders_70 (by decide) ?_
        exact ih7 (i1 + 1)  _ _ _ (by omega)  hS (lv_sub hl [0, 1, 2, 3] rfl)
      refine lv_icmp_lt (tgt := 67) hx hb d_M_remainders_25 (by decide) (fun q25 => ?_) (fun q25 => ?_)
      · skip
        have q25 : i1 < 255 := (nI_ltI (a := i1) (b := 255) (by omega) (by omega)).mp q25
        exact jn67_3  _ _ _  hS (lv_sub hl [0, 1, 2, 3] rfl)
      · skip
        have q25 : ¬ (i1 < 255) := fun z => q25 ((nI_ltI (a := i1) (b := 255) (by omega) (by omega)).mpr z)
        refine lv_iload_n hx hb d_M_remainders_28 rfl (lv_at hl 0 rfl) ?_
        refine lv_bipush (v := nI 16) hx hb d_M_remainders_29 (by decide +kernel) ?_
        refine lv_irem hx hb d_M_remainders_31 (nI_ne0 (by omega) (by omega)) ?_
        refine sx_ti (y := nI (i1 % 16)) (pk_rem (by omega) (by omega) (by omega)) ?_
        refine lv_bipush (v := nI 15) hx hb d_M_remainders_32 (by decide +kernel) ?_
        refine lv_icmp_ne (tgt := 67) hx hb d_M_remainders_34 (by decide) (fun q34 => ?_) (fun q34 => ?_)
        · skip
          have q34 : ¬ ((i1 % 16) = 15) := fun z => q34 ((nI_eq (a := (i1 % 16)) (b := 15) (by omega) (by omega)).mpr z)
          exact jn67_3  _ _ _  hS (lv_sub hl [0, 1, 2, 3] rfl)
        · skip
          have q34 : (i1 % 16) = 15 := (nI_eq (a := (i1 % 16)) (b := 15) (by omega) (by omega)).mp q34
          refine lv_iconst (v := nI 0) hx hb d_M_remainders_37 (by decide +kernel) ?_
          refine lv_istore (lv' := [(4, .int (nI (0))), (3, .int (nI (i1))), (0, .ref a0), (1, .ref a1), (2, .ref a2)]) hx hb d_M_remainders_38 hl (by decide) rfl (fun ls hl => ?_)
          have lp40 : ∀ (k i5 : Nat) (H : Heap) (locs : List Loc) (ls : Array Slot), i5 + k = 16 → sx_S g E E H0 H locs → lv_has ls 5 [(4, .int (nI (i5))), (3, .int (nI (i1))), (0, .ref a0), (1, .ref a1), (2, .ref a2)] → W p l e rm_M_remainders s m args below meth c H locs 0 0 Q (F0 m 40 ls []) := by
            intro k
            induction k with
            | zero =>
              intro i5  H locs ls hi  hS hl
              refine lv_iload hx hb d_M_remainders_40 (lv_at hl 0 rfl) ?_
              refine lv_bipush (v := nI 16) hx hb d_M_remainders_42 (by decide +kernel) ?_
              refine lv_icmp_ge (tgt := 67) hx hb d_M_remainders_44 (by decide) (fun _ => ?_) (fun q => absurd (nI_le (by omega) (by omega)) q)
              exact jn67_3  _ _ _  hS (lv_sub hl [1, 2, 3, 4] rfl)
            | succ k ih40 =>
              intro i5  H locs ls hi  hS hl
              refine lv_iload hx hb d_M_remainders_40 (lv_at hl 0 rfl) ?_
              refine lv_bipush (v := nI 16) hx hb d_M_remainders_42 (by decide +kernel) ?_
              refine lv_icmp_ge (tgt := 67) hx hb d_M_remainders_44 (by decide) (fun q => absurd q (nI_ge (by omega) (by omega))) (fun _ => ?_)
              refine lv_aload_n hx hb d_M_remainders_47 rfl (lv_at hl 2 rfl) ?_
              refine lv_iload_n hx hb d_M_remainders_48 rfl (lv_at hl 1 rfl) ?_
              refine lv_sipush (v := nI 255) hx hb d_M_remainders_49 (by decide +kernel) ?_
              refine lv_isub hx hb d_M_remainders_52 ?_
              refine sx_ti (y := nI (i1 - 255)) (pk_sub (by omega)) ?_
              refine lv_iload hx hb d_M_remainders_53 (lv_at hl 0 rfl) ?_
              refine lv_iadd hx hb d_M_remainders_55 ?_
              refine sx_ti (y := nI ((i1 - 255) + i5)) (nI_add _ _) ?_
              refine lv_aload_n hx hb d_M_remainders_56 rfl (lv_at hl 4 rfl) ?_
              refine lv_iload hx hb d_M_remainders_57 (lv_at hl 0 rfl) ?_
              refine sx_lald hx hb hG hS f2 (sx_in (by omega) (by decide)) d_M_remainders_59 (fun z6 => ?_)
              refine sx_last hx hb hG hS f0 o0 (sx_in (by omega) (by decide)) d_M_remainders_60 (fun H locs hS => ?_)
              refine lv_iinc (v := nI (i5 + 1)) (lv' := [(4, .int (nI (i5 + 1))), (3, .int (nI (i1))), (0, .ref a0), (1, .ref a1), (2, .ref a2)]) hx hb d_M_remainders_61 hl (k := 0) rfl (sx_inc _ _) (by decide) rfl (fun ls hl => ?_)
              refine lv_goto (tgt := 40) hx hb d_M_remainders_64 (by decide) ?_
              exact ih40 (i5 + 1)  _ _ _ (by omega)  hS (lv_sub hl [0, 1, 2, 3, 4] rfl)
          exact lp40 (16) 0  _ _ _ (by omega)  hS (lv_sub hl [0, 1, 2, 3, 4] rfl)
  exact lp7 (496) 0  _ _ _ (by omega)  hS (lv_sub hl [0, 1, 2, 3] rfl)
abbrev rm_M_reduce : Room := { frames := 1, cells := 0, slots := 0, locals := 27 }
set_option maxHeartbeats 4000000 in
set_option maxRecDepth 100000 in
theorem c_M_reduce {l : Launch} {D : va_G} {g : ClassId → FieldType → Prop} {E : Nat → Prop} {H0 : Heap} {o : Nat} {r : Nat → Nat} {i : Nat → Int32} {a0 : Nat} {a1 : Nat} {a2 : Nat} (hM : mo_ D g H0 o r i) (hE : ¬ E o) (hW : ∀ q ∈ mo_wr, E (r q.1)) (f0 : sx_A g .long H0 a0 16) (o0 : E a0) (f1 : sx_A g .long H0 a1 16) (f2 : sx_A g .long H0 a2 256) : Met l y_M_reduce (.code y_M_reduce b_M_reduce 10 none :: G_) rm_M_reduce (sx_Pc [.ref o, .ref a0, .ref a1, .ref a2] H0 D g) (sx_Qv g E H0) 0 0 E := by
  refine sx_mv (own := R_M) (by decide) rfl rfl rfl (Nat.le_of_ble_eq_true rfl) ?_
  intro p e s m args below meth c Q ls EE hl hret
  obtain ⟨hx, hb, hml, hown, hts, hG, hK⟩ := id EE
  have hS : sx_S g E E H0 H0 [] := sx_S.rf
  have hl : lv_has ls 10 [(0, .ref o), (1, .ref a0), (2, .ref a1), (3, .ref a2)] := hl
  refine lv_iconst (v := nI 0) hx hb d_M_reduce_0 (by decide +kernel) ?_
  refine lv_istore (lv' := [(4, .int (nI (0))), (0, .ref o), (1, .ref a0), (2, .ref a1), (3, .ref a2)]) hx hb d_M_reduce_1 hl (by decide) rfl (fun ls hl => ?_)
  have lp3 : ∀ (k i1 : Nat) (H : Heap) (locs : List Loc) (ls : Array Slot), i1 + k = 16 → sx_S g E E H0 H locs → lv_has ls 10 [(4, .int (nI (i1))), (0, .ref o), (1, .ref a0), (2, .ref a1), (3, .ref a2)] → W p l e rm_M_reduce s m args below meth c H locs 0 0 Q (F0 m 3 ls []) := by
    intro k
    induction k with
    | zero =>
      intro i1  H locs ls hi  hS hl
      refine lv_iload hx hb d_M_reduce_3 (lv_at hl 0 rfl) ?_
      refine lv_bipush (v := nI 16) hx hb d_M_reduce_5 (by decide +kernel) ?_
      refine lv_icmp_ge (tgt := 76) hx hb d_M_reduce_7 (by decide) (fun _ => ?_) (fun q => absurd (nI_le (by omega) (by omega)) q)
      refine lv_lconst (v := 1) hx hb d_M_reduce_76 (by decide +kernel) ?_
      refine lv_lstore (lv' := [(4, .long 1), (0, .ref o), (1, .ref a0), (2, .ref a1), (3, .ref a2)]) hx hb d_M_reduce_77 hl (by decide) rfl (fun ls hl => ?_)
      refine lv_iconst (v := nI 0) hx hb d_M_reduce_79 (by decide +kernel) ?_
      refine lv_istore (lv' := [(6, .int (nI (0))), (4, .long 1), (0, .ref o), (1, .ref a0), (2, .ref a1), (3, .ref a2)]) hx hb d_M_reduce_80 hl (by decide) rfl (fun ls hl => ?_)
      have ex190_5 : ∀ (y5 : Int64) (H : Heap) (locs : List Loc) (ls : Array Slot), sx_S g E E H0 H locs → lv_has ls 10 [(4, .long y5), (0, .ref o), (1, .ref a0), (2, .ref a1), (3, .ref a2)] → W p l e rm_M_reduce s m args below meth c H locs 0 0 Q (F0 m 190 ls []) := by
        intro y5 H locs ls  hS hl
        refine lv_iconst (v := nI 0) hx hb d_M_reduce_190 (by decide +kernel) ?_
        refine lv_istore (lv' := [(6, .int (nI (0))), (4, .long y5), (0, .ref o), (1, .ref a0), (2, .ref a1), (3, .ref a2)]) hx hb d_M_reduce_191 hl (by decide) rfl (fun ls hl => ?_)
        have lp193 : ∀ (k i7 : Nat) (H : Heap) (locs : List Loc) (ls : Array Slot), i7 + k = 16 → sx_S g E E H0 H locs → lv_has ls 10 [(6, .int (nI (i7))), (4, .long y5), (0, .ref o), (1, .ref a0), (2, .ref a1), (3, .ref a2)] → W p l e rm_M_reduce s m args below meth c H locs 0 0 Q (F0 m 193 ls []) := by
          intro k
          induction k with
          | zero =>
            intro i7  H locs ls hi  hS hl
            refine lv_iload hx hb d_M_reduce_193 (lv_at hl 0 rfl) ?_
            refine lv_bipush (v := nI 16) hx hb d_M_reduce_195 (by decide +kernel) ?_
            refine lv_icmp_ge (tgt := 217) hx hb d_M_reduce_197 (by decide) (fun _ => ?_) (fun q => absurd (nI_le (by omega) (by omega)) q)
            refine lv_iconst (v := nI 0) hx hb d_M_reduce_217 (by decide +kernel) ?_
            refine lv_istore (lv' := [(6, .int (nI (0))), (4, .long y5), (0, .ref o), (1, .ref a0), (2, .ref a1), (3, .ref a2)]) hx hb d_M_reduce_218 hl (by decide) rfl (fun ls hl => ?_)
            have ex247_9 : ∀ (H : Heap) (locs : List Loc) (ls : Array Slot), sx_S g E E H0 H locs → lv_has ls 10 [(4, .long y5), (0, .ref o), (1, .ref a0), (2, .ref a1), (3, .ref a2)] → W p l e rm_M_reduce s m args below meth c H locs 0 0 Q (F0 m 247 ls []) := by
              intro  H locs ls  hS hl
              exact hret _ _ _ _ hS d_M_reduce_247
            have lp220 : ∀ (k i8 : Nat) (H : Heap) (locs : List Loc) (ls : Array Slot), i8 + k = 16 → sx_S g E E H0 H locs → lv_has ls 10 [(6, .int (nI (i8))), (4, .long y5), (0, .ref o), (1, .ref a0), (2, .ref a1), (3, .ref a2)] → W p l e rm_M_reduce s m args below meth c H locs 0 0 Q (F0 m 220 ls []) := by
              intro k
              induction k with
              | zero =>
                intro i8  H locs ls hi  hS hl
                refine lv_iload hx hb d_M_reduce_220 (lv_at hl 0 rfl) ?_
                refine lv_bipush (v := nI 16) hx hb d_M_reduce_222 (by decide +kernel) ?_
                refine lv_icmp_ge (tgt := 247) hx hb d_M_reduce_224 (by decide) (fun _ => ?_) (fun q => absurd (nI_le (by omega) (by omega)) q)
                exact ex247_9  _ _ _  hS (lv_sub hl [1, 2, 3, 4, 5] rfl)
              | succ k ih220 =>
                intro i8  H locs ls hi  hS hl
                refine lv_iload hx hb d_M_reduce_220 (lv_at hl 0 rfl) ?_
                refine lv_bipush (v := nI 16) hx hb d_M_reduce_222 (by decide +kernel) ?_
                refine lv_icmp_ge (tgt := 247) hx hb d_M_reduce_224 (by decide) (fun q => absurd q (nI_ge (by omega) (by omega))) (fun _ => ?_)
                refine lv_aload_n hx hb d_M_reduce_227 rfl (lv_at hl 3 rfl) ?_
                refine lv_aload_n hx hb d_M_reduce_228 rfl (lv_at hl 4 rfl) ?_
                refine sx_gn (sx_runS (As := [.ref a0, .ref a1]) (rest := []) EE (c_M_below (hS.a f0) (hS.a f1)) w_M_215 rfl ⟨rfl, rfl⟩ ⟨Nat.le_of_ble_eq_true rfl, Nat.le_of_ble_eq_true rfl⟩ ⟨Nat.zero_le _, Nat.zero_le _⟩ hl.1 rfl (Nat.le_of_ble_eq_true rfl) d_M_reduce_229) hS (fun n11 h_n11 H locs hS => ?_)
                have h_n11 : n11 ≤ 1 := h_n11
                refine lv_if_ne (tgt := 247) hx hb d_M_reduce_232 (by decide) (fun q232 => ?_) (fun q232 => ?_)
                · skip
                  have q232 : ¬ (n11 = 0) := fun z => q232 ((nI_eq (a := n11) (b := 0) (by omega) (by omega)).mpr z)
                  exact ex247_9  _ _ _  hS (lv_sub hl [1, 2, 3, 4, 5] rfl)
                · skip
                  have q232 : n11 = 0 := (nI_eq (a := n11) (b := 0) (by omega) (by omega)).mp q232
                  refine lv_aload_n hx hb d_M_reduce_235 rfl (lv_at hl 3 rfl) ?_
                  refine lv_aload_n hx hb d_M_reduce_236 rfl (lv_at hl 3 rfl) ?_
                  refine lv_aload_n hx hb d_M_reduce_237 rfl (lv_at hl 4 rfl) ?_
                  refine sx_gv (sx_runS (As := [.ref a0, .ref a0, .ref a1]) (rest := []) EE (c_M_less (hS.a f0) o0 (hS.a f0) (hS.a f1)) w_M_219 rfl ⟨rfl, rfl⟩ ⟨Nat.le_of_ble_eq_true rfl, Nat.le_of_ble_eq_true rfl⟩ ⟨Nat.zero_le _, Nat.zero_le _⟩ hl.1 rfl (Nat.le_of_ble_eq_true rfl) d_M_reduce_238) hS (fun H locs hS => ?_)
                  refine lv_iinc (v := nI (i8 + 1)) (lv' := [(6, .int (nI (i8 + 1))), (4, .long y5), (0, .ref o), (1, .ref a0), (2, .ref a1), (3, .ref a2)]) hx hb d_M_reduce_241 hl (k := 0) rfl (sx_inc _ _) (by decide) rfl (fun ls hl => ?_)
                  refine lv_goto (tgt := 220) hx hb d_M_reduce_244 (by decide) ?_
                  exact ih220 (i8 + 1)  _ _ _ (by omega)  hS (lv_sub hl [0, 1, 2, 3, 4, 5] rfl)
            exact lp220 (16) 0  _ _ _ (by omega)  hS (lv_sub hl [0, 1, 2, 3, 4, 5] rfl)
          | succ k ih193 =>
            intro i7  H locs ls hi  hS hl
            refine lv_iload hx hb d_M_reduce_193 (lv_at hl 0 rfl) ?_
            refine lv_bipush (v := nI 16) hx hb d_M_reduce_195 (by decide +kernel) ?_
            refine lv_icmp_ge (tgt := 217) hx hb d_M_reduce_197 (by decide) (fun q => absurd q (nI_ge (by omega) (by omega))) (fun _ => ?_)
            refine lv_aload_n hx hb d_M_reduce_200 rfl (lv_at hl 3 rfl) ?_
            refine lv_iload hx hb d_M_reduce_201 (lv_at hl 0 rfl) ?_
            refine lv_aload_n hx hb d_M_reduce_203 rfl (lv_at hl 2 rfl) ?_
            refine sx_get EE (hS.1.ob hE hM.1) rfl i_M 41 (by decide) rfl fl_M_126 rfl d_M_reduce_204 ?_
            refine lv_iload hx hb d_M_reduce_207 (lv_at hl 0 rfl) ?_
            refine sx_lald hx hb hG hS (mo_41 hM) (sx_in (by omega) (by decide)) d_M_reduce_209 (fun z12 => ?_)
            refine sx_last hx hb hG hS f0 o0 (sx_in (by omega) (by decide)) d_M_reduce_210 (fun H locs hS => ?_)
            refine lv_iinc (v := nI (i7 + 1)) (lv' := [(6, .int (nI (i7 + 1))), (4, .long y5), (0, .ref o), (1, .ref a0), (2, .ref a1), (3, .ref a2)]) hx hb d_M_reduce_211 hl (k := 0) rfl (sx_inc _ _) (by decide) rfl (fun ls hl => ?_)
            refine lv_goto (tgt := 193) hx hb d_M_reduce_214 (by decide) ?_
            exact ih193 (i7 + 1)  _ _ _ (by omega)  hS (lv_sub hl [0, 1, 2, 3, 4, 5] rfl)
        exact lp193 (16) 0  _ _ _ (by omega)  hS (lv_sub hl [0, 1, 2, 3, 4, 5] rfl)
      have lp82 : ∀ (k i3 : Nat) (w2 : Int64) (H : Heap) (locs : List Loc) (ls : Array Slot), i3 + k = 9 → sx_S g E E H0 H locs → lv_has ls 10 [(6, .int (nI (i3))), (4, .long w2), (0, .ref o), (1, .ref a0), (2, .ref a1), (3, .ref a2)] → W p l e rm_M_reduce s m args below meth c H locs 0 0 Q (F0 m 82 ls []) := by
        intro k
        induction k with
        | zero =>
          intro i3 w2 H locs ls hi  hS hl
          refine lv_iload hx hb d_M_reduce_82 (lv_at hl 0 rfl) ?_
          refine lv_bipush (v := nI 9) hx hb d_M_reduce_84 (by decide +kernel) ?_
          refine lv_icmp_ge (tgt := 190) hx hb d_M_reduce_86 (by decide) (fun _ => ?_) (fun q => absurd (nI_le (by omega) (by omega)) q)
          exact ex190_5 w2 _ _ _  hS (lv_sub hl [1, 2, 3, 4, 5] rfl)
        | succ k ih82 =>
          intro i3 w2 H locs ls hi  hS hl
          refine lv_iload hx hb d_M_reduce_82 (lv_at hl 0 rfl) ?_
          refine lv_bipush (v := nI 9) hx hb d_M_reduce_84 (by decide +kernel) ?_
          refine lv_icmp_ge (tgt := 190) hx hb d_M_reduce_86 (by decide) (fun q => absurd q (nI_ge (by omega) (by omega))) (fun _ => ?_)
          refine lv_lload hx hb d_M_reduce_89 (lv_at hl 1 rfl) ?_
          refine lv_lconst (v := 0) hx hb d_M_reduce_91 (by decide +kernel) ?_
          refine sx_lcmp hx hb d_M_reduce_92 (fun z13 => ?_)
          refine lv_if_le (tgt := 190) hx hb d_M_reduce_93 (by decide) (fun _ => ?_) (fun _ => ?_)
          · skip
            exact ex190_5 w2 _ _ _  hS (lv_sub hl [1, 2, 3, 4, 5] rfl)
          · skip
            refine lv_lconst (v := 0) hx hb d_M_reduce_96 (by decide +kernel) ?_
            refine lv_lstore (lv' := [(7, .long 0), (6, .int (nI (i3))), (4, .long w2), (0, .ref o), (1, .ref a0), (2, .ref a1), (3, .ref a2)]) hx hb d_M_reduce_97 hl (by decide) rfl (fun ls hl => ?_)
            refine lv_iconst (v := nI 0) hx hb d_M_reduce_99 (by decide +kernel) ?_
            refine lv_istore (lv' := [(9, .int (nI (0))), (7, .long 0), (6, .int (nI (i3))), (4, .long w2), (0, .ref o), (1, .ref a0), (2, .ref a1), (3, .ref a2)]) hx hb d_M_reduce_100 hl (by decide) rfl (fun ls hl => ?_)
            have lp102 : ∀ (k i15 : Nat) (w14 : Int64) (H : Heap) (locs : List Loc) (ls : Array Slot), i15 + k = 16 → sx_S g E E H0 H locs → lv_has ls 10 [(9, .int (nI (i15))), (7, .long w14), (6, .int (nI (i3))), (4, .long w2), (0, .ref o), (1, .ref a0), (2, .ref a1), (3, .ref a2)] → W p l e rm_M_reduce s m args below meth c H locs 0 0 Q (F0 m 102 ls []) := by
              intro k
              induction k with
              | zero =>
                intro i15 w14 H locs ls hi  hS hl
                refine lv_iload hx hb d_M_reduce_102 (lv_at hl 0 rfl) ?_
                refine lv_bipush (v := nI 16) hx hb d_M_reduce_104 (by decide +kernel) ?_
                refine lv_icmp_ge (tgt := 147) hx hb d_M_reduce_106 (by decide) (fun _ => ?_) (fun q => absurd (nI_le (by omega) (by omega)) q)
                refine lv_lload hx hb d_M_reduce_147 (lv_at hl 1 rfl) ?_
                refine lv_lstore (lv' := [(4, .long w14), (9, .int (nI (i15))), (7, .long w14), (6, .int (nI (i3))), (0, .ref o), (1, .ref a0), (2, .ref a1), (3, .ref a2)]) hx hb d_M_reduce_149 hl (by decide) rfl (fun ls hl => ?_)
                refine lv_iconst (v := nI 0) hx hb d_M_reduce_151 (by decide +kernel) ?_
                refine lv_istore (lv' := [(9, .int (nI (0))), (4, .long w14), (7, .long w14), (6, .int (nI (i3))), (0, .ref o), (1, .ref a0), (2, .ref a1), (3, .ref a2)]) hx hb d_M_reduce_152 hl (by decide) rfl (fun ls hl => ?_)
                have lp154 : ∀ (k i16 : Nat) (H : Heap) (locs : List Loc) (ls : Array Slot), i16 + k = 16 → sx_S g E E H0 H locs → lv_has ls 10 [(9, .int (nI (i16))), (4, .long w14), (7, .long w14), (6, .int (nI (i3))), (0, .ref o), (1, .ref a0), (2, .ref a1), (3, .ref a2)] → W p l e rm_M_reduce s m args below meth c H locs 0 0 Q (F0 m 154 ls []) := by
                  intro k
                  induction k with
                  | zero =>
                    intro i16  H locs ls hi  hS hl
                    refine lv_iload hx hb d_M_reduce_154 (lv_at hl 0 rfl) ?_
                    refine lv_bipush (v := nI 16) hx hb d_M_reduce_156 (by decide +kernel) ?_
                    refine lv_icmp_ge (tgt := 184) hx hb d_M_reduce_158 (by decide) (fun _ => ?_) (fun q => absurd (nI_le (by omega) (by omega)) q)
                    refine lv_iinc (v := nI (i3 + 1)) (lv' := [(6, .int (nI (i3 + 1))), (9, .int (nI (i16))), (4, .long w14), (7, .long w14), (0, .ref o), (1, .ref a0), (2, .ref a1), (3, .ref a2)]) hx hb d_M_reduce_184 hl (k := 3) rfl (sx_inc _ _) (by decide) rfl (fun ls hl => ?_)
                    refine lv_goto (tgt := 82) hx hb d_M_reduce_187 (by decide) ?_
                    exact ih82 (i3 + 1) w14 _ _ _ (by omega)  hS (lv_sub hl [0, 2, 4, 5, 6, 7] rfl)
                  | succ k ih154 =>
                    intro i16  H locs ls hi  hS hl
                    refine lv_iload hx hb d_M_reduce_154 (lv_at hl 0 rfl) ?_
                    refine lv_bipush (v := nI 16) hx hb d_M_reduce_156 (by decide +kernel) ?_
                    refine lv_icmp_ge (tgt := 184) hx hb d_M_reduce_158 (by decide) (fun q => absurd q (nI_ge (by omega) (by omega))) (fun _ => ?_)
                    refine lv_aload_n hx hb d_M_reduce_161 rfl (lv_at hl 4 rfl) ?_
                    refine sx_get EE (hS.1.ob hE hM.1) rfl i_M 41 (by decide) rfl fl_M_126 rfl d_M_reduce_162 ?_
                    refine lv_iload hx hb d_M_reduce_165 (lv_at hl 0 rfl) ?_
                    refine lv_dup2_11 hx hb d_M_reduce_167 rfl rfl ?_
                    refine sx_lald hx hb hG hS (mo_41 hM) (sx_in (by omega) (by decide)) d_M_reduce_168 (fun z17 => ?_)
                    refine lv_lload hx hb d_M_reduce_169 (lv_at hl 1 rfl) ?_
                    refine lv_aload_n hx hb d_M_reduce_171 rfl (lv_at hl 7 rfl) ?_
                    refine lv_iload hx hb d_M_reduce_172 (lv_at hl 0 rfl) ?_
                    refine sx_lald hx hb hG hS f2 (sx_in (by omega) (by decide)) d_M_reduce_174 (fun z18 => ?_)
                    refine sx_lmul hx hb d_M_reduce_175 (fun z19 => ?_)
                    refine sx_ladd hx hb d_M_reduce_176 (fun z20 => ?_)
                    refine sx_last hx hb hG hS (mo_41 hM) (mow_41 hW) (sx_in (by omega) (by decide)) d_M_reduce_177 (fun H locs hS => ?_)
                    refine lv_iinc (v := nI (i16 + 1)) (lv' := [(9, .int (nI (i16 + 1))), (4, .long w14), (7, .long w14), (6, .int (nI (i3))), (0, .ref o), (1, .ref a0), (2, .ref a1), (3, .ref a2)]) hx hb d_M_reduce_178 hl (k := 0) rfl (sx_inc _ _) (by decide) rfl (fun ls hl => ?_)
                    refine lv_goto (tgt := 154) hx hb d_M_reduce_181 (by decide) ?_
                    exact ih154 (i16 + 1)  _ _ _ (by omega)  hS (lv_sub hl [0, 1, 2, 3, 4, 5, 6, 7] rfl)
                exact lp154 (16) 0  _ _ _ (by omega)  hS (lv_sub hl [0, 1, 2, 3, 4, 5, 6, 7] rfl)
              | succ k ih102 =>
                intro i15 w14 H locs ls hi  hS hl
                refine lv_iload hx hb d_M_reduce_102 (lv_at hl 0 rfl) ?_
                refine lv_bipush (v := nI 16) hx hb d_M_reduce_104 (by decide +kernel) ?_
                refine lv_icmp_ge (tgt := 147) hx hb d_M_reduce_106 (by decide) (fun q => absurd q (nI_ge (by omega) (by omega))) (fun _ => ?_)
                refine lv_lload hx hb d_M_reduce_109 (lv_at hl 1 rfl) ?_
                refine lv_aload_n hx hb d_M_reduce_111 rfl (lv_at hl 4 rfl) ?_
                refine sx_get EE (hS.1.ob hE hM.1) rfl i_M 41 (by decide) rfl fl_M_126 rfl d_M_reduce_112 ?_
                refine lv_iload hx hb d_M_reduce_115 (lv_at hl 0 rfl) ?_
                refine sx_lald hx hb hG hS (mo_41 hM) (sx_in (by omega) (by decide)) d_M_reduce_117 (fun z21 => ?_)
                refine sx_ladd hx hb d_M_reduce_118 (fun z22 => ?_)
                refine lv_lstore (lv' := [(7, .long z22), (9, .int (nI (i15))), (6, .int (nI (i3))), (4, .long w2), (0, .ref o), (1, .ref a0), (2, .ref a1), (3, .ref a2)]) hx hb d_M_reduce_119 hl (by decide) rfl (fun ls hl => ?_)
                refine lv_aload_n hx hb d_M_reduce_121 rfl (lv_at hl 4 rfl) ?_
                refine sx_get EE (hS.1.ob hE hM.1) rfl i_M 41 (by decide) rfl fl_M_126 rfl d_M_reduce_122 ?_
                refine lv_iload hx hb d_M_reduce_125 (lv_at hl 1 rfl) ?_
                refine lv_lload hx hb d_M_reduce_127 (lv_at hl 0 rfl) ?_
                refine lv_ldc2 (v := (65535)) hx hb hown (hts (.constantLong R_M 169 (65535)) (by decide +kernel)) d_M_reduce_129 ?_
                refine sx_land hx hb d_M_reduce_132 (fun z23 => ?_)
                refine sx_last hx hb hG hS (mo_41 hM) (mow_41 hW) (sx_in (by omega) (by decide)) d_M_reduce_133 (fun H locs hS => ?_)
                refine lv_lload hx hb d_M_reduce_134 (lv_at hl 0 rfl) ?_
                refine lv_bipush (v := nI 16) hx hb d_M_reduce_136 (by decide +kernel) ?_
                refine sx_lshr hx hb d_M_reduce_138 (fun z24 => ?_)
                refine lv_lstore (lv' := [(7, .long z24), (9, .int (nI (i15))), (6, .int (nI (i3))), (4, .long w2), (0, .ref o), (1, .ref a0), (2, .ref a1), (3, .ref a2)]) hx hb d_M_reduce_139 hl (by decide) rfl (fun ls hl => ?_)
                refine lv_iinc (v := nI (i15 + 1)) (lv' := [(9, .int (nI (i15 + 1))), (7, .long z24), (6, .int (nI (i3))), (4, .long w2), (0, .ref o), (1, .ref a0), (2, .ref a1), (3, .ref a2)]) hx hb d_M_reduce_141 hl (k := 1) rfl (sx_inc _ _) (by decide) rfl (fun ls hl => ?_)
                refine lv_goto (tgt := 102) hx hb d_M_reduce_144 (by decide) ?_
                exact ih102 (i15 + 1) z24 _ _ _ (by omega)  hS (lv_sub hl [0, 1, 2, 3, 4, 5, 6, 7] rfl)
            exact lp102 (16) 0 0 _ _ _ (by omega)  hS (lv_sub hl [0, 1, 2, 3, 4, 5, 6, 7] rfl)
      exact lp82 (9) 0 1 _ _ _ (by omega)  hS (lv_sub hl [0, 1, 2, 3, 4, 5] rfl)
    | succ k ih3 =>
      intro i1  H locs ls hi  hS hl
      refine lv_iload hx hb d_M_reduce_3 (lv_at hl 0 rfl) ?_
      refine lv_bipush (v := nI 16) hx hb d_M_reduce_5 (by decide +kernel) ?_
      refine lv_icmp_ge (tgt := 76) hx hb d_M_reduce_7 (by decide) (fun q => absurd q (nI_ge (by omega) (by omega))) (fun _ => ?_)
      refine lv_aload_n hx hb d_M_reduce_10 rfl (lv_at hl 1 rfl) ?_
      refine sx_get EE (hS.1.ob hE hM.1) rfl i_M 40 (by decide) rfl fl_M_123 rfl d_M_reduce_11 ?_
      refine lv_iload hx hb d_M_reduce_14 (lv_at hl 0 rfl) ?_
      refine sx_lald hx hb hG hS (mo_40 hM) (sx_in (by omega) (by decide)) d_M_reduce_16 (fun z25 => ?_)
      refine lv_lstore (lv' := [(5, .long z25), (4, .int (nI (i1))), (0, .ref o), (1, .ref a0), (2, .ref a1), (3, .ref a2)]) hx hb d_M_reduce_17 hl (by decide) rfl (fun ls hl => ?_)
      refine lv_iconst (v := nI 0) hx hb d_M_reduce_19 (by decide +kernel) ?_
      refine lv_istore (lv' := [(7, .int (nI (0))), (5, .long z25), (4, .int (nI (i1))), (0, .ref o), (1, .ref a0), (2, .ref a1), (3, .ref a2)]) hx hb d_M_reduce_20 hl (by decide) rfl (fun ls hl => ?_)
      have lp22 : ∀ (k i27 : Nat) (w26 : Int64) (H : Heap) (locs : List Loc) (ls : Array Slot), i27 + k = 16 → sx_S g E E H0 H locs → lv_has ls 10 [(7, .int (nI (i27))), (5, .long w26), (4, .int (nI (i1))), (0, .ref o), (1, .ref a0), (2, .ref a1), (3, .ref a2)] → W p l e rm_M_reduce s m args below meth c H locs 0 0 Q (F0 m 22 ls []) := by
        intro k
        induction k with
        | zero =>
          intro i27 w26 H locs ls hi  hS hl
          refine lv_iload hx hb d_M_reduce_22 (lv_at hl 0 rfl) ?_
          refine lv_bipush (v := nI 16) hx hb d_M_reduce_24 (by decide +kernel) ?_
          refine lv_icmp_ge (tgt := 61) hx hb d_M_reduce_26 (by decide) (fun _ => ?_) (fun q => absurd (nI_le (by omega) (by omega)) q)
          refine lv_aload_n hx hb d_M_reduce_61 rfl (lv_at hl 3 rfl) ?_
          refine sx_get EE (hS.1.ob hE hM.1) rfl i_M 41 (by decide) rfl fl_M_126 rfl d_M_reduce_62 ?_
          refine lv_iload hx hb d_M_reduce_65 (lv_at hl 2 rfl) ?_
          refine lv_lload hx hb d_M_reduce_67 (lv_at hl 1 rfl) ?_
          refine sx_last hx hb hG hS (mo_41 hM) (mow_41 hW) (sx_in (by omega) (by decide)) d_M_reduce_69 (fun H locs hS => ?_)
          refine lv_iinc (v := nI (i1 + 1)) (lv' := [(4, .int (nI (i1 + 1))), (7, .int (nI (i27))), (5, .long w26), (0, .ref o), (1, .ref a0), (2, .ref a1), (3, .ref a2)]) hx hb d_M_reduce_70 hl (k := 2) rfl (sx_inc _ _) (by decide) rfl (fun ls hl => ?_)
          refine lv_goto (tgt := 3) hx hb d_M_reduce_73 (by decide) ?_
          exact ih3 (i1 + 1)  _ _ _ (by omega)  hS (lv_sub hl [0, 3, 4, 5, 6] rfl)
        | succ k ih22 =>
          intro i27 w26 H locs ls hi  hS hl
          refine lv_iload hx hb d_M_reduce_22 (lv_at hl 0 rfl) ?_
          refine lv_bipush (v := nI 16) hx hb d_M_reduce_24 (by decide +kernel) ?_
          refine lv_icmp_ge (tgt := 61) hx hb d_M_reduce_26 (by decide) (fun q => absurd q (nI_ge (by omega) (by omega))) (fun _ => ?_)
          refine lv_lload hx hb d_M_reduce_29 (lv_at hl 1 rfl) ?_
          refine lv_aload_n hx hb d_M_reduce_31 rfl (lv_at hl 3 rfl) ?_
          refine sx_get EE (hS.1.ob hE hM.1) rfl i_M 40 (by decide) rfl fl_M_123 rfl d_M_reduce_32 ?_
          refine lv_bipush (v := nI 16) hx hb d_M_reduce_35 (by decide +kernel) ?_
          refine lv_iload hx hb d_M_reduce_37 (lv_at hl 0 rfl) ?_
          refine lv_iadd hx hb d_M_reduce_39 ?_
          refine sx_ti (y := nI (16 + i27)) (nI_add _ _) ?_
          refine sx_lald hx hb hG hS (mo_40 hM) (sx_in (by omega) (by decide)) d_M_reduce_40 (fun z28 => ?_)
          refine lv_aload_n hx hb d_M_reduce_41 rfl (lv_at hl 6 rfl) ?_
          refine lv_bipush (v := nI 16) hx hb d_M_reduce_42 (by decide +kernel) ?_
          refine lv_iload hx hb d_M_reduce_44 (lv_at hl 0 rfl) ?_
          refine lv_imul hx hb d_M_reduce_46 ?_
          refine sx_ti (y := nI (16 * i27)) (pk_mul _ _) ?_
          refine lv_iload hx hb d_M_reduce_47 (lv_at hl 2 rfl) ?_
          refine lv_iadd hx hb d_M_reduce_49 ?_
          refine sx_ti (y := nI ((16 * i27) + i1)) (nI_add _ _) ?_
          refine sx_lald hx hb hG hS f2 (sx_in (by omega) (by decide)) d_M_reduce_50 (fun z29 => ?_)
          refine sx_lmul hx hb d_M_reduce_51 (fun z30 => ?_)
          refine sx_ladd hx hb d_M_reduce_52 (fun z31 => ?_)
          refine lv_lstore (lv' := [(5, .long z31), (7, .int (nI (i27))), (4, .int (nI (i1))), (0, .ref o), (1, .ref a0), (2, .ref a1), (3, .ref a2)]) hx hb d_M_reduce_53 hl (by decide) rfl (fun ls hl => ?_)
          refine lv_iinc (v := nI (i27 + 1)) (lv' := [(7, .int (nI (i27 + 1))), (5, .long z31), (4, .int (nI (i1))), (0, .ref o), (1, .ref a0), (2, .ref a1), (3, .ref a2)]) hx hb d_M_reduce_55 hl (k := 1) rfl (sx_inc _ _) (by decide) rfl (fun ls hl => ?_)
          refine lv_goto (tgt := 22) hx hb d_M_reduce_58 (by decide) ?_
          exact ih22 (i27 + 1) z31 _ _ _ (by omega)  hS (lv_sub hl [0, 1, 2, 3, 4, 5, 6] rfl)
      exact lp22 (16) 0 z25 _ _ _ (by omega)  hS (lv_sub hl [0, 1, 2, 3, 4, 5, 6] rfl)
  exact lp3 (16) 0  _ _ _ (by omega)  hS (lv_sub hl [0, 1, 2, 3, 4] rfl)
abbrev rm_M_times : Room := { frames := 2, cells := 0, slots := 0, locals := 56 }
set_option maxHeartbeats 4000000 in
set_option maxRecDepth 100000 in
theorem c_M_times {l : Launch} {D : va_G} {g : ClassId → FieldType → Prop} {E : Nat → Prop} {H0 : Heap} {o : Nat} {r : Nat → Nat} {i : Nat → Int32} {a0 : Nat} {a1 : Nat} {a2 : Nat} {a3 : Nat} {a4 : Nat} (hM : mo_ D g H0 o r i) (hE : ¬ E o) (hW : ∀ q ∈ mo_wr, E (r q.1)) (f0 : sx_A g .long H0 a0 16) (o0 : E a0) (f1 : sx_A g .long H0 a1 16) (f2 : sx_A g .long H0 a2 16) (f3 : sx_A g .long H0 a3 16) (f4 : sx_A g .long H0 a4 256) : Met l y_M_times (.code y_M_times b_M_times 10 none :: G_) rm_M_times (sx_Pc [.ref o, .ref a0, .ref a1, .ref a2, .ref a3, .ref a4] H0 D g) (sx_Qv g E H0) 0 0 E := by
  refine sx_mv (own := R_M) (by decide) rfl rfl rfl (Nat.le_of_ble_eq_true rfl) ?_
  intro p e s m args below meth c Q ls EE hl hret
  obtain ⟨hx, hb, hml, hown, hts, hG, hK⟩ := id EE
  have hS : sx_S g E E H0 H0 [] := sx_S.rf
  have hl : lv_has ls 10 [(0, .ref o), (1, .ref a0), (2, .ref a1), (3, .ref a2), (4, .ref a3), (5, .ref a4)] := hl
  refine lv_iconst (v := nI 0) hx hb d_M_times_0 (by decide +kernel) ?_
  refine lv_istore (lv' := [(6, .int (nI (0))), (0, .ref o), (1, .ref a0), (2, .ref a1), (3, .ref a2), (4, .ref a3), (5, .ref a4)]) hx hb d_M_times_1 hl (by decide) rfl (fun ls hl => ?_)
  have lp3 : ∀ (k i1 : Nat) (H : Heap) (locs : List Loc) (ls : Array Slot), i1 + k = 32 → sx_S g E E H0 H locs → lv_has ls 10 [(6, .int (nI (i1))), (0, .ref o), (1, .ref a0), (2, .ref a1), (3, .ref a2), (4, .ref a3), (5, .ref a4)] → W p l e rm_M_times s m args below meth c H locs 0 0 Q (F0 m 3 ls []) := by
    intro k
    induction k with
    | zero =>
      intro i1  H locs ls hi  hS hl
      refine lv_iload hx hb d_M_times_3 (lv_at hl 0 rfl) ?_
      refine lv_bipush (v := nI 32) hx hb d_M_times_5 (by decide +kernel) ?_
      refine lv_icmp_ge (tgt := 24) hx hb d_M_times_7 (by decide) (fun _ => ?_) (fun q => absurd (nI_le (by omega) (by omega)) q)
      refine lv_iconst (v := nI 0) hx hb d_M_times_24 (by decide +kernel) ?_
      refine lv_istore (lv' := [(6, .int (nI (0))), (0, .ref o), (1, .ref a0), (2, .ref a1), (3, .ref a2), (4, .ref a3), (5, .ref a4)]) hx hb d_M_times_25 hl (by decide) rfl (fun ls hl => ?_)
      have lp27 : ∀ (k i2 : Nat) (H : Heap) (locs : List Loc) (ls : Array Slot), i2 + k = 16 → sx_S g E E H0 H locs → lv_has ls 10 [(6, .int (nI (i2))), (0, .ref o), (1, .ref a0), (2, .ref a1), (3, .ref a2), (4, .ref a3), (5, .ref a4)] → W p l e rm_M_times s m args below meth c H locs 0 0 Q (F0 m 27 ls []) := by
        intro k
        induction k with
        | zero =>
          intro i2  H locs ls hi  hS hl
          refine lv_iload hx hb d_M_times_27 (lv_at hl 0 rfl) ?_
          refine lv_bipush (v := nI 16) hx hb d_M_times_29 (by decide +kernel) ?_
          refine lv_icmp_ge (tgt := 119) hx hb d_M_times_31 (by decide) (fun _ => ?_) (fun q => absurd (nI_le (by omega) (by omega)) q)
          refine lv_aload_n hx hb d_M_times_119 rfl (lv_at hl 1 rfl) ?_
          refine lv_aload_n hx hb d_M_times_120 rfl (lv_at hl 2 rfl) ?_
          refine lv_aload hx hb d_M_times_121 (lv_at hl 5 rfl) ?_
          refine lv_aload hx hb d_M_times_123 (lv_at hl 6 rfl) ?_
          refine sx_gv (sx_runV (As := [.ref a0, .ref a3, .ref a4]) (rest := []) EE (hS.1.ob hE hM.1) rfl rfl (c_M_reduce (hM.kept hS.1 hE) hE hW (hS.a f0) o0 (hS.a f3) (hS.a f4)) w_M_225 rfl ⟨rfl, rfl⟩ ⟨Nat.le_of_ble_eq_true rfl, Nat.le_of_ble_eq_true rfl⟩ ⟨Nat.zero_le _, Nat.zero_le _⟩ hl.1 rfl (Nat.le_of_ble_eq_true rfl) d_M_times_125) hS (fun H locs hS => ?_)
          exact hret _ _ _ _ hS d_M_times_128
        | succ k ih27 =>
          intro i2  H locs ls hi  hS hl
          refine lv_iload hx hb d_M_times_27 (lv_at hl 0 rfl) ?_
          refine lv_bipush (v := nI 16) hx hb d_M_times_29 (by decide +kernel) ?_
          refine lv_icmp_ge (tgt := 119) hx hb d_M_times_31 (by decide) (fun q => absurd q (nI_ge (by omega) (by omega))) (fun _ => ?_)
          refine lv_lconst (v := 0) hx hb d_M_times_34 (by decide +kernel) ?_
          refine lv_lstore (lv' := [(7, .long 0), (6, .int (nI (i2))), (0, .ref o), (1, .ref a0), (2, .ref a1), (3, .ref a2), (4, .ref a3), (5, .ref a4)]) hx hb d_M_times_35 hl (by decide) rfl (fun ls hl => ?_)
          refine lv_iconst (v := nI 0) hx hb d_M_times_37 (by decide +kernel) ?_
          refine lv_istore (lv' := [(9, .int (nI (0))), (7, .long 0), (6, .int (nI (i2))), (0, .ref o), (1, .ref a0), (2, .ref a1), (3, .ref a2), (4, .ref a3), (5, .ref a4)]) hx hb d_M_times_38 hl (by decide) rfl (fun ls hl => ?_)
          have lp40 : ∀ (k i4 : Nat) (w3 : Int64) (H : Heap) (locs : List Loc) (ls : Array Slot), i4 + k = 16 → sx_S g E E H0 H locs → lv_has ls 10 [(9, .int (nI (i4))), (7, .long w3), (6, .int (nI (i2))), (0, .ref o), (1, .ref a0), (2, .ref a1), (3, .ref a2), (4, .ref a3), (5, .ref a4)] → W p l e rm_M_times s m args below meth c H locs 0 0 Q (F0 m 40 ls []) := by
            intro k
            induction k with
            | zero =>
              intro i4 w3 H locs ls hi  hS hl
              refine lv_iload hx hb d_M_times_40 (lv_at hl 0 rfl) ?_
              refine lv_bipush (v := nI 16) hx hb d_M_times_42 (by decide +kernel) ?_
              refine lv_icmp_ge (tgt := 101) hx hb d_M_times_44 (by decide) (fun _ => ?_) (fun q => absurd (nI_le (by omega) (by omega)) q)
              refine lv_aload_n hx hb d_M_times_101 rfl (lv_at hl 3 rfl) ?_
              refine sx_get EE (hS.1.ob hE hM.1) rfl i_M 40 (by decide) rfl fl_M_123 rfl d_M_times_102 ?_
              refine lv_iload hx hb d_M_times_105 (lv_at hl 2 rfl) ?_
              refine lv_bipush (v := nI 16) hx hb d_M_times_107 (by decide +kernel) ?_
              refine lv_iadd hx hb d_M_times_109 ?_
              refine sx_ti (y := nI (i2 + 16)) (nI_add _ _) ?_
              refine lv_lload hx hb d_M_times_110 (lv_at hl 1 rfl) ?_
              refine sx_last hx hb hG hS (mo_40 hM) (mow_40 hW) (sx_in (by omega) (by decide)) d_M_times_112 (fun H locs hS => ?_)
              refine lv_iinc (v := nI (i2 + 1)) (lv' := [(6, .int (nI (i2 + 1))), (9, .int (nI (i4))), (7, .long w3), (0, .ref o), (1, .ref a0), (2, .ref a1), (3, .ref a2), (4, .ref a3), (5, .ref a4)]) hx hb d_M_times_113 hl (k := 2) rfl (sx_inc _ _) (by decide) rfl (fun ls hl => ?_)
              refine lv_goto (tgt := 27) hx hb d_M_times_116 (by decide) ?_
              exact ih27 (i2 + 1)  _ _ _ (by omega)  hS (lv_sub hl [0, 3, 4, 5, 6, 7, 8] rfl)
            | succ k ih40 =>
              intro i4 w3 H locs ls hi  hS hl
              refine lv_iload hx hb d_M_times_40 (lv_at hl 0 rfl) ?_
              refine lv_bipush (v := nI 16) hx hb d_M_times_42 (by decide +kernel) ?_
              refine lv_icmp_ge (tgt := 101) hx hb d_M_times_44 (by decide) (fun q => absurd q (nI_ge (by omega) (by omega))) (fun _ => ?_)
              refine lv_lload hx hb d_M_times_47 (lv_at hl 1 rfl) ?_
              refine lv_aload_n hx hb d_M_times_49 rfl (lv_at hl 3 rfl) ?_
              refine sx_get EE (hS.1.ob hE hM.1) rfl i_M 40 (by decide) rfl fl_M_123 rfl d_M_times_50 ?_
              refine lv_iload hx hb d_M_times_53 (lv_at hl 2 rfl) ?_
              refine lv_iload hx hb d_M_times_55 (lv_at hl 0 rfl) ?_
              refine lv_iadd hx hb d_M_times_57 ?_
              refine sx_ti (y := nI (i2 + i4)) (nI_add _ _) ?_
              refine sx_lald hx hb hG hS (mo_40 hM) (sx_in (by omega) (by decide)) d_M_times_58 (fun z5 => ?_)
              refine lv_aload_n hx hb d_M_times_59 rfl (lv_at hl 5 rfl) ?_
              refine lv_iload hx hb d_M_times_60 (lv_at hl 2 rfl) ?_
              refine sx_lald hx hb hG hS f1 (sx_in (by omega) (by decide)) d_M_times_62 (fun z6 => ?_)
              refine lv_aload_n hx hb d_M_times_63 rfl (lv_at hl 6 rfl) ?_
              refine lv_iload hx hb d_M_times_64 (lv_at hl 0 rfl) ?_
              refine sx_lald hx hb hG hS f2 (sx_in (by omega) (by decide)) d_M_times_66 (fun z7 => ?_)
              refine sx_lmul hx hb d_M_times_67 (fun z8 => ?_)
              refine sx_ladd hx hb d_M_times_68 (fun z9 => ?_)
              refine sx_ladd hx hb d_M_times_69 (fun z10 => ?_)
              refine lv_lstore (lv' := [(7, .long z10), (9, .int (nI (i4))), (6, .int (nI (i2))), (0, .ref o), (1, .ref a0), (2, .ref a1), (3, .ref a2), (4, .ref a3), (5, .ref a4)]) hx hb d_M_times_70 hl (by decide) rfl (fun ls hl => ?_)
              refine lv_aload_n hx hb d_M_times_72 rfl (lv_at hl 3 rfl) ?_
              refine sx_get EE (hS.1.ob hE hM.1) rfl i_M 40 (by decide) rfl fl_M_123 rfl d_M_times_73 ?_
              refine lv_iload hx hb d_M_times_76 (lv_at hl 2 rfl) ?_
              refine lv_iload hx hb d_M_times_78 (lv_at hl 1 rfl) ?_
              refine lv_iadd hx hb d_M_times_80 ?_
              refine sx_ti (y := nI (i2 + i4)) (nI_add _ _) ?_
              refine lv_lload hx hb d_M_times_81 (lv_at hl 0 rfl) ?_
              refine lv_ldc2 (v := (65535)) hx hb hown (hts (.constantLong R_M 169 (65535)) (by decide +kernel)) d_M_times_83 ?_
              refine sx_land hx hb d_M_times_86 (fun z11 => ?_)
              refine sx_last hx hb hG hS (mo_40 hM) (mow_40 hW) (sx_in (by omega) (by decide)) d_M_times_87 (fun H locs hS => ?_)
              refine lv_lload hx hb d_M_times_88 (lv_at hl 0 rfl) ?_
              refine lv_bipush (v := nI 16) hx hb d_M_times_90 (by decide +kernel) ?_
              refine sx_lshr hx hb d_M_times_92 (fun z12 => ?_)
              refine lv_lstore (lv' := [(7, .long z12), (9, .int (nI (i4))), (6, .int (nI (i2))), (0, .ref o), (1, .ref a0), (2, .ref a1), (3, .ref a2), (4, .ref a3), (5, .ref a4)]) hx hb d_M_times_93 hl (by decide) rfl (fun ls hl => ?_)
              refine lv_iinc (v := nI (i4 + 1)) (lv' := [(9, .int (nI (i4 + 1))), (7, .long z12), (6, .int (nI (i2))), (0, .ref o), (1, .ref a0), (2, .ref a1), (3, .ref a2), (4, .ref a3), (5, .ref a4)]) hx hb d_M_times_95 hl (k := 1) rfl (sx_inc _ _) (by decide) rfl (fun ls hl => ?_)
              refine lv_goto (tgt := 40) hx hb d_M_times_98 (by decide) ?_
              exact ih40 (i4 + 1) z12 _ _ _ (by omega)  hS (lv_sub hl [0, 1, 2, 3, 4, 5, 6, 7, 8] rfl)
          exact lp40 (16) 0 0 _ _ _ (by omega)  hS (lv_sub hl [0, 1, 2, 3, 4, 5, 6, 7, 8] rfl)
      exact lp27 (16) 0  _ _ _ (by omega)  hS (lv_sub hl [0, 1, 2, 3, 4, 5, 6] rfl)
    | succ k ih3 =>
      intro i1  H locs ls hi  hS hl
      refine lv_iload hx hb d_M_times_3 (lv_at hl 0 rfl) ?_
      refine lv_bipush (v := nI 32) hx hb d_M_times_5 (by decide +kernel) ?_
      refine lv_icmp_ge (tgt := 24) hx hb d_M_times_7 (by decide) (fun q => absurd q (nI_ge (by omega) (by omega))) (fun _ => ?_)
      refine lv_aload_n hx hb d_M_times_10 rfl (lv_at hl 1 rfl) ?_
      refine sx_get EE (hS.1.ob hE hM.1) rfl i_M 40 (by decide) rfl fl_M_123 rfl d_M_times_11 ?_
      refine lv_iload hx hb d_M_times_14 (lv_at hl 0 rfl) ?_
      refine lv_lconst (v := 0) hx hb d_M_times_16 (by decide +kernel) ?_
      refine sx_last hx hb hG hS (mo_40 hM) (mow_40 hW) (sx_in (by omega) (by decide)) d_M_times_17 (fun H locs hS => ?_)
      refine lv_iinc (v := nI (i1 + 1)) (lv' := [(6, .int (nI (i1 + 1))), (0, .ref o), (1, .ref a0), (2, .ref a1), (3, .ref a2), (4, .ref a3), (5, .ref a4)]) hx hb d_M_times_18 hl (k := 0) rfl (sx_inc _ _) (by decide) rfl (fun ls hl => ?_)
      refine lv_goto (tgt := 3) hx hb d_M_times_21 (by decide) ?_
      exact ih3 (i1 + 1)  _ _ _ (by omega)  hS (lv_sub hl [0, 1, 2, 3, 4, 5, 6] rfl)
  exact lp3 (32) 0  _ _ _ (by omega)  hS (lv_sub hl [0, 1, 2, 3, 4, 5, 6] rfl)
