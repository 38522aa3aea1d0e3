set_option maxHeartbeats 4000000 in
set_option maxRecDepth 100000 in
theorem e_M_feed {l : Launch} {D : va_G} {g : ClassId → FieldType → Prop} {E F : Nat → Prop} {H0 : Heap} {o : Nat} {r : Nat → Nat} {v0 v1 v2 v3 v4 : Int32} (hM : va_P D classes [(o, .inr (0, mo_fs r (fun _ => 0)))] H0) (hE : ¬ E o) (hf1 : sx_A g .byte H0 (r 1) 65536) (hE1 : E (r 1)) {rm_M_feed : Room} {p : Program} {e : Env} {s : State} {m : MethodId} {args : Array Value} {below : List Frame} {meth : Method} {c : Code} {Q : State → Prop} {ls : Array Slot} {locs : List Loc} (EE : sx_E p s m args c b_M_feed 8 R_M D g) (hl : lv_has ls 8 [(0, .ref o), (1, .int v0), (2, .int v1), (3, .int v2), (4, .int v3), (5, .int v4)]) (hS : sx_S g E F H0 H0 locs) (hk : ∀ (H : Heap) (locs : List Loc) (ls : Array Slot), sx_S g E F H0 H locs → lv_has ls 8 [(0, .ref o), (1, .int v0), (2, .int v1), (3, .int v2), (4, .int v3), (5, .int v4)] → W p l e rm_M_feed s m args below meth c H locs 0 0 Q (F0 m 110 ls [])) : W p l e rm_M_feed s m args below meth c H0 locs 0 0 Q (F0 m 21 ls []) := by
  obtain ⟨hx, hb, hml, hown, hts, hG, hK⟩ := id EE
  refine lv_iconst (v := nI 0) hx hb d_M_feed_21 (by decide +kernel) ?_
  refine lv_istore (lv' := [(6, .int (nI (0))), (0, .ref o), (1, .int v0), (2, .int v1), (3, .int v2), (4, .int v3), (5, .int v4)]) hx hb d_M_feed_22 hl (by decide) rfl (fun ls hl => ?_)
  have lp24 : ∀ (k i1 : Nat) (H : Heap) (locs : List Loc) (ls : Array Slot), i1 + k = 20 → sx_S g E F H0 H locs → lv_has ls 8 [(6, .int (nI (i1))), (0, .ref o), (1, .int v0), (2, .int v1), (3, .int v2), (4, .int v3), (5, .int v4)] → W p l e rm_M_feed s m args below meth c H locs 0 0 Q (F0 m 24 ls []) := by
    intro k
    induction k with
    | zero =>
      intro i1  H locs ls hi  hS hl
      refine lv_iload hx hb d_M_feed_24 (lv_at hl 0 rfl) ?_
      refine lv_bipush (v := nI 20) hx hb d_M_feed_26 (by decide +kernel) ?_
      refine lv_icmp_ge (tgt := 110) hx hb d_M_feed_28 (by decide) (fun _ => ?_) (fun q => absurd (nI_le (by omega) (by omega)) q)
      exact hk _ _ _ hS (lv_sub hl [1, 2, 3, 4, 5, 6] rfl)
    | succ k ih24 =>
      intro i1  H locs ls hi  hS hl
      refine lv_iload hx hb d_M_feed_24 (lv_at hl 0 rfl) ?_
      refine lv_bipush (v := nI 20) hx hb d_M_feed_26 (by decide +kernel) ?_
      refine lv_icmp_ge (tgt := 110) hx hb d_M_feed_28 (by decide) (fun q => absurd q (nI_ge (by omega) (by omega))) (fun _ => ?_)
      refine lv_iload hx hb d_M_feed_31 (lv_at hl 0 rfl) ?_
      refine lv_iconst (v := nI 4) hx hb d_M_feed_33 (by decide +kernel) ?_
      have jn77_2 : ∀ (x2 : Int32) (H : Heap) (locs : List Loc) (ls : Array Slot), sx_S g E F H0 H locs → lv_has ls 8 [(6, .int (nI (i1))), (0, .ref o), (1, .int v0), (2, .int v1), (3, .int v2), (4, .int v3), (5, .int v4)] → W p l e rm_M_feed s m args below meth c H locs 0 0 Q (F0 m 77 ls [.int x2]) := by
        intro x2 H locs ls  hS hl
        refine lv_istore (lv' := [(7, .int x2), (6, .int (nI (i1))), (0, .ref o), (1, .int v0), (2, .int v1), (3, .int v2), (4, .int v3), (5, .int v4)]) hx hb d_M_feed_77 hl (by decide) rfl (fun ls hl => ?_)
        refine lv_aload_n hx hb d_M_feed_79 rfl (lv_at hl 2 rfl) ?_
        refine sx_get (v := .ref (r 1)) EE (hS.1.ob hE hM) rfl i_M 1 (by decide) rfl fl_M_8 rfl d_M_feed_80 ?_
        refine lv_aload_n hx hb d_M_feed_83 rfl (lv_at hl 2 rfl) ?_
        refine sx_get (v := .int (nI (0))) EE (hS.1.ob hE hM) rfl i_M 5 (by decide) rfl fl_M_315 rfl d_M_feed_84 ?_
        refine lv_iload hx hb d_M_feed_87 (lv_at hl 1 rfl) ?_
        refine lv_iadd hx hb d_M_feed_89 ?_
        refine sx_ti (y := nI (0 + i1)) (nI_add _ _) ?_
        refine lv_iload hx hb d_M_feed_90 (lv_at hl 0 rfl) ?_
        refine lv_bipush (v := nI 8) hx hb d_M_feed_92 (by decide +kernel) ?_
        refine lv_iconst (v := nI 3) hx hb d_M_feed_94 (by decide +kernel) ?_
        refine lv_iload hx hb d_M_feed_95 (lv_at hl 1 rfl) ?_
        refine lv_iconst (v := nI 4) hx hb d_M_feed_97 (by decide +kernel) ?_
        refine lv_irem hx hb d_M_feed_98 (nI_ne0 (by omega) (by omega)) ?_
        refine sx_ti (y := nI (i1 % 4)) (pk_rem (by omega) (by omega) (by omega)) ?_
        refine lv_isub hx hb d_M_feed_99 ?_
        refine sx_ti (y := nI (3 - (i1 % 4))) (pk_sub (by omega)) ?_
        refine lv_imul hx hb d_M_feed_100 ?_
        refine sx_ti (y := nI (8 * (3 - (i1 % 4)))) (pk_mul _ _) ?_
        refine sx_ishr hx hb d_M_feed_101 (fun x4 => ?_)
        refine sx_i2b hx hb d_M_feed_102 (fun z5 => ?_)
        refine sx_bast hx hb hG hS hf1 hE1 (sx_in (by omega) (by decide)) d_M_feed_103 (fun H locs hS => ?_)
        refine lv_iinc (v := nI (i1 + 1)) (lv' := [(6, .int (nI (i1 + 1))), (7, .int x2), (0, .ref o), (1, .int v0), (2, .int v1), (3, .int v2), (4, .int v3), (5, .int v4)]) hx hb d_M_feed_104 hl (k := 1) rfl (sx_inc _ _) (by decide) rfl (fun ls hl => ?_)
        refine lv_goto (tgt := 24) hx hb d_M_feed_107 (by decide) ?_
        exact ih24 (i1 + 1)  _ _ _ (by omega)  hS (lv_sub hl [0, 2, 3, 4, 5, 6, 7] rfl)
      refine lv_icmp_ge (tgt := 41) hx hb d_M_feed_34 (by decide) (fun q34 => ?_) (fun q34 => ?_)
      · skip
        have q34 : 4 ≤ i1 := (nI_leI (a := 4) (b := i1) (by omega) (by omega)).mp q34
        refine lv_iload hx hb d_M_feed_41 (lv_at hl 0 rfl) ?_
        refine lv_bipush (v := nI 8) hx hb d_M_feed_43 (by decide +kernel) ?_
        refine lv_icmp_ge (tgt := 52) hx hb d_M_feed_45 (by decide) (fun q45 => ?_) (fun q45 => ?_)
        · skip
          have q45 : 8 ≤ i1 := (nI_leI (a := 8) (b := i1) (by omega) (by omega)).mp q45
          refine lv_iload hx hb d_M_feed_52 (lv_at hl 0 rfl) ?_
          refine lv_bipush (v := nI 12) hx hb d_M_feed_54 (by decide +kernel) ?_
          refine lv_icmp_ge (tgt := 63) hx hb d_M_feed_56 (by decide) (fun q56 => ?_) (fun q56 => ?_)
          · skip
            have q56 : 12 ≤ i1 := (nI_leI (a := 12) (b := i1) (by omega) (by omega)).mp q56
            refine lv_iload hx hb d_M_feed_63 (lv_at hl 0 rfl) ?_
            refine lv_bipush (v := nI 16) hx hb d_M_feed_65 (by decide +kernel) ?_
            refine lv_icmp_ge (tgt := 75) hx hb d_M_feed_67 (by decide) (fun q67 => ?_) (fun q67 => ?_)
            · skip
              have q67 : 16 ≤ i1 := (nI_leI (a := 16) (b := i1) (by omega) (by omega)).mp q67
              refine lv_iload hx hb d_M_feed_75 (lv_at hl 6 rfl) ?_
              exact jn77_2 v4 _ _ _  hS (lv_sub hl [0, 1, 2, 3, 4, 5, 6] rfl)
            · skip
              have q67 : ¬ (16 ≤ i1) := fun z => q67 ((nI_leI (a := 16) (b := i1) (by omega) (by omega)).mpr z)
              refine lv_iload hx hb d_M_feed_70 (lv_at hl 5 rfl) ?_
              refine lv_goto (tgt := 77) hx hb d_M_feed_72 (by decide) ?_
              exact jn77_2 v3 _ _ _  hS (lv_sub hl [0, 1, 2, 3, 4, 5, 6] rfl)
          · skip
            have q56 : ¬ (12 ≤ i1) := fun z => q56 ((nI_leI (a := 12) (b := i1) (by omega) (by omega)).mpr z)
            refine lv_iload_n hx hb d_M_feed_59 rfl (lv_at hl 4 rfl) ?_
            refine lv_goto (tgt := 77) hx hb d_M_feed_60 (by decide) ?_
            exact jn77_2 v2 _ _ _  hS (lv_sub hl [0, 1, 2, 3, 4, 5, 6] rfl)
        · skip
          have q45 : ¬ (8 ≤ i1) := fun z => q45 ((nI_leI (a := 8) (b := i1) (by omega) (by omega)).mpr z)
          refine lv_iload_n hx hb d_M_feed_48 rfl (lv_at hl 3 rfl) ?_
          refine lv_goto (tgt := 77) hx hb d_M_feed_49 (by decide) ?_
          exact jn77_2 v1 _ _ _  hS (lv_sub hl [0, 1, 2, 3, 4, 5, 6] rfl)
      · skip
        have q34 : ¬ (4 ≤ i1) := fun z => q34 ((nI_leI (a := 4) (b := i1) (by omega) (by omega)).mpr z)
        refine lv_iload_n hx hb d_M_feed_37 rfl (lv_at hl 2 rfl) ?_
        refine lv_goto (tgt := 77) hx hb d_M_feed_38 (by decide) ?_
        exact jn77_2 v0 _ _ _  hS (lv_sub hl [0, 1, 2, 3, 4, 5, 6] rfl)
  exact lp24 (20) 0  _ _ _ (by omega)  hS (lv_sub hl [0, 1, 2, 3, 4, 5, 6] rfl)
abbrev rm_M_feed : Room := { frames := 0, cells := 0, slots := 0, locals := 0 }
set_option maxHeartbeats 4000000 in
set_option maxRecDepth 100000 in
theorem c_M_feed {l : Launch} {D : va_G} {g : ClassId → FieldType → Prop} {H0 : Heap} {o : Nat} {r : Nat → Nat} {v0 v1 v2 v3 v4 : Int32} (k_o : va_P D classes [(o, .inr (0, mo_fs r (fun _ => 0)))] H0) (f_r1 : sx_A g .byte H0 (r 1) 65536) : Met l y_M_feed (.code y_M_feed b_M_feed 8 (some .int) :: G_) rm_M_feed (sx_Pc [.ref o, .int v0, .int v1, .int v2, .int v3, .int v4] H0 D g) (px_Q g (fun z => z = o ∨ z = (r 1)) H0 (nI 20) (fun H => va_P D classes [(o, .inr (0, mo_fs r (fun k => if k = 5 then (nI (20)) else 0)))] H)) 0 0 (fun z => z = o ∨ z = (r 1)) := by
  refine px_mi (own := R_M) (V := nI 20) (P := fun H => va_P D classes [(o, .inr (0, mo_fs r (fun k => if k = 5 then (nI (20)) else 0)))] H) (by decide) rfl (Nat.le_of_ble_eq_true rfl) ?_
  intro p e s m args below meth c Q ls EE hl hret
  obtain ⟨hx, hb, hml, hown, hts, hG, hK⟩ := id EE
  have hS : sx_S g (fun z => z = o ∨ z = (r 1)) (fun z => z = o ∨ z = (r 1)) H0 H0 [] := sx_S.rf
  have hl : lv_has ls 8 [(0, .ref o), (1, .int v0), (2, .int v1), (3, .int v2), (4, .int v3), (5, .int v4)] := hl
  have h_o := k_o
  refine lv_aload_n hx hb d_M_feed_0 rfl (lv_at hl 0 rfl) ?_
  refine lv_iconst (v := nI 0) hx hb d_M_feed_1 (by decide +kernel) ?_
  refine sx_put (E := (fun z => z = o ∨ z = (r 1))) (v := .int (nI (0))) EE h_o rfl i_M t_M tok_M n_M 0 (by decide) rfl fl_M_211 (ty := t_M 0) (by decide +kernel) rfl rfl (Nat.le_of_ble_eq_true rfl) (Or.inl rfl) hS d_M_feed_2 (fun H locs h_o hJ hs hS => ?_)
  have h_o : va_P D classes [(o, .inr (0, mo_fs r (fun _ => 0)))] H := h_o
  refine lv_aload_n hx hb d_M_feed_5 rfl (lv_at hl 0 rfl) ?_
  refine sx_get (v := .int (nI (0))) EE h_o rfl i_M 5 (by decide) rfl fl_M_315 rfl d_M_feed_6 ?_
  refine lv_ldcw (v := (nI 65516)) hx hb hown (hts (.constant R_M 318 (nI 65516)) (by decide +kernel)) d_M_feed_9 ?_
  refine lv_icmp_le (tgt := 21) hx hb d_M_feed_12 (by decide) (fun _ => ?_) (fun q => absurd (by decide +kernel) q)
  refine e_M_feed (E := fun z => z = r 1) (F := (fun z => z = o ∨ z = (r 1))) h_o (px_ne hG hK.1 h_o (hS.a f_r1)) (hS.a f_r1) rfl EE hl ⟨sx_J.rf, fun z h => Or.inr h, hS.2.2⟩ (fun H1 locs ls hS1 hl => ?_)
  have h_o := hS1.1.ob (px_ne hG hK.1 h_o (hS.a f_r1)) h_o
  have hS : sx_S g (fun z => z = o ∨ z = (r 1)) (fun z => z = o ∨ z = (r 1)) H0 H1 locs := ⟨hS.1.tr (hS1.1.mono (fun z h => Or.inr h)), fun _ h => h, hS1.2.2⟩
  refine lv_aload_n hx hb d_M_feed_110 rfl (lv_at hl 0 rfl) ?_
  refine lv_dup hx hb d_M_feed_111 rfl ?_
  refine sx_get (v := .int (nI (0))) EE h_o rfl i_M 5 (by decide) rfl fl_M_315 rfl d_M_feed_112 ?_
  refine lv_bipush (v := nI 20) hx hb d_M_feed_115 (by decide +kernel) ?_
  refine lv_iadd hx hb d_M_feed_117 ?_
  refine sx_ti (y := nI (20)) (nI_add _ _) ?_
  refine sx_put (E := (fun z => z = o ∨ z = (r 1))) (v := .int (nI (20))) EE h_o rfl i_M t_M tok_M n_M 5 (by decide) rfl fl_M_315 (ty := t_M 5) (by decide +kernel) rfl rfl (Nat.le_of_ble_eq_true rfl) (Or.inl rfl) hS d_M_feed_118 (fun H locs h_o hJ hs hS => ?_)
  have h_o : va_P D classes [(o, .inr (0, mo_fs r (fun k => if k = 5 then (nI (20)) else 0)))] H := h_o
  refine lv_aload_n hx hb d_M_feed_121 rfl (lv_at hl 0 rfl) ?_
  refine sx_get (v := .int (nI (20))) EE h_o rfl i_M 5 (by decide) rfl fl_M_315 rfl d_M_feed_122 ?_
  exact hret _ _ _ _ h_o hS d_M_feed_125
