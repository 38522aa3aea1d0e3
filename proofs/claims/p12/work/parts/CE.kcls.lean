theorem i8_i8 (x : Int32) : x.toInt8.toInt32.toInt8.toInt32 = x.toInt8.toInt32 := by simp
theorem nI_gm1 {n : Nat} (h : n ≤ 65536) : ¬ (nI n < (-1 : Int32)) := fun z => by
  have h1 := Int32.lt_iff_toInt_lt.mp z
  rw [nI_toInt (by omega), show (-1 : Int32).toInt = -1 from rfl] at h1
  omega
theorem vx_m1 {n : Nat} (h : n ≤ 65536) : (-1 : Int32) < nI n := by
  refine Int32.lt_iff_toInt_lt.mpr ?_
  rw [nI_toInt (by omega), show (-1 : Int32).toInt = -1 from rfl]
  omega
set_option maxHeartbeats 4000000 in
set_option maxRecDepth 100000 in
theorem v_Ro_hasRoomForE {l : Launch} {D : va_G} {g : ClassId → FieldType → Prop} {H0 : Heap} {ro b t k : Nat} (hR : va_P D classes [(ro, .inr (9, [.ref b, .int (nI t)]))] H0) (ht : t ≤ 65536) (hk : k ≤ 64) : Met l y_Ro_hasRoomFor (.code y_Ro_hasRoomFor b_Ro_hasRoomFor 2 (some .boolean) :: G_) { frames := 0, cells := 0, slots := 0, locals := 0 } (sx_Pc [.ref ro, .int (nI k)] H0 D g) (px_Q g (fun _ => False) H0 (nI (if t + k ≤ 65536 then 1 else 0)) (fun H1 => H0 = H1)) 0 0 (fun _ => False) := by
  refine px_mz (own := R_Ro) (P := fun H1 => H0 = H1) (by split <;> omega) (by decide) rfl (Nat.le_of_ble_eq_true rfl) ?_
  intro p e s m args below meth c Q ls EE hl hret
  obtain ⟨hx, hb, hml, hown, hts, hG, hK⟩ := id EE
  have hS : sx_S g (fun _ => False) (fun _ => False) H0 H0 [] := sx_S.rf
  have hl : lv_has ls 2 [(0, .ref ro), (1, .int (nI k))] := hl
  refine lv_aload_n hx hb d_Ro_hasRoomFor_0 rfl (lv_at hl 0 rfl) ?_
  refine sx_get (v := .int (nI t)) EE hR rfl i_Ro 1 (by decide) rfl fl_Ro_15 rfl d_Ro_hasRoomFor_1 ?_
  refine lv_iload_n hx hb d_Ro_hasRoomFor_4 rfl (lv_at hl 1 rfl) ?_
  refine lv_iadd hx hb d_Ro_hasRoomFor_5 ?_
  refine sx_ti (y := nI (t + k)) (nI_add _ _) ?_
  refine lv_ldc (v := (nI 65536)) hx hb hown (hts (.constant R_Ro 19 (nI 65536)) (by decide +kernel)) d_Ro_hasRoomFor_6 ?_
  by_cases hc : t + k ≤ 65536
  · rw [if_pos hc] at hret
    refine lv_icmp_gt (tgt := 15) hx hb d_Ro_hasRoomFor_8 (by decide) (fun q => absurd ((nI_ltI (a := 65536) (b := t + k) (by omega) (by omega)).mp q) (by omega)) (fun _ => ?_)
    refine lv_iconst (v := nI 1) hx hb d_Ro_hasRoomFor_11 (by decide +kernel) ?_
    refine lv_goto (tgt := 16) hx hb d_Ro_hasRoomFor_12 (by decide) ?_
    exact hret _ _ _ _ rfl hS d_Ro_hasRoomFor_16
  · rw [if_neg hc] at hret
    refine lv_icmp_gt (tgt := 15) hx hb d_Ro_hasRoomFor_8 (by decide) (fun _ => ?_) (fun q => absurd ((nI_ltI (a := 65536) (b := t + k) (by omega) (by omega)).mpr (by omega)) q)
    refine lv_iconst (v := nI 0) hx hb d_Ro_hasRoomFor_15 (by decide +kernel) ?_
    exact hret _ _ _ _ rfl hS d_Ro_hasRoomFor_16
set_option maxHeartbeats 4000000 in
set_option maxRecDepth 100000 in
theorem v_K_back_0 {l : Launch} {D : va_G} {g : ClassId → FieldType → Prop} {H0 : Heap} {X : vM} {x kA re ve ta ma kc rl : Nat} {kq : Nat → Nat → Nat} {sg za : Int32} {bt nt tl : Nat} {v1 : Int32} (hX : va_P D classes [(x, .inr (1, [.ref kA, .ref re, .ref ve, .ref (kq 1 99), .ref (kq 2 99), .ref (kq 7 99), .ref ta, .ref ma, .int (nI (kc)), .int (nI (rl)), .int sg, .int za]))] H0) (hT : va_P D classes [(ta, .inr (9, [.ref bt, .int (nI (tl))]))] H0) (nxt : x ≠ ta) (fb : sx_A g .byte H0 bt nt) (lb : sx_L H0 bt nt) (ht : tl ≤ nt) (hn : 64 ≤ nt ∧ nt ≤ 65536) (hw : tl + rl ≤ 65536) (hr : rl ≤ 64) (fr : sx_A g .byte H0 re 64) (nrb : re ≠ bt) (hV : mm g H0 = X) : Met l y_K_back (.code y_K_back b_K_back 4 (some .int) :: G_) { frames := 4, cells := gC tl rl nt, slots := gS tl rl nt, locals := 192 } (sx_Pc [.ref x, .int (-1 : Int32), .int v1] H0 D g) (px_Q g (fun z => z = ta ∨ z = bt ∨ H0.size ≤ z) H0 (nI (tl + rl)) (RwP D g H0 X ta bt nt tl rl (X.2 re))) (gC tl rl nt) (gS tl rl nt) (fun z => z = ta ∨ z = bt ∨ H0.size ≤ z) := by
  refine px_miA (own := R_K) (by decide) rfl (Nat.le_of_ble_eq_true rfl) ?_
  intro p e s m args below meth c Q ls EE hl hret
  obtain ⟨hx, hb, hml, hown, hts, hG, hK⟩ := id EE
  have hS : sx_S g (fun z => z = ta ∨ z = bt ∨ H0.size ≤ z) (fun z => z = ta ∨ z = bt ∨ H0.size ≤ z) H0 H0 [] := sx_S.rf
  have hl : lv_has ls 4 [(0, .ref x), (1, .int (-1 : Int32)), (2, .int v1)] := hl
  refine lv_iload_n hx hb d_K_back_0 rfl (lv_at hl 1 rfl) ?_
  refine lv_iconst (v := (-1)) hx hb d_K_back_1 (by decide +kernel) ?_
  refine lv_icmp_lt (tgt := 13) hx hb d_K_back_2 (by decide) (fun q => absurd q (by decide)) (fun _ => ?_)
  refine lv_iload_n hx hb d_K_back_5 rfl (lv_at hl 1 rfl) ?_
  refine lv_aload_n hx hb d_K_back_6 rfl (lv_at hl 0 rfl) ?_
  refine sx_get (v := .int (nI (rl))) EE hX rfl i_K 9 (by decide) rfl fl_K_123 rfl d_K_back_7 ?_
  refine lv_icmp_lt (tgt := 23) hx hb d_K_back_10 (by decide) (fun _ => ?_) (fun q => absurd (vx_m1 (by omega)) q)
  refine lv_aload_n hx hb d_K_back_23 rfl (lv_at hl 0 rfl) ?_
  refine sx_get (v := .ref ta) EE hX rfl i_K 6 (by decide) rfl fl_K_54 rfl d_K_back_24 ?_
  refine lv_aload_n hx hb d_K_back_27 rfl (lv_at hl 0 rfl) ?_
  refine sx_get (v := .int (nI (rl))) EE hX rfl i_K 9 (by decide) rfl fl_K_123 rfl d_K_back_28 ?_
  refine px_gi (E' := (fun _ => False)) (V := nI (if tl + rl ≤ 65536 then 1 else 0)) (P := fun H1 => H0 = H1) (sx_runV (As := [.int (nI (rl))]) (rest := []) EE hT rfl rfl (v_Ro_hasRoomForE hT (by omega) (by omega)) w_K_61 rfl ⟨rfl, rfl⟩ ⟨Nat.le_of_ble_eq_true rfl, Nat.le_of_ble_eq_true rfl⟩ ⟨Nat.zero_le _, Nat.zero_le _⟩ hl.1 rfl (Nat.le_of_ble_eq_true rfl) d_K_back_31) (fun _ h => h.elim) hS (fun H1 locs hJ_ hP hS => ?_)
  obtain rfl := hP
  refine sx_ti (y := nI 1) (by rw [if_pos hw]) ?_
  refine lv_if_ne (tgt := 47) hx hb d_K_back_34 (by decide) (fun _ => ?_) (fun q => absurd q (by decide))
  refine lv_aload_n hx hb d_K_back_47 rfl (lv_at hl 0 rfl) ?_
  refine sx_get (v := .ref ta) EE hX rfl i_K 6 (by decide) rfl fl_K_54 rfl d_K_back_48 ?_
  refine sx_getN (v := .int (nI (tl))) EE hT rfl i_Ro 1 (by decide) rfl fn_K_76 rfl d_K_back_51 ?_
  refine lv_istore_n (lv' := [(3, .int (nI (tl))), (0, .ref x), (1, .int (-1 : Int32)), (2, .int v1)]) hx hb d_K_back_54 rfl hl (by decide) rfl (fun ls hl => ?_)
  refine lv_aload_n hx hb d_K_back_55 rfl (lv_at hl 1 rfl) ?_
  refine sx_get (v := .ref ta) EE hX rfl i_K 6 (by decide) rfl fl_K_54 rfl d_K_back_56 ?_
  refine lv_aload_n hx hb d_K_back_59 rfl (lv_at hl 1 rfl) ?_
  refine sx_get (v := .ref re) EE hX rfl i_K 1 (by decide) rfl fl_K_18 rfl d_K_back_60 ?_
  refine lv_aload_n hx hb d_K_back_63 rfl (lv_at hl 1 rfl) ?_
  refine sx_get (v := .int (nI (rl))) EE hX rfl i_K 9 (by decide) rfl fl_K_123 rfl d_K_back_64 ?_
  refine px_gvA (cells' := gC tl rl nt) (slots' := gS tl rl nt) (sx_runVA (As := [.ref re, .int (nI rl)]) (rest := []) EE hT rfl rfl (v_Ro_append (X := X) hT fb lb ht hn fr (by omega) (by omega) (by omega) nrb hV) w_K_162 rfl ⟨rfl, rfl⟩ ⟨Nat.le_of_ble_eq_true rfl, Nat.le_of_ble_eq_true rfl⟩ ⟨by show 0 + gC tl rl nt ≤ gC tl rl nt; omega, by show 0 + gS tl rl nt ≤ gS tl rl nt; omega⟩ hl.1 rfl (Nat.le_of_ble_eq_true rfl) d_K_back_67) (fun z h => h) hS (by omega) (by omega) (fun H locs hJ hP hS => ?_)
  have hX := hJ.ob (fun h => by rcases h with h | h | h; exact nxt h; exact vx_ne hG hK.1 hX fb h.symm; exact absurd (hX 0 _ rfl).lt (Nat.not_lt.mpr h)) hX
  have hPf := hP
  obtain ⟨q1, n1, hT, fa1, la1, c1_, c2_, vl1, nw1, rs1⟩ := hP
  have hT : va_P D classes [(ta, .inr (9, [.ref q1, .int (nI (tl + rl))]))] H := hT
  have hn1 : tl + rl ≤ n1 ∧ n1 ≤ 131072 := by
    by_cases hc : tl + rl ≤ nt
    · have := (c1_ hc).2
      omega
    · have := (c2_ (by omega)).2
      omega
  refine lv_iload_n hx hb d_K_back_70 rfl (lv_at hl 2 rfl) ?_
  refine lv_if_lt (tgt := 91) hx hb d_K_back_71 (by decide) (fun _ => ?_) (fun q => absurd (by decide) q)
  refine lv_aload_n hx hb d_K_back_91 rfl (lv_at hl 1 rfl) ?_
  refine sx_get (v := .ref ta) EE hX rfl i_K 6 (by decide) rfl fl_K_54 rfl d_K_back_92 ?_
  refine sx_getN (v := .int (nI (tl + rl))) EE hT rfl i_Ro 1 (by decide) rfl fn_K_76 rfl d_K_back_95 ?_
  exact hret _ _ _ _ hPf hS d_K_back_98
set_option maxHeartbeats 4000000 in
set_option maxRecDepth 100000 in
theorem v_K_back_1 {l : Launch} {D : va_G} {g : ClassId → FieldType → Prop} {H0 : Heap} {X : vM} {x kA re ve ta ma kc rl : Nat} {kq : Nat → Nat → Nat} {sg za : Int32} {bt nt tl : Nat} {v1 : Int32} {at_ : Nat} (hX : va_P D classes [(x, .inr (1, [.ref kA, .ref re, .ref ve, .ref (kq 1 99), .ref (kq 2 99), .ref (kq 7 99), .ref ta, .ref ma, .int (nI (kc)), .int (nI (rl)), .int sg, .int za]))] H0) (hT : va_P D classes [(ta, .inr (9, [.ref bt, .int (nI (tl))]))] H0) (nxt : x ≠ ta) (fb : sx_A g .byte H0 bt nt) (lb : sx_L H0 bt nt) (ht : tl ≤ nt) (hn : 64 ≤ nt ∧ nt ≤ 65536) (hw : tl + rl ≤ 65536) (hr : rl ≤ 64) (fr : sx_A g .byte H0 re 64) (nrb : re ≠ bt) (hat : at_ < rl) (hV : mm g H0 = X) : Met l y_K_back (.code y_K_back b_K_back 4 (some .int) :: G_) { frames := 4, cells := gC tl rl nt, slots := gS tl rl nt, locals := 192 } (sx_Pc [.ref x, .int (nI (at_)), .int v1] H0 D g) (px_Q g (fun z => z = ta ∨ z = bt ∨ H0.size ≤ z) H0 (nI (tl + rl)) (RwP D g H0 X ta bt nt tl rl (fun j => if j = at_ then ((X.2 re j) ^^^ (v1.toInt8.toInt32)).toInt8.toInt32 else X.2 re j))) (gC tl rl nt) (gS tl rl nt) (fun z => z = ta ∨ z = bt ∨ H0.size ≤ z) := by
  refine px_miA (own := R_K) (by decide) rfl (Nat.le_of_ble_eq_true rfl) ?_
  intro p e s m args below meth c Q ls EE hl hret
  obtain ⟨hx, hb, hml, hown, hts, hG, hK⟩ := id EE
  have hS : sx_S g (fun z => z = ta ∨ z = bt ∨ H0.size ≤ z) (fun z => z = ta ∨ z = bt ∨ H0.size ≤ z) H0 H0 [] := sx_S.rf
  have hl : lv_has ls 4 [(0, .ref x), (1, .int (nI (at_))), (2, .int v1)] := hl
  refine lv_iload_n hx hb d_K_back_0 rfl (lv_at hl 1 rfl) ?_
  refine lv_iconst (v := (-1)) hx hb d_K_back_1 (by decide +kernel) ?_
  refine lv_icmp_lt (tgt := 13) hx hb d_K_back_2 (by decide) (fun q => absurd q (nI_gm1 (by omega))) (fun _ => ?_)
  refine lv_iload_n hx hb d_K_back_5 rfl (lv_at hl 1 rfl) ?_
  refine lv_aload_n hx hb d_K_back_6 rfl (lv_at hl 0 rfl) ?_
  refine sx_get (v := .int (nI (rl))) EE hX rfl i_K 9 (by decide) rfl fl_K_123 rfl d_K_back_7 ?_
  refine lv_icmp_lt (tgt := 23) hx hb d_K_back_10 (by decide) (fun _ => ?_) (fun q10_0 => absurd (show at_ < rl by omega) (by have q10_0 : ¬ (at_ < rl) := fun z => q10_0 ((nI_ltI (a := at_) (b := rl) (by omega) (by omega)).mpr z); exact q10_0))
  refine lv_aload_n hx hb d_K_back_23 rfl (lv_at hl 0 rfl) ?_
  refine sx_get (v := .ref ta) EE hX rfl i_K 6 (by decide) rfl fl_K_54 rfl d_K_back_24 ?_
  refine lv_aload_n hx hb d_K_back_27 rfl (lv_at hl 0 rfl) ?_
  refine sx_get (v := .int (nI (rl))) EE hX rfl i_K 9 (by decide) rfl fl_K_123 rfl d_K_back_28 ?_
  refine px_gi (E' := (fun _ => False)) (V := nI (if tl + rl ≤ 65536 then 1 else 0)) (P := fun H1 => H0 = H1) (sx_runV (As := [.int (nI (rl))]) (rest := []) EE hT rfl rfl (v_Ro_hasRoomForE hT (by omega) (by omega)) w_K_61 rfl ⟨rfl, rfl⟩ ⟨Nat.le_of_ble_eq_true rfl, Nat.le_of_ble_eq_true rfl⟩ ⟨Nat.zero_le _, Nat.zero_le _⟩ hl.1 rfl (Nat.le_of_ble_eq_true rfl) d_K_back_31) (fun _ h => h.elim) hS (fun H1 locs hJ_ hP hS => ?_)
  obtain rfl := hP
  refine sx_ti (y := nI 1) (by rw [if_pos hw]) ?_
  refine lv_if_ne (tgt := 47) hx hb d_K_back_34 (by decide) (fun _ => ?_) (fun q34_1 => absurd (show 1 = 0 by have q34_1 : 1 = 0 := (nI_eq (a := 1) (b := 0) (by omega) (by omega)).mp q34_1; exact q34_1) (by decide))
  refine lv_aload_n hx hb d_K_back_47 rfl (lv_at hl 0 rfl) ?_
  refine sx_get (v := .ref ta) EE hX rfl i_K 6 (by decide) rfl fl_K_54 rfl d_K_back_48 ?_
  refine sx_getN (v := .int (nI (tl))) EE hT rfl i_Ro 1 (by decide) rfl fn_K_76 rfl d_K_back_51 ?_
  refine lv_istore_n (lv' := [(3, .int (nI (tl))), (0, .ref x), (1, .int (nI (at_))), (2, .int v1)]) hx hb d_K_back_54 rfl hl (by decide) rfl (fun ls hl => ?_)
  refine lv_aload_n hx hb d_K_back_55 rfl (lv_at hl 1 rfl) ?_
  refine sx_get (v := .ref ta) EE hX rfl i_K 6 (by decide) rfl fl_K_54 rfl d_K_back_56 ?_
  refine lv_aload_n hx hb d_K_back_59 rfl (lv_at hl 1 rfl) ?_
  refine sx_get (v := .ref re) EE hX rfl i_K 1 (by decide) rfl fl_K_18 rfl d_K_back_60 ?_
  refine lv_aload_n hx hb d_K_back_63 rfl (lv_at hl 1 rfl) ?_
  refine sx_get (v := .int (nI (rl))) EE hX rfl i_K 9 (by decide) rfl fl_K_123 rfl d_K_back_64 ?_
  refine px_gvA (cells' := gC tl rl nt) (slots' := gS tl rl nt) (sx_runVA (As := [.ref re, .int (nI rl)]) (rest := []) EE hT rfl rfl (v_Ro_append (X := X) hT fb lb ht hn fr (by omega) (by omega) (by omega) nrb hV) w_K_162 rfl ⟨rfl, rfl⟩ ⟨Nat.le_of_ble_eq_true rfl, Nat.le_of_ble_eq_true rfl⟩ ⟨by show 0 + gC tl rl nt ≤ gC tl rl nt; omega, by show 0 + gS tl rl nt ≤ gS tl rl nt; omega⟩ hl.1 rfl (Nat.le_of_ble_eq_true rfl) d_K_back_67) (fun z h => h) hS (by omega) (by omega) (fun H locs hJ hP hS => ?_)
  have hX := hJ.ob (fun h => by rcases h with h | h | h; exact nxt h; exact vx_ne hG hK.1 hX fb h.symm; exact absurd (hX 0 _ rfl).lt (Nat.not_lt.mpr h)) hX
  have hPf := hP
  obtain ⟨q1, n1, hT, fa1, la1, c1_, c2_, vl1, nw1, rs1⟩ := hP
  have hT : va_P D classes [(ta, .inr (9, [.ref q1, .int (nI (tl + rl))]))] H := hT
  have hn1 : tl + rl ≤ n1 ∧ n1 ≤ 131072 := by
    by_cases hc : tl + rl ≤ nt
    · have := (c1_ hc).2
      omega
    · have := (c2_ (by omega)).2
      omega
  refine lv_iload_n hx hb d_K_back_70 rfl (lv_at hl 2 rfl) ?_
  refine lv_if_lt (tgt := 91) hx hb d_K_back_71 (by decide) (fun q71_2 => absurd (show at_ < 0 by have q71_2 : at_ < 0 := (nI_ltI (a := at_) (b := 0) (by omega) (by omega)).mp q71_2; exact q71_2) (by omega)) (fun _ => ?_)
  refine lv_aload_n hx hb d_K_back_74 rfl (lv_at hl 1 rfl) ?_
  refine sx_get (v := .ref ta) EE hX rfl i_K 6 (by decide) rfl fl_K_54 rfl d_K_back_75 ?_
  refine sx_getN (v := .ref q1) EE hT rfl i_Ro 0 (by decide) rfl fn_K_94 rfl d_K_back_78 ?_
  refine lv_iload_n hx hb d_K_back_81 rfl (lv_at hl 0 rfl) ?_
  refine lv_iload_n hx hb d_K_back_82 rfl (lv_at hl 2 rfl) ?_
  refine lv_iadd hx hb d_K_back_83 ?_
  refine sx_ti (y := nI (tl + at_)) (nI_add _ _) ?_
  refine lv_dup2_11 hx hb d_K_back_84 rfl rfl ?_
  refine vx_bald (H0 := H) hx hb hG (⟨sx_J.rf, hS.2⟩ : sx_S g (fun z => z = ta ∨ z = bt ∨ H0.size ≤ z) (fun z => z = ta ∨ z = bt ∨ H0.size ≤ z) H H locs) rfl fa1 (show tl + at_ < n1 by omega) (by omega) d_K_back_85 ?_
  refine lv_iload_n hx hb d_K_back_86 rfl (lv_at hl 3 rfl) ?_
  refine lv_i2b hx hb d_K_back_87 rfl ?_
  refine lv_ixor hx hb d_K_back_88 ?_
  refine lv_i2b hx hb d_K_back_89 rfl ?_
  have eq1 : q1 = ta ∨ q1 = bt ∨ H0.size ≤ q1 := by
    by_cases hc : tl + rl ≤ nt
    · exact Or.inr (Or.inl (c1_ hc).1)
    · exact Or.inr (Or.inr (c2_ (by omega)).1)
  have hS0 := hS
  refine vx_bast (E := fun z => z = q1) (F := (fun z => z = ta ∨ z = bt ∨ H0.size ≤ z)) (H0 := H) hx hb hG ⟨sx_J.rf, fun z h => h ▸ eq1, hS.2.2⟩ rfl fa1 rfl (show tl + at_ < n1 by omega) (by omega) d_K_back_90 (fun H2 locs X2 eX2 hS1 hV2 => ?_)
  have hS : sx_S g (fun z => z = ta ∨ z = bt ∨ H0.size ≤ z) (fun z => z = ta ∨ z = bt ∨ H0.size ≤ z) H0 H2 locs := ⟨hS0.1.tr (hS1.1.mono (fun z h => h ▸ eq1)), hS0.2.1, hS1.2.2⟩
  have hX := hS1.1.ob (fun z => vx_ne hG hK.1 hX fa1 z.symm) hX
  have hT := hS1.1.ob (fun z => vx_ne hG hK.1 hT fa1 z.symm) hT
  have hPf : RwP D g H0 X ta bt nt tl rl (fun j => if j = at_ then ((X.2 re j) ^^^ (v1.toInt8.toInt32)).toInt8.toInt32 else X.2 re j) H2 := by
    have e2 : ∀ c j, (mm g H2).2 c j = if c = q1 ∧ j = tl + at_ then ((((mm g H).2 q1 (tl + at_)) ^^^ v1.toInt8.toInt32).toInt8.toInt32).toInt8.toInt32 else (mm g H).2 c j := fun c j => by rw [hV2, ← eX2]; rfl
    have e1 : (mm g H2).1 = (mm g H).1 := by rw [hV2, ← eX2]; rfl
    refine ⟨q1, n1, hT, hS1.1.2.2.1 _ _ _ fa1, hS1.1.2.2.2 _ _ la1, c1_, c2_, fun j hj => ?_, fun j hj => ?_, fun c hc hcb => ?_⟩
    · rw [e2, if_neg (by omega)]
      exact vl1 j hj
    · rw [e2]
      by_cases hja : j = at_
      · subst hja
        rw [if_pos ⟨rfl, rfl⟩, nw1 j hj, i8_i8]
        exact (if_pos rfl).symm
      · rw [if_neg (by omega), nw1 j hj]
        exact (if_neg hja).symm
    · have hcq : c ≠ q1 := by
        by_cases hc2 : tl + rl ≤ nt
        · rw [(c1_ hc2).1]; exact hcb
        · have := (c2_ (by omega)).1
          omega
      refine ⟨by rw [e1]; exact (rs1 c hc hcb).1, ?_⟩
      refine (funext fun j => ?_ : (mm g H2).2 c = (mm g H).2 c).trans (rs1 c hc hcb).2
      rw [e2, if_neg (fun z => hcq z.1)]
  refine lv_aload_n hx hb d_K_back_91 rfl (lv_at hl 1 rfl) ?_
  refine sx_get (v := .ref ta) EE hX rfl i_K 6 (by decide) rfl fl_K_54 rfl d_K_back_92 ?_
  refine sx_getN (v := .int (nI (tl + rl))) EE hT rfl i_Ro 1 (by decide) rfl fn_K_76 rfl d_K_back_95 ?_
  exact hret _ _ _ _ hPf hS d_K_back_98
set_option maxHeartbeats 4000000 in
set_option maxRecDepth 100000 in
theorem v_Ke_init {l : Launch} {D : va_G} {g : ClassId → FieldType → Prop} {H0 : Heap} {X : vM} {ko : Nat} {E : Nat → Prop} (hEo : E ko) (hO : va_P D classes [(ko, .inr (10, [.null, .null, .null, .null, .int 0]))] H0) (hV : mm g H0 = X) : Met l y_Ke_init (.code y_Ke_init b_Ke_init 1 none :: G_) { frames := 1, cells := 4, slots := 128, locals := 30 } (sx_Pc [.ref ko] H0 D g) (va_Qv (fun _ : Unit => True) (fun _ t => sx_J g E H0 t.heap ∧ ∃ q : Nat → Nat, va_P D classes [(ko, .inr (10, [.ref (q 0), .ref (q 1), .ref (q 2), .ref (q 3), .int 0]))] t.heap ∧ (∀ j, j < 4 → sx_A g .byte t.heap (q j) 32 ∧ sx_L t.heap (q j) 32 ∧ H0.size ≤ q j ∧ q j < Array.size t.heap) ∧ q 0 < q 1 ∧ q 1 < q 2 ∧ q 2 < q 3 ∧ mm g t.heap = X) E) 4 128 E := by
  refine sx_mva (own := R_Ke) (P := fun H => ∃ q : Nat → Nat, va_P D classes [(ko, .inr (10, [.ref (q 0), .ref (q 1), .ref (q 2), .ref (q 3), .int 0]))] H ∧ (∀ j, j < 4 → sx_A g .byte H (q j) 32 ∧ sx_L H (q j) 32 ∧ H0.size ≤ q j ∧ q j < Array.size H) ∧ q 0 < q 1 ∧ q 1 < q 2 ∧ q 2 < q 3 ∧ mm g H = X) (by decide) rfl (Nat.le_of_ble_eq_true rfl) ?_
  intro p e s m args below meth c Q ls EE hin hl hret
  obtain ⟨hx, hb, hml, hown, hts, hG, hK⟩ := id EE
  have hS : sx_S g E E H0 H0 [] := sx_S.rf
  have hl : lv_has ls 1 [(0, .ref ko)] := hl
  refine lv_aload_n hx hb d_Ke_init_0 rfl (lv_at hl 0 rfl) ?_
  refine W.objInit hx hb hown (hts (.methodLink R_Ke 3 objectInit) (by decide +kernel)) (hts (.instanceMethod objectInit) (by decide +kernel)) (hts (.code objectInit ⟨#[0xb1]⟩ 1 none) (by decide +kernel)) rfl (by rw [hml]; exact hl.1) rfl d_Ke_init_1 (Nat.le_of_ble_eq_true rfl) (Nat.le_of_ble_eq_true rfl) ?_
  refine W.eq (g2 := F0 m 4 ls []) rfl ?_
  refine lv_aload_n hx hb d_Ke_init_4 rfl (lv_at hl 0 rfl) ?_
  refine lv_bipush (v := nI 32) hx hb d_Ke_init_5 (by decide +kernel) ?_
  refine vx_newa (cells' := 1) (slots' := 32) hx hb hG hts rfl (Or.inr (Or.inl rfl)) (by decide +kernel) (by decide) (by decide) rfl rfl (Nat.le_of_ble_eq_true rfl) (Nat.le_of_ble_eq_true rfl) hS hV d_Ke_init_7 (fun q0 H eq0 hz0 a0 l0 hJ hk hS hV => ?_)
  have hO := hO.grown hk
  have o0 : H0.size ≤ q0 := by omega
  have hO0 := hO
  refine sx_putF EE hin hO rfl i_Ke t_Ke tok_Ke n_Ke 0 (by decide) rfl fl_Ke_9 (ty := t_Ke 0) (by decide +kernel) rfl rfl (Nat.le_of_ble_eq_true rfl) hEo hS d_Ke_init_9 (fun H1 locs hO hJ hs hS => ?_)
  have a0 := hJ.2.2.1 _ _ _ a0
  have l0 := hJ.2.2.2 _ _ l0
  have hO : va_P D classes [(ko, .inr (10, [.ref q0, .null, .null, .null, .int 0]))] H1 := hO
  have hV := (vx_obj hG hK.1 hO0 hO hs).trans hV
  have hsz0 : q0 + 1 ≤ H1.size := by have := hJ.1; omega
  refine lv_aload_n hx hb d_Ke_init_12 rfl (lv_at hl 0 rfl) ?_
  refine lv_bipush (v := nI 32) hx hb d_Ke_init_13 (by decide +kernel) ?_
  refine vx_newa (cells' := 2) (slots' := 64) hx hb hG hts rfl (Or.inr (Or.inl rfl)) (by decide +kernel) (by decide) (by decide) rfl rfl (Nat.le_of_ble_eq_true rfl) (Nat.le_of_ble_eq_true rfl) hS hV d_Ke_init_15 (fun q1 H eq1 hz1 a1 l1 hJ hk hS hV => ?_)
  have a0 := hJ.2.2.1 _ _ _ a0
  have l0 := hJ.2.2.2 _ _ l0
  have hO := hO.grown hk
  have o1 : q0 < q1 := by have := hsz0; omega
  have hO0 := hO
  refine sx_putF EE hin hO rfl i_Ke t_Ke tok_Ke n_Ke 1 (by decide) rfl fl_Ke_15 (ty := t_Ke 1) (by decide +kernel) rfl rfl (Nat.le_of_ble_eq_true rfl) hEo hS d_Ke_init_17 (fun H1 locs hO hJ hs hS => ?_)
  have a0 := hJ.2.2.1 _ _ _ a0
  have l0 := hJ.2.2.2 _ _ l0
  have a1 := hJ.2.2.1 _ _ _ a1
  have l1 := hJ.2.2.2 _ _ l1
  have hO : va_P D classes [(ko, .inr (10, [.ref q0, .ref q1, .null, .null, .int 0]))] H1 := hO
  have hV := (vx_obj hG hK.1 hO0 hO hs).trans hV
  have hsz1 : q1 + 1 ≤ H1.size := by have := hJ.1; omega
  refine lv_aload_n hx hb d_Ke_init_20 rfl (lv_at hl 0 rfl) ?_
  refine lv_bipush (v := nI 32) hx hb d_Ke_init_21 (by decide +kernel) ?_
  refine vx_newa (cells' := 3) (slots' := 96) hx hb hG hts rfl (Or.inr (Or.inl rfl)) (by decide +kernel) (by decide) (by decide) rfl rfl (Nat.le_of_ble_eq_true rfl) (Nat.le_of_ble_eq_true rfl) hS hV d_Ke_init_23 (fun q2 H eq2 hz2 a2 l2 hJ hk hS hV => ?_)
  have a0 := hJ.2.2.1 _ _ _ a0
  have l0 := hJ.2.2.2 _ _ l0
  have a1 := hJ.2.2.1 _ _ _ a1
  have l1 := hJ.2.2.2 _ _ l1
  have hO := hO.grown hk
  have o2 : q1 < q2 := by have := hsz1; omega
  have hO0 := hO
  refine sx_putF EE hin hO rfl i_Ke t_Ke tok_Ke n_Ke 2 (by decide) rfl fl_Ke_18 (ty := t_Ke 2) (by decide +kernel) rfl rfl (Nat.le_of_ble_eq_true rfl) hEo hS d_Ke_init_25 (fun H1 locs hO hJ hs hS => ?_)
  have a0 := hJ.2.2.1 _ _ _ a0
  have l0 := hJ.2.2.2 _ _ l0
  have a1 := hJ.2.2.1 _ _ _ a1
  have l1 := hJ.2.2.2 _ _ l1
  have a2 := hJ.2.2.1 _ _ _ a2
  have l2 := hJ.2.2.2 _ _ l2
  have hO : va_P D classes [(ko, .inr (10, [.ref q0, .ref q1, .ref q2, .null, .int 0]))] H1 := hO
  have hV := (vx_obj hG hK.1 hO0 hO hs).trans hV
  have hsz2 : q2 + 1 ≤ H1.size := by have := hJ.1; omega
  refine lv_aload_n hx hb d_Ke_init_28 rfl (lv_at hl 0 rfl) ?_
  refine lv_bipush (v := nI 32) hx hb d_Ke_init_29 (by decide +kernel) ?_
  refine vx_newa (cells' := 4) (slots' := 128) hx hb hG hts rfl (Or.inr (Or.inl rfl)) (by decide +kernel) (by decide) (by decide) rfl rfl (Nat.le_of_ble_eq_true rfl) (Nat.le_of_ble_eq_true rfl) hS hV d_Ke_init_31 (fun q3 H eq3 hz3 a3 l3 hJ hk hS hV => ?_)
  have a0 := hJ.2.2.1 _ _ _ a0
  have l0 := hJ.2.2.2 _ _ l0
  have a1 := hJ.2.2.1 _ _ _ a1
  have l1 := hJ.2.2.2 _ _ l1
  have a2 := hJ.2.2.1 _ _ _ a2
  have l2 := hJ.2.2.2 _ _ l2
  have hO := hO.grown hk
  have o3 : q2 < q3 := by have := hsz2; omega
  have hO0 := hO
  refine sx_putF EE hin hO rfl i_Ke t_Ke tok_Ke n_Ke 3 (by decide) rfl fl_Ke_21 (ty := t_Ke 3) (by decide +kernel) rfl rfl (Nat.le_of_ble_eq_true rfl) hEo hS d_Ke_init_33 (fun H1 locs hO hJ hs hS => ?_)
  have a0 := hJ.2.2.1 _ _ _ a0
  have l0 := hJ.2.2.2 _ _ l0
  have a1 := hJ.2.2.1 _ _ _ a1
  have l1 := hJ.2.2.2 _ _ l1
  have a2 := hJ.2.2.1 _ _ _ a2
  have l2 := hJ.2.2.2 _ _ l2
  have a3 := hJ.2.2.1 _ _ _ a3
  have l3 := hJ.2.2.2 _ _ l3
  have hO : va_P D classes [(ko, .inr (10, [.ref q0, .ref q1, .ref q2, .ref q3, .int 0]))] H1 := hO
  have hV := (vx_obj hG hK.1 hO0 hO hs).trans hV
  have hsz3 : q3 + 1 ≤ H1.size := by have := hJ.1; omega
  refine hret _ _ _ _ ⟨fun j => match j with | 0 => q0 | 1 => q1 | 2 => q2 | _ => q3, hO, fun j hj => ?_, o1, o2, o3, hV⟩ hS.1 hS.2.2 d_Ke_init_36
  rcases (show j = 0 ∨ j = 1 ∨ j = 2 ∨ j = 3 by omega) with rfl | rfl | rfl | rfl
  · exact ⟨a0, l0, by show H0.size ≤ q0; omega, by show q0 < _; omega⟩
  · exact ⟨a1, l1, by show H0.size ≤ q1; omega, by show q1 < _; omega⟩
  · exact ⟨a2, l2, by show H0.size ≤ q2; omega, by show q2 < _; omega⟩
  · exact ⟨a3, l3, by show H0.size ≤ q3; omega, by show q3 < _; omega⟩
set_option maxHeartbeats 4000000 in
set_option maxRecDepth 100000 in
theorem v_K_key {l : Launch} {D : va_G} {g : ClassId → FieldType → Prop} {H0 : Heap} {X : vM} {x kA re ve ta ma kc rl : Nat} {kq : Nat → Nat → Nat} {sg za : Int32} {bt nt : Nat} {fk : Nat → Value} (hX : va_P D classes [(x, .inr (1, [.ref kA, .ref re, .ref ve, .ref (kq 1 99), .ref (kq 2 99), .ref (kq 7 99), .ref ta, .ref ma, .int (nI (kc)), .int (nI (rl)), .int sg, .int za]))] H0) (hT : va_P D classes [(ta, .inr (9, [.ref bt, .int (nI (32))]))] H0) (hA : ka_ D H0 kA fk) (nxt : x ≠ ta) (nxA : x ≠ kA) (ntA : ta ≠ kA) (fb : sx_A g .byte H0 bt nt) (hnt : 32 ≤ nt ∧ nt ≤ 65536) (hw : kc < 100) (hV : mm g H0 = X) : Met l y_K_key (.code y_K_key b_K_key 2 (some .int) :: G_) { frames := 3, cells := 5, slots := 133, locals := 120 } (sx_Pc [.ref x] H0 D g) (px_Q g (fun z => z = x ∨ z = ta ∨ z = kA ∨ H0.size ≤ z) H0 (nI kc) (fun H => ∃ (ko : Nat) (q : Nat → Nat), H0.size ≤ ko ∧ va_P D classes [(ko, .inr (10, [.ref (q 0), .ref (q 1), .ref (q 2), .ref (q 3), .int 0]))] H ∧ ka_ D H kA (updV fk kc (.ref ko)) ∧ va_P D classes [(x, .inr (1, [.ref kA, .ref re, .ref ve, .ref (kq 1 99), .ref (kq 2 99), .ref (kq 7 99), .ref ta, .ref ma, .int (nI (kc + 1)), .int (nI (rl)), .int sg, .int za]))] H ∧ va_P D classes [(ta, .inr (9, [.ref bt, .int (nI (0))]))] H ∧ (∀ j, j < 4 → sx_A g .byte H (q j) 32 ∧ sx_L H (q j) 32 ∧ ko < q j ∧ q j < Array.size H) ∧ q 0 < q 1 ∧ q 1 < q 2 ∧ q 2 < q 3 ∧ mm g H = cpI X bt 0 (q 0) 0 32)) 5 133 (fun z => z = x ∨ z = ta ∨ z = kA ∨ H0.size ≤ z) := by
  refine px_miA (P := fun H => ∃ (ko : Nat) (q : Nat → Nat), H0.size ≤ ko ∧ va_P D classes [(ko, .inr (10, [.ref (q 0), .ref (q 1), .ref (q 2), .ref (q 3), .int 0]))] H ∧ ka_ D H kA (updV fk kc (.ref ko)) ∧ va_P D classes [(x, .inr (1, [.ref kA, .ref re, .ref ve, .ref (kq 1 99), .ref (kq 2 99), .ref (kq 7 99), .ref ta, .ref ma, .int (nI (kc + 1)), .int (nI (rl)), .int sg, .int za]))] H ∧ va_P D classes [(ta, .inr (9, [.ref bt, .int (nI (0))]))] H ∧ (∀ j, j < 4 → sx_A g .byte H (q j) 32 ∧ sx_L H (q j) 32 ∧ ko < q j ∧ q j < Array.size H) ∧ q 0 < q 1 ∧ q 1 < q 2 ∧ q 2 < q 3 ∧ mm g H = cpI X bt 0 (q 0) 0 32) (own := R_K) (by decide) rfl (Nat.le_of_ble_eq_true rfl) ?_
  intro p e s m args below meth c Q ls EE hl hret
  obtain ⟨hx, hb, hml, hown, hts, hG, hK⟩ := id EE
  have hS : sx_S g (fun z => z = x ∨ z = ta ∨ z = kA ∨ H0.size ≤ z) (fun z => z = x ∨ z = ta ∨ z = kA ∨ H0.size ≤ z) H0 H0 [] := sx_S.rf
  have hl : lv_has ls 2 [(0, .ref x)] := hl
  have hX0 := hX
  have hT0 := hT
  have lx0 := (hX 0 _ rfl).lt
  have lt0 := (hT 0 _ rfl).lt
  have lA0 := hA.lt
  refine lv_aload_n hx hb d_K_key_0 rfl (lv_at hl 0 rfl) ?_
  refine lv_bipush (v := nI 32) hx hb d_K_key_1 (by decide +kernel) ?_
  refine px_gv (E' := (fun _ => False)) (P := fun H1 => H0 = H1) (sx_runV (As := [.int (nI 32)]) (rest := []) EE hX rfl rfl (v_K_requireTapeE hX hT) w_K_85 rfl ⟨rfl, rfl⟩ ⟨Nat.le_of_ble_eq_true rfl, Nat.le_of_ble_eq_true rfl⟩ ⟨Nat.zero_le _, Nat.zero_le _⟩ hl.1 rfl (Nat.le_of_ble_eq_true rfl) d_K_key_3) (fun _ h => h.elim) hS (fun H1 locs hJ_ hP hS => ?_)
  obtain rfl := hP
  refine lv_aload_n hx hb d_K_key_6 rfl (lv_at hl 0 rfl) ?_
  refine sx_get (v := .int (nI kc)) EE hX rfl i_K 8 (by decide) rfl fl_K_88 rfl d_K_key_7 ?_
  refine lv_bipush (v := nI 100) hx hb d_K_key_10 (by decide +kernel) ?_
  refine lv_icmp_lt (tgt := 25) hx hb d_K_key_12 (by decide) (fun _ => ?_) (fun q => absurd ((nI_ltI (a := kc) (b := 100) (by omega) (by omega)).mpr (by omega)) q)
  refine sx_newo (ci := 10) (fs := [.null, .null, .null, .null, .int 0]) (cells' := 1) (slots' := 5) EE rfl i_Ke t_Ke tok_Ke nw_K_12 (by decide) rfl rfl (Nat.le_of_ble_eq_true rfl) (Nat.le_of_ble_eq_true rfl) d_K_key_25 (fun ko Hk ek hO sk hk => ?_)
  have zk : H0.size ≤ Hk.size := by omega
  have hJk : sx_J g (fun z => z = x ∨ z = ta ∨ z = kA ∨ H0.size ≤ z) H0 Hk := sx_J.grow zk hk
  have hX := hX.grown hk
  have hT := hT.grown hk
  have hA : ka_ D Hk kA fk := hA.kept (hk kA hA.lt)
  have hV : mm g Hk = X := by
    rw [← hV]
    refine mm_grw hk (fun z hz j => ?_)
    by_cases hq : z = ko
    · rw [hq]; exact mm_obj0 hG hK.1 hO j
    · exact mm_none (Array.getElem?_eq_none (by omega)) j
  have hS : sx_S g (fun z => z = x ∨ z = ta ∨ z = kA ∨ H0.size ≤ z) (fun z => z = x ∨ z = ta ∨ z = kA ∨ H0.size ≤ z) H0 Hk locs := ⟨hS.1.tr hJk, hS.2⟩
  refine lv_dup hx hb d_K_key_28 rfl ?_
  refine sx_gI (F := (fun z => z = x ∨ z = ta ∨ z = kA ∨ H0.size ≤ z)) (E' := fun z => z = ko ∨ Hk.size ≤ z) (P := fun H => ∃ q : Nat → Nat, va_P D classes [(ko, .inr (10, [.ref (q 0), .ref (q 1), .ref (q 2), .ref (q 3), .int 0]))] H ∧ (∀ j, j < 4 → sx_A g .byte H (q j) 32 ∧ sx_L H (q j) 32 ∧ Array.size Hk ≤ q j ∧ q j < Array.size H) ∧ q 0 < q 1 ∧ q 1 < q 2 ∧ q 2 < q 3 ∧ mm g H = X) (cells' := 5) (slots' := 133) (mc := 4) (ms := 128) (sx_runIN (As := []) (rest := [.ref ko]) EE (v_Ke_init (E := fun z => z = ko ∨ Hk.size ≤ z) (X := X) (Or.inl rfl) hO hV) il_K_93 iw_K_93 rfl rfl ⟨rfl, rfl⟩ ⟨Nat.le_of_ble_eq_true rfl, Nat.le_of_ble_eq_true rfl⟩ ⟨Nat.le_of_ble_eq_true rfl, Nat.le_of_ble_eq_true rfl⟩ hl.1 rfl (Nat.le_of_ble_eq_true rfl) d_K_key_29) (fun z h => by rcases h with h | h; exact Or.inr (Or.inr (Or.inr (by omega))); exact Or.inr (Or.inr (Or.inr (by omega)))) hS.2.2 rfl rfl (fun H2 locs hJ hP hlo => ?_)
  obtain ⟨q, hO, hq, o1, o2, o3, hV⟩ := hP
  have hJ0 : sx_J g (fun z => z = x ∨ z = ta ∨ z = kA ∨ H0.size ≤ z) H0 H2 := hS.1.tr (hJ.mono (fun z h => by rcases h with h | h; exact Or.inr (Or.inr (Or.inr (by omega))); exact Or.inr (Or.inr (Or.inr (by omega)))))
  have zq := (hq 0 (by decide)).2.2.1
  have lz := (hO 0 _ rfl).lt
  have hX := hJ.ob (fun h => by rcases h with h | h <;> omega) hX
  have hT := hJ.ob (fun h => by rcases h with h | h <;> omega) hT
  have hA := hA.j hJ (fun h => by rcases h with h | h <;> omega)
  have f2 := hJ0.2.2.1 _ _ _ fb
  refine lv_astore_n (lv' := [(1, .ref ko), (0, .ref x)]) hx hb d_K_key_32 rfl hl (by decide) rfl (fun ls hl => ?_)
  refine lv_aload_n hx hb d_K_key_33 rfl (lv_at hl 1 rfl) ?_
  refine sx_get (v := .ref ta) EE hX rfl i_K 6 (by decide) rfl fl_K_54 rfl d_K_key_34 ?_
  refine sx_getN (v := .ref bt) EE hT rfl i_Ro 0 (by decide) rfl fn_K_94 rfl d_K_key_37 ?_
  refine lv_iconst (v := nI 0) hx hb d_K_key_40 (by decide +kernel) ?_
  refine lv_aload_n hx hb d_K_key_41 rfl (lv_at hl 0 rfl) ?_
  refine sx_getN (v := .ref (q 0)) EE hO rfl i_Ke 0 (by decide) rfl fn_K_97 rfl d_K_key_42 ?_
  refine lv_iconst (v := nI 0) hx hb d_K_key_45 (by decide +kernel) ?_
  refine lv_bipush (v := nI 32) hx hb d_K_key_46 (by decide +kernel) ?_
  refine vx_cpyB (E := fun z => z = q 0) (F := (fun z => z = x ∨ z = ta ∨ z = kA ∨ H0.size ≤ z)) (H0 := H2) hx hb (by rw [hml]; exact hl.1.symm) hown (hts (.methodLink R_K 100 arraycopyName) (by decide +kernel)) (hts (.native arraycopyName) (by decide +kernel)) (hts (.static arraycopyName) (by decide +kernel)) (hts (.initialized "java/lang/System") (by decide +kernel)) hG ⟨sx_J.rf, fun z h => h ▸ Or.inr (Or.inr (Or.inr (by omega))), hlo⟩ hV f2 (hq 0 (by decide)).1 rfl (by omega) (by decide) (by omega) (by decide) (Nat.le_of_ble_eq_true rfl) (Nat.le_of_ble_eq_true rfl) d_K_key_48 (fun H3 locs X1 eX1 hS1 hV => ?_)
  subst eX1
  have hX := hS1.1.ob (fun z => vx_ne hG hK.1 hX (hq 0 (by decide)).1 z.symm) hX
  have hT := hS1.1.ob (fun z => vx_ne hG hK.1 hT (hq 0 (by decide)).1 z.symm) hT
  have hO := hS1.1.ob (fun z => vx_ne hG hK.1 hO (hq 0 (by decide)).1 z.symm) hO
  have hA := hA.j hS1.1 (fun z => by omega)
  have hS : sx_S g (fun z => z = x ∨ z = ta ∨ z = kA ∨ H0.size ≤ z) (fun z => z = x ∨ z = ta ∨ z = kA ∨ H0.size ≤ z) H0 H3 locs := ⟨hJ0.tr (hS1.1.mono (fun z h => h ▸ Or.inr (Or.inr (Or.inr (by omega))))), fun _ h => h, hS1.2.2⟩
  have hq3 : ∀ j, j < 4 → sx_A g .byte H3 (q j) 32 ∧ sx_L H3 (q j) 32 := fun j hj => ⟨hS1.1.2.2.1 _ _ _ (hq j hj).1, hS1.1.2.2.2 _ _ (hq j hj).2.1⟩
  have z3 : H2.size ≤ H3.size := hS1.1.1
  refine lv_aload_n hx hb d_K_key_51 rfl (lv_at hl 1 rfl) ?_
  refine sx_get (v := .ref kA) EE hX rfl i_K 0 (by decide) rfl fl_K_14 rfl d_K_key_52 ?_
  refine lv_aload_n hx hb d_K_key_55 rfl (lv_at hl 1 rfl) ?_
  refine sx_get (v := .int (nI kc)) EE hX rfl i_K 8 (by decide) rfl fl_K_88 rfl d_K_key_56 ?_
  refine lv_aload_n hx hb d_K_key_59 rfl (lv_at hl 0 rfl) ?_
  refine vx_kast EE hA hO hw (Or.inr (Or.inr (Or.inl rfl))) hS d_K_key_60 (fun H4 locs hA4 hJ4 hs4 hS => ?_)
  have hV := (ka_mm hA hA4 hs4).trans hV
  have hX := hX.one hs4 nxA
  have hT := hT.one hs4 ntA
  have hO := hO.one hs4 (by omega)
  refine lv_aload_n hx hb d_K_key_61 rfl (lv_at hl 1 rfl) ?_
  refine lv_dup hx hb d_K_key_62 rfl ?_
  refine sx_get (v := .int (nI kc)) EE hX rfl i_K 8 (by decide) rfl fl_K_88 rfl d_K_key_63 ?_
  refine lv_iconst (v := nI 1) hx hb d_K_key_66 (by decide +kernel) ?_
  refine lv_iadd hx hb d_K_key_67 ?_
  refine sx_ti (y := nI (kc + 1)) (nI_add _ _) ?_
  have hX4 := hX
  refine sx_put (E := (fun z => z = x ∨ z = ta ∨ z = kA ∨ H0.size ≤ z)) (v := .int (nI (kc + 1))) EE hX rfl i_K t_K tok_K n_K 8 (by decide) rfl fl_K_88 (ty := t_K 8) (by decide +kernel) rfl rfl (Nat.le_of_ble_eq_true rfl) (Or.inl rfl) hS d_K_key_68 (fun H5 locs hX hJ5 hs5 hS => ?_)
  have hX : va_P D classes [(x, .inr (1, [.ref kA, .ref re, .ref ve, .ref (kq 1 99), .ref (kq 2 99), .ref (kq 7 99), .ref ta, .ref ma, .int (nI (kc + 1)), .int (nI (rl)), .int sg, .int za]))] H5 := hX
  have hV := (vx_obj hG hK.1 hX4 hX hs5).trans hV
  have hT := hT.one hs5 (Ne.symm nxt)
  have hO := hO.one hs5 (by omega)
  have hA5 := hA4.kept (hs5 kA (Ne.symm nxA))
  refine lv_aload_n hx hb d_K_key_71 rfl (lv_at hl 1 rfl) ?_
  refine sx_get (v := .ref ta) EE hX rfl i_K 6 (by decide) rfl fl_K_54 rfl d_K_key_72 ?_
  refine lv_iconst (v := nI 0) hx hb d_K_key_75 (by decide +kernel) ?_
  have hT5 := hT
  refine sx_putN (E := (fun z => z = x ∨ z = ta ∨ z = kA ∨ H0.size ≤ z)) (v := .int (nI 0)) EE hT rfl i_Ro t_Ro tok_Ro n_Ro 1 (by decide) rfl fn_K_76 (ty := t_Ro 1) (by decide +kernel) rfl rfl (Nat.le_of_ble_eq_true rfl) (Or.inr (Or.inl rfl)) hS d_K_key_76 (fun H6 locs hT hJ6 hs6 hS => ?_)
  have hT : va_P D classes [(ta, .inr (9, [.ref bt, .int (nI (0))]))] H6 := hT
  have hV := (vx_obj hG hK.1 hT5 hT hs6).trans hV
  have hX := hX.one hs6 nxt
  have hO := hO.one hs6 (by omega)
  have hA6 := hA5.kept (hs6 kA (Ne.symm ntA))
  refine lv_aload_n hx hb d_K_key_79 rfl (lv_at hl 1 rfl) ?_
  refine sx_get (v := .int (nI (kc + 1))) EE hX rfl i_K 8 (by decide) rfl fl_K_88 rfl d_K_key_80 ?_
  refine lv_iconst (v := nI 1) hx hb d_K_key_83 (by decide +kernel) ?_
  refine lv_isub hx hb d_K_key_84 ?_
  refine sx_ti (y := nI kc) (pk_sub (a := kc + 1) (b := 1) (by omega)) ?_
  have z6 := (hJ4.tr (hJ5.tr hJ6))
  exact hret _ _ _ _ ⟨ko, q, by omega, hO, hA6, hX, hT, fun j hj => ⟨z6.2.2.1 _ _ _ (hq3 j hj).1, z6.2.2.2 _ _ (hq3 j hj).2, by have := (hq j hj).2.2.1; omega, by have := (hq j hj).2.2.2; have := z6.1; omega⟩, o1, o2, o3, hV⟩ hS d_K_key_85
