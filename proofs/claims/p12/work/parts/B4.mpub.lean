def LF_M_verify_a (X : vM) (r : Nat → Nat) (ms : Nat) (rs : Nat) (kc : Nat) : vM × Int32 := (let X2 : vM := (LF_M_verified X r ms).1; let X3 : vM := stI X2 (r 9) (1 + (((LF_M_verified X r ms).2).toNatClampNeg)) ((X2.2 (r 9) (1 + (((LF_M_verified X r ms).2).toNatClampNeg))) + (nI 1)); (X3, (nI (((LF_M_verified X r ms).2).toNatClampNeg))))
abbrev rm_M_verify_a : Room := { frames := 7, cells := 0, slots := 0, locals := 173 }
set_option maxHeartbeats 4000000 in
set_option maxRecDepth 100000 in
theorem v_M_verify_a {l : Launch} {D : va_G} {g : ClassId → FieldType → Prop} {E : Nat → Prop} {H0 : Heap} {X : vM} {o : Nat} {r : Nat → Nat} {th : Int32} {ms : Nat} {rs : Nat} {kc : Nat} (hM0 : va_P D classes [(o, .inr (0, mo_fs r (mi th (nI 96) (nI ms) (nI rs) (nI kc))))] H0) (eM : E o) (hA : ∀ q ∈ mo_arr, sx_A g q.2.1 H0 (r q.1) q.2.2) (hW : ∀ q ∈ mo_arr, E (r q.1))  (h_ms : ms ≤ 65536) (h_rs : rs ≤ 64) (h_kc : kc ≤ 100) (hV : mm g H0 = X) : Met l y_M_verify (.code y_M_verify b_M_verify 2 (some .int) :: G_) rm_M_verify_a (sx_Pc [.ref o] H0 D g) (vx_QiP g E H0 (LF_M_verify_a X r ms rs kc).1 (LF_M_verify_a X r ms rs kc).2 (fun H => va_P D classes [(o, .inr (0, mo_fs r (mi (nI 0) (nI 0) (nI ms) (nI rs) (nI kc))))] H)) 0 0 E := by
  refine vx_miP (own := R_M) (by decide) rfl rfl rfl (Nat.le_of_ble_eq_true rfl) ?_
  intro p e s m args below meth c Q ls EE hl hret
  obtain ⟨hx, hb, hml, hown, hts, hG, hK⟩ := id EE
  have hS : sx_S g E E H0 H0 [] := sx_S.rf
  have hl : lv_has ls 2 [(0, .ref o)] := hl
  refine lv_aload_n hx hb d_M_verify_0 rfl (lv_at hl 0 rfl) ?_
  refine lv_iconst (v := nI 0) hx hb d_M_verify_1 (by decide +kernel) ?_
  have h0_ := hM0
  refine sx_put EE hM0 rfl i_M t_M tok_M n_M 0 (by decide) rfl fl_M_211 (ty := .int) (by decide +kernel) rfl rfl (Nat.le_of_ble_eq_true rfl) eM hS d_M_verify_2 (fun H locs hM0 hJ_ hs_ hS => ?_)
  have hM0 : va_P D classes [(o, .inr (0, mo_fs r (mi (nI 0) (nI 96) (nI ms) (nI rs) (nI kc))))] H := hM0
  have hV := (vx_obj hG hK.1 h0_ hM0 hs_).trans hV
  refine lv_aload_n hx hb d_M_verify_5 rfl (lv_at hl 0 rfl) ?_
  refine sx_get EE hM0 rfl i_M 5 (by decide) rfl fl_M_315 rfl d_M_verify_6 ?_
  refine W.eq (g2 := F0 m 9 ls [.int (nI (96))]) rfl ?_
  refine lv_bipush (v := nI 96) hx hb d_M_verify_9 (by decide +kernel) ?_
  refine lv_icmp_eq (tgt := 20) hx hb d_M_verify_11 (by decide) (fun _ => ?_) (fun q11_0 => absurd (show 96 = 96 by decide) (by have q11_0 : ¬ (96 = 96) := fun z => q11_0 ((nI_eq (a := 96) (b := 96) (by omega) (by omega)).mpr z); exact q11_0))
  refine lv_aload_n hx hb d_M_verify_20 rfl (lv_at hl 0 rfl) ?_
  have hA_ : ∀ q ∈ mo_arr, sx_A g q.2.1 H (r q.1) q.2.2 := fun q hq => hS.1.2.2.1 _ _ _ (hA q hq)
  refine vx_giJ (sx_runV (As := []) (rest := []) EE hM0 rfl rfl (v_M_verified (E := cutE E o) (X := X) ⟨hM0, hA_⟩ (fun z_ => z_.2 rfl) (mo_cut hG hK.1 hM0 hA_ hW) rfl (by omega) hV) w_M_349 rfl ⟨rfl, rfl⟩ ⟨Nat.le_of_ble_eq_true rfl, Nat.le_of_ble_eq_true rfl⟩ ⟨Nat.zero_le _, Nat.zero_le _⟩ hl.1 rfl (Nat.le_of_ble_eq_true rfl) d_M_verify_21) (fun z_ h_ => h_.1) hS (fun H locs X2 eX2 hS hV hJ_ => ?_)
  have hM0 := hJ_.ob (fun z_ => z_.2 rfl) hM0
  refine sx_ti (y := nI ((LF_M_verified X r ms).2).toNatClampNeg) (vr_n _ _ _).1 ?_
  have hvr := (vr_n X r ms).2
  refine lv_istore_n (lv' := [(1, .int (nI (((LF_M_verified X r ms).2).toNatClampNeg))), (0, .ref o)]) hx hb d_M_verify_24 rfl hl (by decide) rfl (fun ls hl => ?_)
  refine lv_aload_n hx hb d_M_verify_25 rfl (lv_at hl 1 rfl) ?_
  refine lv_iconst (v := nI 0) hx hb d_M_verify_26 (by decide +kernel) ?_
  have h0_ := hM0
  refine sx_put EE hM0 rfl i_M t_M tok_M n_M 5 (by decide) rfl fl_M_315 (ty := .int) (by decide +kernel) rfl rfl (Nat.le_of_ble_eq_true rfl) eM hS d_M_verify_27 (fun H locs hM0 hJ_ hs_ hS => ?_)
  have hM0 : va_P D classes [(o, .inr (0, mo_fs r (mi (nI 0) (nI 0) (nI ms) (nI rs) (nI kc))))] H := hM0
  have hV := (vx_obj hG hK.1 h0_ hM0 hs_).trans hV
  refine lv_aload_n hx hb d_M_verify_30 rfl (lv_at hl 1 rfl) ?_
  refine sx_get EE hM0 rfl i_M 9 (by decide) rfl fl_M_23 rfl d_M_verify_31 ?_
  refine W.eq (g2 := F0 m 34 ls [.ref (r 9)]) rfl ?_
  refine lv_iconst (v := nI 1) hx hb d_M_verify_34 (by decide +kernel) ?_
  refine lv_iload_n hx hb d_M_verify_35 rfl (lv_at hl 0 rfl) ?_
  refine lv_iadd hx hb d_M_verify_36 ?_
  refine sx_ti (y := nI (1 + (((LF_M_verified X r ms).2).toNatClampNeg))) (nI_add _ _) ?_
  refine lv_dup2_11 hx hb d_M_verify_37 rfl rfl ?_
  refine vx_iald hx hb hG hS hV (moA_9 hA) (by omega) (by decide) d_M_verify_38 ?_
  refine lv_iconst (v := nI 1) hx hb d_M_verify_39 (by decide +kernel) ?_
  refine lv_iadd hx hb d_M_verify_40 ?_
  refine vx_iastJ hx hb hG hK.1 hS hV (moA_9 hA) (moW_9 hW) (by omega) (by decide) d_M_verify_41 (fun H locs X3 eX3 hS hV hO => ?_)
  have hM0 := hO _ _ hM0
  refine lv_iload_n hx hb d_M_verify_42 rfl (lv_at hl 0 rfl) ?_
  have hp : LF_M_verify_a X r ms rs kc = (X3, (nI (((LF_M_verified X r ms).2).toNatClampNeg))) := (by subst eX2 eX3; exact rfl)
  exact hret _ _ _ _ _ _ (congrArg Prod.fst hp :) (congrArg Prod.snd hp :) hM0 hS hV d_M_verify_43
def LF_M_verify_b (X : vM) (r : Nat → Nat) (tp : Nat) (ms : Nat) (rs : Nat) (kc : Nat) : vM × Int32 := (let X2 : vM := (LF_M_fail X r (nI 1) tp ms rs kc).1; (X2, (nI 0)))
abbrev rm_M_verify_b : Room := { frames := 1, cells := 0, slots := 0, locals := 21 }
set_option maxHeartbeats 4000000 in
set_option maxRecDepth 100000 in
theorem v_M_verify_b {l : Launch} {D : va_G} {g : ClassId → FieldType → Prop} {E : Nat → Prop} {H0 : Heap} {X : vM} {o : Nat} {r : Nat → Nat} {th : Int32} {tp : Nat} {ms : Nat} {rs : Nat} {kc : Nat} (hM0 : va_P D classes [(o, .inr (0, mo_fs r (mi th (nI tp) (nI ms) (nI rs) (nI kc))))] H0) (eM : E o) (hA : ∀ q ∈ mo_arr, sx_A g q.2.1 H0 (r q.1) q.2.2) (hW : ∀ q ∈ mo_arr, E (r q.1))  (h_tp : tp ≤ 65536) (h_ms : ms ≤ 65536) (h_rs : rs ≤ 64) (h_kc : kc ≤ 100) (hw : tp ≠ 96) (hV : mm g H0 = X) : Met l y_M_verify (.code y_M_verify b_M_verify 2 (some .int) :: G_) rm_M_verify_b (sx_Pc [.ref o] H0 D g) (vx_QiP g E H0 (LF_M_verify_b X r tp ms rs kc).1 (LF_M_verify_b X r tp ms rs kc).2 (fun H => va_P D classes [(o, .inr (0, mo_fs r (mi (nI 1) (nI tp) (nI ms) (nI rs) (nI kc))))] H)) 0 0 E := by
  refine vx_miP (own := R_M) (by decide) rfl rfl rfl (Nat.le_of_ble_eq_true rfl) ?_
  intro p e s m args below meth c Q ls EE hl hret
  obtain ⟨hx, hb, hml, hown, hts, hG, hK⟩ := id EE
  have hS : sx_S g E E H0 H0 [] := sx_S.rf
  have hl : lv_has ls 2 [(0, .ref o)] := hl
  refine lv_aload_n hx hb d_M_verify_0 rfl (lv_at hl 0 rfl) ?_
  refine lv_iconst (v := nI 0) hx hb d_M_verify_1 (by decide +kernel) ?_
  have h0_ := hM0
  refine sx_put EE hM0 rfl i_M t_M tok_M n_M 0 (by decide) rfl fl_M_211 (ty := .int) (by decide +kernel) rfl rfl (Nat.le_of_ble_eq_true rfl) eM hS d_M_verify_2 (fun H locs hM0 hJ_ hs_ hS => ?_)
  have hM0 : va_P D classes [(o, .inr (0, mo_fs r (mi (nI 0) (nI tp) (nI ms) (nI rs) (nI kc))))] H := hM0
  have hV := (vx_obj hG hK.1 h0_ hM0 hs_).trans hV
  refine lv_aload_n hx hb d_M_verify_5 rfl (lv_at hl 0 rfl) ?_
  refine sx_get EE hM0 rfl i_M 5 (by decide) rfl fl_M_315 rfl d_M_verify_6 ?_
  refine W.eq (g2 := F0 m 9 ls [.int (nI (tp))]) rfl ?_
  refine lv_bipush (v := nI 96) hx hb d_M_verify_9 (by decide +kernel) ?_
  refine lv_icmp_eq (tgt := 20) hx hb d_M_verify_11 (by decide) (fun q11_0 => absurd (show tp = 96 by have q11_0 : tp = 96 := (nI_eq (a := tp) (b := 96) (by omega) (by omega)).mp q11_0; exact q11_0) (by omega)) (fun _ => ?_)
  refine lv_aload_n hx hb d_M_verify_14 rfl (lv_at hl 0 rfl) ?_
  refine lv_iconst (v := nI 1) hx hb d_M_verify_15 (by decide +kernel) ?_
  refine vx_giP (sx_runV (As := [.int (nI (1))]) (rest := []) EE hM0 rfl rfl (v_M_fail (X := X) hM0 eM (fun q hq => hS.1.2.2.1 _ _ _ (hA q hq)) hW (h_tp := by omega) (h_ms := by omega) (h_rs := by omega) (h_kc := by omega) hV) w_M_319 rfl ⟨rfl, rfl⟩ ⟨Nat.le_of_ble_eq_true rfl, Nat.le_of_ble_eq_true rfl⟩ ⟨Nat.zero_le _, Nat.zero_le _⟩ hl.1 rfl (Nat.le_of_ble_eq_true rfl) d_M_verify_16) (fun z_ h_ => h_) hS (fun H locs X2 eX2 hM0 hS hV hJ_ => ?_)
  have hM0 : va_P D classes [(o, .inr (0, mo_fs r (mi (nI 1) (nI tp) (nI ms) (nI rs) (nI kc))))] H := hM0
  have hp : LF_M_verify_b X r tp ms rs kc = (X2, (nI 0)) := (by subst eX2; exact rfl)
  exact hret _ _ _ _ _ _ (congrArg Prod.fst hp :) (congrArg Prod.snd hp :) hM0 hS hV d_M_verify_19
def LF_M_point_b (X : vM) (r : Nat → Nat) (tp : Nat) (ms : Nat) (rs : Nat) (kc : Nat) : vM × Bool := (X, false)
abbrev rm_M_point_b : Room := { frames := 0, cells := 0, slots := 0, locals := 0 }
set_option maxHeartbeats 4000000 in
set_option maxRecDepth 100000 in
theorem v_M_point_b {l : Launch} {D : va_G} {g : ClassId → FieldType → Prop} {E : Nat → Prop} {H0 : Heap} {X : vM} {o : Nat} {r : Nat → Nat} {th : Int32} {tp : Nat} {ms : Nat} {rs : Nat} {kc : Nat} (hM0 : va_P D classes [(o, .inr (0, mo_fs r (mi th (nI tp) (nI ms) (nI rs) (nI kc))))] H0) (eM : E o) (hA : ∀ q ∈ mo_arr, sx_A g q.2.1 H0 (r q.1) q.2.2) (hW : ∀ q ∈ mo_arr, E (r q.1))  (h_tp : tp ≤ 65536) (h_ms : ms ≤ 65536) (h_rs : rs ≤ 64) (h_kc : kc ≤ 100) (hw : tp ≠ 32) (hV : mm g H0 = X) : Met l y_M_point (.code y_M_point b_M_point 2 (some .boolean) :: G_) rm_M_point_b (sx_Pc [.ref o] H0 D g) (vx_QiP g E H0 (LF_M_point_b X r tp ms rs kc).1 (nI (LF_M_point_b X r tp ms rs kc).2.toNat) (fun H => va_P D classes [(o, .inr (0, mo_fs r (mi (nI 1) (nI tp) (nI ms) (nI rs) (nI kc))))] H)) 0 0 E := by
  refine vx_mzP (own := R_M) (by decide) rfl rfl rfl (Nat.le_of_ble_eq_true rfl) ?_
  intro p e s m args below meth c Q ls EE hl hret
  obtain ⟨hx, hb, hml, hown, hts, hG, hK⟩ := id EE
  have hS : sx_S g E E H0 H0 [] := sx_S.rf
  have hl : lv_has ls 2 [(0, .ref o)] := hl
  refine lv_aload_n hx hb d_M_point_0 rfl (lv_at hl 0 rfl) ?_
  refine lv_iconst (v := nI 0) hx hb d_M_point_1 (by decide +kernel) ?_
  have h0_ := hM0
  refine sx_put EE hM0 rfl i_M t_M tok_M n_M 0 (by decide) rfl fl_M_211 (ty := .int) (by decide +kernel) rfl rfl (Nat.le_of_ble_eq_true rfl) eM hS d_M_point_2 (fun H locs hM0 hJ_ hs_ hS => ?_)
  have hM0 : va_P D classes [(o, .inr (0, mo_fs r (mi (nI 0) (nI tp) (nI ms) (nI rs) (nI kc))))] H := hM0
  have hV := (vx_obj hG hK.1 h0_ hM0 hs_).trans hV
  refine lv_aload_n hx hb d_M_point_5 rfl (lv_at hl 0 rfl) ?_
  refine sx_get EE hM0 rfl i_M 5 (by decide) rfl fl_M_315 rfl d_M_point_6 ?_
  refine W.eq (g2 := F0 m 9 ls [.int (nI (tp))]) rfl ?_
  refine lv_bipush (v := nI 32) hx hb d_M_point_9 (by decide +kernel) ?_
  refine lv_icmp_eq (tgt := 21) hx hb d_M_point_11 (by decide) (fun q11_0 => absurd (show tp = 32 by have q11_0 : tp = 32 := (nI_eq (a := tp) (b := 32) (by omega) (by omega)).mp q11_0; exact q11_0) (by omega)) (fun _ => ?_)
  refine lv_aload_n hx hb d_M_point_14 rfl (lv_at hl 0 rfl) ?_
  refine lv_iconst (v := nI 1) hx hb d_M_point_15 (by decide +kernel) ?_
  have h0_ := hM0
  refine sx_put EE hM0 rfl i_M t_M tok_M n_M 0 (by decide) rfl fl_M_211 (ty := .int) (by decide +kernel) rfl rfl (Nat.le_of_ble_eq_true rfl) eM hS d_M_point_16 (fun H locs hM0 hJ_ hs_ hS => ?_)
  have hM0 : va_P D classes [(o, .inr (0, mo_fs r (mi (nI 1) (nI tp) (nI ms) (nI rs) (nI kc))))] H := hM0
  have hV := (vx_obj hG hK.1 h0_ hM0 hs_).trans hV
  refine lv_iconst (v := nI 0) hx hb d_M_point_19 (by decide +kernel) ?_
  have hp : LF_M_point_b X r tp ms rs kc = (X, false) := rfl
  exact hret _ _ _ _ _ false _ (congrArg Prod.fst hp :) (congrArg Prod.snd hp :) rfl hM0 hS hV d_M_point_20
def LL_M_point_23 (r : Nat → Nat) : Nat → vM → vM := fun i_0 s_1 => (let X_2 : vM := stI s_1 (r 35) i_0 ((s_1.2 (r 1) i_0).toInt8.toInt32); X_2)
def LL_M_point_63 (r : Nat → Nat) : Nat → vM → vM := fun i_0 s_1 => (let X_2 : vM := stI s_1 (r 35) i_0 (((((s_1.1 (r 20) (i_0 / 2)) >>> ((nI (8 * (i_0 % 2))).toInt64 &&& 63)).toInt32).toInt8.toInt32).toInt8.toInt32); X_2)
def LF_M_point_a (X : vM) (r : Nat → Nat) (ms : Nat) (rs : Nat) (kc : Nat) : vM × Bool := (let R4 : vM := lpU 1 (LL_M_point_23 r) 32 0 X; (let X6 : vM := (LF_M_decode R4 r).1; let R10 : vM := lpU 1 (LL_M_point_63 r) 32 0 X6; (let X12 : vM := (LF_M_tell R10 r (r 35) 0 32 0 ms rs kc); (X12, true))))
abbrev rm_M_point_a : Room := { frames := 5, cells := 0, slots := 0, locals := 130 }
set_option maxHeartbeats 4000000 in
set_option maxRecDepth 100000 in
theorem v_M_point_a {l : Launch} {D : va_G} {g : ClassId → FieldType → Prop} {E : Nat → Prop} {H0 : Heap} {X : vM} {o : Nat} {r : Nat → Nat} {th : Int32} {ms : Nat} {rs : Nat} {kc : Nat} (hM0 : va_P D classes [(o, .inr (0, mo_fs r (mi th (nI 32) (nI ms) (nI rs) (nI kc))))] H0) (eM : E o) (hA : ∀ q ∈ mo_arr, sx_A g q.2.1 H0 (r q.1) q.2.2) (hW : ∀ q ∈ mo_arr, E (r q.1))  (h_ms : ms ≤ 65536) (h_rs : rs ≤ 64) (h_kc : kc ≤ 100) (hw : (LF_M_decode (lpU 1 (LL_M_point_23 r) 32 0 X) r).2 = true) (hV : mm g H0 = X) : Met l y_M_point (.code y_M_point b_M_point 2 (some .boolean) :: G_) rm_M_point_a (sx_Pc [.ref o] H0 D g) (vx_QiP g E H0 (LF_M_point_a X r ms rs kc).1 (nI (LF_M_point_a X r ms rs kc).2.toNat) (fun H => va_P D classes [(o, .inr (0, mo_fs r (mi (nI 0) (nI 0) (nI ms) (nI 32) (nI kc))))] H)) 0 0 E := by
  refine vx_mzP (own := R_M) (by decide) rfl rfl rfl (Nat.le_of_ble_eq_true rfl) ?_
  intro p e s m args below meth c Q ls EE hl hret
  obtain ⟨hx, hb, hml, hown, hts, hG, hK⟩ := id EE
  have hS : sx_S g E E H0 H0 [] := sx_S.rf
  have hl : lv_has ls 2 [(0, .ref o)] := hl
  refine lv_aload_n hx hb d_M_point_0 rfl (lv_at hl 0 rfl) ?_
  refine lv_iconst (v := nI 0) hx hb d_M_point_1 (by decide +kernel) ?_
  have h0_ := hM0
  refine sx_put EE hM0 rfl i_M t_M tok_M n_M 0 (by decide) rfl fl_M_211 (ty := .int) (by decide +kernel) rfl rfl (Nat.le_of_ble_eq_true rfl) eM hS d_M_point_2 (fun H locs hM0 hJ_ hs_ hS => ?_)
  have hM0 : va_P D classes [(o, .inr (0, mo_fs r (mi (nI 0) (nI 32) (nI ms) (nI rs) (nI kc))))] H := hM0
  have hV := (vx_obj hG hK.1 h0_ hM0 hs_).trans hV
  refine lv_aload_n hx hb d_M_point_5 rfl (lv_at hl 0 rfl) ?_
  refine sx_get EE hM0 rfl i_M 5 (by decide) rfl fl_M_315 rfl d_M_point_6 ?_
  refine W.eq (g2 := F0 m 9 ls [.int (nI (32))]) rfl ?_
  refine lv_bipush (v := nI 32) hx hb d_M_point_9 (by decide +kernel) ?_
  refine lv_icmp_eq (tgt := 21) hx hb d_M_point_11 (by decide) (fun _ => ?_) (fun q11_0 => absurd (show 32 = 32 by decide) (by have q11_0 : ¬ (32 = 32) := fun z => q11_0 ((nI_eq (a := 32) (b := 32) (by omega) (by omega)).mpr z); exact q11_0))
  refine lv_iconst (v := nI 0) hx hb d_M_point_21 (by decide +kernel) ?_
  refine lv_istore_n (lv' := [(1, .int (nI (0))), (0, .ref o)]) hx hb d_M_point_22 rfl hl (by decide) rfl (fun ls hl => ?_)
  obtain ⟨R4, eR4⟩ : ∃ t : vM, lpU 1 (LL_M_point_23 r) 32 0 X = t := ⟨_, rfl⟩
  refine lpU_go (σ := vM) (P := fun i2 s3 H locs ls => sx_S g E E H0 H locs ∧ mm g H = s3 ∧ va_P D classes [(o, .inr (0, mo_fs r (mi (nI 0) (nI 32) (nI ms) (nI rs) (nI kc))))] H ∧ lv_has ls 2 [(1, .int (nI (i2))), (0, .ref o)]) (Wd := fun H locs ls => W p l e rm_M_point_a s m args below meth c H locs 0 0 Q (F0 m 23 ls [])) (N := 32) (d := 1) (by decide) ?_ ?_ 32 0 _ (by omega) eR4 _ _ _ ⟨hS, hV, hM0, lv_sub hl [0, 1] rfl⟩
  · intro i2 s3 H locs ls hii2 hP ihi2
    obtain ⟨hS, hV, hM0, hl⟩ := hP
    refine lv_iload_n hx hb d_M_point_23 rfl (lv_at hl 0 rfl) ?_
    refine lv_bipush (v := nI 32) hx hb d_M_point_24 (by decide +kernel) ?_
    refine lv_icmp_ge (tgt := 47) hx hb d_M_point_26 (by decide) (fun q => absurd q (nI_ge (by omega) (by omega))) (fun _ => ?_)
    refine lv_aload_n hx hb d_M_point_29 rfl (lv_at hl 1 rfl) ?_
    refine sx_get EE hM0 rfl i_M 35 (by decide) rfl fl_M_103 rfl d_M_point_30 ?_
    refine W.eq (g2 := F0 m 33 ls [.ref (r 35)]) rfl ?_
    refine lv_iload_n hx hb d_M_point_33 rfl (lv_at hl 0 rfl) ?_
    refine lv_aload_n hx hb d_M_point_34 rfl (lv_at hl 1 rfl) ?_
    refine sx_get EE hM0 rfl i_M 1 (by decide) rfl fl_M_8 rfl d_M_point_35 ?_
    refine W.eq (g2 := F0 m 38 ls [.ref (r 1), .int (nI (i2)), .ref (r 35)]) rfl ?_
    refine lv_iload_n hx hb d_M_point_38 rfl (lv_at hl 0 rfl) ?_
    refine vx_bald hx hb hG hS hV (moA_1 hA) (by omega) (by decide) d_M_point_39 ?_
    refine vx_bastJ hx hb hG hK.1 hS hV (moA_35 hA) (moW_35 hW) (by omega) (by decide) d_M_point_40 (fun H locs X5 eX5 hS hV hO => ?_)
    have hM0 := hO _ _ hM0
    refine lv_iinc (v := nI (i2 + 1)) (lv' := [(1, .int (nI (i2 + 1))), (0, .ref o)]) hx hb d_M_point_41 hl (k := 0) rfl (sx_inc _ _) (by decide) rfl (fun ls hl => ?_)
    refine lv_goto (tgt := 23) hx hb d_M_point_44 (by decide) ?_
    exact ihi2 X5 _ _ _ (by subst eX5; exact rfl) ⟨hS, hV, hM0, lv_sub hl [0, 1] rfl⟩
  · intro H locs ls hP
    obtain ⟨hS, hV, hM0, hl⟩ := hP
    refine lv_iload_n hx hb d_M_point_23 rfl (lv_at hl 0 rfl) ?_
    refine lv_bipush (v := nI 32) hx hb d_M_point_24 (by decide +kernel) ?_
    refine lv_icmp_ge (tgt := 47) hx hb d_M_point_26 (by decide) (fun _ => ?_) (fun q => absurd (nI_le (by omega) (by omega)) q)
    refine lv_aload_n hx hb d_M_point_47 rfl (lv_at hl 1 rfl) ?_
    refine lv_iconst (v := nI 0) hx hb d_M_point_48 (by decide +kernel) ?_
    have h0_ := hM0
    refine sx_put EE hM0 rfl i_M t_M tok_M n_M 5 (by decide) rfl fl_M_315 (ty := .int) (by decide +kernel) rfl rfl (Nat.le_of_ble_eq_true rfl) eM hS d_M_point_49 (fun H locs hM0 hJ_ hs_ hS => ?_)
    have hM0 : va_P D classes [(o, .inr (0, mo_fs r (mi (nI 0) (nI 0) (nI ms) (nI rs) (nI kc))))] H := hM0
    have hV := (vx_obj hG hK.1 h0_ hM0 hs_).trans hV
    refine lv_aload_n hx hb d_M_point_52 rfl (lv_at hl 1 rfl) ?_
    have hA_ : ∀ q ∈ mo_arr, sx_A g q.2.1 H (r q.1) q.2.2 := fun q hq => hS.1.2.2.1 _ _ _ (hA q hq)
    refine vx_giJ (sx_runV (As := []) (rest := []) EE hM0 rfl rfl (v_M_decode (E := cutE E o) (X := R4) ⟨hM0, hA_⟩ (fun z_ => z_.2 rfl) (mo_cut hG hK.1 hM0 hA_ hW) hV) w_M_203 rfl ⟨rfl, rfl⟩ ⟨Nat.le_of_ble_eq_true rfl, Nat.le_of_ble_eq_true rfl⟩ ⟨Nat.zero_le _, Nat.zero_le _⟩ hl.1 rfl (Nat.le_of_ble_eq_true rfl) d_M_point_53) (fun z_ h_ => h_.1) hS (fun H locs X6 eX6 hS hV hJ_ => ?_)
    have hM0 := hJ_.ob (fun z_ => z_.2 rfl) hM0
    refine sx_ti (y := nI 1) (by subst eR4; rw [hw]; rfl) ?_
    refine lv_if_ne (tgt := 61) hx hb d_M_point_56 (by decide) (fun _ => ?_) (fun q56_6 => absurd (show 1 = 0 by have q56_6 : 1 = 0 := (nI_eq (a := 1) (b := 0) (by omega) (by omega)).mp q56_6; exact q56_6) (by decide))
    refine lv_iconst (v := nI 0) hx hb d_M_point_61 (by decide +kernel) ?_
    refine lv_istore_n (lv' := [(1, .int (nI (0))), (0, .ref o)]) hx hb d_M_point_62 rfl hl (by decide) rfl (fun ls hl => ?_)
    obtain ⟨R10, eR10⟩ : ∃ t : vM, lpU 1 (LL_M_point_63 r) 32 0 X6 = t := ⟨_, rfl⟩
    refine lpU_go (σ := vM) (P := fun i8 s9 H locs ls => sx_S g E E H0 H locs ∧ mm g H = s9 ∧ va_P D classes [(o, .inr (0, mo_fs r (mi (nI 0) (nI 0) (nI ms) (nI rs) (nI kc))))] H ∧ lv_has ls 2 [(1, .int (nI (i8))), (0, .ref o)]) (Wd := fun H locs ls => W p l e rm_M_point_a s m args below meth c H locs 0 0 Q (F0 m 63 ls [])) (N := 32) (d := 1) (by decide) ?_ ?_ 32 0 _ (by omega) eR10 _ _ _ ⟨hS, hV, hM0, lv_sub hl [0, 1] rfl⟩
    · intro i8 s9 H locs ls hii8 hP ihi8
      obtain ⟨hS, hV, hM0, hl⟩ := hP
      refine lv_iload_n hx hb d_M_point_63 rfl (lv_at hl 0 rfl) ?_
      refine lv_bipush (v := nI 32) hx hb d_M_point_64 (by decide +kernel) ?_
      refine lv_icmp_ge (tgt := 98) hx hb d_M_point_66 (by decide) (fun q => absurd q (nI_ge (by omega) (by omega))) (fun _ => ?_)
      refine lv_aload_n hx hb d_M_point_69 rfl (lv_at hl 1 rfl) ?_
      refine sx_get EE hM0 rfl i_M 35 (by decide) rfl fl_M_103 rfl d_M_point_70 ?_
      refine W.eq (g2 := F0 m 73 ls [.ref (r 35)]) rfl ?_
      refine lv_iload_n hx hb d_M_point_73 rfl (lv_at hl 0 rfl) ?_
      refine lv_aload_n hx hb d_M_point_74 rfl (lv_at hl 1 rfl) ?_
      refine sx_get EE hM0 rfl i_M 20 (by decide) rfl fl_M_58 rfl d_M_point_75 ?_
      refine W.eq (g2 := F0 m 78 ls [.ref (r 20), .int (nI (i8)), .ref (r 35)]) rfl ?_
      refine lv_iload_n hx hb d_M_point_78 rfl (lv_at hl 0 rfl) ?_
      refine lv_iconst (v := nI 2) hx hb d_M_point_79 (by decide +kernel) ?_
      refine lv_idiv hx hb d_M_point_80 (nI_ne0 (by omega) (by omega)) ?_
      refine sx_ti (y := nI (i8 / 2)) (pk_div (by omega) (by omega) (by omega)) ?_
      refine vx_lald hx hb hG hS hV (moA_20 hA) (by omega) (by decide) d_M_point_81 ?_
      refine lv_bipush (v := nI 8) hx hb d_M_point_82 (by decide +kernel) ?_
      refine lv_iload_n hx hb d_M_point_84 rfl (lv_at hl 0 rfl) ?_
      refine lv_iconst (v := nI 2) hx hb d_M_point_85 (by decide +kernel) ?_
      refine lv_irem hx hb d_M_point_86 (nI_ne0 (by omega) (by omega)) ?_
      refine sx_ti (y := nI (i8 % 2)) (pk_rem (by omega) (by omega) (by omega)) ?_
      refine lv_imul hx hb d_M_point_87 ?_
      refine sx_ti (y := nI (8 * (i8 % 2))) (pk_mul _ _) ?_
      refine lv_lshr hx hb d_M_point_88 rfl ?_
      refine lv_l2i hx hb d_M_point_89 rfl ?_
      refine lv_i2b hx hb d_M_point_90 rfl ?_
      refine vx_bastJ hx hb hG hK.1 hS hV (moA_35 hA) (moW_35 hW) (by omega) (by decide) d_M_point_91 (fun H locs X11 eX11 hS hV hO => ?_)
      have hM0 := hO _ _ hM0
      refine lv_iinc (v := nI (i8 + 1)) (lv' := [(1, .int (nI (i8 + 1))), (0, .ref o)]) hx hb d_M_point_92 hl (k := 0) rfl (sx_inc _ _) (by decide) rfl (fun ls hl => ?_)
      refine lv_goto (tgt := 63) hx hb d_M_point_95 (by decide) ?_
      exact ihi8 X11 _ _ _ (by subst eX11; exact rfl) ⟨hS, hV, hM0, lv_sub hl [0, 1] rfl⟩
    · intro H locs ls hP
      obtain ⟨hS, hV, hM0, hl⟩ := hP
      refine lv_iload_n hx hb d_M_point_63 rfl (lv_at hl 0 rfl) ?_
      refine lv_bipush (v := nI 32) hx hb d_M_point_64 (by decide +kernel) ?_
      refine lv_icmp_ge (tgt := 98) hx hb d_M_point_66 (by decide) (fun _ => ?_) (fun q => absurd (nI_le (by omega) (by omega)) q)
      refine lv_aload_n hx hb d_M_point_98 rfl (lv_at hl 1 rfl) ?_
      refine lv_aload_n hx hb d_M_point_99 rfl (lv_at hl 1 rfl) ?_
      refine sx_get EE hM0 rfl i_M 35 (by decide) rfl fl_M_103 rfl d_M_point_100 ?_
      refine W.eq (g2 := F0 m 103 ls [.ref (r 35), .ref o]) rfl ?_
      refine lv_iconst (v := nI 0) hx hb d_M_point_103 (by decide +kernel) ?_
      refine lv_bipush (v := nI 32) hx hb d_M_point_104 (by decide +kernel) ?_
      refine vx_gvP (sx_runV (As := [.ref (r 35), .int (nI (0)), .int (nI (32))]) (rest := []) EE hM0 rfl rfl (v_M_tell (X := R10) hM0 eM (fun q hq => hS.1.2.2.1 _ _ _ (hA q hq)) hW (hS.a (moA_35 hA)) (h_tp := by omega) (h_ms := by omega) (h_rs := by omega) (h_kc := by omega) (by omega) (by omega) hV) w_M_336 rfl ⟨rfl, rfl⟩ ⟨Nat.le_of_ble_eq_true rfl, Nat.le_of_ble_eq_true rfl⟩ ⟨Nat.zero_le _, Nat.zero_le _⟩ hl.1 rfl (Nat.le_of_ble_eq_true rfl) d_M_point_106) (fun z_ h_ => h_) hS (fun H locs X12 eX12 hM0 hS hV hJ_ => ?_)
      have hM0 : va_P D classes [(o, .inr (0, mo_fs r (mi (nI 0) (nI 0) (nI ms) (nI 32) (nI kc))))] H := hM0
      refine lv_iconst (v := nI 1) hx hb d_M_point_109 (by decide +kernel) ?_
      have hp : LF_M_point_a X r ms rs kc = (X12, true) := (by subst eR4 eX6 eR10 eX12; exact rfl)
      exact hret _ _ _ _ _ true _ (congrArg Prod.fst hp :) (congrArg Prod.snd hp :) rfl hM0 hS hV d_M_point_110
def LF_M_point_c (X : vM) (r : Nat → Nat) (ms : Nat) (rs : Nat) (kc : Nat) : vM × Bool := (let R4 : vM := lpU 1 (LL_M_point_23 r) 32 0 X; (let X6 : vM := (LF_M_decode R4 r).1; (X6, false)))
abbrev rm_M_point_c : Room := { frames := 5, cells := 0, slots := 0, locals := 130 }
set_option maxHeartbeats 4000000 in
set_option maxRecDepth 100000 in
theorem v_M_point_c {l : Launch} {D : va_G} {g : ClassId → FieldType → Prop} {E : Nat → Prop} {H0 : Heap} {X : vM} {o : Nat} {r : Nat → Nat} {th : Int32} {ms : Nat} {rs : Nat} {kc : Nat} (hM0 : va_P D classes [(o, .inr (0, mo_fs r (mi th (nI 32) (nI ms) (nI rs) (nI kc))))] H0) (eM : E o) (hA : ∀ q ∈ mo_arr, sx_A g q.2.1 H0 (r q.1) q.2.2) (hW : ∀ q ∈ mo_arr, E (r q.1))  (h_ms : ms ≤ 65536) (h_rs : rs ≤ 64) (h_kc : kc ≤ 100) (hw : (LF_M_decode (lpU 1 (LL_M_point_23 r) 32 0 X) r).2 = false) (hV : mm g H0 = X) : Met l y_M_point (.code y_M_point b_M_point 2 (some .boolean) :: G_) rm_M_point_c (sx_Pc [.ref o] H0 D g) (vx_QiP g E H0 (LF_M_point_c X r ms rs kc).1 (nI (LF_M_point_c X r ms rs kc).2.toNat) (fun H => va_P D classes [(o, .inr (0, mo_fs r (mi (nI 0) (nI 0) (nI ms) (nI rs) (nI kc))))] H)) 0 0 E := by
  refine vx_mzP (own := R_M) (by decide) rfl rfl rfl (Nat.le_of_ble_eq_true rfl) ?_
  intro p e s m args below meth c Q ls EE hl hret
  obtain ⟨hx, hb, hml, hown, hts, hG, hK⟩ := id EE
  have hS : sx_S g E E H0 H0 [] := sx_S.rf
  have hl : lv_has ls 2 [(0, .ref o)] := hl
  refine lv_aload_n hx hb d_M_point_0 rfl (lv_at hl 0 rfl) ?_
  refine lv_iconst (v := nI 0) hx hb d_M_point_1 (by decide +kernel) ?_
  have h0_ := hM0
  refine sx_put EE hM0 rfl i_M t_M tok_M n_M 0 (by decide) rfl fl_M_211 (ty := .int) (by decide +kernel) rfl rfl (Nat.le_of_ble_eq_true rfl) eM hS d_M_point_2 (fun H locs hM0 hJ_ hs_ hS => ?_)
  have hM0 : va_P D classes [(o, .inr (0, mo_fs r (mi (nI 0) (nI 32) (nI ms) (nI rs) (nI kc))))] H := hM0
  have hV := (vx_obj hG hK.1 h0_ hM0 hs_).trans hV
  refine lv_aload_n hx hb d_M_point_5 rfl (lv_at hl 0 rfl) ?_
  refine sx_get EE hM0 rfl i_M 5 (by decide) rfl fl_M_315 rfl d_M_point_6 ?_
  refine W.eq (g2 := F0 m 9 ls [.int (nI (32))]) rfl ?_
  refine lv_bipush (v := nI 32) hx hb d_M_point_9 (by decide +kernel) ?_
  refine lv_icmp_eq (tgt := 21) hx hb d_M_point_11 (by decide) (fun _ => ?_) (fun q11_0 => absurd (show 32 = 32 by decide) (by have q11_0 : ¬ (32 = 32) := fun z => q11_0 ((nI_eq (a := 32) (b := 32) (by omega) (by omega)).mpr z); exact q11_0))
  refine lv_iconst (v := nI 0) hx hb d_M_point_21 (by decide +kernel) ?_
  refine lv_istore_n (lv' := [(1, .int (nI (0))), (0, .ref o)]) hx hb d_M_point_22 rfl hl (by decide) rfl (fun ls hl => ?_)
  obtain ⟨R4, eR4⟩ : ∃ t : vM, lpU 1 (LL_M_point_23 r) 32 0 X = t := ⟨_, rfl⟩
  refine lpU_go (σ := vM) (P := fun i2 s3 H locs ls => sx_S g E E H0 H locs ∧ mm g H = s3 ∧ va_P D classes [(o, .inr (0, mo_fs r (mi (nI 0) (nI 32) (nI ms) (nI rs) (nI kc))))] H ∧ lv_has ls 2 [(1, .int (nI (i2))), (0, .ref o)]) (Wd := fun H locs ls => W p l e rm_M_point_c s m args below meth c H locs 0 0 Q (F0 m 23 ls [])) (N := 32) (d := 1) (by decide) ?_ ?_ 32 0 _ (by omega) eR4 _ _ _ ⟨hS, hV, hM0, lv_sub hl [0, 1] rfl⟩
  · intro i2 s3 H locs ls hii2 hP ihi2
    obtain ⟨hS, hV, hM0, hl⟩ := hP
    refine lv_iload_n hx hb d_M_point_23 rfl (lv_at hl 0 rfl) ?_
    refine lv_bipush (v := nI 32) hx hb d_M_point_24 (by decide +kernel) ?_
    refine lv_icmp_ge (tgt := 47) hx hb d_M_point_26 (by decide) (fun q => absurd q (nI_ge (by omega) (by omega))) (fun _ => ?_)
    refine lv_aload_n hx hb d_M_point_29 rfl (lv_at hl 1 rfl) ?_
    refine sx_get EE hM0 rfl i_M 35 (by decide) rfl fl_M_103 rfl d_M_point_30 ?_
    refine W.eq (g2 := F0 m 33 ls [.ref (r 35)]) rfl ?_
    refine lv_iload_n hx hb d_M_point_33 rfl (lv_at hl 0 rfl) ?_
    refine lv_aload_n hx hb d_M_point_34 rfl (lv_at hl 1 rfl) ?_
    refine sx_get EE hM0 rfl i_M 1 (by decide) rfl fl_M_8 rfl d_M_point_35 ?_
    refine W.eq (g2 := F0 m 38 ls [.ref (r 1), .int (nI (i2)), .ref (r 35)]) rfl ?_
    refine lv_iload_n hx hb d_M_point_38 rfl (lv_at hl 0 rfl) ?_
    refine vx_bald hx hb hG hS hV (moA_1 hA) (by omega) (by decide) d_M_point_39 ?_
    refine vx_bastJ hx hb hG hK.1 hS hV (moA_35 hA) (moW_35 hW) (by omega) (by decide) d_M_point_40 (fun H locs X5 eX5 hS hV hO => ?_)
    have hM0 := hO _ _ hM0
    refine lv_iinc (v := nI (i2 + 1)) (lv' := [(1, .int (nI (i2 + 1))), (0, .ref o)]) hx hb d_M_point_41 hl (k := 0) rfl (sx_inc _ _) (by decide) rfl (fun ls hl => ?_)
    refine lv_goto (tgt := 23) hx hb d_M_point_44 (by decide) ?_
    exact ihi2 X5 _ _ _ (by subst eX5; exact rfl) ⟨hS, hV, hM0, lv_sub hl [0, 1] rfl⟩
  · intro H locs ls hP
    obtain ⟨hS, hV, hM0, hl⟩ := hP
    refine lv_iload_n hx hb d_M_point_23 rfl (lv_at hl 0 rfl) ?_
    refine lv_bipush (v := nI 32) hx hb d_M_point_24 (by decide +kernel) ?_
    refine lv_icmp_ge (tgt := 47) hx hb d_M_point_26 (by decide) (fun _ => ?_) (fun q => absurd (nI_le (by omega) (by omega)) q)
    refine lv_aload_n hx hb d_M_point_47 rfl (lv_at hl 1 rfl) ?_
    refine lv_iconst (v := nI 0) hx hb d_M_point_48 (by decide +kernel) ?_
    have h0_ := hM0
    refine sx_put EE hM0 rfl i_M t_M tok_M n_M 5 (by decide) rfl fl_M_315 (ty := .int) (by decide +kernel) rfl rfl (Nat.le_of_ble_eq_true rfl) eM hS d_M_point_49 (fun H locs hM0 hJ_ hs_ hS => ?_)
    have hM0 : va_P D classes [(o, .inr (0, mo_fs r (mi (nI 0) (nI 0) (nI ms) (nI rs) (nI kc))))] H := hM0
    have hV := (vx_obj hG hK.1 h0_ hM0 hs_).trans hV
    refine lv_aload_n hx hb d_M_point_52 rfl (lv_at hl 1 rfl) ?_
    have hA_ : ∀ q ∈ mo_arr, sx_A g q.2.1 H (r q.1) q.2.2 := fun q hq => hS.1.2.2.1 _ _ _ (hA q hq)
    refine vx_giJ (sx_runV (As := []) (rest := []) EE hM0 rfl rfl (v_M_decode (E := cutE E o) (X := R4) ⟨hM0, hA_⟩ (fun z_ => z_.2 rfl) (mo_cut hG hK.1 hM0 hA_ hW) hV) w_M_203 rfl ⟨rfl, rfl⟩ ⟨Nat.le_of_ble_eq_true rfl, Nat.le_of_ble_eq_true rfl⟩ ⟨Nat.zero_le _, Nat.zero_le _⟩ hl.1 rfl (Nat.le_of_ble_eq_true rfl) d_M_point_53) (fun z_ h_ => h_.1) hS (fun H locs X6 eX6 hS hV hJ_ => ?_)
    have hM0 := hJ_.ob (fun z_ => z_.2 rfl) hM0
    refine sx_ti (y := nI 0) (by subst eR4; rw [hw]; rfl) ?_
    refine lv_if_ne (tgt := 61) hx hb d_M_point_56 (by decide) (fun q56_6 => absurd (show 0 = 0 by decide) (by have q56_6 : ¬ (0 = 0) := fun z => q56_6 ((nI_eq (a := 0) (b := 0) (by omega) (by omega)).mpr z); exact q56_6)) (fun _ => ?_)
    refine lv_iconst (v := nI 0) hx hb d_M_point_59 (by decide +kernel) ?_
    have hp : LF_M_point_c X r ms rs kc = (X6, false) := (by subst eR4 eX6; exact rfl)
    exact hret _ _ _ _ _ false _ (congrArg Prod.fst hp :) (congrArg Prod.snd hp :) rfl hM0 hS hV d_M_point_60
def LF_M_count_0 (X : vM) (r : Nat → Nat) (tp : Nat) (ms : Nat) (rs : Nat) (kc : Nat) : vM × Int32 := (X, (nI tp))
abbrev rm_M_count_0 : Room := { frames := 0, cells := 0, slots := 0, locals := 0 }
set_option maxHeartbeats 4000000 in
set_option maxRecDepth 100000 in
theorem v_M_count_0 {l : Launch} {D : va_G} {g : ClassId → FieldType → Prop} {E : Nat → Prop} {H0 : Heap} {X : vM} {o : Nat} {r : Nat → Nat} {th : Int32} {tp : Nat} {ms : Nat} {rs : Nat} {kc : Nat} (hM0 : va_P D classes [(o, .inr (0, mo_fs r (mi th (nI tp) (nI ms) (nI rs) (nI kc))))] H0) (eM : E o) (hA : ∀ q ∈ mo_arr, sx_A g q.2.1 H0 (r q.1) q.2.2) (hW : ∀ q ∈ mo_arr, E (r q.1))  (h_tp : tp ≤ 65536) (h_ms : ms ≤ 65536) (h_rs : rs ≤ 64) (h_kc : kc ≤ 100) (hV : mm g H0 = X) : Met l y_M_count (.code y_M_count b_M_count 2 (some .int) :: G_) rm_M_count_0 (sx_Pc [.ref o, .int (nI 0)] H0 D g) (vx_QiP g E H0 (LF_M_count_0 X r tp ms rs kc).1 (LF_M_count_0 X r tp ms rs kc).2 (fun H => va_P D classes [(o, .inr (0, mo_fs r (mi (nI 0) (nI tp) (nI ms) (nI rs) (nI kc))))] H)) 0 0 E := by
  refine vx_miP (own := R_M) (by decide) rfl rfl rfl (Nat.le_of_ble_eq_true rfl) ?_
  intro p e s m args below meth c Q ls EE hl hret
  obtain ⟨hx, hb, hml, hown, hts, hG, hK⟩ := id EE
  have hS : sx_S g E E H0 H0 [] := sx_S.rf
  have hl : lv_has ls 2 [(0, .ref o), (1, .int (nI (0)))] := hl
  refine lv_aload_n hx hb d_M_count_0 rfl (lv_at hl 0 rfl) ?_
  refine lv_iconst (v := nI 0) hx hb d_M_count_1 (by decide +kernel) ?_
  have h0_ := hM0
  refine sx_put EE hM0 rfl i_M t_M tok_M n_M 0 (by decide) rfl fl_M_211 (ty := .int) (by decide +kernel) rfl rfl (Nat.le_of_ble_eq_true rfl) eM hS d_M_count_2 (fun H locs hM0 hJ_ hs_ hS => ?_)
  have hM0 : va_P D classes [(o, .inr (0, mo_fs r (mi (nI 0) (nI tp) (nI ms) (nI rs) (nI kc))))] H := hM0
  have hV := (vx_obj hG hK.1 h0_ hM0 hs_).trans hV
  refine lv_iload_n hx hb d_M_count_5 rfl (lv_at hl 1 rfl) ?_
  refine lv_tableIn (off := 30) (tgt := 36) hx hb d_M_count_6 (by decide +kernel) (by decide +kernel) (by decide +kernel) (by decide) ?_
  refine lv_aload_n hx hb d_M_count_36 rfl (lv_at hl 0 rfl) ?_
  refine sx_get EE hM0 rfl i_M 5 (by decide) rfl fl_M_315 rfl d_M_count_37 ?_
  refine W.eq (g2 := F0 m 40 ls [.int (nI (tp))]) rfl ?_
  have hp : LF_M_count_0 X r tp ms rs kc = (X, (nI tp)) := rfl
  exact hret _ _ _ _ _ _ (congrArg Prod.fst hp :) (congrArg Prod.snd hp :) hM0 hS hV d_M_count_40
def LF_M_count_1 (X : vM) (r : Nat → Nat) (tp : Nat) (ms : Nat) (rs : Nat) (kc : Nat) : vM × Int32 := (X, (nI kc))
abbrev rm_M_count_1 : Room := { frames := 0, cells := 0, slots := 0, locals := 0 }
set_option maxHeartbeats 4000000 in
set_option maxRecDepth 100000 in
theorem v_M_count_1 {l : Launch} {D : va_G} {g : ClassId → FieldType → Prop} {E : Nat → Prop} {H0 : Heap} {X : vM} {o : Nat} {r : Nat → Nat} {th : Int32} {tp : Nat} {ms : Nat} {rs : Nat} {kc : Nat} (hM0 : va_P D classes [(o, .inr (0, mo_fs r (mi th (nI tp) (nI ms) (nI rs) (nI kc))))] H0) (eM : E o) (hA : ∀ q ∈ mo_arr, sx_A g q.2.1 H0 (r q.1) q.2.2) (hW : ∀ q ∈ mo_arr, E (r q.1))  (h_tp : tp ≤ 65536) (h_ms : ms ≤ 65536) (h_rs : rs ≤ 64) (h_kc : kc ≤ 100) (hV : mm g H0 = X) : Met l y_M_count (.code y_M_count b_M_count 2 (some .int) :: G_) rm_M_count_1 (sx_Pc [.ref o, .int (nI 1)] H0 D g) (vx_QiP g E H0 (LF_M_count_1 X r tp ms rs kc).1 (LF_M_count_1 X r tp ms rs kc).2 (fun H => va_P D classes [(o, .inr (0, mo_fs r (mi (nI 0) (nI tp) (nI ms) (nI rs) (nI kc))))] H)) 0 0 E := by
  refine vx_miP (own := R_M) (by decide) rfl rfl rfl (Nat.le_of_ble_eq_true rfl) ?_
  intro p e s m args below meth c Q ls EE hl hret
  obtain ⟨hx, hb, hml, hown, hts, hG, hK⟩ := id EE
  have hS : sx_S g E E H0 H0 [] := sx_S.rf
  have hl : lv_has ls 2 [(0, .ref o), (1, .int (nI (1)))] := hl
  refine lv_aload_n hx hb d_M_count_0 rfl (lv_at hl 0 rfl) ?_
  refine lv_iconst (v := nI 0) hx hb d_M_count_1 (by decide +kernel) ?_
  have h0_ := hM0
  refine sx_put EE hM0 rfl i_M t_M tok_M n_M 0 (by decide) rfl fl_M_211 (ty := .int) (by decide +kernel) rfl rfl (Nat.le_of_ble_eq_true rfl) eM hS d_M_count_2 (fun H locs hM0 hJ_ hs_ hS => ?_)
  have hM0 : va_P D classes [(o, .inr (0, mo_fs r (mi (nI 0) (nI tp) (nI ms) (nI rs) (nI kc))))] H := hM0
  have hV := (vx_obj hG hK.1 h0_ hM0 hs_).trans hV
  refine lv_iload_n hx hb d_M_count_5 rfl (lv_at hl 1 rfl) ?_
  refine lv_tableIn (off := 35) (tgt := 41) hx hb d_M_count_6 (by decide +kernel) (by decide +kernel) (by decide +kernel) (by decide) ?_
  refine lv_aload_n hx hb d_M_count_41 rfl (lv_at hl 0 rfl) ?_
  refine sx_get EE hM0 rfl i_M 8 (by decide) rfl fl_M_322 rfl d_M_count_42 ?_
  refine W.eq (g2 := F0 m 45 ls [.int (nI (kc))]) rfl ?_
  have hp : LF_M_count_1 X r tp ms rs kc = (X, (nI kc)) := rfl
  exact hret _ _ _ _ _ _ (congrArg Prod.fst hp :) (congrArg Prod.snd hp :) hM0 hS hV d_M_count_45
def LF_M_count_2 (X : vM) (r : Nat → Nat) (tp : Nat) (ms : Nat) (rs : Nat) (kc : Nat) : vM × Int32 := (X, (nI ms))
abbrev rm_M_count_2 : Room := { frames := 0, cells := 0, slots := 0, locals := 0 }
set_option maxHeartbeats 4000000 in
set_option maxRecDepth 100000 in
theorem v_M_count_2 {l : Launch} {D : va_G} {g : ClassId → FieldType → Prop} {E : Nat → Prop} {H0 : Heap} {X : vM} {o : Nat} {r : Nat → Nat} {th : Int32} {tp : Nat} {ms : Nat} {rs : Nat} {kc : Nat} (hM0 : va_P D classes [(o, .inr (0, mo_fs r (mi th (nI tp) (nI ms) (nI rs) (nI kc))))] H0) (eM : E o) (hA : ∀ q ∈ mo_arr, sx_A g q.2.1 H0 (r q.1) q.2.2) (hW : ∀ q ∈ mo_arr, E (r q.1))  (h_tp : tp ≤ 65536) (h_ms : ms ≤ 65536) (h_rs : rs ≤ 64) (h_kc : kc ≤ 100) (hV : mm g H0 = X) : Met l y_M_count (.code y_M_count b_M_count 2 (some .int) :: G_) rm_M_count_2 (sx_Pc [.ref o, .int (nI 2)] H0 D g) (vx_QiP g E H0 (LF_M_count_2 X r tp ms rs kc).1 (LF_M_count_2 X r tp ms rs kc).2 (fun H => va_P D classes [(o, .inr (0, mo_fs r (mi (nI 0) (nI tp) (nI ms) (nI rs) (nI kc))))] H)) 0 0 E := by
  refine vx_miP (own := R_M) (by decide) rfl rfl rfl (Nat.le_of_ble_eq_true rfl) ?_
  intro p e s m args below meth c Q ls EE hl hret
  obtain ⟨hx, hb, hml, hown, hts, hG, hK⟩ := id EE
  have hS : sx_S g E E H0 H0 [] := sx_S.rf
  have hl : lv_has ls 2 [(0, .ref o), (1, .int (nI (2)))] := hl
  refine lv_aload_n hx hb d_M_count_0 rfl (lv_at hl 0 rfl) ?_
  refine lv_iconst (v := nI 0) hx hb d_M_count_1 (by decide +kernel) ?_
  have h0_ := hM0
  refine sx_put EE hM0 rfl i_M t_M tok_M n_M 0 (by decide) rfl fl_M_211 (ty := .int) (by decide +kernel) rfl rfl (Nat.le_of_ble_eq_true rfl) eM hS d_M_count_2 (fun H locs hM0 hJ_ hs_ hS => ?_)
  have hM0 : va_P D classes [(o, .inr (0, mo_fs r (mi (nI 0) (nI tp) (nI ms) (nI rs) (nI kc))))] H := hM0
  have hV := (vx_obj hG hK.1 h0_ hM0 hs_).trans hV
  refine lv_iload_n hx hb d_M_count_5 rfl (lv_at hl 1 rfl) ?_
  refine lv_tableIn (off := 40) (tgt := 46) hx hb d_M_count_6 (by decide +kernel) (by decide +kernel) (by decide +kernel) (by decide) ?_
  refine lv_aload_n hx hb d_M_count_46 rfl (lv_at hl 0 rfl) ?_
  refine sx_get EE hM0 rfl i_M 6 (by decide) rfl fl_M_309 rfl d_M_count_47 ?_
  refine W.eq (g2 := F0 m 50 ls [.int (nI (ms))]) rfl ?_
  have hp : LF_M_count_2 X r tp ms rs kc = (X, (nI ms)) := rfl
  exact hret _ _ _ _ _ _ (congrArg Prod.fst hp :) (congrArg Prod.snd hp :) hM0 hS hV d_M_count_50
def LF_M_count_3 (X : vM) (r : Nat → Nat) (tp : Nat) (ms : Nat) (rs : Nat) (kc : Nat) : vM × Int32 := (X, (nI rs))
abbrev rm_M_count_3 : Room := { frames := 0, cells := 0, slots := 0, locals := 0 }
set_option maxHeartbeats 4000000 in
set_option maxRecDepth 100000 in
theorem v_M_count_3 {l : Launch} {D : va_G} {g : ClassId → FieldType → Prop} {E : Nat → Prop} {H0 : Heap} {X : vM} {o : Nat} {r : Nat → Nat} {th : Int32} {tp : Nat} {ms : Nat} {rs : Nat} {kc : Nat} (hM0 : va_P D classes [(o, .inr (0, mo_fs r (mi th (nI tp) (nI ms) (nI rs) (nI kc))))] H0) (eM : E o) (hA : ∀ q ∈ mo_arr, sx_A g q.2.1 H0 (r q.1) q.2.2) (hW : ∀ q ∈ mo_arr, E (r q.1))  (h_tp : tp ≤ 65536) (h_ms : ms ≤ 65536) (h_rs : rs ≤ 64) (h_kc : kc ≤ 100) (hV : mm g H0 = X) : Met l y_M_count (.code y_M_count b_M_count 2 (some .int) :: G_) rm_M_count_3 (sx_Pc [.ref o, .int (nI 3)] H0 D g) (vx_QiP g E H0 (LF_M_count_3 X r tp ms rs kc).1 (LF_M_count_3 X r tp ms rs kc).2 (fun H => va_P D classes [(o, .inr (0, mo_fs r (mi (nI 0) (nI tp) (nI ms) (nI rs) (nI kc))))] H)) 0 0 E := by
  refine vx_miP (own := R_M) (by decide) rfl rfl rfl (Nat.le_of_ble_eq_true rfl) ?_
  intro p e s m args below meth c Q ls EE hl hret
  obtain ⟨hx, hb, hml, hown, hts, hG, hK⟩ := id EE
  have hS : sx_S g E E H0 H0 [] := sx_S.rf
  have hl : lv_has ls 2 [(0, .ref o), (1, .int (nI (3)))] := hl
  refine lv_aload_n hx hb d_M_count_0 rfl (lv_at hl 0 rfl) ?_
  refine lv_iconst (v := nI 0) hx hb d_M_count_1 (by decide +kernel) ?_
  have h0_ := hM0
  refine sx_put EE hM0 rfl i_M t_M tok_M n_M 0 (by decide) rfl fl_M_211 (ty := .int) (by decide +kernel) rfl rfl (Nat.le_of_ble_eq_true rfl) eM hS d_M_count_2 (fun H locs hM0 hJ_ hs_ hS => ?_)
  have hM0 : va_P D classes [(o, .inr (0, mo_fs r (mi (nI 0) (nI tp) (nI ms) (nI rs) (nI kc))))] H := hM0
  have hV := (vx_obj hG hK.1 h0_ hM0 hs_).trans hV
  refine lv_iload_n hx hb d_M_count_5 rfl (lv_at hl 1 rfl) ?_
  refine lv_tableIn (off := 45) (tgt := 51) hx hb d_M_count_6 (by decide +kernel) (by decide +kernel) (by decide +kernel) (by decide) ?_
  refine lv_aload_n hx hb d_M_count_51 rfl (lv_at hl 0 rfl) ?_
  refine sx_get EE hM0 rfl i_M 7 (by decide) rfl fl_M_325 rfl d_M_count_52 ?_
  refine W.eq (g2 := F0 m 55 ls [.int (nI (rs))]) rfl ?_
  have hp : LF_M_count_3 X r tp ms rs kc = (X, (nI rs)) := rfl
  exact hret _ _ _ _ _ _ (congrArg Prod.fst hp :) (congrArg Prod.snd hp :) hM0 hS hV d_M_count_55
def LF_M_count_d (X : vM) (r : Nat → Nat) (v0 : Nat) (tp : Nat) (ms : Nat) (rs : Nat) (kc : Nat) : vM × Int32 := (X, (X.2 (r 9) (v0 - 4)))
abbrev rm_M_count_d : Room := { frames := 0, cells := 0, slots := 0, locals := 0 }
set_option maxHeartbeats 4000000 in
set_option maxRecDepth 100000 in
theorem v_M_count_d {l : Launch} {D : va_G} {g : ClassId → FieldType → Prop} {E : Nat → Prop} {H0 : Heap} {X : vM} {o : Nat} {r : Nat → Nat} {th : Int32} {tp : Nat} {ms : Nat} {rs : Nat} {kc : Nat} {v0 : Nat} (hM0 : va_P D classes [(o, .inr (0, mo_fs r (mi th (nI tp) (nI ms) (nI rs) (nI kc))))] H0) (eM : E o) (hA : ∀ q ∈ mo_arr, sx_A g q.2.1 H0 (r q.1) q.2.2) (hW : ∀ q ∈ mo_arr, E (r q.1))  (h_tp : tp ≤ 65536) (h_ms : ms ≤ 65536) (h_rs : rs ≤ 64) (h_kc : kc ≤ 100) (hw : 4 ≤ v0 ∧ v0 ≤ 9) (hV : mm g H0 = X) : Met l y_M_count (.code y_M_count b_M_count 2 (some .int) :: G_) rm_M_count_d (sx_Pc [.ref o, .int (nI v0)] H0 D g) (vx_QiP g E H0 (LF_M_count_d X r v0 tp ms rs kc).1 (LF_M_count_d X r v0 tp ms rs kc).2 (fun H => va_P D classes [(o, .inr (0, mo_fs r (mi (nI 0) (nI tp) (nI ms) (nI rs) (nI kc))))] H)) 0 0 E := by
  refine vx_miP (own := R_M) (by decide) rfl rfl rfl (Nat.le_of_ble_eq_true rfl) ?_
  intro p e s m args below meth c Q ls EE hl hret
  obtain ⟨hx, hb, hml, hown, hts, hG, hK⟩ := id EE
  have hS : sx_S g E E H0 H0 [] := sx_S.rf
  have hl : lv_has ls 2 [(0, .ref o), (1, .int (nI (v0)))] := hl
  refine lv_aload_n hx hb d_M_count_0 rfl (lv_at hl 0 rfl) ?_
  refine lv_iconst (v := nI 0) hx hb d_M_count_1 (by decide +kernel) ?_
  have h0_ := hM0
  refine sx_put EE hM0 rfl i_M t_M tok_M n_M 0 (by decide) rfl fl_M_211 (ty := .int) (by decide +kernel) rfl rfl (Nat.le_of_ble_eq_true rfl) eM hS d_M_count_2 (fun H locs hM0 hJ_ hs_ hS => ?_)
  have hM0 : va_P D classes [(o, .inr (0, mo_fs r (mi (nI 0) (nI tp) (nI ms) (nI rs) (nI kc))))] H := hM0
  have hV := (vx_obj hG hK.1 h0_ hM0 hs_).trans hV
  refine lv_iload_n hx hb d_M_count_5 rfl (lv_at hl 1 rfl) ?_
  refine lv_tableOut (tgt := 56) hx hb d_M_count_6 (Or.inr (by rw [nI_toInt (by omega)]; omega)) (by decide) ?_
  refine lv_iload_n hx hb d_M_count_56 rfl (lv_at hl 1 rfl) ?_
  refine lv_iconst (v := nI 3) hx hb d_M_count_57 (by decide +kernel) ?_
  refine lv_icmp_le (tgt := 78) hx hb d_M_count_58 (by decide) (fun q58_0 => absurd (show v0 ≤ 3 by have q58_0 : v0 ≤ 3 := (nI_leI (a := v0) (b := 3) (by omega) (by omega)).mp q58_0; exact q58_0) (by omega)) (fun _ => ?_)
  refine lv_iload_n hx hb d_M_count_61 rfl (lv_at hl 1 rfl) ?_
  refine lv_bipush (v := nI 10) hx hb d_M_count_62 (by decide +kernel) ?_
  refine lv_icmp_ge (tgt := 78) hx hb d_M_count_64 (by decide) (fun q64_1 => absurd (show 10 ≤ v0 by have q64_1 : 10 ≤ v0 := (nI_leI (a := 10) (b := v0) (by omega) (by omega)).mp q64_1; exact q64_1) (by omega)) (fun _ => ?_)
  refine lv_aload_n hx hb d_M_count_67 rfl (lv_at hl 0 rfl) ?_
  refine sx_get EE hM0 rfl i_M 9 (by decide) rfl fl_M_23 rfl d_M_count_68 ?_
  refine W.eq (g2 := F0 m 71 ls [.ref (r 9)]) rfl ?_
  refine lv_iload_n hx hb d_M_count_71 rfl (lv_at hl 1 rfl) ?_
  refine lv_iconst (v := nI 4) hx hb d_M_count_72 (by decide +kernel) ?_
  refine lv_isub hx hb d_M_count_73 ?_
  refine sx_ti (y := nI (v0 - 4)) (pk_sub (by omega)) ?_
  refine vx_iald hx hb hG hS hV (moA_9 hA) (by omega) (by decide) d_M_count_74 ?_
  refine lv_goto (tgt := 79) hx hb d_M_count_75 (by decide) ?_
  have hp : LF_M_count_d X r v0 tp ms rs kc = (X, (X.2 (r 9) (v0 - 4))) := rfl
  exact hret _ _ _ _ _ _ (congrArg Prod.fst hp :) (congrArg Prod.snd hp :) hM0 hS hV d_M_count_79
def LF_M_count_e (X : vM) (r : Nat → Nat) (v0 : Int32) (tp : Nat) (ms : Nat) (rs : Nat) (kc : Nat) : vM × Int32 := (X, (-1 : Int32))
abbrev rm_M_count_e : Room := { frames := 0, cells := 0, slots := 0, locals := 0 }
set_option maxHeartbeats 4000000 in
set_option maxRecDepth 100000 in
theorem v_M_count_e {l : Launch} {D : va_G} {g : ClassId → FieldType → Prop} {E : Nat → Prop} {H0 : Heap} {X : vM} {o : Nat} {r : Nat → Nat} {th : Int32} {tp : Nat} {ms : Nat} {rs : Nat} {kc : Nat} {v0 : Int32} (hM0 : va_P D classes [(o, .inr (0, mo_fs r (mi th (nI tp) (nI ms) (nI rs) (nI kc))))] H0) (eM : E o) (hA : ∀ q ∈ mo_arr, sx_A g q.2.1 H0 (r q.1) q.2.2) (hW : ∀ q ∈ mo_arr, E (r q.1))  (h_tp : tp ≤ 65536) (h_ms : ms ≤ 65536) (h_rs : rs ≤ 64) (h_kc : kc ≤ 100) (hw : v0.toInt < 0) (hw2 : v0 ≤ nI 3) (hV : mm g H0 = X) : Met l y_M_count (.code y_M_count b_M_count 2 (some .int) :: G_) rm_M_count_e (sx_Pc [.ref o, .int v0] H0 D g) (vx_QiP g E H0 (LF_M_count_e X r v0 tp ms rs kc).1 (LF_M_count_e X r v0 tp ms rs kc).2 (fun H => va_P D classes [(o, .inr (0, mo_fs r (mi (nI 0) (nI tp) (nI ms) (nI rs) (nI kc))))] H)) 0 0 E := by
  refine vx_miP (own := R_M) (by decide) rfl rfl rfl (Nat.le_of_ble_eq_true rfl) ?_
  intro p e s m args below meth c Q ls EE hl hret
  obtain ⟨hx, hb, hml, hown, hts, hG, hK⟩ := id EE
  have hS : sx_S g E E H0 H0 [] := sx_S.rf
  have hl : lv_has ls 2 [(0, .ref o), (1, .int v0)] := hl
  refine lv_aload_n hx hb d_M_count_0 rfl (lv_at hl 0 rfl) ?_
  refine lv_iconst (v := nI 0) hx hb d_M_count_1 (by decide +kernel) ?_
  have h0_ := hM0
  refine sx_put EE hM0 rfl i_M t_M tok_M n_M 0 (by decide) rfl fl_M_211 (ty := .int) (by decide +kernel) rfl rfl (Nat.le_of_ble_eq_true rfl) eM hS d_M_count_2 (fun H locs hM0 hJ_ hs_ hS => ?_)
  have hM0 : va_P D classes [(o, .inr (0, mo_fs r (mi (nI 0) (nI tp) (nI ms) (nI rs) (nI kc))))] H := hM0
  have hV := (vx_obj hG hK.1 h0_ hM0 hs_).trans hV
  refine lv_iload_n hx hb d_M_count_5 rfl (lv_at hl 1 rfl) ?_
  refine lv_tableOut (tgt := 56) hx hb d_M_count_6 (Or.inl hw) (by decide) ?_
  refine lv_iload_n hx hb d_M_count_56 rfl (lv_at hl 1 rfl) ?_
  refine lv_iconst (v := nI 3) hx hb d_M_count_57 (by decide +kernel) ?_
  refine lv_icmp_le (tgt := 78) hx hb d_M_count_58 (by decide) (fun _ => ?_) (fun q => absurd hw2 q)
  refine lv_iconst (v := (-1)) hx hb d_M_count_78 (by decide +kernel) ?_
  have hp : LF_M_count_e X r v0 tp ms rs kc = (X, (-1 : Int32)) := rfl
  exact hret _ _ _ _ _ _ (congrArg Prod.fst hp :) (congrArg Prod.snd hp :) hM0 hS hV d_M_count_79
def LF_M_count_f (X : vM) (r : Nat → Nat) (v0 : Int32) (tp : Nat) (ms : Nat) (rs : Nat) (kc : Nat) : vM × Int32 := (X, (-1 : Int32))
abbrev rm_M_count_f : Room := { frames := 0, cells := 0, slots := 0, locals := 0 }
set_option maxHeartbeats 4000000 in
set_option maxRecDepth 100000 in
theorem v_M_count_f {l : Launch} {D : va_G} {g : ClassId → FieldType → Prop} {E : Nat → Prop} {H0 : Heap} {X : vM} {o : Nat} {r : Nat → Nat} {th : Int32} {tp : Nat} {ms : Nat} {rs : Nat} {kc : Nat} {v0 : Int32} (hM0 : va_P D classes [(o, .inr (0, mo_fs r (mi th (nI tp) (nI ms) (nI rs) (nI kc))))] H0) (eM : E o) (hA : ∀ q ∈ mo_arr, sx_A g q.2.1 H0 (r q.1) q.2.2) (hW : ∀ q ∈ mo_arr, E (r q.1))  (h_tp : tp ≤ 65536) (h_ms : ms ≤ 65536) (h_rs : rs ≤ 64) (h_kc : kc ≤ 100) (hw : 3 < v0.toInt) (hw2 : ¬ v0 ≤ nI 3) (hw3 : nI 10 ≤ v0) (hV : mm g H0 = X) : Met l y_M_count (.code y_M_count b_M_count 2 (some .int) :: G_) rm_M_count_f (sx_Pc [.ref o, .int v0] H0 D g) (vx_QiP g E H0 (LF_M_count_f X r v0 tp ms rs kc).1 (LF_M_count_f X r v0 tp ms rs kc).2 (fun H => va_P D classes [(o, .inr (0, mo_fs r (mi (nI 0) (nI tp) (nI ms) (nI rs) (nI kc))))] H)) 0 0 E := by
  refine vx_miP (own := R_M) (by decide) rfl rfl rfl (Nat.le_of_ble_eq_true rfl) ?_
  intro p e s m args below meth c Q ls EE hl hret
  obtain ⟨hx, hb, hml, hown, hts, hG, hK⟩ := id EE
  have hS : sx_S g E E H0 H0 [] := sx_S.rf
  have hl : lv_has ls 2 [(0, .ref o), (1, .int v0)] := hl
  refine lv_aload_n hx hb d_M_count_0 rfl (lv_at hl 0 rfl) ?_
  refine lv_iconst (v := nI 0) hx hb d_M_count_1 (by decide +kernel) ?_
  have h0_ := hM0
  refine sx_put EE hM0 rfl i_M t_M tok_M n_M 0 (by decide) rfl fl_M_211 (ty := .int) (by decide +kernel) rfl rfl (Nat.le_of_ble_eq_true rfl) eM hS d_M_count_2 (fun H locs hM0 hJ_ hs_ hS => ?_)
  have hM0 : va_P D classes [(o, .inr (0, mo_fs r (mi (nI 0) (nI tp) (nI ms) (nI rs) (nI kc))))] H := hM0
  have hV := (vx_obj hG hK.1 h0_ hM0 hs_).trans hV
  refine lv_iload_n hx hb d_M_count_5 rfl (lv_at hl 1 rfl) ?_
  refine lv_tableOut (tgt := 56) hx hb d_M_count_6 (Or.inr hw) (by decide) ?_
  refine lv_iload_n hx hb d_M_count_56 rfl (lv_at hl 1 rfl) ?_
  refine lv_iconst (v := nI 3) hx hb d_M_count_57 (by decide +kernel) ?_
  refine lv_icmp_le (tgt := 78) hx hb d_M_count_58 (by decide) (fun q => absurd q hw2) (fun _ => ?_)
  refine lv_iload_n hx hb d_M_count_61 rfl (lv_at hl 1 rfl) ?_
  refine lv_bipush (v := nI 10) hx hb d_M_count_62 (by decide +kernel) ?_
  refine lv_icmp_ge (tgt := 78) hx hb d_M_count_64 (by decide) (fun _ => ?_) (fun q => absurd hw3 q)
  refine lv_iconst (v := (-1)) hx hb d_M_count_78 (by decide +kernel) ?_
  have hp : LF_M_count_f X r v0 tp ms rs kc = (X, (-1 : Int32)) := rfl
  exact hret _ _ _ _ _ _ (congrArg Prod.fst hp :) (congrArg Prod.snd hp :) hM0 hS hV d_M_count_79
def LL_M_back_46 (v0 : Int32) (v1 : Int32) (r : Nat → Nat) (tp : Nat) : Nat → vM → vM := fun i_0 s_1 => (let J_2 : Int32 := if (nI i_0) = v0 then v1 else (nI 0); (let X_3 : vM := stI s_1 (r 1) (tp + i_0) ((((s_1.2 (r 3) i_0) ^^^ J_2).toInt8.toInt32).toInt8.toInt32); X_3))
def LF_M_back_a (X : vM) (r : Nat → Nat) (v0 : Int32) (v1 : Int32) (tp : Nat) (ms : Nat) (rs : Nat) (kc : Nat) : vM × Int32 := (let R4 : vM := lpU 1 (LL_M_back_46 v0 v1 r tp) (rs - 0) 0 X; (R4, (nI (tp + rs))))
abbrev rm_M_back_a : Room := { frames := 0, cells := 0, slots := 0, locals := 0 }
set_option maxHeartbeats 4000000 in
set_option maxRecDepth 100000 in
theorem v_M_back_a {l : Launch} {D : va_G} {g : ClassId → FieldType → Prop} {E : Nat → Prop} {H0 : Heap} {X : vM} {o : Nat} {r : Nat → Nat} {th : Int32} {tp : Nat} {ms : Nat} {rs : Nat} {kc : Nat} {v0 : Int32} {v1 : Int32} (hM0 : va_P D classes [(o, .inr (0, mo_fs r (mi th (nI tp) (nI ms) (nI rs) (nI kc))))] H0) (eM : E o) (hA : ∀ q ∈ mo_arr, sx_A g q.2.1 H0 (r q.1) q.2.2) (hW : ∀ q ∈ mo_arr, E (r q.1))  (h_tp : tp ≤ 65536) (h_ms : ms ≤ 65536) (h_rs : rs ≤ 64) (h_kc : kc ≤ 100) (hw : ¬ v0 < (-1 : Int32)) (hw2 : v0 < nI rs) (hw3 : tp + rs ≤ 65536) (hV : mm g H0 = X) : Met l y_M_back (.code y_M_back b_M_back 4 (some .int) :: G_) rm_M_back_a (sx_Pc [.ref o, .int v0, .int v1] H0 D g) (vx_QiP g E H0 (LF_M_back_a X r v0 v1 tp ms rs kc).1 (LF_M_back_a X r v0 v1 tp ms rs kc).2 (fun H => va_P D classes [(o, .inr (0, mo_fs r (mi (nI 0) (nI (tp + rs)) (nI ms) (nI rs) (nI kc))))] H)) 0 0 E := by
  refine vx_miP (own := R_M) (by decide) rfl rfl rfl (Nat.le_of_ble_eq_true rfl) ?_
  intro p e s m args below meth c Q ls EE hl hret
  obtain ⟨hx, hb, hml, hown, hts, hG, hK⟩ := id EE
  have hS : sx_S g E E H0 H0 [] := sx_S.rf
  have hl : lv_has ls 4 [(0, .ref o), (1, .int v0), (2, .int v1)] := hl
  refine lv_aload_n hx hb d_M_back_0 rfl (lv_at hl 0 rfl) ?_
  refine lv_iconst (v := nI 0) hx hb d_M_back_1 (by decide +kernel) ?_
  have h0_ := hM0
  refine sx_put EE hM0 rfl i_M t_M tok_M n_M 0 (by decide) rfl fl_M_211 (ty := .int) (by decide +kernel) rfl rfl (Nat.le_of_ble_eq_true rfl) eM hS d_M_back_2 (fun H locs hM0 hJ_ hs_ hS => ?_)
  have hM0 : va_P D classes [(o, .inr (0, mo_fs r (mi (nI 0) (nI tp) (nI ms) (nI rs) (nI kc))))] H := hM0
  have hV := (vx_obj hG hK.1 h0_ hM0 hs_).trans hV
  refine lv_iload_n hx hb d_M_back_5 rfl (lv_at hl 1 rfl) ?_
  refine lv_iconst (v := (-1)) hx hb d_M_back_6 (by decide +kernel) ?_
  refine lv_icmp_lt (tgt := 18) hx hb d_M_back_7 (by decide) (fun q => absurd q hw) (fun _ => ?_)
  refine lv_iload_n hx hb d_M_back_10 rfl (lv_at hl 1 rfl) ?_
  refine lv_aload_n hx hb d_M_back_11 rfl (lv_at hl 0 rfl) ?_
  refine sx_get EE hM0 rfl i_M 7 (by decide) rfl fl_M_325 rfl d_M_back_12 ?_
  refine W.eq (g2 := F0 m 15 ls [.int (nI (rs)), .int v0]) rfl ?_
  refine lv_icmp_lt (tgt := 24) hx hb d_M_back_15 (by decide) (fun _ => ?_) (fun q => absurd hw2 q)
  refine lv_aload_n hx hb d_M_back_24 rfl (lv_at hl 0 rfl) ?_
  refine sx_get EE hM0 rfl i_M 5 (by decide) rfl fl_M_315 rfl d_M_back_25 ?_
  refine W.eq (g2 := F0 m 28 ls [.int (nI (tp))]) rfl ?_
  refine lv_aload_n hx hb d_M_back_28 rfl (lv_at hl 0 rfl) ?_
  refine sx_get EE hM0 rfl i_M 7 (by decide) rfl fl_M_325 rfl d_M_back_29 ?_
  refine W.eq (g2 := F0 m 32 ls [.int (nI (rs)), .int (nI (tp))]) rfl ?_
  refine lv_iadd hx hb d_M_back_32 ?_
  refine sx_ti (y := nI (tp + rs)) (nI_add _ _) ?_
  refine lv_ldc (v := (nI 65536)) hx hb hown (hts (.constant R_M 7 (nI 65536)) (by decide +kernel)) d_M_back_33 ?_
  refine lv_icmp_le (tgt := 44) hx hb d_M_back_35 (by decide) (fun _ => ?_) (fun q35_0 => absurd (show (tp + rs) ≤ 65536 by omega) (by have q35_0 : ¬ ((tp + rs) ≤ 65536) := fun z => q35_0 ((nI_leI (a := (tp + rs)) (b := 65536) (by omega) (by omega)).mpr z); exact q35_0))
  refine lv_iconst (v := nI 0) hx hb d_M_back_44 (by decide +kernel) ?_
  refine lv_istore_n (lv' := [(3, .int (nI (0))), (0, .ref o), (1, .int v0), (2, .int v1)]) hx hb d_M_back_45 rfl hl (by decide) rfl (fun ls hl => ?_)
  obtain ⟨R4, eR4⟩ : ∃ t : vM, lpU 1 (LL_M_back_46 v0 v1 r tp) (rs - 0) 0 X = t := ⟨_, rfl⟩
  refine lpU_go (σ := vM) (P := fun i2 s3 H locs ls => sx_S g E E H0 H locs ∧ mm g H = s3 ∧ va_P D classes [(o, .inr (0, mo_fs r (mi (nI 0) (nI tp) (nI ms) (nI rs) (nI kc))))] H ∧ lv_has ls 4 [(3, .int (nI (i2))), (0, .ref o), (1, .int v0), (2, .int v1)]) (Wd := fun H locs ls => W p l e rm_M_back_a s m args below meth c H locs 0 0 Q (F0 m 46 ls [])) (N := rs) (d := 1) (by decide) ?_ ?_ (rs - 0) 0 _ (by omega) eR4 _ _ _ ⟨hS, hV, hM0, lv_sub hl [0, 1, 2, 3] rfl⟩
  · intro i2 s3 H locs ls hii2 hP ihi2
    obtain ⟨hS, hV, hM0, hl⟩ := hP
    refine lv_iload_n hx hb d_M_back_46 rfl (lv_at hl 0 rfl) ?_
    refine lv_aload_n hx hb d_M_back_47 rfl (lv_at hl 1 rfl) ?_
    refine sx_get EE hM0 rfl i_M 7 (by decide) rfl fl_M_325 rfl d_M_back_48 ?_
    refine W.eq (g2 := F0 m 51 ls [.int (nI (rs)), .int (nI (i2))]) rfl ?_
    refine lv_icmp_ge (tgt := 89) hx hb d_M_back_51 (by decide) (fun q => absurd q (nI_ge (by omega) (by omega))) (fun _ => ?_)
    refine lv_aload_n hx hb d_M_back_54 rfl (lv_at hl 1 rfl) ?_
    refine sx_get EE hM0 rfl i_M 1 (by decide) rfl fl_M_8 rfl d_M_back_55 ?_
    refine W.eq (g2 := F0 m 58 ls [.ref (r 1)]) rfl ?_
    refine lv_aload_n hx hb d_M_back_58 rfl (lv_at hl 1 rfl) ?_
    refine sx_get EE hM0 rfl i_M 5 (by decide) rfl fl_M_315 rfl d_M_back_59 ?_
    refine W.eq (g2 := F0 m 62 ls [.int (nI (tp)), .ref (r 1)]) rfl ?_
    refine lv_iload_n hx hb d_M_back_62 rfl (lv_at hl 0 rfl) ?_
    refine lv_iadd hx hb d_M_back_63 ?_
    refine sx_ti (y := nI (tp + i2)) (nI_add _ _) ?_
    refine lv_aload_n hx hb d_M_back_64 rfl (lv_at hl 1 rfl) ?_
    refine sx_get EE hM0 rfl i_M 3 (by decide) rfl fl_M_17 rfl d_M_back_65 ?_
    refine W.eq (g2 := F0 m 68 ls [.ref (r 3), .int (nI (tp + i2)), .ref (r 1)]) rfl ?_
    refine lv_iload_n hx hb d_M_back_68 rfl (lv_at hl 0 rfl) ?_
    refine vx_bald hx hb hG hS hV (moA_3 hA) (by omega) (by decide) d_M_back_69 ?_
    refine lv_iload_n hx hb d_M_back_70 rfl (lv_at hl 0 rfl) ?_
    refine lv_iload_n hx hb d_M_back_71 rfl (lv_at hl 2 rfl) ?_
    have jn80_6 : ∀ (J6 : Int32) (H : Heap) (locs : List Loc) (ls : Array Slot), (if (nI i2) = v0 then v1 else (nI 0)) = J6 → sx_S g E E H0 H locs → mm g H = s3 → va_P D classes [(o, .inr (0, mo_fs r (mi (nI 0) (nI tp) (nI ms) (nI rs) (nI kc))))] H → lv_has ls 4 [(3, .int (nI (i2))), (0, .ref o), (1, .int v0), (2, .int v1)] → W p l e rm_M_back_a s m args below meth c H locs 0 0 Q (F0 m 80 ls [.int J6, .int (s3.2 (r 3) i2), .int (nI (tp + i2)), .ref (r 1)]) := by
      intro J6 H locs ls eJ6 hS hV hM0 hl
      refine lv_ixor hx hb d_M_back_80 ?_
      refine lv_i2b hx hb d_M_back_81 rfl ?_
      refine vx_bastJ hx hb hG hK.1 hS hV (moA_1 hA) (moW_1 hW) (by omega) (by decide) d_M_back_82 (fun H locs X8 eX8 hS hV hO => ?_)
      have hM0 := hO _ _ hM0
      refine lv_iinc (v := nI (i2 + 1)) (lv' := [(3, .int (nI (i2 + 1))), (0, .ref o), (1, .int v0), (2, .int v1)]) hx hb d_M_back_83 hl (k := 0) rfl (sx_inc _ _) (by decide) rfl (fun ls hl => ?_)
      refine lv_goto (tgt := 46) hx hb d_M_back_86 (by decide) ?_
      exact ihi2 X8 _ _ _ (by subst eJ6 eX8; exact rfl) ⟨hS, hV, hM0, lv_sub hl [0, 1, 2, 3] rfl⟩
    refine lv_icmp_ne (tgt := 79) hx hb d_M_back_72 (by decide) (fun q72_4 => ?_) (fun q72_4 => ?_)
    · skip
      refine lv_iconst (v := nI 0) hx hb d_M_back_79 (by decide +kernel) ?_
      exact jn80_6 (nI 0) _ _ _ (vx_n q72_4 rfl) hS hV hM0 (lv_sub hl [0, 1, 2, 3] rfl)
    · skip
      refine lv_iload_n hx hb d_M_back_75 rfl (lv_at hl 3 rfl) ?_
      refine lv_goto (tgt := 80) hx hb d_M_back_76 (by decide) ?_
      exact jn80_6 v1 _ _ _ (vx_p q72_4 rfl) hS hV hM0 (lv_sub hl [0, 1, 2, 3] rfl)
  · intro H locs ls hP
    obtain ⟨hS, hV, hM0, hl⟩ := hP
    refine lv_iload_n hx hb d_M_back_46 rfl (lv_at hl 0 rfl) ?_
    refine lv_aload_n hx hb d_M_back_47 rfl (lv_at hl 1 rfl) ?_
    refine sx_get EE hM0 rfl i_M 7 (by decide) rfl fl_M_325 rfl d_M_back_48 ?_
    refine W.eq (g2 := F0 m 51 ls [.int (nI (rs)), .int (nI (rs))]) rfl ?_
    refine lv_icmp_ge (tgt := 89) hx hb d_M_back_51 (by decide) (fun _ => ?_) (fun q => absurd (nI_le (by omega) (by omega)) q)
    refine lv_aload_n hx hb d_M_back_89 rfl (lv_at hl 1 rfl) ?_
    refine lv_dup hx hb d_M_back_90 rfl ?_
    refine sx_get EE hM0 rfl i_M 5 (by decide) rfl fl_M_315 rfl d_M_back_91 ?_
    refine W.eq (g2 := F0 m 94 ls [.int (nI (tp)), .ref o]) rfl ?_
    refine lv_aload_n hx hb d_M_back_94 rfl (lv_at hl 1 rfl) ?_
    refine sx_get EE hM0 rfl i_M 7 (by decide) rfl fl_M_325 rfl d_M_back_95 ?_
    refine W.eq (g2 := F0 m 98 ls [.int (nI (rs)), .int (nI (tp)), .ref o]) rfl ?_
    refine lv_iadd hx hb d_M_back_98 ?_
    refine sx_ti (y := nI (tp + rs)) (nI_add _ _) ?_
    have h0_ := hM0
    refine sx_put EE hM0 rfl i_M t_M tok_M n_M 5 (by decide) rfl fl_M_315 (ty := .int) (by decide +kernel) rfl rfl (Nat.le_of_ble_eq_true rfl) eM hS d_M_back_99 (fun H locs hM0 hJ_ hs_ hS => ?_)
    have hM0 : va_P D classes [(o, .inr (0, mo_fs r (mi (nI 0) (nI (tp + rs)) (nI ms) (nI rs) (nI kc))))] H := hM0
    have hV := (vx_obj hG hK.1 h0_ hM0 hs_).trans hV
    refine lv_aload_n hx hb d_M_back_102 rfl (lv_at hl 1 rfl) ?_
    refine sx_get EE hM0 rfl i_M 5 (by decide) rfl fl_M_315 rfl d_M_back_103 ?_
    refine W.eq (g2 := F0 m 106 ls [.int (nI (tp + rs))]) rfl ?_
    have hp : LF_M_back_a X r v0 v1 tp ms rs kc = (R4, (nI (tp + rs))) := (by subst eR4; exact rfl)
    exact hret _ _ _ _ _ _ (congrArg Prod.fst hp :) (congrArg Prod.snd hp :) hM0 hS hV d_M_back_106
def LF_M_back_b (X : vM) (r : Nat → Nat) (v0 : Int32) (v1 : Int32) (tp : Nat) (ms : Nat) (rs : Nat) (kc : Nat) : vM × Int32 := (let X1 : vM := (LF_M_fail X r (nI 1) tp ms rs kc).1; (X1, (nI 0)))
abbrev rm_M_back_b : Room := { frames := 1, cells := 0, slots := 0, locals := 21 }
set_option maxHeartbeats 4000000 in
set_option maxRecDepth 100000 in
theorem v_M_back_b {l : Launch} {D : va_G} {g : ClassId → FieldType → Prop} {E : Nat → Prop} {H0 : Heap} {X : vM} {o : Nat} {r : Nat → Nat} {th : Int32} {tp : Nat} {ms : Nat} {rs : Nat} {kc : Nat} {v0 : Int32} {v1 : Int32} (hM0 : va_P D classes [(o, .inr (0, mo_fs r (mi th (nI tp) (nI ms) (nI rs) (nI kc))))] H0) (eM : E o) (hA : ∀ q ∈ mo_arr, sx_A g q.2.1 H0 (r q.1) q.2.2) (hW : ∀ q ∈ mo_arr, E (r q.1))  (h_tp : tp ≤ 65536) (h_ms : ms ≤ 65536) (h_rs : rs ≤ 64) (h_kc : kc ≤ 100) (hw : v0 < (-1 : Int32)) (hV : mm g H0 = X) : Met l y_M_back (.code y_M_back b_M_back 4 (some .int) :: G_) rm_M_back_b (sx_Pc [.ref o, .int v0, .int v1] H0 D g) (vx_QiP g E H0 (LF_M_back_b X r v0 v1 tp ms rs kc).1 (LF_M_back_b X r v0 v1 tp ms rs kc).2 (fun H => va_P D classes [(o, .inr (0, mo_fs r (mi (nI 1) (nI tp) (nI ms) (nI rs) (nI kc))))] H)) 0 0 E := by
  refine vx_miP (own := R_M) (by decide) rfl rfl rfl (Nat.le_of_ble_eq_true rfl) ?_
  intro p e s m args below meth c Q ls EE hl hret
  obtain ⟨hx, hb, hml, hown, hts, hG, hK⟩ := id EE
  have hS : sx_S g E E H0 H0 [] := sx_S.rf
  have hl : lv_has ls 4 [(0, .ref o), (1, .int v0), (2, .int v1)] := hl
  refine lv_aload_n hx hb d_M_back_0 rfl (lv_at hl 0 rfl) ?_
  refine lv_iconst (v := nI 0) hx hb d_M_back_1 (by decide +kernel) ?_
  have h0_ := hM0
  refine sx_put EE hM0 rfl i_M t_M tok_M n_M 0 (by decide) rfl fl_M_211 (ty := .int) (by decide +kernel) rfl rfl (Nat.le_of_ble_eq_true rfl) eM hS d_M_back_2 (fun H locs hM0 hJ_ hs_ hS => ?_)
  have hM0 : va_P D classes [(o, .inr (0, mo_fs r (mi (nI 0) (nI tp) (nI ms) (nI rs) (nI kc))))] H := hM0
  have hV := (vx_obj hG hK.1 h0_ hM0 hs_).trans hV
  refine lv_iload_n hx hb d_M_back_5 rfl (lv_at hl 1 rfl) ?_
  refine lv_iconst (v := (-1)) hx hb d_M_back_6 (by decide +kernel) ?_
  refine lv_icmp_lt (tgt := 18) hx hb d_M_back_7 (by decide) (fun _ => ?_) (fun q => absurd hw q)
  refine lv_aload_n hx hb d_M_back_18 rfl (lv_at hl 0 rfl) ?_
  refine lv_iconst (v := nI 1) hx hb d_M_back_19 (by decide +kernel) ?_
  refine vx_giP (sx_runV (As := [.int (nI (1))]) (rest := []) EE hM0 rfl rfl (v_M_fail (X := X) hM0 eM (fun q hq => hS.1.2.2.1 _ _ _ (hA q hq)) hW (h_tp := by omega) (h_ms := by omega) (h_rs := by omega) (h_kc := by omega) hV) w_M_319 rfl ⟨rfl, rfl⟩ ⟨Nat.le_of_ble_eq_true rfl, Nat.le_of_ble_eq_true rfl⟩ ⟨Nat.zero_le _, Nat.zero_le _⟩ hl.1 rfl (Nat.le_of_ble_eq_true rfl) d_M_back_20) (fun z_ h_ => h_) hS (fun H locs X1 eX1 hM0 hS hV hJ_ => ?_)
  have hM0 : va_P D classes [(o, .inr (0, mo_fs r (mi (nI 1) (nI tp) (nI ms) (nI rs) (nI kc))))] H := hM0
  have hp : LF_M_back_b X r v0 v1 tp ms rs kc = (X1, (nI 0)) := (by subst eX1; exact rfl)
  exact hret _ _ _ _ _ _ (congrArg Prod.fst hp :) (congrArg Prod.snd hp :) hM0 hS hV d_M_back_23
def LF_M_back_c (X : vM) (r : Nat → Nat) (v0 : Int32) (v1 : Int32) (tp : Nat) (ms : Nat) (rs : Nat) (kc : Nat) : vM × Int32 := (let X1 : vM := (LF_M_fail X r (nI 1) tp ms rs kc).1; (X1, (nI 0)))
abbrev rm_M_back_c : Room := { frames := 1, cells := 0, slots := 0, locals := 21 }
set_option maxHeartbeats 4000000 in
set_option maxRecDepth 100000 in
theorem v_M_back_c {l : Launch} {D : va_G} {g : ClassId → FieldType → Prop} {E : Nat → Prop} {H0 : Heap} {X : vM} {o : Nat} {r : Nat → Nat} {th : Int32} {tp : Nat} {ms : Nat} {rs : Nat} {kc : Nat} {v0 : Int32} {v1 : Int32} (hM0 : va_P D classes [(o, .inr (0, mo_fs r (mi th (nI tp) (nI ms) (nI rs) (nI kc))))] H0) (eM : E o) (hA : ∀ q ∈ mo_arr, sx_A g q.2.1 H0 (r q.1) q.2.2) (hW : ∀ q ∈ mo_arr, E (r q.1))  (h_tp : tp ≤ 65536) (h_ms : ms ≤ 65536) (h_rs : rs ≤ 64) (h_kc : kc ≤ 100) (hw : ¬ v0 < (-1 : Int32)) (hw2 : ¬ v0 < nI rs) (hV : mm g H0 = X) : Met l y_M_back (.code y_M_back b_M_back 4 (some .int) :: G_) rm_M_back_c (sx_Pc [.ref o, .int v0, .int v1] H0 D g) (vx_QiP g E H0 (LF_M_back_c X r v0 v1 tp ms rs kc).1 (LF_M_back_c X r v0 v1 tp ms rs kc).2 (fun H => va_P D classes [(o, .inr (0, mo_fs r (mi (nI 1) (nI tp) (nI ms) (nI rs) (nI kc))))] H)) 0 0 E := by
  refine vx_miP (own := R_M) (by decide) rfl rfl rfl (Nat.le_of_ble_eq_true rfl) ?_
  intro p e s m args below meth c Q ls EE hl hret
  obtain ⟨hx, hb, hml, hown, hts, hG, hK⟩ := id EE
  have hS : sx_S g E E H0 H0 [] := sx_S.rf
  have hl : lv_has ls 4 [(0, .ref o), (1, .int v0), (2, .int v1)] := hl
  refine lv_aload_n hx hb d_M_back_0 rfl (lv_at hl 0 rfl) ?_
  refine lv_iconst (v := nI 0) hx hb d_M_back_1 (by decide +kernel) ?_
  have h0_ := hM0
  refine sx_put EE hM0 rfl i_M t_M tok_M n_M 0 (by decide) rfl fl_M_211 (ty := .int) (by decide +kernel) rfl rfl (Nat.le_of_ble_eq_true rfl) eM hS d_M_back_2 (fun H locs hM0 hJ_ hs_ hS => ?_)
  have hM0 : va_P D classes [(o, .inr (0, mo_fs r (mi (nI 0) (nI tp) (nI ms) (nI rs) (nI kc))))] H := hM0
  have hV := (vx_obj hG hK.1 h0_ hM0 hs_).trans hV
  refine lv_iload_n hx hb d_M_back_5 rfl (lv_at hl 1 rfl) ?_
  refine lv_iconst (v := (-1)) hx hb d_M_back_6 (by decide +kernel) ?_
  refine lv_icmp_lt (tgt := 18) hx hb d_M_back_7 (by decide) (fun q => absurd q hw) (fun _ => ?_)
  refine lv_iload_n hx hb d_M_back_10 rfl (lv_at hl 1 rfl) ?_
  refine lv_aload_n hx hb d_M_back_11 rfl (lv_at hl 0 rfl) ?_
  refine sx_get EE hM0 rfl i_M 7 (by decide) rfl fl_M_325 rfl d_M_back_12 ?_
  refine W.eq (g2 := F0 m 15 ls [.int (nI (rs)), .int v0]) rfl ?_
  refine lv_icmp_lt (tgt := 24) hx hb d_M_back_15 (by decide) (fun q => absurd q hw2) (fun _ => ?_)
  refine lv_aload_n hx hb d_M_back_18 rfl (lv_at hl 0 rfl) ?_
  refine lv_iconst (v := nI 1) hx hb d_M_back_19 (by decide +kernel) ?_
  refine vx_giP (sx_runV (As := [.int (nI (1))]) (rest := []) EE hM0 rfl rfl (v_M_fail (X := X) hM0 eM (fun q hq => hS.1.2.2.1 _ _ _ (hA q hq)) hW (h_tp := by omega) (h_ms := by omega) (h_rs := by omega) (h_kc := by omega) hV) w_M_319 rfl ⟨rfl, rfl⟩ ⟨Nat.le_of_ble_eq_true rfl, Nat.le_of_ble_eq_true rfl⟩ ⟨Nat.zero_le _, Nat.zero_le _⟩ hl.1 rfl (Nat.le_of_ble_eq_true rfl) d_M_back_20) (fun z_ h_ => h_) hS (fun H locs X1 eX1 hM0 hS hV hJ_ => ?_)
  have hM0 : va_P D classes [(o, .inr (0, mo_fs r (mi (nI 1) (nI tp) (nI ms) (nI rs) (nI kc))))] H := hM0
  have hp : LF_M_back_c X r v0 v1 tp ms rs kc = (X1, (nI 0)) := (by subst eX1; exact rfl)
  exact hret _ _ _ _ _ _ (congrArg Prod.fst hp :) (congrArg Prod.snd hp :) hM0 hS hV d_M_back_23
def LF_M_back_d (X : vM) (r : Nat → Nat) (v0 : Int32) (v1 : Int32) (tp : Nat) (ms : Nat) (rs : Nat) (kc : Nat) : vM × Int32 := (let X2 : vM := (LF_M_fail X r (nI 2) tp ms rs kc).1; (X2, (nI 0)))
abbrev rm_M_back_d : Room := { frames := 1, cells := 0, slots := 0, locals := 21 }
set_option maxHeartbeats 4000000 in
set_option maxRecDepth 100000 in
theorem v_M_back_d {l : Launch} {D : va_G} {g : ClassId → FieldType → Prop} {E : Nat → Prop} {H0 : Heap} {X : vM} {o : Nat} {r : Nat → Nat} {th : Int32} {tp : Nat} {ms : Nat} {rs : Nat} {kc : Nat} {v0 : Int32} {v1 : Int32} (hM0 : va_P D classes [(o, .inr (0, mo_fs r (mi th (nI tp) (nI ms) (nI rs) (nI kc))))] H0) (eM : E o) (hA : ∀ q ∈ mo_arr, sx_A g q.2.1 H0 (r q.1) q.2.2) (hW : ∀ q ∈ mo_arr, E (r q.1))  (h_tp : tp ≤ 65536) (h_ms : ms ≤ 65536) (h_rs : rs ≤ 64) (h_kc : kc ≤ 100) (hw : ¬ v0 < (-1 : Int32)) (hw2 : v0 < nI rs) (hw3 : 65536 < tp + rs) (hV : mm g H0 = X) : Met l y_M_back (.code y_M_back b_M_back 4 (some .int) :: G_) rm_M_back_d (sx_Pc [.ref o, .int v0, .int v1] H0 D g) (vx_QiP g E H0 (LF_M_back_d X r v0 v1 tp ms rs kc).1 (LF_M_back_d X r v0 v1 tp ms rs kc).2 (fun H => va_P D classes [(o, .inr (0, mo_fs r (mi (nI 2) (nI tp) (nI ms) (nI rs) (nI kc))))] H)) 0 0 E := by
  refine vx_miP (own := R_M) (by decide) rfl rfl rfl (Nat.le_of_ble_eq_true rfl) ?_
  intro p e s m args below meth c Q ls EE hl hret
  obtain ⟨hx, hb, hml, hown, hts, hG, hK⟩ := id EE
  have hS : sx_S g E E H0 H0 [] := sx_S.rf
  have hl : lv_has ls 4 [(0, .ref o), (1, .int v0), (2, .int v1)] := hl
  refine lv_aload_n hx hb d_M_back_0 rfl (lv_at hl 0 rfl) ?_
  refine lv_iconst (v := nI 0) hx hb d_M_back_1 (by decide +kernel) ?_
  have h0_ := hM0
  refine sx_put EE hM0 rfl i_M t_M tok_M n_M 0 (by decide) rfl fl_M_211 (ty := .int) (by decide +kernel) rfl rfl (Nat.le_of_ble_eq_true rfl) eM hS d_M_back_2 (fun H locs hM0 hJ_ hs_ hS => ?_)
  have hM0 : va_P D classes [(o, .inr (0, mo_fs r (mi (nI 0) (nI tp) (nI ms) (nI rs) (nI kc))))] H := hM0
  have hV := (vx_obj hG hK.1 h0_ hM0 hs_).trans hV
  refine lv_iload_n hx hb d_M_back_5 rfl (lv_at hl 1 rfl) ?_
  refine lv_iconst (v := (-1)) hx hb d_M_back_6 (by decide +kernel) ?_
  refine lv_icmp_lt (tgt := 18) hx hb d_M_back_7 (by decide) (fun q => absurd q hw) (fun _ => ?_)
  refine lv_iload_n hx hb d_M_back_10 rfl (lv_at hl 1 rfl) ?_
  refine lv_aload_n hx hb d_M_back_11 rfl (lv_at hl 0 rfl) ?_
  refine sx_get EE hM0 rfl i_M 7 (by decide) rfl fl_M_325 rfl d_M_back_12 ?_
  refine W.eq (g2 := F0 m 15 ls [.int (nI (rs)), .int v0]) rfl ?_
  refine lv_icmp_lt (tgt := 24) hx hb d_M_back_15 (by decide) (fun _ => ?_) (fun q => absurd hw2 q)
  refine lv_aload_n hx hb d_M_back_24 rfl (lv_at hl 0 rfl) ?_
  refine sx_get EE hM0 rfl i_M 5 (by decide) rfl fl_M_315 rfl d_M_back_25 ?_
  refine W.eq (g2 := F0 m 28 ls [.int (nI (tp))]) rfl ?_
  refine lv_aload_n hx hb d_M_back_28 rfl (lv_at hl 0 rfl) ?_
  refine sx_get EE hM0 rfl i_M 7 (by decide) rfl fl_M_325 rfl d_M_back_29 ?_
  refine W.eq (g2 := F0 m 32 ls [.int (nI (rs)), .int (nI (tp))]) rfl ?_
  refine lv_iadd hx hb d_M_back_32 ?_
  refine sx_ti (y := nI (tp + rs)) (nI_add _ _) ?_
  refine lv_ldc (v := (nI 65536)) hx hb hown (hts (.constant R_M 7 (nI 65536)) (by decide +kernel)) d_M_back_33 ?_
  refine lv_icmp_le (tgt := 44) hx hb d_M_back_35 (by decide) (fun q35_0 => absurd (show (tp + rs) ≤ 65536 by have q35_0 : (tp + rs) ≤ 65536 := (nI_leI (a := (tp + rs)) (b := 65536) (by omega) (by omega)).mp q35_0; exact q35_0) (by omega)) (fun _ => ?_)
  refine lv_aload_n hx hb d_M_back_38 rfl (lv_at hl 0 rfl) ?_
  refine lv_iconst (v := nI 2) hx hb d_M_back_39 (by decide +kernel) ?_
  refine vx_giP (sx_runV (As := [.int (nI (2))]) (rest := []) EE hM0 rfl rfl (v_M_fail (X := X) hM0 eM (fun q hq => hS.1.2.2.1 _ _ _ (hA q hq)) hW (h_tp := by omega) (h_ms := by omega) (h_rs := by omega) (h_kc := by omega) hV) w_M_319 rfl ⟨rfl, rfl⟩ ⟨Nat.le_of_ble_eq_true rfl, Nat.le_of_ble_eq_true rfl⟩ ⟨Nat.zero_le _, Nat.zero_le _⟩ hl.1 rfl (Nat.le_of_ble_eq_true rfl) d_M_back_40) (fun z_ h_ => h_) hS (fun H locs X2 eX2 hM0 hS hV hJ_ => ?_)
  have hM0 : va_P D classes [(o, .inr (0, mo_fs r (mi (nI 2) (nI tp) (nI ms) (nI rs) (nI kc))))] H := hM0
  have hp : LF_M_back_d X r v0 v1 tp ms rs kc = (X2, (nI 0)) := (by subst eX2; exact rfl)
  exact hret _ _ _ _ _ _ (congrArg Prod.fst hp :) (congrArg Prod.snd hp :) hM0 hS hV d_M_back_43
def LF_M_result_a (X : vM) (r : Nat → Nat) (v0 : Nat) (tp : Nat) (ms : Nat) (rs : Nat) (kc : Nat) : vM × Int32 := (X, ((X.2 (r 3) v0) &&& (nI 255)))
abbrev rm_M_result_a : Room := { frames := 0, cells := 0, slots := 0, locals := 0 }
set_option maxHeartbeats 4000000 in
set_option maxRecDepth 100000 in
theorem v_M_result_a {l : Launch} {D : va_G} {g : ClassId → FieldType → Prop} {E : Nat → Prop} {H0 : Heap} {X : vM} {o : Nat} {r : Nat → Nat} {th : Int32} {tp : Nat} {ms : Nat} {rs : Nat} {kc : Nat} {v0 : Nat} (hM0 : va_P D classes [(o, .inr (0, mo_fs r (mi th (nI tp) (nI ms) (nI rs) (nI kc))))] H0) (eM : E o) (hA : ∀ q ∈ mo_arr, sx_A g q.2.1 H0 (r q.1) q.2.2) (hW : ∀ q ∈ mo_arr, E (r q.1))  (h_tp : tp ≤ 65536) (h_ms : ms ≤ 65536) (h_rs : rs ≤ 64) (h_kc : kc ≤ 100) (hw : v0 < rs) (hV : mm g H0 = X) : Met l y_M_result (.code y_M_result b_M_result 2 (some .int) :: G_) rm_M_result_a (sx_Pc [.ref o, .int (nI v0)] H0 D g) (vx_QiP g E H0 (LF_M_result_a X r v0 tp ms rs kc).1 (LF_M_result_a X r v0 tp ms rs kc).2 (fun H => va_P D classes [(o, .inr (0, mo_fs r (mi (nI 0) (nI tp) (nI ms) (nI rs) (nI kc))))] H)) 0 0 E := by
  refine vx_miP (own := R_M) (by decide) rfl rfl rfl (Nat.le_of_ble_eq_true rfl) ?_
  intro p e s m args below meth c Q ls EE hl hret
  obtain ⟨hx, hb, hml, hown, hts, hG, hK⟩ := id EE
  have hS : sx_S g E E H0 H0 [] := sx_S.rf
  have hl : lv_has ls 2 [(0, .ref o), (1, .int (nI (v0)))] := hl
  refine lv_aload_n hx hb d_M_result_0 rfl (lv_at hl 0 rfl) ?_
  refine lv_iconst (v := nI 0) hx hb d_M_result_1 (by decide +kernel) ?_
  have h0_ := hM0
  refine sx_put EE hM0 rfl i_M t_M tok_M n_M 0 (by decide) rfl fl_M_211 (ty := .int) (by decide +kernel) rfl rfl (Nat.le_of_ble_eq_true rfl) eM hS d_M_result_2 (fun H locs hM0 hJ_ hs_ hS => ?_)
  have hM0 : va_P D classes [(o, .inr (0, mo_fs r (mi (nI 0) (nI tp) (nI ms) (nI rs) (nI kc))))] H := hM0
  have hV := (vx_obj hG hK.1 h0_ hM0 hs_).trans hV
  refine lv_iload_n hx hb d_M_result_5 rfl (lv_at hl 1 rfl) ?_
  refine lv_if_lt (tgt := 17) hx hb d_M_result_6 (by decide) (fun q6_0 => absurd (show v0 < 0 by have q6_0 : v0 < 0 := (nI_ltI (a := v0) (b := 0) (by omega) (by omega)).mp q6_0; exact q6_0) (by omega)) (fun _ => ?_)
  refine lv_iload_n hx hb d_M_result_9 rfl (lv_at hl 1 rfl) ?_
  refine lv_aload_n hx hb d_M_result_10 rfl (lv_at hl 0 rfl) ?_
  refine sx_get EE hM0 rfl i_M 7 (by decide) rfl fl_M_325 rfl d_M_result_11 ?_
  refine W.eq (g2 := F0 m 14 ls [.int (nI (rs)), .int (nI (v0))]) rfl ?_
  refine lv_icmp_lt (tgt := 23) hx hb d_M_result_14 (by decide) (fun _ => ?_) (fun q14_1 => absurd (show v0 < rs by omega) (by have q14_1 : ¬ (v0 < rs) := fun z => q14_1 ((nI_ltI (a := v0) (b := rs) (by omega) (by omega)).mpr z); exact q14_1))
  refine lv_aload_n hx hb d_M_result_23 rfl (lv_at hl 0 rfl) ?_
  refine sx_get EE hM0 rfl i_M 3 (by decide) rfl fl_M_17 rfl d_M_result_24 ?_
  refine W.eq (g2 := F0 m 27 ls [.ref (r 3)]) rfl ?_
  refine lv_iload_n hx hb d_M_result_27 rfl (lv_at hl 1 rfl) ?_
  refine vx_bald hx hb hG hS hV (moA_3 hA) (by omega) (by decide) d_M_result_28 ?_
  refine lv_sipush (v := nI 255) hx hb d_M_result_29 (by decide +kernel) ?_
  refine lv_iand hx hb d_M_result_32 ?_
  have hp : LF_M_result_a X r v0 tp ms rs kc = (X, ((X.2 (r 3) v0) &&& (nI 255))) := rfl
  exact hret _ _ _ _ _ _ (congrArg Prod.fst hp :) (congrArg Prod.snd hp :) hM0 hS hV d_M_result_33
def LF_M_result_b (X : vM) (r : Nat → Nat) (v0 : Int32) (tp : Nat) (ms : Nat) (rs : Nat) (kc : Nat) : vM × Int32 := (let X1 : vM := (LF_M_fail X r (nI 1) tp ms rs kc).1; (X1, (nI 0)))
abbrev rm_M_result_b : Room := { frames := 1, cells := 0, slots := 0, locals := 21 }
set_option maxHeartbeats 4000000 in
set_option maxRecDepth 100000 in
theorem v_M_result_b {l : Launch} {D : va_G} {g : ClassId → FieldType → Prop} {E : Nat → Prop} {H0 : Heap} {X : vM} {o : Nat} {r : Nat → Nat} {th : Int32} {tp : Nat} {ms : Nat} {rs : Nat} {kc : Nat} {v0 : Int32} (hM0 : va_P D classes [(o, .inr (0, mo_fs r (mi th (nI tp) (nI ms) (nI rs) (nI kc))))] H0) (eM : E o) (hA : ∀ q ∈ mo_arr, sx_A g q.2.1 H0 (r q.1) q.2.2) (hW : ∀ q ∈ mo_arr, E (r q.1))  (h_tp : tp ≤ 65536) (h_ms : ms ≤ 65536) (h_rs : rs ≤ 64) (h_kc : kc ≤ 100) (hw : v0 < 0) (hV : mm g H0 = X) : Met l y_M_result (.code y_M_result b_M_result 2 (some .int) :: G_) rm_M_result_b (sx_Pc [.ref o, .int v0] H0 D g) (vx_QiP g E H0 (LF_M_result_b X r v0 tp ms rs kc).1 (LF_M_result_b X r v0 tp ms rs kc).2 (fun H => va_P D classes [(o, .inr (0, mo_fs r (mi (nI 1) (nI tp) (nI ms) (nI rs) (nI kc))))] H)) 0 0 E := by
  refine vx_miP (own := R_M) (by decide) rfl rfl rfl (Nat.le_of_ble_eq_true rfl) ?_
  intro p e s m args below meth c Q ls EE hl hret
  obtain ⟨hx, hb, hml, hown, hts, hG, hK⟩ := id EE
  have hS : sx_S g E E H0 H0 [] := sx_S.rf
  have hl : lv_has ls 2 [(0, .ref o), (1, .int v0)] := hl
  refine lv_aload_n hx hb d_M_result_0 rfl (lv_at hl 0 rfl) ?_
  refine lv_iconst (v := nI 0) hx hb d_M_result_1 (by decide +kernel) ?_
  have h0_ := hM0
  refine sx_put EE hM0 rfl i_M t_M tok_M n_M 0 (by decide) rfl fl_M_211 (ty := .int) (by decide +kernel) rfl rfl (Nat.le_of_ble_eq_true rfl) eM hS d_M_result_2 (fun H locs hM0 hJ_ hs_ hS => ?_)
  have hM0 : va_P D classes [(o, .inr (0, mo_fs r (mi (nI 0) (nI tp) (nI ms) (nI rs) (nI kc))))] H := hM0
  have hV := (vx_obj hG hK.1 h0_ hM0 hs_).trans hV
  refine lv_iload_n hx hb d_M_result_5 rfl (lv_at hl 1 rfl) ?_
  refine lv_if_lt (tgt := 17) hx hb d_M_result_6 (by decide) (fun _ => ?_) (fun q => absurd hw q)
  refine lv_aload_n hx hb d_M_result_17 rfl (lv_at hl 0 rfl) ?_
  refine lv_iconst (v := nI 1) hx hb d_M_result_18 (by decide +kernel) ?_
  refine vx_giP (sx_runV (As := [.int (nI (1))]) (rest := []) EE hM0 rfl rfl (v_M_fail (X := X) hM0 eM (fun q hq => hS.1.2.2.1 _ _ _ (hA q hq)) hW (h_tp := by omega) (h_ms := by omega) (h_rs := by omega) (h_kc := by omega) hV) w_M_319 rfl ⟨rfl, rfl⟩ ⟨Nat.le_of_ble_eq_true rfl, Nat.le_of_ble_eq_true rfl⟩ ⟨Nat.zero_le _, Nat.zero_le _⟩ hl.1 rfl (Nat.le_of_ble_eq_true rfl) d_M_result_19) (fun z_ h_ => h_) hS (fun H locs X1 eX1 hM0 hS hV hJ_ => ?_)
  have hM0 : va_P D classes [(o, .inr (0, mo_fs r (mi (nI 1) (nI tp) (nI ms) (nI rs) (nI kc))))] H := hM0
  have hp : LF_M_result_b X r v0 tp ms rs kc = (X1, (nI 0)) := (by subst eX1; exact rfl)
  exact hret _ _ _ _ _ _ (congrArg Prod.fst hp :) (congrArg Prod.snd hp :) hM0 hS hV d_M_result_22
def LF_M_result_c (X : vM) (r : Nat → Nat) (v0 : Int32) (tp : Nat) (ms : Nat) (rs : Nat) (kc : Nat) : vM × Int32 := (let X1 : vM := (LF_M_fail X r (nI 1) tp ms rs kc).1; (X1, (nI 0)))
abbrev rm_M_result_c : Room := { frames := 1, cells := 0, slots := 0, locals := 21 }
set_option maxHeartbeats 4000000 in
set_option maxRecDepth 100000 in
theorem v_M_result_c {l : Launch} {D : va_G} {g : ClassId → FieldType → Prop} {E : Nat → Prop} {H0 : Heap} {X : vM} {o : Nat} {r : Nat → Nat} {th : Int32} {tp : Nat} {ms : Nat} {rs : Nat} {kc : Nat} {v0 : Int32} (hM0 : va_P D classes [(o, .inr (0, mo_fs r (mi th (nI tp) (nI ms) (nI rs) (nI kc))))] H0) (eM : E o) (hA : ∀ q ∈ mo_arr, sx_A g q.2.1 H0 (r q.1) q.2.2) (hW : ∀ q ∈ mo_arr, E (r q.1))  (h_tp : tp ≤ 65536) (h_ms : ms ≤ 65536) (h_rs : rs ≤ 64) (h_kc : kc ≤ 100) (hw : ¬ v0 < 0) (hw2 : ¬ v0 < nI rs) (hV : mm g H0 = X) : Met l y_M_result (.code y_M_result b_M_result 2 (some .int) :: G_) rm_M_result_c (sx_Pc [.ref o, .int v0] H0 D g) (vx_QiP g E H0 (LF_M_result_c X r v0 tp ms rs kc).1 (LF_M_result_c X r v0 tp ms rs kc).2 (fun H => va_P D classes [(o, .inr (0, mo_fs r (mi (nI 1) (nI tp) (nI ms) (nI rs) (nI kc))))] H)) 0 0 E := by
  refine vx_miP (own := R_M) (by decide) rfl rfl rfl (Nat.le_of_ble_eq_true rfl) ?_
  intro p e s m args below meth c Q ls EE hl hret
  obtain ⟨hx, hb, hml, hown, hts, hG, hK⟩ := id EE
  have hS : sx_S g E E H0 H0 [] := sx_S.rf
  have hl : lv_has ls 2 [(0, .ref o), (1, .int v0)] := hl
  refine lv_aload_n hx hb d_M_result_0 rfl (lv_at hl 0 rfl) ?_
  refine lv_iconst (v := nI 0) hx hb d_M_result_1 (by decide +kernel) ?_
  have h0_ := hM0
  refine sx_put EE hM0 rfl i_M t_M tok_M n_M 0 (by decide) rfl fl_M_211 (ty := .int) (by decide +kernel) rfl rfl (Nat.le_of_ble_eq_true rfl) eM hS d_M_result_2 (fun H locs hM0 hJ_ hs_ hS => ?_)
  have hM0 : va_P D classes [(o, .inr (0, mo_fs r (mi (nI 0) (nI tp) (nI ms) (nI rs) (nI kc))))] H := hM0
  have hV := (vx_obj hG hK.1 h0_ hM0 hs_).trans hV
  refine lv_iload_n hx hb d_M_result_5 rfl (lv_at hl 1 rfl) ?_
  refine lv_if_lt (tgt := 17) hx hb d_M_result_6 (by decide) (fun q => absurd q hw) (fun _ => ?_)
  refine lv_iload_n hx hb d_M_result_9 rfl (lv_at hl 1 rfl) ?_
  refine lv_aload_n hx hb d_M_result_10 rfl (lv_at hl 0 rfl) ?_
  refine sx_get EE hM0 rfl i_M 7 (by decide) rfl fl_M_325 rfl d_M_result_11 ?_
  refine W.eq (g2 := F0 m 14 ls [.int (nI (rs)), .int v0]) rfl ?_
  refine lv_icmp_lt (tgt := 23) hx hb d_M_result_14 (by decide) (fun q => absurd q hw2) (fun _ => ?_)
  refine lv_aload_n hx hb d_M_result_17 rfl (lv_at hl 0 rfl) ?_
  refine lv_iconst (v := nI 1) hx hb d_M_result_18 (by decide +kernel) ?_
  refine vx_giP (sx_runV (As := [.int (nI (1))]) (rest := []) EE hM0 rfl rfl (v_M_fail (X := X) hM0 eM (fun q hq => hS.1.2.2.1 _ _ _ (hA q hq)) hW (h_tp := by omega) (h_ms := by omega) (h_rs := by omega) (h_kc := by omega) hV) w_M_319 rfl ⟨rfl, rfl⟩ ⟨Nat.le_of_ble_eq_true rfl, Nat.le_of_ble_eq_true rfl⟩ ⟨Nat.zero_le _, Nat.zero_le _⟩ hl.1 rfl (Nat.le_of_ble_eq_true rfl) d_M_result_19) (fun z_ h_ => h_) hS (fun H locs X1 eX1 hM0 hS hV hJ_ => ?_)
  have hM0 : va_P D classes [(o, .inr (0, mo_fs r (mi (nI 1) (nI tp) (nI ms) (nI rs) (nI kc))))] H := hM0
  have hp : LF_M_result_c X r v0 tp ms rs kc = (X1, (nI 0)) := (by subst eX1; exact rfl)
  exact hret _ _ _ _ _ _ (congrArg Prod.fst hp :) (congrArg Prod.snd hp :) hM0 hS hV d_M_result_22
