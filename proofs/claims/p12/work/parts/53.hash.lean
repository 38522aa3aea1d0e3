/-- a private field of a nest mate is written -/
theorem sx_putN {p : Program} {l : Launch} {e : Env} {R : Room} {s : State} {m : MethodId} {args : Array Value} {below : List Frame} {meth : Method} {c : Code} {H H0 : Heap} {locs : List Loc} {cells slots : Nat} {Q : State → Prop} {cc : ByteArray} {pc : Nat} {ls : Array Slot} {g : ClassId → FieldType → Prop} {E F : Nat → Prop} {D : va_G} {nL index : Nat} {own C host : String} {rest : List Value} {o ci : Nat} {fs : List Value} {T : u_T} {N : Nat} {f d : String} {ty : FieldType} {v : Value}
    (EE : sx_E p s m args c cc nL own D g) (hP : va_P D classes [(o, .inr (ci, fs))] H) (hc : classes[ci]? = some (C, T, N)) (hin : ∀ w ∈ u_ws C T N, w ∈ G_) (ty0 : Nat → FieldType) (hty : ∀ k, k < N → parseFieldDescriptor (T k).2.2.1 = some (ty0 k)) (hnm : ∀ a, a < N → ∀ b, b < N → a ≠ b → (T a).2.1 ≠ (T b).2.1)
    (k : Nat) (hk : k < N) (hT : T k = (C, f, d, false)) (hl : Cond.fieldLinkNest own index C f d host ∈ lw_tbl) (hd : parseFieldDescriptor d = some ty) (hn : narrow ty v = v) (hfit : fits ty v = true) (hlen : k < fs.length) (hE : E o) (hS : sx_S g E F H0 H locs) (hdg : decode cc pc = .ok (.putfield index, 3))
    (kk : ∀ (H1 : Heap) (locs1 : List Loc), va_P D classes [(o, .inr (ci, fs.set k v))] H1 → sx_J g E H H1 → (∀ q : Nat, q ≠ o → H1[q]? = H[q]?) → sx_S g E F H0 H1 locs1 → W p l e R s m args below meth c H1 locs1 cells slots Q (F0 m (pc + 3) ls rest)) : W p l e R s m args below meth c H locs cells slots Q (F0 m pc ls (v :: .ref o :: rest)) := by
  obtain ⟨hx, hb, hml, hown, hts, hU⟩ := EE
  have e1 : (T k).1 = C := by rw [hT]
  have e2 : (T k).2.1 = f := by rw [hT]
  have e3 : (T k).2.2.1 = d := by rw [hT]
  have e4 : (T k).2.2.2 = false := by rw [hT]
  have hK := hU.2.1
  have hap := va_apart (own := own) hts hin ty0 hty hnm hK hc
  obtain ⟨r, h1, cell, q1, q2, q3, q4⟩ := hP 0 _ rfl
  have hr : r = (C, T, N) := Option.some.inj (h1.symm.trans hc)
  subst hr
  obtain ⟨hS', hfc, kC, hkC, hkind⟩ := hK.1 ci _ hc
  obtain ⟨cf, kf, fi, fd, hi, hsl⟩ := hS' k hk
  have hlay := hts _ (hin _ (u_in_lay hk))
  unfold u_lay at hlay
  rw [if_neg (by rw [e4]; decide)] at hlay
  have hst := (u_facts hfc hkC (u_lays hts hin hk) hi).1
  have h6 := u_store hfc hkC hkind hlay hi (by rw [e3]; exact hd) hn hfit
  refine va_WputK (ref := C) (name := f) (desc := d) (host := host) hx hb (f := fd) hown (va_Nw.use rfl (hU.2.2.1 _ hl rfl)) (by rw [e1, e2, e3] at hi; exact hi) hst (by rw [q2]; exact h6) q1 q3 (by rw [hsl]; exact k2_hasslot (q4 k hk)) rfl rfl hdg fun H' w1 w2 w3 => ?_
  have hJ : sx_J g E H H' := sx_J.obj q1 (fun t => by rw [q2]; exact sx_noarr hU.1 hK hc t) w1 w2 w3 hE
  rw [hsl] at w1
  refine kk H' _ ?_ hJ w3 ⟨hS.1.tr hJ, hS.2.1, fun q hq => by
    rcases List.mem_append.mp hq with h | h
    · exact hS.2.2 q h
    · rw [List.mem_singleton.mp h]; exact hS.2.1 _ hE⟩
  intro j q hj
  match j, hj with
  | 0, hj =>
    cases hj
    exact ⟨_, hc, t_OB.to (V := updV (vp_V fs) k v) ⟨_, w1, q2, q3, t_set q4 hap hk v⟩ (fun j _ => vp_updV_set hlen v j)⟩
def LF_Ha_begin (X : vM) (kq : Nat → Nat → Nat) (ts : Nat → Nat) : vM := (let X1 : vM := cpL X (ts 6) 0 (kq 5 0) 0 8; X1)
abbrev rm_Ha_begin : Room := { frames := 1, cells := 0, slots := 0, locals := 100 }
set_option maxHeartbeats 4000000 in
set_option maxRecDepth 100000 in
theorem v_Ha_begin {l : Launch} {D : va_G} {g : ClassId → FieldType → Prop} {E : Nat → Prop} {H0 : Heap} {X : vM} {kq : Nat → Nat → Nat} {ts : Nat → Nat} {hd tt : Int32} (hC : kc_ D g E H0 kq ts) (hH : va_P D classes [(kq 5 99, .inr (7, [.ref (kq 5 0), .ref (kq 5 1), .ref (kq 5 2), .int hd, .int tt]))] H0) (eH : E (kq 5 99)) (hV : mm g H0 = X) : Met l y_Ha_begin (.code y_Ha_begin b_Ha_begin 1 none :: G_) rm_Ha_begin (sx_Pc [.ref (kq 5 99)] H0 D g) (vx_QvP g E H0 (LF_Ha_begin X kq ts) (fun H => va_P D classes [(kq 5 99, .inr (7, [.ref (kq 5 0), .ref (kq 5 1), .ref (kq 5 2), .int (nI 0), .int (nI 0)]))] H)) 0 0 E := by
  refine vx_mvP (own := R_Ha) (by decide) rfl rfl rfl (Nat.le_of_ble_eq_true rfl) ?_
  intro p e s m args below meth c Q ls EE hl hret
  obtain ⟨hx, hb, hml, hown, hts, hG, hK⟩ := id EE
  have hS : sx_S g E E H0 H0 [] := sx_S.rf
  have hz := hC.2.2.2.2
  have hl : lv_has ls 1 [(0, .ref (kq 5 99))] := hl
  obtain ⟨z0_, ⟨cz_, z1_, z2_, z3_⟩, z4_⟩ := (hz.kept hS.1) 6 (by decide)
  refine sx_gets EE (hK.2.2.1 6 (by decide)) z1_ z2_ z3_ fl_Ha_20 d_Ha_begin_0 ?_
  refine lv_iconst (v := nI 0) hx hb d_Ha_begin_3 (by decide +kernel) ?_
  refine lv_aload_n hx hb d_Ha_begin_4 rfl (lv_at hl 0 rfl) ?_
  refine sx_get EE hH rfl i_Ha 0 (by decide) rfl fl_Ha_7 rfl d_Ha_begin_5 ?_
  refine lv_iconst (v := nI 0) hx hb d_Ha_begin_8 (by decide +kernel) ?_
  refine lv_bipush (v := nI 8) hx hb d_Ha_begin_9 (by decide +kernel) ?_
  refine vx_cpyLJ hx hb (by rw [hml]; exact hl.1.symm) hown (hts (.methodLink R_Ha 23 arraycopyName) (by decide +kernel)) (hts (.native arraycopyName) (by decide +kernel)) (hts (.static arraycopyName) (by decide +kernel)) (hts (.initialized "java/lang/System") (by decide +kernel)) hG hK.1 hS hV (st_a6 hz) (kc_a5_0 hC) (kc_e5_0 hC) (by omega) (by omega) (by omega) (by omega) (Nat.le_of_ble_eq_true rfl) (Nat.le_of_ble_eq_true rfl) d_Ha_begin_11 (fun H locs X1 eX1 hS hV hO => ?_)
  have hH := hO _ _ hH
  refine lv_aload_n hx hb d_Ha_begin_14 rfl (lv_at hl 0 rfl) ?_
  refine lv_iconst (v := nI 0) hx hb d_Ha_begin_15 (by decide +kernel) ?_
  have h0_ := hH
  refine sx_put EE hH rfl i_Ha t_Ha tok_Ha n_Ha 3 (by decide) rfl fl_Ha_29 (ty := .int) (by decide +kernel) rfl rfl (Nat.le_of_ble_eq_true rfl) eH hS d_Ha_begin_16 (fun H locs hH hJ_ hs_ hS => ?_)
  have hH : va_P D classes [((kq 5 99), .inr (7, [.ref (kq 5 0), .ref (kq 5 1), .ref (kq 5 2), .int (nI (0)), .int tt]))] H := hH
  have hV := (vx_obj hG hK.1 h0_ hH hs_).trans hV
  refine lv_aload_n hx hb d_Ha_begin_19 rfl (lv_at hl 0 rfl) ?_
  refine lv_iconst (v := nI 0) hx hb d_Ha_begin_20 (by decide +kernel) ?_
  have h0_ := hH
  refine sx_put EE hH rfl i_Ha t_Ha tok_Ha n_Ha 4 (by decide) rfl fl_Ha_33 (ty := .int) (by decide +kernel) rfl rfl (Nat.le_of_ble_eq_true rfl) eH hS d_Ha_begin_21 (fun H locs hH hJ_ hs_ hS => ?_)
  have hH : va_P D classes [((kq 5 99), .inr (7, [.ref (kq 5 0), .ref (kq 5 1), .ref (kq 5 2), .int (nI (0)), .int (nI (0))]))] H := hH
  have hV := (vx_obj hG hK.1 h0_ hH hs_).trans hV
  exact hret _ _ _ _ _ (by subst eX1; exact rfl) hH hS hV d_Ha_begin_24
def LL_Ha_take_2 (kq : Nat → Nat → Nat) (a0 : Nat) (ts : Nat → Nat) : Nat → (vM × Nat) → (vM × Nat) := fun i_0 s_1 => (let X_2 : vM := stI s_1.1 (kq 5 2) s_1.2 ((s_1.1.2 a0 i_0).toInt8.toInt32); let J_3 : (vM × Nat) := if (s_1.2 + 1) = 128 then (let X_4 : vM := (LF_Ha_mix X_2 kq ts); (X_4, 0)) else (X_2, s_1.2 + 1); (J_3.1, J_3.2))
def LF_Ha_take (X : vM) (kq : Nat → Nat → Nat) (ts : Nat → Nat) (a0 : Nat) (v1 : Nat) (hd tt : Nat) : vM × Nat × Nat := (let R3 : (vM × Nat) := lpU 1 (LL_Ha_take_2 kq a0 ts) (v1 - 0) 0 (X, hd); (R3.1, R3.2, tt + v1))
abbrev rm_Ha_take : Room := { frames := 2, cells := 0, slots := 0, locals := 74 }
set_option maxHeartbeats 4000000 in
set_option maxRecDepth 100000 in
theorem v_Ha_take {l : Launch} {D : va_G} {g : ClassId → FieldType → Prop} {E : Nat → Prop} {H0 : Heap} {X : vM} {kq : Nat → Nat → Nat} {ts : Nat → Nat} {hd tt : Nat} {n0 : Nat} {a0 : Nat} {v1 : Nat} (hC : kc_ D g E H0 kq ts) (hH : va_P D classes [(kq 5 99, .inr (7, [.ref (kq 5 0), .ref (kq 5 1), .ref (kq 5 2), .int (nI hd), .int (nI tt)]))] H0) (eH : E (kq 5 99)) (hhd : hd < 128) (f0 : sx_A g .byte H0 a0 n0) (hv1 : v1 ≤ n0) (hn0 : n0 < 2147483648) (hV : mm g H0 = X) : Met l y_Ha_take (.code y_Ha_take b_Ha_take 4 none :: G_) rm_Ha_take (sx_Pc [.ref (kq 5 99), .ref a0, .int (nI v1)] H0 D g) (vx_QvP g E H0 (LF_Ha_take X kq ts a0 v1 hd tt).1 (fun H => (LF_Ha_take X kq ts a0 v1 hd tt).2.1 < 128 ∧ va_P D classes [(kq 5 99, .inr (7, [.ref (kq 5 0), .ref (kq 5 1), .ref (kq 5 2), .int (nI (LF_Ha_take X kq ts a0 v1 hd tt).2.1), .int (nI (LF_Ha_take X kq ts a0 v1 hd tt).2.2)]))] H)) 0 0 E := by
  refine vx_mvP (own := R_Ha) (by decide) rfl rfl rfl (Nat.le_of_ble_eq_true rfl) ?_
  intro p e s m args below meth c Q ls EE hl hret
  obtain ⟨hx, hb, hml, hown, hts, hG, hK⟩ := id EE
  have hS : sx_S g E E H0 H0 [] := sx_S.rf
  have hz := hC.2.2.2.2
  have hl : lv_has ls 4 [(0, .ref (kq 5 99)), (1, .ref a0), (2, .int (nI (v1)))] := hl
  refine lv_iconst (v := nI 0) hx hb d_Ha_take_0 (by decide +kernel) ?_
  refine lv_istore_n (lv' := [(3, .int (nI (0))), (0, .ref (kq 5 99)), (1, .ref a0), (2, .int (nI (v1)))]) hx hb d_Ha_take_1 rfl hl (by decide) rfl (fun ls hl => ?_)
  obtain ⟨R3, eR3⟩ : ∃ t : (vM × Nat), lpU 1 (LL_Ha_take_2 kq a0 ts) (v1 - 0) 0 (X, hd) = t := ⟨_, rfl⟩
  refine lpU_go (σ := (vM × Nat)) (P := fun i1 s2 H locs ls => s2.2 < 128 ∧ sx_S g E E H0 H locs ∧ mm g H = s2.1 ∧ va_P D classes [((kq 5 99), .inr (7, [.ref (kq 5 0), .ref (kq 5 1), .ref (kq 5 2), .int (nI (s2.2)), .int (nI (tt))]))] H ∧ lv_has ls 4 [(3, .int (nI (i1))), (0, .ref (kq 5 99)), (1, .ref a0), (2, .int (nI (v1)))]) (Wd := fun H locs ls => W p l e rm_Ha_take s m args below meth c H locs 0 0 Q (F0 m 2 ls [])) (N := v1) (d := 1) (by decide) ?_ ?_ (v1 - 0) 0 _ (by omega) eR3 _ _ _ ⟨(by omega), hS, hV, hH, lv_sub hl [0, 1, 2, 3] rfl⟩
  · intro i1 s2 H locs ls hii1 hP ihi1
    obtain ⟨hs2_1, hS, hV, hH, hl⟩ := hP
    refine lv_iload_n hx hb d_Ha_take_2 rfl (lv_at hl 0 rfl) ?_
    refine lv_iload_n hx hb d_Ha_take_3 rfl (lv_at hl 3 rfl) ?_
    refine lv_icmp_ge (tgt := 54) hx hb d_Ha_take_4 (by decide) (fun q => absurd q (nI_ge (by omega) (by omega))) (fun _ => ?_)
    refine lv_aload_n hx hb d_Ha_take_7 rfl (lv_at hl 1 rfl) ?_
    refine sx_get EE hH rfl i_Ha 2 (by decide) rfl fl_Ha_16 rfl d_Ha_take_8 ?_
    refine lv_aload_n hx hb d_Ha_take_11 rfl (lv_at hl 1 rfl) ?_
    refine sx_get EE hH rfl i_Ha 3 (by decide) rfl fl_Ha_29 rfl d_Ha_take_12 ?_
    refine lv_aload_n hx hb d_Ha_take_15 rfl (lv_at hl 2 rfl) ?_
    refine lv_iload_n hx hb d_Ha_take_16 rfl (lv_at hl 0 rfl) ?_
    refine vx_bald hx hb hG hS hV f0 (by omega) (by omega) d_Ha_take_17 ?_
    refine vx_bastJ hx hb hG hK.1 hS hV (kc_a5_2 hC) (kc_e5_2 hC) (by omega) (by decide) d_Ha_take_18 (fun H locs X4 eX4 hS hV hO => ?_)
    have hH := hO _ _ hH
    refine lv_aload_n hx hb d_Ha_take_19 rfl (lv_at hl 1 rfl) ?_
    refine lv_dup hx hb d_Ha_take_20 rfl ?_
    refine sx_get EE hH rfl i_Ha 3 (by decide) rfl fl_Ha_29 rfl d_Ha_take_21 ?_
    refine lv_iconst (v := nI 1) hx hb d_Ha_take_24 (by decide +kernel) ?_
    refine lv_iadd hx hb d_Ha_take_25 ?_
    refine sx_ti (y := nI (s2.2 + 1)) (nI_add _ _) ?_
    have h0_ := hH
    refine sx_put EE hH rfl i_Ha t_Ha tok_Ha n_Ha 3 (by decide) rfl fl_Ha_29 (ty := .int) (by decide +kernel) rfl rfl (Nat.le_of_ble_eq_true rfl) eH hS d_Ha_take_26 (fun H locs hH hJ_ hs_ hS => ?_)
    have hH : va_P D classes [((kq 5 99), .inr (7, [.ref (kq 5 0), .ref (kq 5 1), .ref (kq 5 2), .int (nI (s2.2 + 1)), .int (nI (tt))]))] H := hH
    have hV := (vx_obj hG hK.1 h0_ hH hs_).trans hV
    refine lv_aload_n hx hb d_Ha_take_29 rfl (lv_at hl 1 rfl) ?_
    refine sx_get EE hH rfl i_Ha 3 (by decide) rfl fl_Ha_29 rfl d_Ha_take_30 ?_
    refine lv_sipush (v := nI 128) hx hb d_Ha_take_33 (by decide +kernel) ?_
    have jn48_7 : ∀ (J7 : (vM × Nat)) (H : Heap) (locs : List Loc) (ls : Array Slot), (if (s2.2 + 1) = 128 then (let X6 : vM := (LF_Ha_mix X4 kq ts); (X6, 0)) else (X4, s2.2 + 1)) = J7 → J7.2 < 128 → sx_S g E E H0 H locs → mm g H = J7.1 → va_P D classes [((kq 5 99), .inr (7, [.ref (kq 5 0), .ref (kq 5 1), .ref (kq 5 2), .int (nI (J7.2)), .int (nI (tt))]))] H → lv_has ls 4 [(3, .int (nI (i1))), (0, .ref (kq 5 99)), (1, .ref a0), (2, .int (nI (v1)))] → W p l e rm_Ha_take s m args below meth c H locs 0 0 Q (F0 m 48 ls []) := by
      intro J7 H locs ls eJ7 bJ7_1 hS hV hH hl
      refine lv_iinc (v := nI (i1 + 1)) (lv' := [(3, .int (nI (i1 + 1))), (0, .ref (kq 5 99)), (1, .ref a0), (2, .int (nI (v1)))]) hx hb d_Ha_take_48 hl (k := 0) rfl (sx_inc _ _) (by decide) rfl (fun ls hl => ?_)
      refine lv_goto (tgt := 2) hx hb d_Ha_take_51 (by decide) ?_
      exact ihi1 (J7.1, J7.2) _ _ _ (by subst eX4 eJ7; exact rfl) ⟨(by omega), hS, hV, hH, lv_sub hl [0, 1, 2, 3] rfl⟩
    refine lv_icmp_ne (tgt := 48) hx hb d_Ha_take_36 (by decide) (fun q36_4 => ?_) (fun q36_4 => ?_)
    · skip
      have q36_4 : ¬ ((s2.2 + 1) = 128) := fun z => q36_4 ((nI_eq (a := (s2.2 + 1)) (b := 128) (by omega) (by omega)).mpr z)
      exact jn48_7 (X4, s2.2 + 1) _ _ _ (vx_n q36_4 rfl) (by omega) hS hV hH (lv_sub hl [0, 1, 2, 3] rfl)
    · skip
      have q36_4 : (s2.2 + 1) = 128 := (nI_eq (a := (s2.2 + 1)) (b := 128) (by omega) (by omega)).mp q36_4
      refine lv_aload_n hx hb d_Ha_take_39 rfl (lv_at hl 1 rfl) ?_
      refine vx_gvJ (sx_runV (As := []) (rest := []) EE hH rfl rfl (v_Ha_mix (E := (cutE E (kq 5 99))) (X := X4) (kc_.cut (hC.kept hS.1) (fun _ _ _ h_ => vx_ne hG hK.1 hH h_)) hH (fun z_ => z_.2 rfl) hV) w_Ha_36 rfl ⟨rfl, rfl⟩ ⟨Nat.le_of_ble_eq_true rfl, Nat.le_of_ble_eq_true rfl⟩ ⟨Nat.zero_le _, Nat.zero_le _⟩ hl.1 rfl (Nat.le_of_ble_eq_true rfl) d_Ha_take_40) (fun z_ h_ => h_.1) hS (fun H locs X9 eX9 hS hV hJ_ => ?_)
      have hH := hJ_.ob (fun z_ => z_.2 rfl) hH
      refine lv_aload_n hx hb d_Ha_take_43 rfl (lv_at hl 1 rfl) ?_
      refine lv_iconst (v := nI 0) hx hb d_Ha_take_44 (by decide +kernel) ?_
      have h0_ := hH
      refine sx_put EE hH rfl i_Ha t_Ha tok_Ha n_Ha 3 (by decide) rfl fl_Ha_29 (ty := .int) (by decide +kernel) rfl rfl (Nat.le_of_ble_eq_true rfl) eH hS d_Ha_take_45 (fun H locs hH hJ_ hs_ hS => ?_)
      have hH : va_P D classes [((kq 5 99), .inr (7, [.ref (kq 5 0), .ref (kq 5 1), .ref (kq 5 2), .int (nI (0)), .int (nI (tt))]))] H := hH
      have hV := (vx_obj hG hK.1 h0_ hH hs_).trans hV
      exact jn48_7 (X9, 0) _ _ _ (by subst eX9; exact (vx_p q36_4 rfl)) (by omega) hS hV hH (lv_sub hl [0, 1, 2, 3] rfl)
  · intro H locs ls hP
    obtain ⟨hR3_1, hS, hV, hH, hl⟩ := hP
    refine lv_iload_n hx hb d_Ha_take_2 rfl (lv_at hl 0 rfl) ?_
    refine lv_iload_n hx hb d_Ha_take_3 rfl (lv_at hl 3 rfl) ?_
    refine lv_icmp_ge (tgt := 54) hx hb d_Ha_take_4 (by decide) (fun _ => ?_) (fun q => absurd (nI_le (by omega) (by omega)) q)
    refine lv_aload_n hx hb d_Ha_take_54 rfl (lv_at hl 1 rfl) ?_
    refine lv_dup hx hb d_Ha_take_55 rfl ?_
    refine sx_get EE hH rfl i_Ha 4 (by decide) rfl fl_Ha_33 rfl d_Ha_take_56 ?_
    refine lv_iload_n hx hb d_Ha_take_59 rfl (lv_at hl 3 rfl) ?_
    refine lv_iadd hx hb d_Ha_take_60 ?_
    refine sx_ti (y := nI (tt + v1)) (nI_add _ _) ?_
    have h0_ := hH
    refine sx_put EE hH rfl i_Ha t_Ha tok_Ha n_Ha 4 (by decide) rfl fl_Ha_33 (ty := .int) (by decide +kernel) rfl rfl (Nat.le_of_ble_eq_true rfl) eH hS d_Ha_take_61 (fun H locs hH hJ_ hs_ hS => ?_)
    have hH : va_P D classes [((kq 5 99), .inr (7, [.ref (kq 5 0), .ref (kq 5 1), .ref (kq 5 2), .int (nI (R3.2)), .int (nI (tt + v1))]))] H := hH
    have hV := (vx_obj hG hK.1 h0_ hH hs_).trans hV
    have hp : LF_Ha_take X kq ts a0 v1 hd tt = (R3.1, R3.2, tt + v1) := (by subst eR3; exact rfl)
    exact hret _ _ _ _ _ (congrArg Prod.fst hp :) (by rw [hp]; exact ⟨by omega, hH⟩) hS hV d_Ha_take_64
def LL_Ha_finish_73 (a0 : Nat) (kq : Nat → Nat → Nat) : Nat → vM → vM := fun i_0 s_1 => (let X_2 : vM := (LF_Ha_putWord s_1 a0 (8 * i_0) (s_1.1 (kq 5 0) i_0)); X_2)
def LF_Ha_finish (X : vM) (kq : Nat → Nat → Nat) (ts : Nat → Nat) (a0 : Nat) (hd tt : Nat) : vM := (let X1 : vM := stI X (kq 5 2) hd ((-128 : Int32).toInt8.toInt32); let X2 : vM := (LF_JA_fillR X1 (kq 5 2) 128 (hd + 1) 128 (nI 0)); let J6 : vM := if hd < 112 then X2 else (let X4 : vM := (LF_Ha_mix X2 kq ts); let X5 : vM := (LF_JA_fillB X4 (kq 5 2) 128 (nI 0)); X5); (let X8 : vM := (LF_Ha_putWord J6 (kq 5 2) 120 ((8 : Int64) * ((nI tt).toInt64))); let X9 : vM := (LF_Ha_mix X8 kq ts); let R12 : vM := lpU 1 (LL_Ha_finish_73 a0 kq) 8 0 X9; R12))
abbrev rm_Ha_finish : Room := { frames := 2, cells := 0, slots := 0, locals := 74 }
set_option maxHeartbeats 4000000 in
set_option maxRecDepth 100000 in
theorem v_Ha_finish {l : Launch} {D : va_G} {g : ClassId → FieldType → Prop} {E : Nat → Prop} {H0 : Heap} {X : vM} {kq : Nat → Nat → Nat} {ts : Nat → Nat} {hd tt : Nat} {a0 : Nat} (hC : kc_ D g E H0 kq ts) (hH : va_P D classes [(kq 5 99, .inr (7, [.ref (kq 5 0), .ref (kq 5 1), .ref (kq 5 2), .int (nI hd), .int (nI tt)]))] H0) (eH : E (kq 5 99)) (hhd : hd < 128) (f0 : sx_A g .byte H0 a0 64) (o0 : E a0) (hV : mm g H0 = X) : Met l y_Ha_finish (.code y_Ha_finish b_Ha_finish 3 none :: G_) rm_Ha_finish (sx_Pc [.ref (kq 5 99), .ref a0] H0 D g) (vx_QvP g E H0 (LF_Ha_finish X kq ts a0 hd tt) (fun H => ho_ D kq H)) 0 0 E := by
  refine vx_mvP (own := R_Ha) (by decide) rfl rfl rfl (Nat.le_of_ble_eq_true rfl) ?_
  intro p e s m args below meth c Q ls EE hl hret
  obtain ⟨hx, hb, hml, hown, hts, hG, hK⟩ := id EE
  have hS : sx_S g E E H0 H0 [] := sx_S.rf
  have hz := hC.2.2.2.2
  have hl : lv_has ls 3 [(0, .ref (kq 5 99)), (1, .ref a0)] := hl
  refine lv_aload_n hx hb d_Ha_finish_0 rfl (lv_at hl 0 rfl) ?_
  refine sx_get EE hH rfl i_Ha 2 (by decide) rfl fl_Ha_16 rfl d_Ha_finish_1 ?_
  refine lv_aload_n hx hb d_Ha_finish_4 rfl (lv_at hl 0 rfl) ?_
  refine sx_get EE hH rfl i_Ha 3 (by decide) rfl fl_Ha_29 rfl d_Ha_finish_5 ?_
  refine lv_bipush (v := (-128)) hx hb d_Ha_finish_8 (by decide +kernel) ?_
  refine vx_bastJ hx hb hG hK.1 hS hV (kc_a5_2 hC) (kc_e5_2 hC) (by omega) (by decide) d_Ha_finish_10 (fun H locs X1 eX1 hS hV hO => ?_)
  have hH := hO _ _ hH
  refine lv_aload_n hx hb d_Ha_finish_11 rfl (lv_at hl 0 rfl) ?_
  refine sx_get EE hH rfl i_Ha 2 (by decide) rfl fl_Ha_16 rfl d_Ha_finish_12 ?_
  refine lv_aload_n hx hb d_Ha_finish_15 rfl (lv_at hl 0 rfl) ?_
  refine sx_get EE hH rfl i_Ha 3 (by decide) rfl fl_Ha_29 rfl d_Ha_finish_16 ?_
  refine lv_iconst (v := nI 1) hx hb d_Ha_finish_19 (by decide +kernel) ?_
  refine lv_iadd hx hb d_Ha_finish_20 ?_
  refine sx_ti (y := nI (hd + 1)) (nI_add _ _) ?_
  refine lv_sipush (v := nI 128) hx hb d_Ha_finish_21 (by decide +kernel) ?_
  refine lv_iconst (v := nI 0) hx hb d_Ha_finish_24 (by decide +kernel) ?_
  refine vx_gvJ (sx_runS (As := [.ref (kq 5 2), .int (nI (hd + 1)), .int (nI (128)), .int (nI (0))]) (rest := []) EE (v_JA_fillR (E := (cutE E (kq 5 99))) (X := X1) (hS.a (kc_a5_2 hC)) (hS.1.2.2.2 _ _ (kc_l5_2 hC)) ⟨(kc_e5_2 hC), vx_ne hG hK.1 hH (hS.a (kc_a5_2 hC))⟩ (by omega) (by omega) (by omega) hV) w_Ha_39 rfl ⟨rfl, rfl⟩ ⟨Nat.le_of_ble_eq_true rfl, Nat.le_of_ble_eq_true rfl⟩ ⟨Nat.zero_le _, Nat.zero_le _⟩ hl.1 rfl (Nat.le_of_ble_eq_true rfl) d_Ha_finish_25) (fun z_ h_ => h_.1) hS (fun H locs X2 eX2 hS hV hJ_ => ?_)
  have hH := hJ_.ob (fun z_ => z_.2 rfl) hH
  refine lv_aload_n hx hb d_Ha_finish_28 rfl (lv_at hl 0 rfl) ?_
  refine sx_get EE hH rfl i_Ha 3 (by decide) rfl fl_Ha_29 rfl d_Ha_finish_29 ?_
  refine lv_bipush (v := nI 112) hx hb d_Ha_finish_32 (by decide +kernel) ?_
  have jn49_6 : ∀ (J6 : vM) (H : Heap) (locs : List Loc) (ls : Array Slot), (if hd < 112 then X2 else (let X4 : vM := (LF_Ha_mix X2 kq ts); let X5 : vM := (LF_JA_fillB X4 (kq 5 2) 128 (nI 0)); X5)) = J6 → sx_S g E E H0 H locs → mm g H = J6 → va_P D classes [((kq 5 99), .inr (7, [.ref (kq 5 0), .ref (kq 5 1), .ref (kq 5 2), .int (nI (hd)), .int (nI (tt))]))] H → lv_has ls 3 [(0, .ref (kq 5 99)), (1, .ref a0)] → W p l e rm_Ha_finish s m args below meth c H locs 0 0 Q (F0 m 49 ls []) := by
    intro J6 H locs ls eJ6 hS hV hH hl
    refine lv_aload_n hx hb d_Ha_finish_49 rfl (lv_at hl 0 rfl) ?_
    refine sx_get EE hH rfl i_Ha 2 (by decide) rfl fl_Ha_16 rfl d_Ha_finish_50 ?_
    refine lv_bipush (v := nI 120) hx hb d_Ha_finish_53 (by decide +kernel) ?_
    refine lv_ldc2 (v := (8)) hx hb hown (hts (.constantLong R_Ha 48 (8)) (by decide +kernel)) d_Ha_finish_55 ?_
    refine lv_aload_n hx hb d_Ha_finish_58 rfl (lv_at hl 0 rfl) ?_
    refine sx_get EE hH rfl i_Ha 4 (by decide) rfl fl_Ha_33 rfl d_Ha_finish_59 ?_
    refine lv_i2l hx hb d_Ha_finish_62 rfl ?_
    refine lv_lmul hx hb d_Ha_finish_63 ?_
    refine vx_gvJ (sx_runS (As := [.ref (kq 5 2), .int (nI (120)), .long ((8 : Int64) * ((nI tt).toInt64))]) (rest := []) EE (v_Ha_putWord (E := (cutE E (kq 5 99))) (X := J6) (hS.a (kc_a5_2 hC)) ⟨(kc_e5_2 hC), vx_ne hG hK.1 hH (hS.a (kc_a5_2 hC))⟩ (by omega) (by omega) hV) w_Ha_50 rfl ⟨rfl, rfl⟩ ⟨Nat.le_of_ble_eq_true rfl, Nat.le_of_ble_eq_true rfl⟩ ⟨Nat.zero_le _, Nat.zero_le _⟩ hl.1 rfl (Nat.le_of_ble_eq_true rfl) d_Ha_finish_64) (fun z_ h_ => h_.1) hS (fun H locs X8 eX8 hS hV hJ_ => ?_)
    have hH := hJ_.ob (fun z_ => z_.2 rfl) hH
    refine lv_aload_n hx hb d_Ha_finish_67 rfl (lv_at hl 0 rfl) ?_
    refine vx_gvJ (sx_runV (As := []) (rest := []) EE hH rfl rfl (v_Ha_mix (E := (cutE E (kq 5 99))) (X := X8) (kc_.cut (hC.kept hS.1) (fun _ _ _ h_ => vx_ne hG hK.1 hH h_)) hH (fun z_ => z_.2 rfl) hV) w_Ha_36 rfl ⟨rfl, rfl⟩ ⟨Nat.le_of_ble_eq_true rfl, Nat.le_of_ble_eq_true rfl⟩ ⟨Nat.zero_le _, Nat.zero_le _⟩ hl.1 rfl (Nat.le_of_ble_eq_true rfl) d_Ha_finish_68) (fun z_ h_ => h_.1) hS (fun H locs X9 eX9 hS hV hJ_ => ?_)
    have hH := hJ_.ob (fun z_ => z_.2 rfl) hH
    refine lv_iconst (v := nI 0) hx hb d_Ha_finish_71 (by decide +kernel) ?_
    refine lv_istore_n (lv' := [(2, .int (nI (0))), (0, .ref (kq 5 99)), (1, .ref a0)]) hx hb d_Ha_finish_72 rfl hl (by decide) rfl (fun ls hl => ?_)
    obtain ⟨R12, eR12⟩ : ∃ t : vM, lpU 1 (LL_Ha_finish_73 a0 kq) 8 0 X9 = t := ⟨_, rfl⟩
    refine lpU_go (σ := vM) (P := fun i10 s11 H locs ls => sx_S g E E H0 H locs ∧ mm g H = s11 ∧ va_P D classes [((kq 5 99), .inr (7, [.ref (kq 5 0), .ref (kq 5 1), .ref (kq 5 2), .int (nI (hd)), .int (nI (tt))]))] H ∧ lv_has ls 3 [(2, .int (nI (i10))), (0, .ref (kq 5 99)), (1, .ref a0)]) (Wd := fun H locs ls => W p l e rm_Ha_finish s m args below meth c H locs 0 0 Q (F0 m 73 ls [])) (N := 8) (d := 1) (by decide) ?_ ?_ 8 0 _ (by omega) eR12 _ _ _ ⟨hS, hV, hH, lv_sub hl [0, 1, 2] rfl⟩
    · intro i10 s11 H locs ls hii10 hP ihi10
      obtain ⟨hS, hV, hH, hl⟩ := hP
      refine lv_iload_n hx hb d_Ha_finish_73 rfl (lv_at hl 0 rfl) ?_
      refine lv_bipush (v := nI 8) hx hb d_Ha_finish_74 (by decide +kernel) ?_
      refine lv_icmp_ge (tgt := 99) hx hb d_Ha_finish_76 (by decide) (fun q => absurd q (nI_ge (by omega) (by omega))) (fun _ => ?_)
      refine lv_aload_n hx hb d_Ha_finish_79 rfl (lv_at hl 2 rfl) ?_
      refine lv_bipush (v := nI 8) hx hb d_Ha_finish_80 (by decide +kernel) ?_
      refine lv_iload_n hx hb d_Ha_finish_82 rfl (lv_at hl 0 rfl) ?_
      refine lv_imul hx hb d_Ha_finish_83 ?_
      refine sx_ti (y := nI (8 * i10)) (pk_mul _ _) ?_
      refine lv_aload_n hx hb d_Ha_finish_84 rfl (lv_at hl 1 rfl) ?_
      refine sx_get EE hH rfl i_Ha 0 (by decide) rfl fl_Ha_7 rfl d_Ha_finish_85 ?_
      refine lv_iload_n hx hb d_Ha_finish_88 rfl (lv_at hl 0 rfl) ?_
      refine vx_lald hx hb hG hS hV (kc_a5_0 hC) (by omega) (by decide) d_Ha_finish_89 ?_
      refine vx_gvJ (sx_runS (As := [.ref a0, .int (nI (8 * i10)), .long (s11.1 (kq 5 0) i10)]) (rest := []) EE (v_Ha_putWord (E := (cutE E (kq 5 99))) (X := s11) (hS.a f0) ⟨o0, vx_ne hG hK.1 hH (hS.a f0)⟩ (by omega) (by omega) hV) w_Ha_50 rfl ⟨rfl, rfl⟩ ⟨Nat.le_of_ble_eq_true rfl, Nat.le_of_ble_eq_true rfl⟩ ⟨Nat.zero_le _, Nat.zero_le _⟩ hl.1 rfl (Nat.le_of_ble_eq_true rfl) d_Ha_finish_90) (fun z_ h_ => h_.1) hS (fun H locs X13 eX13 hS hV hJ_ => ?_)
      have hH := hJ_.ob (fun z_ => z_.2 rfl) hH
      refine lv_iinc (v := nI (i10 + 1)) (lv' := [(2, .int (nI (i10 + 1))), (0, .ref (kq 5 99)), (1, .ref a0)]) hx hb d_Ha_finish_93 hl (k := 0) rfl (sx_inc _ _) (by decide) rfl (fun ls hl => ?_)
      refine lv_goto (tgt := 73) hx hb d_Ha_finish_96 (by decide) ?_
      exact ihi10 X13 _ _ _ (by subst eX13; exact rfl) ⟨hS, hV, hH, lv_sub hl [0, 1, 2] rfl⟩
    · intro H locs ls hP
      obtain ⟨hS, hV, hH, hl⟩ := hP
      refine lv_iload_n hx hb d_Ha_finish_73 rfl (lv_at hl 0 rfl) ?_
      refine lv_bipush (v := nI 8) hx hb d_Ha_finish_74 (by decide +kernel) ?_
      refine lv_icmp_ge (tgt := 99) hx hb d_Ha_finish_76 (by decide) (fun _ => ?_) (fun q => absurd (nI_le (by omega) (by omega)) q)
      exact hret _ _ _ _ _ (by subst eX1 eX2 eJ6 eX8 eX9 eR12; exact rfl) ⟨_, _, hH⟩ hS hV d_Ha_finish_99
  refine lv_icmp_lt (tgt := 49) hx hb d_Ha_finish_34 (by decide) (fun q34_2 => ?_) (fun q34_2 => ?_)
  · skip
    have q34_2 : hd < 112 := (nI_ltI (a := hd) (b := 112) (by omega) (by omega)).mp q34_2
    exact jn49_6 X2 _ _ _ (vx_p q34_2 rfl) hS hV hH (lv_sub hl [0, 1] rfl)
  · skip
    have q34_2 : ¬ (hd < 112) := fun z => q34_2 ((nI_ltI (a := hd) (b := 112) (by omega) (by omega)).mpr z)
    refine lv_aload_n hx hb d_Ha_finish_37 rfl (lv_at hl 0 rfl) ?_
    refine vx_gvJ (sx_runV (As := []) (rest := []) EE hH rfl rfl (v_Ha_mix (E := (cutE E (kq 5 99))) (X := X2) (kc_.cut (hC.kept hS.1) (fun _ _ _ h_ => vx_ne hG hK.1 hH h_)) hH (fun z_ => z_.2 rfl) hV) w_Ha_36 rfl ⟨rfl, rfl⟩ ⟨Nat.le_of_ble_eq_true rfl, Nat.le_of_ble_eq_true rfl⟩ ⟨Nat.zero_le _, Nat.zero_le _⟩ hl.1 rfl (Nat.le_of_ble_eq_true rfl) d_Ha_finish_38) (fun z_ h_ => h_.1) hS (fun H locs X14 eX14 hS hV hJ_ => ?_)
    have hH := hJ_.ob (fun z_ => z_.2 rfl) hH
    refine lv_aload_n hx hb d_Ha_finish_41 rfl (lv_at hl 0 rfl) ?_
    refine sx_get EE hH rfl i_Ha 2 (by decide) rfl fl_Ha_16 rfl d_Ha_finish_42 ?_
    refine lv_iconst (v := nI 0) hx hb d_Ha_finish_45 (by decide +kernel) ?_
    refine vx_gvJ (sx_runS (As := [.ref (kq 5 2), .int (nI (0))]) (rest := []) EE (v_JA_fillB (E := (cutE E (kq 5 99))) (X := X14) (hS.a (kc_a5_2 hC)) (hS.1.2.2.2 _ _ (kc_l5_2 hC)) ⟨(kc_e5_2 hC), vx_ne hG hK.1 hH (hS.a (kc_a5_2 hC))⟩ (by omega) hV) w_Ha_45 rfl ⟨rfl, rfl⟩ ⟨Nat.le_of_ble_eq_true rfl, Nat.le_of_ble_eq_true rfl⟩ ⟨Nat.zero_le _, Nat.zero_le _⟩ hl.1 rfl (Nat.le_of_ble_eq_true rfl) d_Ha_finish_46) (fun z_ h_ => h_.1) hS (fun H locs X15 eX15 hS hV hJ_ => ?_)
    have hH := hJ_.ob (fun z_ => z_.2 rfl) hH
    exact jn49_6 X15 _ _ _ (by subst eX14 eX15; exact (vx_n q34_2 rfl)) hS hV hH (lv_sub hl [0, 1] rfl)
