/-! the row of keys -/
def ka_ (D : va_G) (H : Heap) (a : Nat) (f : Nat → Value) : Prop := H[a]? = some (arrV (D.2 2000 0) 100 f) ∧ ∀ j, f j = .null ∨ ∃ r, f j = .ref r
theorem ka_.lt {D : va_G} {H : Heap} {a : Nat} {f : Nat → Value} (h : ka_ D H a f) : a < H.size := (Array.getElem?_eq_some_iff.mp h.1).1
theorem ka_.kept {D : va_G} {H H1 : Heap} {a : Nat} {f : Nat → Value} (h : ka_ D H a f) (e : H1[a]? = H[a]?) : ka_ D H1 a f := ⟨e.trans h.1, h.2⟩
theorem ka_.j {D : va_G} {g : ClassId → FieldType → Prop} {E : Nat → Prop} {H H1 : Heap} {a : Nat} {f : Nat → Value} (h : ka_ D H a f) (hJ : sx_J g E H H1) (hE : ¬ E a) : ka_ D H1 a f := h.kept (hJ.2.1 a h.lt hE)
theorem ka_g {D : va_G} {s : State} {g : ClassId → FieldType → Prop} (hst : st_K D s) (hG : sx_G s g) : g (D.2 2000 0) (.object "CurveKeys$Key") := by
  obtain ⟨comp, c, k, h1, -, h3, h4, h5⟩ := Cond.arrayOver_spec (hst.2.2.1)
  cases Option.some.inj (h5.symm.trans hst.2.2.2)
  exact (hG _ _).mpr ⟨k, h3, comp, h4⟩
theorem ka_0 {D : va_G} {g : ClassId → FieldType → Prop} {H : Heap} {a : Nat} {f : Nat → Value} (h : ka_ D H a f) (j : Nat) : mml g H a j = 0 ∧ mmi g H a j = 0 := by
  have e : (arrV (D.2 2000 0) 100 f).slots[j]? = none ∨ (arrV (D.2 2000 0) 100 f).slots[j]? = some (f j) := by
    by_cases hj : j < 100
    · exact Or.inr (arrV_read _ _ hj)
    · exact Or.inl (Array.getElem?_eq_none (by rw [arrV_size]; omega))
  simp only [mml, mmi, h.1]
  constructor
  · split
    · rcases e with e | e
      · rw [e]
      · rw [e]
        rcases h.2 j with z | ⟨r, z⟩ <;> rw [z]
    · rfl
  · split
    · rcases e with e | e
      · rw [e]
      · rw [e]
        rcases h.2 j with z | ⟨r, z⟩ <;> rw [z]
    · rfl
theorem ka_mm {D : va_G} {g : ClassId → FieldType → Prop} {H H1 : Heap} {a : Nat} {f f1 : Nat → Value} (h : ka_ D H a f) (h1 : ka_ D H1 a f1) (hs : ∀ q : Nat, q ≠ a → H1[q]? = H[q]?) : mm g H1 = mm g H := by
  refine Prod.ext (funext fun b => funext fun k => ?_) (funext fun b => funext fun k => ?_)
  · show mml g H1 b k = mml g H b k
    by_cases hb : b = a
    · rw [hb, (ka_0 h k).1, (ka_0 h1 k).1]
    · exact mml_same (hs b hb) k
  · show mmi g H1 b k = mmi g H b k
    by_cases hb : b = a
    · rw [hb, (ka_0 h k).2, (ka_0 h1 k).2]
    · exact mmi_same (hs b hb) k
section KAL
variable {p : Program} {l : Launch} {e : Env} {R : Room} {s : State} {m : MethodId} {args : Array Value} {below : List Frame} {meth : Method} {c : Code} {H H0 : Heap} {locs : List Loc} {cells slots : Nat} {Q : State → Prop}
variable {cc : ByteArray} {pc nL : Nat} {own : String} {ls : Array Slot} {g : ClassId → FieldType → Prop} {D : va_G} {rest : List Value} {E F : Nat → Prop} {fs : List Value}
theorem vx_kald {a i : Nat} {f : Nat → Value} {v : Value} (hx : p.tables.exec = Jvm.exec) (hb : c.code = cc) (hG : sx_G s g) (hst : st_K D s) (h : ka_ D H a f) (hi : i < 100) (hv : f i = v) (hdg : decode cc pc = .ok (.aaload, 1))
    (kk : W p l e R s m args below meth c H locs cells slots Q (F0 m (pc + 1) ls (v :: rest))) : W p l e R s m args below meth c H locs cells slots Q (F0 m pc ls (.int (nI i) :: .ref a :: rest)) := by
  have hz : (nI i).toNatClampNeg = i := nI_clamp (by omega)
  exact W.aald (v := v) (ty := .object "CurveKeys$Key") hx hb h.1 (hG.arr (ka_g hst hG) (fun k h => by cases h)) rfl (fun h => by cases h) (by rw [hz, arrV_size]; rintro (z | z); exact nI_pos (by omega) z; omega) (by rw [hz, arrV_read _ _ hi, hv]) rfl rfl hdg kk
theorem vx_kast {a v i : Nat} {f : Nat → Value} (EE : sx_E p s m args c cc nL own D g) (ha : ka_ D H a f) (hv : va_P D classes [(v, .inr (10, fs))] H) (hi : i < 100) (hE : E a) (hS : sx_S g E F H0 H locs) (hdg : decode cc pc = .ok (.aastore, 1))
    (kk : ∀ (H1 : Heap) (locs1 : List Loc), ka_ D H1 a (updV f i (.ref v)) → sx_J g E H H1 → (∀ q : Nat, q ≠ a → H1[q]? = H[q]?) → sx_S g E F H0 H1 locs1 → W p l e R s m args below meth c H1 locs1 cells slots Q (F0 m (pc + 1) ls rest)) : W p l e R s m args below meth c H locs cells slots Q (F0 m pc ls (.ref v :: .int (nI i) :: .ref a :: rest)) := by
  obtain ⟨hx, hb, hml, hown, hts, hU⟩ := EE
  obtain ⟨comp, cA, kA, h4, -, h2, h3, h5⟩ := Cond.arrayOver_spec (hU.2.2.2.2.2.1)
  cases Option.some.inj (h5.symm.trans hU.2.2.2.2.2.2)
  have h1 := ha.1
  obtain ⟨r', hr', cellV, g1, g2, g3, -⟩ := hv 0 _ rfl
  have hcls := (hU.2.1.1 10 _ rfl).2
  have hcomp : comp = D.1 10 := Option.some.inj (h4.symm.trans hcls.1)
  subst hcomp
  obtain ⟨kC, hkC, -⟩ := hcls.2
  have hz : (nI i).toNatClampNeg = i := nI_clamp (by omega)
  refine W.aast hx hb h1 (fun q h => by cases h) (fun h => by cases h) h2 h3 rfl hkC ⟨nI_pos (by omega), by rw [hz, arrV_size]; exact hi⟩ g1 (fun q h => by rw [g3] at h; cases h) (by rw [g2]; exact hkC) (by rw [g2]; exact va_assign hcls) rfl rfl hdg fun H1 w1 w2 w3 => ?_
  rw [hz] at w1 ⊢
  have hJ : sx_J g E H H1 := sx_J.cell (t := .object "CurveKeys$Key") hU.1 h1 ((hU.1 _ _).mpr ⟨kA, h2, _, h3⟩) (k2_slotsz _ _ _) (fun _ h => h.set trivial) hE w1 w2 w3
  refine kk H1 _ ⟨by rw [w1, arrV_store], fun j => ?_⟩ hJ w3 ⟨hS.1.tr hJ, hS.2.1, fun q hq => by
    rcases List.mem_append.mp hq with h | h
    · exact hS.2.2 q h
    · rw [List.mem_singleton.mp h]; exact hS.2.1 _ hE⟩
  unfold updV
  split
  · exact Or.inr ⟨v, rfl⟩
  · exact ha.2 j
end KAL
theorem jd_n (X : vM) (kq : Nat → Nat → Nat) (ts : Nat → Nat) (a0 b1 m1 : Nat) : (LF_Si_judge X kq ts a0 b1 m1).2 = nI (LF_Si_judge X kq ts a0 b1 m1).2.toNatClampNeg ∧ (LF_Si_judge X kq ts a0 b1 m1).2.toNatClampNeg < 4 := by
  have h : (LF_Si_judge X kq ts a0 b1 m1).2 = nI 0 ∨ (LF_Si_judge X kq ts a0 b1 m1).2 = nI 1 ∨ (LF_Si_judge X kq ts a0 b1 m1).2 = nI 2 ∨ (LF_Si_judge X kq ts a0 b1 m1).2 = nI 3 := by
    unfold LF_Si_judge
    simp only []
    split
    · split
      · split
        · exact Or.inl rfl
        · exact Or.inr (Or.inr (Or.inr rfl))
      · exact Or.inr (Or.inr (Or.inl rfl))
    · exact Or.inr (Or.inl rfl)
  rcases h with h | h | h | h <;> rw [h] <;> decide +kernel
set_option maxHeartbeats 4000000 in
set_option maxRecDepth 100000 in
theorem v_K_requireTapeE {l : Launch} {D : va_G} {g : ClassId → FieldType → Prop} {H0 : Heap} {x kA re ve ta ma kc rl : Nat} {kq : Nat → Nat → Nat} {sg za : Int32} {bt tl : Nat} (hX : va_P D classes [(x, .inr (1, [.ref kA, .ref re, .ref ve, .ref (kq 1 99), .ref (kq 2 99), .ref (kq 7 99), .ref ta, .ref ma, .int (nI (kc)), .int (nI (rl)), .int sg, .int za]))] H0) (hT : va_P D classes [(ta, .inr (9, [.ref bt, .int (nI (tl))]))] H0) : Met l y_K_requireTape (.code y_K_requireTape b_K_requireTape 2 none :: G_) { frames := 0, cells := 0, slots := 0, locals := 0 } (sx_Pc [.ref x, .int (nI (tl))] H0 D g) (px_Qv g (fun _ => False) H0 (fun H1 => H0 = H1)) 0 0 (fun _ => False) := by
  refine px_mv (P := fun H1 => H0 = H1) (own := R_K) (by decide) rfl (Nat.le_of_ble_eq_true rfl) ?_
  intro p e s m args below meth c Q ls EE hl hret
  obtain ⟨hx, hb, hml, hown, hts, hG, hK⟩ := id EE
  have hS : sx_S g (fun _ => False) (fun _ => False) H0 H0 [] := sx_S.rf
  have hl : lv_has ls 2 [(0, .ref x), (1, .int (nI (tl)))] := hl
  refine lv_aload_n hx hb d_K_requireTape_0 rfl (lv_at hl 0 rfl) ?_
  refine sx_get (v := .ref ta) EE hX rfl i_K 6 (by decide) rfl fl_K_54 rfl d_K_requireTape_1 ?_
  refine sx_getN (v := .int (nI (tl))) EE hT rfl i_Ro 1 (by decide) rfl fn_K_76 rfl d_K_requireTape_4 ?_
  refine lv_iload_n hx hb d_K_requireTape_7 rfl (lv_at hl 1 rfl) ?_
  refine lv_icmp_eq (tgt := 21) hx hb d_K_requireTape_8 (by decide) (fun _ => ?_) (fun q => absurd rfl q)
  exact hret _ _ _ _ rfl hS d_K_requireTape_21
set_option maxHeartbeats 4000000 in
set_option maxRecDepth 100000 in
theorem v_K_existingKey {l : Launch} {D : va_G} {g : ClassId → FieldType → Prop} {H0 : Heap} {x kA re ve ta ma kc rl : Nat} {kq : Nat → Nat → Nat} {sg za : Int32} {k ko : Nat} {fk : Nat → Value} (hX : va_P D classes [(x, .inr (1, [.ref kA, .ref re, .ref ve, .ref (kq 1 99), .ref (kq 2 99), .ref (kq 7 99), .ref ta, .ref ma, .int (nI (kc)), .int (nI (rl)), .int sg, .int za]))] H0) (hA : ka_ D H0 kA fk) (hf : fk k = .ref ko) (hk : k < kc) (hkc : kc ≤ 100) : Met l y_K_existingKey (.code y_K_existingKey b_K_existingKey 2 (some (.object "CurveKeys$Key")) :: G_) { frames := 0, cells := 0, slots := 0, locals := 0 } (sx_Pc [.ref x, .int (nI (k))] H0 D g) (px_Qr g (fun _ => False) H0 (fun r_ H1 => ko = r_ ∧ H0 = H1)) 0 0 (fun _ => False) := by
  refine px_mrA (own := R_K) (Or.inl ⟨_, rfl⟩) (by decide) rfl (Nat.le_of_ble_eq_true rfl) ?_
  intro p e s m args below meth c Q ls EE hl hret
  obtain ⟨hx, hb, hml, hown, hts, hG, hK⟩ := id EE
  have hS : sx_S g (fun _ => False) (fun _ => False) H0 H0 [] := sx_S.rf
  have hl : lv_has ls 2 [(0, .ref x), (1, .int (nI (k)))] := hl
  refine lv_iload_n hx hb d_K_existingKey_0 rfl (lv_at hl 1 rfl) ?_
  refine lv_if_lt (tgt := 12) hx hb d_K_existingKey_1 (by decide) (fun q1_0 => absurd (show k < 0 by have q1_0 : k < 0 := (nI_ltI (a := k) (b := 0) (by omega) (by omega)).mp q1_0; exact q1_0) (by omega)) (fun _ => ?_)
  refine lv_iload_n hx hb d_K_existingKey_4 rfl (lv_at hl 1 rfl) ?_
  refine lv_aload_n hx hb d_K_existingKey_5 rfl (lv_at hl 0 rfl) ?_
  refine sx_get (v := .int (nI (kc))) EE hX rfl i_K 8 (by decide) rfl fl_K_88 rfl d_K_existingKey_6 ?_
  refine lv_icmp_lt (tgt := 22) hx hb d_K_existingKey_9 (by decide) (fun _ => ?_) (fun q9_1 => absurd (show k < kc by omega) (by have q9_1 : ¬ (k < kc) := fun z => q9_1 ((nI_ltI (a := k) (b := kc) (by omega) (by omega)).mpr z); exact q9_1))
  refine lv_aload_n hx hb d_K_existingKey_22 rfl (lv_at hl 0 rfl) ?_
  refine sx_get (v := .ref kA) EE hX rfl i_K 0 (by decide) rfl fl_K_14 rfl d_K_existingKey_23 ?_
  refine lv_iload_n hx hb d_K_existingKey_26 rfl (lv_at hl 1 rfl) ?_
  refine vx_kald (v := .ref ko) hx hb hG hK.2.2 hA (by omega) hf d_K_existingKey_27 ?_
  exact hret _ _ _ _ _ ⟨rfl, rfl⟩ hS d_K_existingKey_28
set_option maxHeartbeats 4000000 in
set_option maxRecDepth 100000 in
theorem v_K_open_a {l : Launch} {D : va_G} {g : ClassId → FieldType → Prop} {H0 : Heap} {X : vM} {x kA re ve ta ma kc rl : Nat} {kq : Nat → Nat → Nat} {sg za : Int32} {k ko : Nat} {q : Nat → Nat} {fk : Nat → Value} {E : Nat → Prop} {ts : Nat → Nat} {rd : Nat} (hX : va_P D classes [(x, .inr (1, [.ref kA, .ref re, .ref ve, .ref (kq 1 99), .ref (kq 2 99), .ref (kq 7 99), .ref ta, .ref ma, .int (nI (kc)), .int (nI (rl)), .int sg, .int za]))] H0) (hA : ka_ D H0 kA fk) (nA : ¬ E kA) (hf : fk k = .ref ko) (hk : k < kc) (hkc : kc ≤ 100) (hQ : va_P D classes [(ko, .inr (10, [.ref (q 0), .ref (q 1), .ref (q 2), .ref (q 3), .int (nI (rd))]))] H0) (nxo : ko ≠ x) (ex : E x) (nQ : ¬ E ko) (kf : ∀ j, j < 4 → sx_A g .byte H0 (q j) 32) (fr : sx_A g .byte H0 re 64) (er : E re) (hC : kc_ D g E H0 kq ts) (hV : mm g H0 = X) : Met l y_K_open (.code y_K_open b_K_open 4 none :: G_) { frames := 7, cells := 0, slots := 0, locals := 234 } (sx_Pc [.ref x, .int (nI (k)), .int (nI (0))] H0 D g) (px_Qv g E H0 (fun H => mm g H = LF_La_writePublicKey X kq ts re (q 0) ∧ va_P D classes [(x, .inr (1, [.ref kA, .ref re, .ref ve, .ref (kq 1 99), .ref (kq 2 99), .ref (kq 7 99), .ref ta, .ref ma, .int (nI (kc)), .int (nI (32)), .int sg, .int za]))] H)) 0 0 E := by
  refine px_mv (P := fun H => mm g H = LF_La_writePublicKey X kq ts re (q 0) ∧ va_P D classes [(x, .inr (1, [.ref kA, .ref re, .ref ve, .ref (kq 1 99), .ref (kq 2 99), .ref (kq 7 99), .ref ta, .ref ma, .int (nI (kc)), .int (nI (32)), .int sg, .int za]))] H) (own := R_K) (by decide) rfl (Nat.le_of_ble_eq_true rfl) ?_
  intro p e s m args below meth c Q ls EE hl hret
  obtain ⟨hx, hb, hml, hown, hts, hG, hK⟩ := id EE
  have hS : sx_S g E E H0 H0 [] := sx_S.rf
  have hl : lv_has ls 4 [(0, .ref x), (1, .int (nI (k))), (2, .int (nI (0)))] := hl
  refine lv_aload_n hx hb d_K_open_0 rfl (lv_at hl 0 rfl) ?_
  refine lv_iload_n hx hb d_K_open_1 rfl (lv_at hl 1 rfl) ?_
  refine px_grA (cells' := 0) (slots' := 0) (E' := (fun _ => False)) (P := fun r_ H1 => ko = r_ ∧ H0 = H1) (sx_runVA (As := [.int (nI k)]) (rest := []) EE hX rfl rfl (v_K_existingKey hX (hA.j hS.1 nA) hf hk hkc) w_K_106 rfl ⟨rfl, rfl⟩ ⟨Nat.le_of_ble_eq_true rfl, Nat.le_of_ble_eq_true rfl⟩ ⟨Nat.le_of_ble_eq_true rfl, Nat.le_of_ble_eq_true rfl⟩ hl.1 rfl (Nat.le_of_ble_eq_true rfl) d_K_open_2) (fun _ h => h.elim) hS rfl rfl (fun H1 locs r_ hJ_ hP hS => ?_)
  obtain ⟨rfl, rfl⟩ := hP
  refine lv_astore_n (lv' := [(3, .ref ko), (0, .ref x), (1, .int (nI (k))), (2, .int (nI (0)))]) hx hb d_K_open_5 rfl hl (by decide) rfl (fun ls hl => ?_)
  refine lv_iload_n hx hb d_K_open_6 rfl (lv_at hl 3 rfl) ?_
  refine lv_if_eq (tgt := 25) hx hb d_K_open_7 (by decide) (fun _ => ?_) (fun q7_0 => absurd (show 0 = 0 by decide) (by have q7_0 : ¬ (0 = 0) := fun z => q7_0 ((nI_eq (a := 0) (b := 0) (by omega) (by omega)).mpr z); exact q7_0))
  refine lv_iload_n hx hb d_K_open_25 rfl (lv_at hl 3 rfl) ?_
  refine lv_if_ne (tgt := 47) hx hb d_K_open_26 (by decide) (fun q26_1 => absurd (show 0 = 0 by decide) (by have q26_1 : ¬ (0 = 0) := fun z => q26_1 ((nI_eq (a := 0) (b := 0) (by omega) (by omega)).mpr z); exact q26_1)) (fun _ => ?_)
  refine lv_aload_n hx hb d_K_open_29 rfl (lv_at hl 1 rfl) ?_
  refine sx_get (v := .ref (kq 1 99)) EE hX rfl i_K 3 (by decide) rfl fl_K_31 rfl d_K_open_30 ?_
  refine lv_aload_n hx hb d_K_open_33 rfl (lv_at hl 1 rfl) ?_
  refine sx_get (v := .ref re) EE hX rfl i_K 1 (by decide) rfl fl_K_18 rfl d_K_open_34 ?_
  refine lv_aload_n hx hb d_K_open_37 rfl (lv_at hl 0 rfl) ?_
  refine sx_getN (v := .ref (q 0)) EE hQ rfl i_Ke 0 (by decide) rfl fn_K_97 rfl d_K_open_38 ?_
  have hC1 := ((hC.kept hS.1).cut (o := x) (fun _ _ _ ha_ => vx_ne hG hK.1 hX ha_))
  refine vx_gvJ (sx_runV (As := [.ref re, .ref (q 0)]) (rest := []) EE (kc_o1 hC1) rfl rfl (v_La_writePublicKey (E := (cutE E x)) (X := X) hC1 ((hS.a fr).le (by decide)) ⟨er, vx_ne hG hK.1 hX (hS.a fr)⟩ (hS.a (kf 0 (by decide))) hV) w_K_112 rfl ⟨rfl, rfl⟩ ⟨Nat.le_of_ble_eq_true rfl, Nat.le_of_ble_eq_true rfl⟩ ⟨Nat.zero_le _, Nat.zero_le _⟩ hl.1 rfl (Nat.le_of_ble_eq_true rfl) d_K_open_41) (fun z_ h_ => h_.1) hS (fun H locs X3 eX3 hS hV hJ_ => ?_)
  subst eX3
  have hX := hJ_.ob (fun z_ => z_.2 rfl) hX
  have hQ := hJ_.ob (fun z_ => nQ z_.1) hQ
  refine lv_goto (tgt := 70) hx hb d_K_open_44 (by decide) ?_
  refine lv_aload_n hx hb d_K_open_70 rfl (lv_at hl 1 rfl) ?_
  refine lv_bipush (v := nI 32) hx hb d_K_open_71 (by decide +kernel) ?_
  have h0_ := hX
  refine sx_put (E := E) (v := .int (nI (32))) EE hX rfl i_K t_K tok_K n_K 9 (by decide) rfl fl_K_123 (ty := t_K 9) (by decide +kernel) rfl rfl (Nat.le_of_ble_eq_true rfl) ex hS d_K_open_73 (fun H locs hX hJ_ hs_ hS => ?_)
  have hX : va_P D classes [(x, .inr (1, [.ref kA, .ref re, .ref ve, .ref (kq 1 99), .ref (kq 2 99), .ref (kq 7 99), .ref ta, .ref ma, .int (nI (kc)), .int (nI (32)), .int sg, .int za]))] H := hX
  have hV := (vx_obj hG hK.1 h0_ hX hs_).trans hV
  have hQ := hQ.one hs_ nxo
  exact hret _ _ _ _ ⟨hV, hX⟩ hS d_K_open_76
set_option maxHeartbeats 4000000 in
set_option maxRecDepth 100000 in
theorem v_K_open_b {l : Launch} {D : va_G} {g : ClassId → FieldType → Prop} {H0 : Heap} {X : vM} {x kA re ve ta ma kc rl : Nat} {kq : Nat → Nat → Nat} {sg za : Int32} {k ko : Nat} {q : Nat → Nat} {fk : Nat → Value} {E : Nat → Prop} {ts : Nat → Nat} {rd : Bool} (hX : va_P D classes [(x, .inr (1, [.ref kA, .ref re, .ref ve, .ref (kq 1 99), .ref (kq 2 99), .ref (kq 7 99), .ref ta, .ref ma, .int (nI (kc)), .int (nI (rl)), .int sg, .int za]))] H0) (hA : ka_ D H0 kA fk) (nA : ¬ E kA) (hf : fk k = .ref ko) (hk : k < kc) (hkc : kc ≤ 100) (hQ : va_P D classes [(ko, .inr (10, [.ref (q 0), .ref (q 1), .ref (q 2), .ref (q 3), .int (nI (rd.toNat))]))] H0) (nxo : ko ≠ x) (ex : E x) (eo : E ko) (h5x : kq 5 99 ≠ x) (h5o : ko ≠ kq 5 99) (eq : ∀ j, j < 4 → E (q j)) (kf : ∀ j, j < 4 → sx_A g .byte H0 (q j) 32) (fr : sx_A g .byte H0 re 64) (er : E re) (hHo : ho_ D kq H0) (eH : E (kq 5 99)) (hC : kc_ D g E H0 kq ts) (hV : mm g H0 = X) : Met l y_K_open (.code y_K_open b_K_open 4 none :: G_) { frames := 7, cells := 0, slots := 0, locals := 231 } (sx_Pc [.ref x, .int (nI (k)), .int (nI (1))] H0 D g) (px_Qv g E H0 (fun H => mm g H = cpI (LF_Si_makeReady X kq ts q rd) (q 3) 0 re 0 32 ∧ va_P D classes [(x, .inr (1, [.ref kA, .ref re, .ref ve, .ref (kq 1 99), .ref (kq 2 99), .ref (kq 7 99), .ref ta, .ref ma, .int (nI (kc)), .int (nI (32)), .int sg, .int za]))] H ∧ ho_ D kq H ∧ va_P D classes [(ko, .inr (10, [.ref (q 0), .ref (q 1), .ref (q 2), .ref (q 3), .int (nI (1))]))] H)) 0 0 E := by
  refine px_mv (P := fun H => mm g H = cpI (LF_Si_makeReady X kq ts q rd) (q 3) 0 re 0 32 ∧ va_P D classes [(x, .inr (1, [.ref kA, .ref re, .ref ve, .ref (kq 1 99), .ref (kq 2 99), .ref (kq 7 99), .ref ta, .ref ma, .int (nI (kc)), .int (nI (32)), .int sg, .int za]))] H ∧ ho_ D kq H ∧ va_P D classes [(ko, .inr (10, [.ref (q 0), .ref (q 1), .ref (q 2), .ref (q 3), .int (nI (1))]))] H) (own := R_K) (by decide) rfl (Nat.le_of_ble_eq_true rfl) ?_
  intro p e s m args below meth c Q ls EE hl hret
  obtain ⟨hx, hb, hml, hown, hts, hG, hK⟩ := id EE
  have hS : sx_S g E E H0 H0 [] := sx_S.rf
  have hl : lv_has ls 4 [(0, .ref x), (1, .int (nI (k))), (2, .int (nI (1)))] := hl
  refine lv_aload_n hx hb d_K_open_0 rfl (lv_at hl 0 rfl) ?_
  refine lv_iload_n hx hb d_K_open_1 rfl (lv_at hl 1 rfl) ?_
  refine px_grA (cells' := 0) (slots' := 0) (E' := (fun _ => False)) (P := fun r_ H1 => ko = r_ ∧ H0 = H1) (sx_runVA (As := [.int (nI k)]) (rest := []) EE hX rfl rfl (v_K_existingKey hX (hA.j hS.1 nA) hf hk hkc) w_K_106 rfl ⟨rfl, rfl⟩ ⟨Nat.le_of_ble_eq_true rfl, Nat.le_of_ble_eq_true rfl⟩ ⟨Nat.le_of_ble_eq_true rfl, Nat.le_of_ble_eq_true rfl⟩ hl.1 rfl (Nat.le_of_ble_eq_true rfl) d_K_open_2) (fun _ h => h.elim) hS rfl rfl (fun H1 locs r_ hJ_ hP hS => ?_)
  obtain ⟨rfl, rfl⟩ := hP
  refine lv_astore_n (lv' := [(3, .ref ko), (0, .ref x), (1, .int (nI (k))), (2, .int (nI (1)))]) hx hb d_K_open_5 rfl hl (by decide) rfl (fun ls hl => ?_)
  refine lv_iload_n hx hb d_K_open_6 rfl (lv_at hl 3 rfl) ?_
  refine lv_if_eq (tgt := 25) hx hb d_K_open_7 (by decide) (fun q7_0 => absurd (show 1 = 0 by have q7_0 : 1 = 0 := (nI_eq (a := 1) (b := 0) (by omega) (by omega)).mp q7_0; exact q7_0) (by decide)) (fun _ => ?_)
  refine lv_iload_n hx hb d_K_open_10 rfl (lv_at hl 3 rfl) ?_
  refine lv_iconst (v := nI 1) hx hb d_K_open_11 (by decide +kernel) ?_
  refine lv_icmp_eq (tgt := 25) hx hb d_K_open_12 (by decide) (fun _ => ?_) (fun q12_1 => absurd (show 1 = 1 by decide) (by have q12_1 : ¬ (1 = 1) := fun z => q12_1 ((nI_eq (a := 1) (b := 1) (by omega) (by omega)).mpr z); exact q12_1))
  refine lv_iload_n hx hb d_K_open_25 rfl (lv_at hl 3 rfl) ?_
  refine lv_if_ne (tgt := 47) hx hb d_K_open_26 (by decide) (fun _ => ?_) (fun q26_2 => absurd (show 1 = 0 by have q26_2 : 1 = 0 := (nI_eq (a := 1) (b := 0) (by omega) (by omega)).mp q26_2; exact q26_2) (by decide))
  refine lv_aload_n hx hb d_K_open_47 rfl (lv_at hl 1 rfl) ?_
  refine sx_get (v := .ref (kq 7 99)) EE hX rfl i_K 5 (by decide) rfl fl_K_47 rfl d_K_open_48 ?_
  refine lv_aload_n hx hb d_K_open_51 rfl (lv_at hl 0 rfl) ?_
  have hC1 := ((hC.kept hS.1).cut (o := x) (fun _ _ _ ha_ => vx_ne hG hK.1 hX ha_))
  refine vx_gvP (sx_runV (As := [.ref ko]) (rest := []) EE (kc_o7 hC1) rfl rfl (v_Si_makeReady (E := (cutE E x)) (X := X) hC1 (rd0 := rd) hHo ⟨eH, h5x⟩ hQ ⟨eo, nxo⟩ h5o (fun j hj => ⟨hS.a (kf j hj), ⟨eq j hj, vx_ne hG hK.1 hX (hS.a (kf j hj))⟩⟩) hV) w_K_116 rfl ⟨rfl, rfl⟩ ⟨Nat.le_of_ble_eq_true rfl, Nat.le_of_ble_eq_true rfl⟩ ⟨Nat.zero_le _, Nat.zero_le _⟩ hl.1 rfl (Nat.le_of_ble_eq_true rfl) d_K_open_52) (fun z_ h_ => h_.1) hS (fun H locs X4 eX4 hP_ hS hV hJ_ => ?_)
  subst eX4
  have hX := hJ_.ob (fun z_ => z_.2 rfl) hX
  obtain ⟨hHo, hQ⟩ := hP_
  refine lv_aload_n hx hb d_K_open_55 rfl (lv_at hl 0 rfl) ?_
  refine sx_getN (v := .ref (q 3)) EE hQ rfl i_Ke 3 (by decide) rfl fn_K_120 rfl d_K_open_56 ?_
  refine lv_iconst (v := nI 0) hx hb d_K_open_59 (by decide +kernel) ?_
  refine lv_aload_n hx hb d_K_open_60 rfl (lv_at hl 1 rfl) ?_
  refine sx_get (v := .ref re) EE hX rfl i_K 1 (by decide) rfl fl_K_18 rfl d_K_open_61 ?_
  refine lv_iconst (v := nI 0) hx hb d_K_open_64 (by decide +kernel) ?_
  refine lv_bipush (v := nI 32) hx hb d_K_open_65 (by decide +kernel) ?_
  refine vx_cpyBJ hx hb (by rw [hml]; exact hl.1.symm) hown (hts (.methodLink R_K 100 arraycopyName) (by decide +kernel)) (hts (.native arraycopyName) (by decide +kernel)) (hts (.static arraycopyName) (by decide +kernel)) (hts (.initialized "java/lang/System") (by decide +kernel)) hG hK.1 hS hV (kf 3 (by decide)) fr er (by decide) (by decide) (by decide) (by decide) (Nat.le_of_ble_eq_true rfl) (Nat.le_of_ble_eq_true rfl) d_K_open_67 (fun H locs X5 eX5 hS hV hOb => ?_)
  subst eX5
  have hHo : ho_ D kq H := by
    obtain ⟨z1_, z2_, z3_⟩ := hHo
    exact ⟨z1_, z2_, hOb _ _ z3_⟩
  have hX := hOb _ _ hX
  have hQ := hOb _ _ hQ
  refine lv_aload_n hx hb d_K_open_70 rfl (lv_at hl 1 rfl) ?_
  refine lv_bipush (v := nI 32) hx hb d_K_open_71 (by decide +kernel) ?_
  have h0_ := hX
  refine sx_put (E := E) (v := .int (nI (32))) EE hX rfl i_K t_K tok_K n_K 9 (by decide) rfl fl_K_123 (ty := t_K 9) (by decide +kernel) rfl rfl (Nat.le_of_ble_eq_true rfl) ex hS d_K_open_73 (fun H locs hX hJ_ hs_ hS => ?_)
  have hX : va_P D classes [(x, .inr (1, [.ref kA, .ref re, .ref ve, .ref (kq 1 99), .ref (kq 2 99), .ref (kq 7 99), .ref ta, .ref ma, .int (nI (kc)), .int (nI (32)), .int sg, .int za]))] H := hX
  have hV := (vx_obj hG hK.1 h0_ hX hs_).trans hV
  have hQ := hQ.one hs_ nxo
  have hHo : ho_ D kq H := by
    obtain ⟨z1_, z2_, z3_⟩ := hHo
    exact ⟨z1_, z2_, z3_.one hs_ h5x⟩
  exact hret _ _ _ _ ⟨hV, hX, hHo, hQ⟩ hS d_K_open_76
set_option maxHeartbeats 4000000 in
set_option maxRecDepth 100000 in
theorem v_K_sign {l : Launch} {D : va_G} {g : ClassId → FieldType → Prop} {H0 : Heap} {X : vM} {x kA re ve ta ma kc rl : Nat} {kq : Nat → Nat → Nat} {sg za : Int32} {k ko : Nat} {q : Nat → Nat} {fk : Nat → Value} {E : Nat → Prop} {ts : Nat → Nat} {rd : Bool} {bm ml nm : Nat} (hX : va_P D classes [(x, .inr (1, [.ref kA, .ref re, .ref ve, .ref (kq 1 99), .ref (kq 2 99), .ref (kq 7 99), .ref ta, .ref ma, .int (nI (kc)), .int (nI (rl)), .int sg, .int za]))] H0) (hA : ka_ D H0 kA fk) (nA : ¬ E kA) (hf : fk k = .ref ko) (hk : k < kc) (hkc : kc ≤ 100) (hQ : va_P D classes [(ko, .inr (10, [.ref (q 0), .ref (q 1), .ref (q 2), .ref (q 3), .int (nI (rd.toNat))]))] H0) (nxo : ko ≠ x) (ex : E x) (eo : E ko) (h5x : kq 5 99 ≠ x) (h5o : ko ≠ kq 5 99) (eq : ∀ j, j < 4 → E (q j)) (hM : va_P D classes [(ma, .inr (9, [.ref bm, .int (nI (ml))]))] H0) (nM : ¬ E ma) (nxm : ma ≠ x) (fm : sx_A g .byte H0 bm nm) (lm : ml ≤ nm) (um : nm ≤ 65536) (kf : ∀ j, j < 4 → sx_A g .byte H0 (q j) 32) (fr : sx_A g .byte H0 re 64) (er : E re) (hHo : ho_ D kq H0) (eH : E (kq 5 99)) (hC : kc_ D g E H0 kq ts) (hV : mm g H0 = X) : Met l y_K_sign (.code y_K_sign b_K_sign 3 none :: G_) { frames := 7, cells := 0, slots := 0, locals := 233 } (sx_Pc [.ref x, .int (nI (k))] H0 D g) (px_Qv g E H0 (fun H => mm g H = LF_Si_writeSignature (LF_Si_makeReady X kq ts q rd) kq ts re q bm ml ∧ va_P D classes [(x, .inr (1, [.ref kA, .ref re, .ref ve, .ref (kq 1 99), .ref (kq 2 99), .ref (kq 7 99), .ref ta, .ref ma, .int (nI (kc)), .int (nI (64)), .int (sg + (nI 1)), .int za]))] H ∧ ho_ D kq H ∧ va_P D classes [(ko, .inr (10, [.ref (q 0), .ref (q 1), .ref (q 2), .ref (q 3), .int (nI (1))]))] H)) 0 0 E := by
  refine px_mv (P := fun H => mm g H = LF_Si_writeSignature (LF_Si_makeReady X kq ts q rd) kq ts re q bm ml ∧ va_P D classes [(x, .inr (1, [.ref kA, .ref re, .ref ve, .ref (kq 1 99), .ref (kq 2 99), .ref (kq 7 99), .ref ta, .ref ma, .int (nI (kc)), .int (nI (64)), .int (sg + (nI 1)), .int za]))] H ∧ ho_ D kq H ∧ va_P D classes [(ko, .inr (10, [.ref (q 0), .ref (q 1), .ref (q 2), .ref (q 3), .int (nI (1))]))] H) (own := R_K) (by decide) rfl (Nat.le_of_ble_eq_true rfl) ?_
  intro p e s m args below meth c Q ls EE hl hret
  obtain ⟨hx, hb, hml, hown, hts, hG, hK⟩ := id EE
  have hS : sx_S g E E H0 H0 [] := sx_S.rf
  have hl : lv_has ls 3 [(0, .ref x), (1, .int (nI (k)))] := hl
  refine lv_aload_n hx hb d_K_sign_0 rfl (lv_at hl 0 rfl) ?_
  refine lv_iload_n hx hb d_K_sign_1 rfl (lv_at hl 1 rfl) ?_
  refine px_grA (cells' := 0) (slots' := 0) (E' := (fun _ => False)) (P := fun r_ H1 => ko = r_ ∧ H0 = H1) (sx_runVA (As := [.int (nI k)]) (rest := []) EE hX rfl rfl (v_K_existingKey hX (hA.j hS.1 nA) hf hk hkc) w_K_106 rfl ⟨rfl, rfl⟩ ⟨Nat.le_of_ble_eq_true rfl, Nat.le_of_ble_eq_true rfl⟩ ⟨Nat.le_of_ble_eq_true rfl, Nat.le_of_ble_eq_true rfl⟩ hl.1 rfl (Nat.le_of_ble_eq_true rfl) d_K_sign_2) (fun _ h => h.elim) hS rfl rfl (fun H1 locs r_ hJ_ hP hS => ?_)
  obtain ⟨rfl, rfl⟩ := hP
  refine lv_astore_n (lv' := [(2, .ref ko), (0, .ref x), (1, .int (nI (k)))]) hx hb d_K_sign_5 rfl hl (by decide) rfl (fun ls hl => ?_)
  refine lv_aload_n hx hb d_K_sign_6 rfl (lv_at hl 1 rfl) ?_
  refine sx_get (v := .ref (kq 7 99)) EE hX rfl i_K 5 (by decide) rfl fl_K_47 rfl d_K_sign_7 ?_
  refine lv_aload_n hx hb d_K_sign_10 rfl (lv_at hl 0 rfl) ?_
  have hC1 := ((hC.kept hS.1).cut (o := x) (fun _ _ _ ha_ => vx_ne hG hK.1 hX ha_))
  refine vx_gvP (sx_runV (As := [.ref ko]) (rest := []) EE (kc_o7 hC1) rfl rfl (v_Si_makeReady (E := (cutE E x)) (X := X) hC1 (rd0 := rd) hHo ⟨eH, h5x⟩ hQ ⟨eo, nxo⟩ h5o (fun j hj => ⟨hS.a (kf j hj), ⟨eq j hj, vx_ne hG hK.1 hX (hS.a (kf j hj))⟩⟩) hV) w_K_116 rfl ⟨rfl, rfl⟩ ⟨Nat.le_of_ble_eq_true rfl, Nat.le_of_ble_eq_true rfl⟩ ⟨Nat.zero_le _, Nat.zero_le _⟩ hl.1 rfl (Nat.le_of_ble_eq_true rfl) d_K_sign_11) (fun z_ h_ => h_.1) hS (fun H locs X1 eX1 hP_ hS hV hJ_ => ?_)
  subst eX1
  have hX := hJ_.ob (fun z_ => z_.2 rfl) hX
  have hM := hJ_.ob (fun z_ => nM z_.1) hM
  obtain ⟨hHo, hQ⟩ := hP_
  refine lv_aload_n hx hb d_K_sign_14 rfl (lv_at hl 1 rfl) ?_
  refine sx_get (v := .ref (kq 7 99)) EE hX rfl i_K 5 (by decide) rfl fl_K_47 rfl d_K_sign_15 ?_
  refine lv_aload_n hx hb d_K_sign_18 rfl (lv_at hl 1 rfl) ?_
  refine sx_get (v := .ref re) EE hX rfl i_K 1 (by decide) rfl fl_K_18 rfl d_K_sign_19 ?_
  refine lv_aload_n hx hb d_K_sign_22 rfl (lv_at hl 0 rfl) ?_
  refine lv_aload_n hx hb d_K_sign_23 rfl (lv_at hl 1 rfl) ?_
  refine sx_get (v := .ref ma) EE hX rfl i_K 7 (by decide) rfl fl_K_58 rfl d_K_sign_24 ?_
  have hC1 := (((hC.kept hS.1).cut (o := x) (fun _ _ _ ha_ => vx_ne hG hK.1 hX ha_)).cut (o := ko) (fun _ _ _ ha_ => vx_ne hG hK.1 hQ ha_))
  refine vx_gvP (sx_runV (As := [.ref re, .ref ko, .ref ma]) (rest := []) EE (kc_o7 hC1) rfl rfl (v_Si_writeSignature (E := (cutE (cutE E x) ko)) (X := (LF_Si_makeReady X kq ts q rd)) hC1 hHo ⟨⟨eH, h5x⟩, h5o.symm⟩ (hS.a fr) ⟨⟨er, vx_ne hG hK.1 hX (hS.a fr)⟩, vx_ne hG hK.1 hQ (hS.a fr)⟩ (rd1 := true) hQ (fun z_ => z_.2 rfl) (fun j hj => ⟨hS.a (kf j hj), ⟨⟨eq j hj, vx_ne hG hK.1 hX (hS.a (kf j hj))⟩, vx_ne hG hK.1 hQ (hS.a (kf j hj))⟩⟩) hM (fun z_ => nM z_.1.1) (hS.a fm) lm um hV) w_K_137 rfl ⟨rfl, rfl⟩ ⟨Nat.le_of_ble_eq_true rfl, Nat.le_of_ble_eq_true rfl⟩ ⟨Nat.zero_le _, Nat.zero_le _⟩ hl.1 rfl (Nat.le_of_ble_eq_true rfl) d_K_sign_27) (fun z_ h_ => h_.1.1) hS (fun H locs X2 eX2 hP_ hS hV hJ_ => ?_)
  subst eX2
  have hX := hJ_.ob (fun z_ => z_.1.2 rfl) hX
  have hQ := hJ_.ob (fun z_ => z_.2 rfl) hQ
  have hM := hJ_.ob (fun z_ => nM z_.1.1) hM
  have hHo := hP_
  refine lv_aload_n hx hb d_K_sign_30 rfl (lv_at hl 1 rfl) ?_
  refine lv_bipush (v := nI 64) hx hb d_K_sign_31 (by decide +kernel) ?_
  have h0_ := hX
  refine sx_put (E := E) (v := .int (nI (64))) EE hX rfl i_K t_K tok_K n_K 9 (by decide) rfl fl_K_123 (ty := t_K 9) (by decide +kernel) rfl rfl (Nat.le_of_ble_eq_true rfl) ex hS d_K_sign_33 (fun H locs hX hJ_ hs_ hS => ?_)
  have hX : va_P D classes [(x, .inr (1, [.ref kA, .ref re, .ref ve, .ref (kq 1 99), .ref (kq 2 99), .ref (kq 7 99), .ref ta, .ref ma, .int (nI (kc)), .int (nI (64)), .int sg, .int za]))] H := hX
  have hV := (vx_obj hG hK.1 h0_ hX hs_).trans hV
  have hQ := hQ.one hs_ nxo
  have hM := hM.one hs_ nxm
  have hHo : ho_ D kq H := by
    obtain ⟨z1_, z2_, z3_⟩ := hHo
    exact ⟨z1_, z2_, z3_.one hs_ h5x⟩
  refine lv_aload_n hx hb d_K_sign_36 rfl (lv_at hl 1 rfl) ?_
  refine lv_dup hx hb d_K_sign_37 rfl ?_
  refine sx_get (v := .int sg) EE hX rfl i_K 10 (by decide) rfl fl_K_141 rfl d_K_sign_38 ?_
  refine lv_iconst (v := nI 1) hx hb d_K_sign_41 (by decide +kernel) ?_
  refine lv_iadd hx hb d_K_sign_42 ?_
  have h0_ := hX
  refine sx_put (E := E) (v := .int (sg + (nI 1))) EE hX rfl i_K t_K tok_K n_K 10 (by decide) rfl fl_K_141 (ty := t_K 10) (by decide +kernel) rfl rfl (Nat.le_of_ble_eq_true rfl) ex hS d_K_sign_43 (fun H locs hX hJ_ hs_ hS => ?_)
  have hX : va_P D classes [(x, .inr (1, [.ref kA, .ref re, .ref ve, .ref (kq 1 99), .ref (kq 2 99), .ref (kq 7 99), .ref ta, .ref ma, .int (nI (kc)), .int (nI (64)), .int (sg + (nI 1)), .int za]))] H := hX
  have hV := (vx_obj hG hK.1 h0_ hX hs_).trans hV
  have hQ := hQ.one hs_ nxo
  have hM := hM.one hs_ nxm
  have hHo : ho_ D kq H := by
    obtain ⟨z1_, z2_, z3_⟩ := hHo
    exact ⟨z1_, z2_, z3_.one hs_ h5x⟩
  exact hret _ _ _ _ ⟨hV, hX, hHo, hQ⟩ hS d_K_sign_46
set_option maxHeartbeats 4000000 in
set_option maxRecDepth 100000 in
theorem v_K_agree_0 {l : Launch} {D : va_G} {g : ClassId → FieldType → Prop} {H0 : Heap} {X : vM} {x kA re ve ta ma kc rl : Nat} {kq : Nat → Nat → Nat} {sg za : Int32} {k ko : Nat} {q : Nat → Nat} {fk : Nat → Value} {E : Nat → Prop} {ts : Nat → Nat} {rd : Nat} {bt nt : Nat} (hX : va_P D classes [(x, .inr (1, [.ref kA, .ref re, .ref ve, .ref (kq 1 99), .ref (kq 2 99), .ref (kq 7 99), .ref ta, .ref ma, .int (nI (kc)), .int (nI (rl)), .int sg, .int za]))] H0) (hA : ka_ D H0 kA fk) (nA : ¬ E kA) (hf : fk k = .ref ko) (hk : k < kc) (hkc : kc ≤ 100) (hT : va_P D classes [(ta, .inr (9, [.ref bt, .int (nI (32))]))] H0) (nxt : x ≠ ta) (ex : E x) (et : E ta) (fb : sx_A g .byte H0 bt nt) (hnt : 96 ≤ nt) (hQ : va_P D classes [(ko, .inr (10, [.ref (q 0), .ref (q 1), .ref (q 2), .ref (q 3), .int (nI (rd))]))] H0) (nxo : ko ≠ x) (nto : ko ≠ ta) (nQ : ¬ E ko) (kf : ∀ j, j < 4 → sx_A g .byte H0 (q j) 32) (fr : sx_A g .byte H0 re 64) (er : E re) (hC : kc_ D g E H0 kq ts) (hw : LF_K_isZeroStart (LF_La_writeProduct X kq ts re (q 0) bt) re = false) (hV : mm g H0 = X) : Met l y_K_agree (.code y_K_agree b_K_agree 4 (some .boolean) :: G_) { frames := 6, cells := 0, slots := 0, locals := 212 } (sx_Pc [.ref x, .int (nI (k))] H0 D g) (px_Q g E H0 (nI 1) (fun H => mm g H = LF_La_writeProduct X kq ts re (q 0) bt ∧ va_P D classes [(x, .inr (1, [.ref kA, .ref re, .ref ve, .ref (kq 1 99), .ref (kq 2 99), .ref (kq 7 99), .ref ta, .ref ma, .int (nI (kc)), .int (nI (32)), .int sg, .int za]))] H ∧ va_P D classes [(ta, .inr (9, [.ref bt, .int (nI (0))]))] H)) 0 0 E := by
  refine px_mz (P := fun H => mm g H = LF_La_writeProduct X kq ts re (q 0) bt ∧ va_P D classes [(x, .inr (1, [.ref kA, .ref re, .ref ve, .ref (kq 1 99), .ref (kq 2 99), .ref (kq 7 99), .ref ta, .ref ma, .int (nI (kc)), .int (nI (32)), .int sg, .int za]))] H ∧ va_P D classes [(ta, .inr (9, [.ref bt, .int (nI (0))]))] H) (own := R_K) (by decide) (by decide) rfl (Nat.le_of_ble_eq_true rfl) ?_
  intro p e s m args below meth c Q ls EE hl hret
  obtain ⟨hx, hb, hml, hown, hts, hG, hK⟩ := id EE
  have hS : sx_S g E E H0 H0 [] := sx_S.rf
  have hl : lv_has ls 4 [(0, .ref x), (1, .int (nI (k)))] := hl
  refine lv_aload_n hx hb d_K_agree_0 rfl (lv_at hl 0 rfl) ?_
  refine lv_iload_n hx hb d_K_agree_1 rfl (lv_at hl 1 rfl) ?_
  refine px_grA (cells' := 0) (slots' := 0) (E' := (fun _ => False)) (P := fun r_ H1 => ko = r_ ∧ H0 = H1) (sx_runVA (As := [.int (nI k)]) (rest := []) EE hX rfl rfl (v_K_existingKey hX (hA.j hS.1 nA) hf hk hkc) w_K_106 rfl ⟨rfl, rfl⟩ ⟨Nat.le_of_ble_eq_true rfl, Nat.le_of_ble_eq_true rfl⟩ ⟨Nat.le_of_ble_eq_true rfl, Nat.le_of_ble_eq_true rfl⟩ hl.1 rfl (Nat.le_of_ble_eq_true rfl) d_K_agree_2) (fun _ h => h.elim) hS rfl rfl (fun H1 locs r_ hJ_ hP hS => ?_)
  obtain ⟨rfl, rfl⟩ := hP
  refine lv_astore_n (lv' := [(2, .ref ko), (0, .ref x), (1, .int (nI (k)))]) hx hb d_K_agree_5 rfl hl (by decide) rfl (fun ls hl => ?_)
  refine lv_aload_n hx hb d_K_agree_6 rfl (lv_at hl 1 rfl) ?_
  refine lv_bipush (v := nI 32) hx hb d_K_agree_7 (by decide +kernel) ?_
  refine px_gv (E' := (fun _ => False)) (P := fun H1 => H0 = H1) (sx_runV (As := [.int (nI (32))]) (rest := []) EE hX rfl rfl (v_K_requireTapeE hX hT) w_K_85 rfl ⟨rfl, rfl⟩ ⟨Nat.le_of_ble_eq_true rfl, Nat.le_of_ble_eq_true rfl⟩ ⟨Nat.zero_le _, Nat.zero_le _⟩ hl.1 rfl (Nat.le_of_ble_eq_true rfl) d_K_agree_9) (fun _ h => h.elim) hS (fun H1 locs hJ_ hP hS => ?_)
  obtain rfl := hP
  refine lv_aload_n hx hb d_K_agree_12 rfl (lv_at hl 1 rfl) ?_
  refine sx_get (v := .ref (kq 1 99)) EE hX rfl i_K 3 (by decide) rfl fl_K_31 rfl d_K_agree_13 ?_
  refine lv_aload_n hx hb d_K_agree_16 rfl (lv_at hl 1 rfl) ?_
  refine sx_get (v := .ref re) EE hX rfl i_K 1 (by decide) rfl fl_K_18 rfl d_K_agree_17 ?_
  refine lv_aload_n hx hb d_K_agree_20 rfl (lv_at hl 0 rfl) ?_
  refine sx_getN (v := .ref (q 0)) EE hQ rfl i_Ke 0 (by decide) rfl fn_K_97 rfl d_K_agree_21 ?_
  refine lv_aload_n hx hb d_K_agree_24 rfl (lv_at hl 1 rfl) ?_
  refine sx_get (v := .ref ta) EE hX rfl i_K 6 (by decide) rfl fl_K_54 rfl d_K_agree_25 ?_
  refine sx_getN (v := .ref bt) EE hT rfl i_Ro 0 (by decide) rfl fn_K_94 rfl d_K_agree_28 ?_
  have hC1 := (((hC.kept hS.1).cut (o := x) (fun _ _ _ ha_ => vx_ne hG hK.1 hX ha_)).cut (o := ta) (fun _ _ _ ha_ => vx_ne hG hK.1 hT ha_))
  refine vx_gvJ (sx_runV (As := [.ref re, .ref (q 0), .ref bt]) (rest := []) EE (kc_o1 hC1) rfl rfl (v_La_writeProduct (E := (cutE (cutE E x) ta)) (X := X) hC1 ((hS.a fr).le (by decide)) ⟨⟨er, vx_ne hG hK.1 hX (hS.a fr)⟩, vx_ne hG hK.1 hT (hS.a fr)⟩ (hS.a (kf 0 (by decide))) ((hS.a fb).le (by omega)) hV) w_K_126 rfl ⟨rfl, rfl⟩ ⟨Nat.le_of_ble_eq_true rfl, Nat.le_of_ble_eq_true rfl⟩ ⟨Nat.zero_le _, Nat.zero_le _⟩ hl.1 rfl (Nat.le_of_ble_eq_true rfl) d_K_agree_31) (fun z_ h_ => h_.1.1) hS (fun H locs X1 eX1 hS hV hJ_ => ?_)
  subst eX1
  have hX := hJ_.ob (fun z_ => z_.1.2 rfl) hX
  have hT := hJ_.ob (fun z_ => z_.2 rfl) hT
  have hQ := hJ_.ob (fun z_ => nQ z_.1.1) hQ
  refine lv_aload_n hx hb d_K_agree_34 rfl (lv_at hl 1 rfl) ?_
  refine lv_bipush (v := nI 32) hx hb d_K_agree_35 (by decide +kernel) ?_
  have h0_ := hX
  refine sx_put (E := E) (v := .int (nI (32))) EE hX rfl i_K t_K tok_K n_K 9 (by decide) rfl fl_K_123 (ty := t_K 9) (by decide +kernel) rfl rfl (Nat.le_of_ble_eq_true rfl) ex hS d_K_agree_37 (fun H locs hX hJ_ hs_ hS => ?_)
  have hX : va_P D classes [(x, .inr (1, [.ref kA, .ref re, .ref ve, .ref (kq 1 99), .ref (kq 2 99), .ref (kq 7 99), .ref ta, .ref ma, .int (nI (kc)), .int (nI (32)), .int sg, .int za]))] H := hX
  have hV := (vx_obj hG hK.1 h0_ hX hs_).trans hV
  have hT := hT.one hs_ (Ne.symm nxt)
  have hQ := hQ.one hs_ nxo
  refine lv_aload_n hx hb d_K_agree_40 rfl (lv_at hl 1 rfl) ?_
  refine sx_get (v := .ref ta) EE hX rfl i_K 6 (by decide) rfl fl_K_54 rfl d_K_agree_41 ?_
  refine lv_iconst (v := nI 0) hx hb d_K_agree_44 (by decide +kernel) ?_
  have h0_ := hT
  refine sx_putN (E := E) (v := .int (nI (0))) EE hT rfl i_Ro t_Ro tok_Ro n_Ro 1 (by decide) rfl fn_K_76 (ty := t_Ro 1) (by decide +kernel) rfl rfl (Nat.le_of_ble_eq_true rfl) et hS d_K_agree_45 (fun H locs hT hJ_ hs_ hS => ?_)
  have hT : va_P D classes [(ta, .inr (9, [.ref bt, .int (nI (0))]))] H := hT
  have hV := (vx_obj hG hK.1 h0_ hT hs_).trans hV
  have hX := hX.one hs_ nxt
  have hQ := hQ.one hs_ nto
  refine lv_aload_n hx hb d_K_agree_48 rfl (lv_at hl 1 rfl) ?_
  refine sx_get (v := .ref re) EE hX rfl i_K 1 (by decide) rfl fl_K_18 rfl d_K_agree_49 ?_
  refine vx_giJ (sx_runS (As := [.ref re]) (rest := []) EE (v_K_isZeroStart (E := (fun _ => False)) (X := (LF_La_writeProduct X kq ts re (q 0) bt)) ((hS.a fr).le (by decide)) hV) w_K_130 rfl ⟨rfl, rfl⟩ ⟨Nat.le_of_ble_eq_true rfl, Nat.le_of_ble_eq_true rfl⟩ ⟨Nat.zero_le _, Nat.zero_le _⟩ hl.1 rfl (Nat.le_of_ble_eq_true rfl) d_K_agree_52) (fun z_ h_ => h_.elim) hS (fun H locs X2 eX2 hS hV hJ_ => ?_)
  subst eX2
  have hX := hJ_.ob id hX
  have hT := hJ_.ob id hT
  have hQ := hJ_.ob id hQ
  refine sx_ti (y := nI 0) (by rw [hw]; rfl) ?_
  refine lv_if_ne (tgt := 62) hx hb d_K_agree_55 (by decide) (fun q55_2 => absurd (show 0 = 0 by decide) (by have q55_2 : ¬ (0 = 0) := fun z => q55_2 ((nI_eq (a := 0) (b := 0) (by omega) (by omega)).mpr z); exact q55_2)) (fun _ => ?_)
  refine lv_iconst (v := nI 1) hx hb d_K_agree_58 (by decide +kernel) ?_
  refine lv_goto (tgt := 63) hx hb d_K_agree_59 (by decide) ?_
  refine lv_istore_n (lv' := [(3, .int (nI (1))), (2, .ref ko), (0, .ref x), (1, .int (nI (k)))]) hx hb d_K_agree_63 rfl hl (by decide) rfl (fun ls hl => ?_)
  refine lv_iload_n hx hb d_K_agree_64 rfl (lv_at hl 0 rfl) ?_
  refine lv_if_ne (tgt := 78) hx hb d_K_agree_65 (by decide) (fun _ => ?_) (fun q65_3 => absurd (show 1 = 0 by have q65_3 : 1 = 0 := (nI_eq (a := 1) (b := 0) (by omega) (by omega)).mp q65_3; exact q65_3) (by decide))
  refine lv_iload_n hx hb d_K_agree_78 rfl (lv_at hl 0 rfl) ?_
  exact hret _ _ _ _ ⟨hV, hX, hT⟩ hS d_K_agree_79
set_option maxHeartbeats 4000000 in
set_option maxRecDepth 100000 in
theorem v_K_agree_1 {l : Launch} {D : va_G} {g : ClassId → FieldType → Prop} {H0 : Heap} {X : vM} {x kA re ve ta ma kc rl : Nat} {kq : Nat → Nat → Nat} {sg za : Int32} {k ko : Nat} {q : Nat → Nat} {fk : Nat → Value} {E : Nat → Prop} {ts : Nat → Nat} {rd : Nat} {bt nt : Nat} (hX : va_P D classes [(x, .inr (1, [.ref kA, .ref re, .ref ve, .ref (kq 1 99), .ref (kq 2 99), .ref (kq 7 99), .ref ta, .ref ma, .int (nI (kc)), .int (nI (rl)), .int sg, .int za]))] H0) (hA : ka_ D H0 kA fk) (nA : ¬ E kA) (hf : fk k = .ref ko) (hk : k < kc) (hkc : kc ≤ 100) (hT : va_P D classes [(ta, .inr (9, [.ref bt, .int (nI (32))]))] H0) (nxt : x ≠ ta) (ex : E x) (et : E ta) (fb : sx_A g .byte H0 bt nt) (hnt : 96 ≤ nt) (hQ : va_P D classes [(ko, .inr (10, [.ref (q 0), .ref (q 1), .ref (q 2), .ref (q 3), .int (nI (rd))]))] H0) (nxo : ko ≠ x) (nto : ko ≠ ta) (nQ : ¬ E ko) (kf : ∀ j, j < 4 → sx_A g .byte H0 (q j) 32) (fr : sx_A g .byte H0 re 64) (er : E re) (hC : kc_ D g E H0 kq ts) (hw : LF_K_isZeroStart (LF_La_writeProduct X kq ts re (q 0) bt) re = true) (hV : mm g H0 = X) : Met l y_K_agree (.code y_K_agree b_K_agree 4 (some .boolean) :: G_) { frames := 6, cells := 0, slots := 0, locals := 212 } (sx_Pc [.ref x, .int (nI (k))] H0 D g) (px_Q g E H0 (nI 0) (fun H => mm g H = LF_La_writeProduct X kq ts re (q 0) bt ∧ va_P D classes [(x, .inr (1, [.ref kA, .ref re, .ref ve, .ref (kq 1 99), .ref (kq 2 99), .ref (kq 7 99), .ref ta, .ref ma, .int (nI (kc)), .int (nI (32)), .int sg, .int (za + (nI 1))]))] H ∧ va_P D classes [(ta, .inr (9, [.ref bt, .int (nI (0))]))] H)) 0 0 E := by
  refine px_mz (P := fun H => mm g H = LF_La_writeProduct X kq ts re (q 0) bt ∧ va_P D classes [(x, .inr (1, [.ref kA, .ref re, .ref ve, .ref (kq 1 99), .ref (kq 2 99), .ref (kq 7 99), .ref ta, .ref ma, .int (nI (kc)), .int (nI (32)), .int sg, .int (za + (nI 1))]))] H ∧ va_P D classes [(ta, .inr (9, [.ref bt, .int (nI (0))]))] H) (own := R_K) (by decide) (by decide) rfl (Nat.le_of_ble_eq_true rfl) ?_
  intro p e s m args below meth c Q ls EE hl hret
  obtain ⟨hx, hb, hml, hown, hts, hG, hK⟩ := id EE
  have hS : sx_S g E E H0 H0 [] := sx_S.rf
  have hl : lv_has ls 4 [(0, .ref x), (1, .int (nI (k)))] := hl
  refine lv_aload_n hx hb d_K_agree_0 rfl (lv_at hl 0 rfl) ?_
  refine lv_iload_n hx hb d_K_agree_1 rfl (lv_at hl 1 rfl) ?_
  refine px_grA (cells' := 0) (slots' := 0) (E' := (fun _ => False)) (P := fun r_ H1 => ko = r_ ∧ H0 = H1) (sx_runVA (As := [.int (nI k)]) (rest := []) EE hX rfl rfl (v_K_existingKey hX (hA.j hS.1 nA) hf hk hkc) w_K_106 rfl ⟨rfl, rfl⟩ ⟨Nat.le_of_ble_eq_true rfl, Nat.le_of_ble_eq_true rfl⟩ ⟨Nat.le_of_ble_eq_true rfl, Nat.le_of_ble_eq_true rfl⟩ hl.1 rfl (Nat.le_of_ble_eq_true rfl) d_K_agree_2) (fun _ h => h.elim) hS rfl rfl (fun H1 locs r_ hJ_ hP hS => ?_)
  obtain ⟨rfl, rfl⟩ := hP
  refine lv_astore_n (lv' := [(2, .ref ko), (0, .ref x), (1, .int (nI (k)))]) hx hb d_K_agree_5 rfl hl (by decide) rfl (fun ls hl => ?_)
  refine lv_aload_n hx hb d_K_agree_6 rfl (lv_at hl 1 rfl) ?_
  refine lv_bipush (v := nI 32) hx hb d_K_agree_7 (by decide +kernel) ?_
  refine px_gv (E' := (fun _ => False)) (P := fun H1 => H0 = H1) (sx_runV (As := [.int (nI (32))]) (rest := []) EE hX rfl rfl (v_K_requireTapeE hX hT) w_K_85 rfl ⟨rfl, rfl⟩ ⟨Nat.le_of_ble_eq_true rfl, Nat.le_of_ble_eq_true rfl⟩ ⟨Nat.zero_le _, Nat.zero_le _⟩ hl.1 rfl (Nat.le_of_ble_eq_true rfl) d_K_agree_9) (fun _ h => h.elim) hS (fun H1 locs hJ_ hP hS => ?_)
  obtain rfl := hP
  refine lv_aload_n hx hb d_K_agree_12 rfl (lv_at hl 1 rfl) ?_
  refine sx_get (v := .ref (kq 1 99)) EE hX rfl i_K 3 (by decide) rfl fl_K_31 rfl d_K_agree_13 ?_
  refine lv_aload_n hx hb d_K_agree_16 rfl (lv_at hl 1 rfl) ?_
  refine sx_get (v := .ref re) EE hX rfl i_K 1 (by decide) rfl fl_K_18 rfl d_K_agree_17 ?_
  refine lv_aload_n hx hb d_K_agree_20 rfl (lv_at hl 0 rfl) ?_
  refine sx_getN (v := .ref (q 0)) EE hQ rfl i_Ke 0 (by decide) rfl fn_K_97 rfl d_K_agree_21 ?_
  refine lv_aload_n hx hb d_K_agree_24 rfl (lv_at hl 1 rfl) ?_
  refine sx_get (v := .ref ta) EE hX rfl i_K 6 (by decide) rfl fl_K_54 rfl d_K_agree_25 ?_
  refine sx_getN (v := .ref bt) EE hT rfl i_Ro 0 (by decide) rfl fn_K_94 rfl d_K_agree_28 ?_
  have hC1 := (((hC.kept hS.1).cut (o := x) (fun _ _ _ ha_ => vx_ne hG hK.1 hX ha_)).cut (o := ta) (fun _ _ _ ha_ => vx_ne hG hK.1 hT ha_))
  refine vx_gvJ (sx_runV (As := [.ref re, .ref (q 0), .ref bt]) (rest := []) EE (kc_o1 hC1) rfl rfl (v_La_writeProduct (E := (cutE (cutE E x) ta)) (X := X) hC1 ((hS.a fr).le (by decide)) ⟨⟨er, vx_ne hG hK.1 hX (hS.a fr)⟩, vx_ne hG hK.1 hT (hS.a fr)⟩ (hS.a (kf 0 (by decide))) ((hS.a fb).le (by omega)) hV) w_K_126 rfl ⟨rfl, rfl⟩ ⟨Nat.le_of_ble_eq_true rfl, Nat.le_of_ble_eq_true rfl⟩ ⟨Nat.zero_le _, Nat.zero_le _⟩ hl.1 rfl (Nat.le_of_ble_eq_true rfl) d_K_agree_31) (fun z_ h_ => h_.1.1) hS (fun H locs X1 eX1 hS hV hJ_ => ?_)
  subst eX1
  have hX := hJ_.ob (fun z_ => z_.1.2 rfl) hX
  have hT := hJ_.ob (fun z_ => z_.2 rfl) hT
  have hQ := hJ_.ob (fun z_ => nQ z_.1.1) hQ
  refine lv_aload_n hx hb d_K_agree_34 rfl (lv_at hl 1 rfl) ?_
  refine lv_bipush (v := nI 32) hx hb d_K_agree_35 (by decide +kernel) ?_
  have h0_ := hX
  refine sx_put (E := E) (v := .int (nI (32))) EE hX rfl i_K t_K tok_K n_K 9 (by decide) rfl fl_K_123 (ty := t_K 9) (by decide +kernel) rfl rfl (Nat.le_of_ble_eq_true rfl) ex hS d_K_agree_37 (fun H locs hX hJ_ hs_ hS => ?_)
  have hX : va_P D classes [(x, .inr (1, [.ref kA, .ref re, .ref ve, .ref (kq 1 99), .ref (kq 2 99), .ref (kq 7 99), .ref ta, .ref ma, .int (nI (kc)), .int (nI (32)), .int sg, .int za]))] H := hX
  have hV := (vx_obj hG hK.1 h0_ hX hs_).trans hV
  have hT := hT.one hs_ (Ne.symm nxt)
  have hQ := hQ.one hs_ nxo
  refine lv_aload_n hx hb d_K_agree_40 rfl (lv_at hl 1 rfl) ?_
  refine sx_get (v := .ref ta) EE hX rfl i_K 6 (by decide) rfl fl_K_54 rfl d_K_agree_41 ?_
  refine lv_iconst (v := nI 0) hx hb d_K_agree_44 (by decide +kernel) ?_
  have h0_ := hT
  refine sx_putN (E := E) (v := .int (nI (0))) EE hT rfl i_Ro t_Ro tok_Ro n_Ro 1 (by decide) rfl fn_K_76 (ty := t_Ro 1) (by decide +kernel) rfl rfl (Nat.le_of_ble_eq_true rfl) et hS d_K_agree_45 (fun H locs hT hJ_ hs_ hS => ?_)
  have hT : va_P D classes [(ta, .inr (9, [.ref bt, .int (nI (0))]))] H := hT
  have hV := (vx_obj hG hK.1 h0_ hT hs_).trans hV
  have hX := hX.one hs_ nxt
  have hQ := hQ.one hs_ nto
  refine lv_aload_n hx hb d_K_agree_48 rfl (lv_at hl 1 rfl) ?_
  refine sx_get (v := .ref re) EE hX rfl i_K 1 (by decide) rfl fl_K_18 rfl d_K_agree_49 ?_
  refine vx_giJ (sx_runS (As := [.ref re]) (rest := []) EE (v_K_isZeroStart (E := (fun _ => False)) (X := (LF_La_writeProduct X kq ts re (q 0) bt)) ((hS.a fr).le (by decide)) hV) w_K_130 rfl ⟨rfl, rfl⟩ ⟨Nat.le_of_ble_eq_true rfl, Nat.le_of_ble_eq_true rfl⟩ ⟨Nat.zero_le _, Nat.zero_le _⟩ hl.1 rfl (Nat.le_of_ble_eq_true rfl) d_K_agree_52) (fun z_ h_ => h_.elim) hS (fun H locs X2 eX2 hS hV hJ_ => ?_)
  subst eX2
  have hX := hJ_.ob id hX
  have hT := hJ_.ob id hT
  have hQ := hJ_.ob id hQ
  refine sx_ti (y := nI 1) (by rw [hw]; rfl) ?_
  refine lv_if_ne (tgt := 62) hx hb d_K_agree_55 (by decide) (fun _ => ?_) (fun q55_2 => absurd (show 1 = 0 by have q55_2 : 1 = 0 := (nI_eq (a := 1) (b := 0) (by omega) (by omega)).mp q55_2; exact q55_2) (by decide))
  refine lv_iconst (v := nI 0) hx hb d_K_agree_62 (by decide +kernel) ?_
  refine lv_istore_n (lv' := [(3, .int (nI (0))), (2, .ref ko), (0, .ref x), (1, .int (nI (k)))]) hx hb d_K_agree_63 rfl hl (by decide) rfl (fun ls hl => ?_)
  refine lv_iload_n hx hb d_K_agree_64 rfl (lv_at hl 0 rfl) ?_
  refine lv_if_ne (tgt := 78) hx hb d_K_agree_65 (by decide) (fun q65_3 => absurd (show 0 = 0 by decide) (by have q65_3 : ¬ (0 = 0) := fun z => q65_3 ((nI_eq (a := 0) (b := 0) (by omega) (by omega)).mpr z); exact q65_3)) (fun _ => ?_)
  refine lv_aload_n hx hb d_K_agree_68 rfl (lv_at hl 2 rfl) ?_
  refine lv_dup hx hb d_K_agree_69 rfl ?_
  refine sx_get (v := .int za) EE hX rfl i_K 11 (by decide) rfl fl_K_134 rfl d_K_agree_70 ?_
  refine lv_iconst (v := nI 1) hx hb d_K_agree_73 (by decide +kernel) ?_
  refine lv_iadd hx hb d_K_agree_74 ?_
  have h0_ := hX
  refine sx_put (E := E) (v := .int (za + (nI 1))) EE hX rfl i_K t_K tok_K n_K 11 (by decide) rfl fl_K_134 (ty := t_K 11) (by decide +kernel) rfl rfl (Nat.le_of_ble_eq_true rfl) ex hS d_K_agree_75 (fun H locs hX hJ_ hs_ hS => ?_)
  have hX : va_P D classes [(x, .inr (1, [.ref kA, .ref re, .ref ve, .ref (kq 1 99), .ref (kq 2 99), .ref (kq 7 99), .ref ta, .ref ma, .int (nI (kc)), .int (nI (32)), .int sg, .int (za + (nI 1))]))] H := hX
  have hV := (vx_obj hG hK.1 h0_ hX hs_).trans hV
  have hT := hT.one hs_ (Ne.symm nxt)
  have hQ := hQ.one hs_ nxo
  refine lv_iload_n hx hb d_K_agree_78 rfl (lv_at hl 0 rfl) ?_
  exact hret _ _ _ _ ⟨hV, hX, hT⟩ hS d_K_agree_79
set_option maxHeartbeats 4000000 in
set_option maxRecDepth 100000 in
theorem v_K_point_0 {l : Launch} {D : va_G} {g : ClassId → FieldType → Prop} {H0 : Heap} {X : vM} {x kA re ve ta ma kc rl : Nat} {kq : Nat → Nat → Nat} {sg za : Int32} {E : Nat → Prop} {ts : Nat → Nat} {bt nt : Nat} (hX : va_P D classes [(x, .inr (1, [.ref kA, .ref re, .ref ve, .ref (kq 1 99), .ref (kq 2 99), .ref (kq 7 99), .ref ta, .ref ma, .int (nI (kc)), .int (nI (rl)), .int sg, .int za]))] H0) (hT : va_P D classes [(ta, .inr (9, [.ref bt, .int (nI (32))]))] H0) (nxt : x ≠ ta) (ex : E x) (et : E ta) (fb : sx_A g .byte H0 bt nt) (hnt : 96 ≤ nt) (fr : sx_A g .byte H0 re 64) (er : E re) (hC : kc_ D g E H0 kq ts) (hw : (LF_Ed_find X kq ts bt).2 = false) (hV : mm g H0 = X) : Met l y_K_point (.code y_K_point b_K_point 2 (some .boolean) :: G_) { frames := 6, cells := 0, slots := 0, locals := 217 } (sx_Pc [.ref x] H0 D g) (px_Q g E H0 (nI 0) (fun H => mm g H = (LF_Ed_find X kq ts bt).1 ∧ va_P D classes [(x, .inr (1, [.ref kA, .ref re, .ref ve, .ref (kq 1 99), .ref (kq 2 99), .ref (kq 7 99), .ref ta, .ref ma, .int (nI (kc)), .int (nI (rl)), .int sg, .int za]))] H ∧ va_P D classes [(ta, .inr (9, [.ref bt, .int (nI (0))]))] H)) 0 0 E := by
  refine px_mz (P := fun H => mm g H = (LF_Ed_find X kq ts bt).1 ∧ va_P D classes [(x, .inr (1, [.ref kA, .ref re, .ref ve, .ref (kq 1 99), .ref (kq 2 99), .ref (kq 7 99), .ref ta, .ref ma, .int (nI (kc)), .int (nI (rl)), .int sg, .int za]))] H ∧ va_P D classes [(ta, .inr (9, [.ref bt, .int (nI (0))]))] H) (own := R_K) (by decide) (by decide) rfl (Nat.le_of_ble_eq_true rfl) ?_
  intro p e s m args below meth c Q ls EE hl hret
  obtain ⟨hx, hb, hml, hown, hts, hG, hK⟩ := id EE
  have hS : sx_S g E E H0 H0 [] := sx_S.rf
  have hl : lv_has ls 2 [(0, .ref x)] := hl
  refine lv_aload_n hx hb d_K_point_0 rfl (lv_at hl 0 rfl) ?_
  refine lv_bipush (v := nI 32) hx hb d_K_point_1 (by decide +kernel) ?_
  refine px_gv (E' := (fun _ => False)) (P := fun H1 => H0 = H1) (sx_runV (As := [.int (nI (32))]) (rest := []) EE hX rfl rfl (v_K_requireTapeE hX hT) w_K_85 rfl ⟨rfl, rfl⟩ ⟨Nat.le_of_ble_eq_true rfl, Nat.le_of_ble_eq_true rfl⟩ ⟨Nat.zero_le _, Nat.zero_le _⟩ hl.1 rfl (Nat.le_of_ble_eq_true rfl) d_K_point_3) (fun _ h => h.elim) hS (fun H1 locs hJ_ hP hS => ?_)
  obtain rfl := hP
  refine lv_aload_n hx hb d_K_point_6 rfl (lv_at hl 0 rfl) ?_
  refine sx_get (v := .ref (kq 2 99)) EE hX rfl i_K 4 (by decide) rfl fl_K_38 rfl d_K_point_7 ?_
  refine lv_aload_n hx hb d_K_point_10 rfl (lv_at hl 0 rfl) ?_
  refine sx_get (v := .ref ta) EE hX rfl i_K 6 (by decide) rfl fl_K_54 rfl d_K_point_11 ?_
  refine sx_getN (v := .ref bt) EE hT rfl i_Ro 0 (by decide) rfl fn_K_94 rfl d_K_point_14 ?_
  have hC1 := (((hC.kept hS.1).cut (o := x) (fun _ _ _ ha_ => vx_ne hG hK.1 hX ha_)).cut (o := ta) (fun _ _ _ ha_ => vx_ne hG hK.1 hT ha_))
  refine vx_giJ (sx_runV (As := [.ref bt]) (rest := []) EE (kc_o2 hC1) rfl rfl (v_Ed_find (E := (cutE (cutE E x) ta)) (X := X) hC1 ((hS.a fb).le (by omega)) hV) w_K_148 rfl ⟨rfl, rfl⟩ ⟨Nat.le_of_ble_eq_true rfl, Nat.le_of_ble_eq_true rfl⟩ ⟨Nat.zero_le _, Nat.zero_le _⟩ hl.1 rfl (Nat.le_of_ble_eq_true rfl) d_K_point_17) (fun z_ h_ => h_.1.1) hS (fun H locs X1 eX1 hS hV hJ_ => ?_)
  subst eX1
  have hX := hJ_.ob (fun z_ => z_.1.2 rfl) hX
  have hT := hJ_.ob (fun z_ => z_.2 rfl) hT
  refine sx_ti (y := nI 0) (by rw [hw]; rfl) ?_
  refine lv_istore_n (lv' := [(1, .int (nI (0))), (0, .ref x)]) hx hb d_K_point_20 rfl hl (by decide) rfl (fun ls hl => ?_)
  refine lv_aload_n hx hb d_K_point_21 rfl (lv_at hl 1 rfl) ?_
  refine sx_get (v := .ref ta) EE hX rfl i_K 6 (by decide) rfl fl_K_54 rfl d_K_point_22 ?_
  refine lv_iconst (v := nI 0) hx hb d_K_point_25 (by decide +kernel) ?_
  have h0_ := hT
  refine sx_putN (E := E) (v := .int (nI (0))) EE hT rfl i_Ro t_Ro tok_Ro n_Ro 1 (by decide) rfl fn_K_76 (ty := t_Ro 1) (by decide +kernel) rfl rfl (Nat.le_of_ble_eq_true rfl) et hS d_K_point_26 (fun H locs hT hJ_ hs_ hS => ?_)
  have hT : va_P D classes [(ta, .inr (9, [.ref bt, .int (nI (0))]))] H := hT
  have hV := (vx_obj hG hK.1 h0_ hT hs_).trans hV
  have hX := hX.one hs_ nxt
  refine lv_iload_n hx hb d_K_point_29 rfl (lv_at hl 0 rfl) ?_
  refine lv_if_eq (tgt := 50) hx hb d_K_point_30 (by decide) (fun _ => ?_) (fun q30_1 => absurd (show 0 = 0 by decide) (by have q30_1 : ¬ (0 = 0) := fun z => q30_1 ((nI_eq (a := 0) (b := 0) (by omega) (by omega)).mpr z); exact q30_1))
  refine lv_iload_n hx hb d_K_point_50 rfl (lv_at hl 0 rfl) ?_
  exact hret _ _ _ _ ⟨hV, hX, hT⟩ hS d_K_point_51
set_option maxHeartbeats 4000000 in
set_option maxRecDepth 100000 in
theorem v_K_point_1 {l : Launch} {D : va_G} {g : ClassId → FieldType → Prop} {H0 : Heap} {X : vM} {x kA re ve ta ma kc rl : Nat} {kq : Nat → Nat → Nat} {sg za : Int32} {E : Nat → Prop} {ts : Nat → Nat} {bt nt : Nat} (hX : va_P D classes [(x, .inr (1, [.ref kA, .ref re, .ref ve, .ref (kq 1 99), .ref (kq 2 99), .ref (kq 7 99), .ref ta, .ref ma, .int (nI (kc)), .int (nI (rl)), .int sg, .int za]))] H0) (hT : va_P D classes [(ta, .inr (9, [.ref bt, .int (nI (32))]))] H0) (nxt : x ≠ ta) (ex : E x) (et : E ta) (fb : sx_A g .byte H0 bt nt) (hnt : 96 ≤ nt) (fr : sx_A g .byte H0 re 64) (er : E re) (hC : kc_ D g E H0 kq ts) (hw : (LF_Ed_find X kq ts bt).2 = true) (hV : mm g H0 = X) : Met l y_K_point (.code y_K_point b_K_point 2 (some .boolean) :: G_) { frames := 6, cells := 0, slots := 0, locals := 217 } (sx_Pc [.ref x] H0 D g) (px_Q g E H0 (nI 1) (fun H => mm g H = LF_Ed_writeFoundX (LF_Ed_find X kq ts bt).1 kq ts re ∧ va_P D classes [(x, .inr (1, [.ref kA, .ref re, .ref ve, .ref (kq 1 99), .ref (kq 2 99), .ref (kq 7 99), .ref ta, .ref ma, .int (nI (kc)), .int (nI (32)), .int sg, .int za]))] H ∧ va_P D classes [(ta, .inr (9, [.ref bt, .int (nI (0))]))] H)) 0 0 E := by
  refine px_mz (P := fun H => mm g H = LF_Ed_writeFoundX (LF_Ed_find X kq ts bt).1 kq ts re ∧ va_P D classes [(x, .inr (1, [.ref kA, .ref re, .ref ve, .ref (kq 1 99), .ref (kq 2 99), .ref (kq 7 99), .ref ta, .ref ma, .int (nI (kc)), .int (nI (32)), .int sg, .int za]))] H ∧ va_P D classes [(ta, .inr (9, [.ref bt, .int (nI (0))]))] H) (own := R_K) (by decide) (by decide) rfl (Nat.le_of_ble_eq_true rfl) ?_
  intro p e s m args below meth c Q ls EE hl hret
  obtain ⟨hx, hb, hml, hown, hts, hG, hK⟩ := id EE
  have hS : sx_S g E E H0 H0 [] := sx_S.rf
  have hl : lv_has ls 2 [(0, .ref x)] := hl
  refine lv_aload_n hx hb d_K_point_0 rfl (lv_at hl 0 rfl) ?_
  refine lv_bipush (v := nI 32) hx hb d_K_point_1 (by decide +kernel) ?_
  refine px_gv (E' := (fun _ => False)) (P := fun H1 => H0 = H1) (sx_runV (As := [.int (nI (32))]) (rest := []) EE hX rfl rfl (v_K_requireTapeE hX hT) w_K_85 rfl ⟨rfl, rfl⟩ ⟨Nat.le_of_ble_eq_true rfl, Nat.le_of_ble_eq_true rfl⟩ ⟨Nat.zero_le _, Nat.zero_le _⟩ hl.1 rfl (Nat.le_of_ble_eq_true rfl) d_K_point_3) (fun _ h => h.elim) hS (fun H1 locs hJ_ hP hS => ?_)
  obtain rfl := hP
  refine lv_aload_n hx hb d_K_point_6 rfl (lv_at hl 0 rfl) ?_
  refine sx_get (v := .ref (kq 2 99)) EE hX rfl i_K 4 (by decide) rfl fl_K_38 rfl d_K_point_7 ?_
  refine lv_aload_n hx hb d_K_point_10 rfl (lv_at hl 0 rfl) ?_
  refine sx_get (v := .ref ta) EE hX rfl i_K 6 (by decide) rfl fl_K_54 rfl d_K_point_11 ?_
  refine sx_getN (v := .ref bt) EE hT rfl i_Ro 0 (by decide) rfl fn_K_94 rfl d_K_point_14 ?_
  have hC1 := (((hC.kept hS.1).cut (o := x) (fun _ _ _ ha_ => vx_ne hG hK.1 hX ha_)).cut (o := ta) (fun _ _ _ ha_ => vx_ne hG hK.1 hT ha_))
  refine vx_giJ (sx_runV (As := [.ref bt]) (rest := []) EE (kc_o2 hC1) rfl rfl (v_Ed_find (E := (cutE (cutE E x) ta)) (X := X) hC1 ((hS.a fb).le (by omega)) hV) w_K_148 rfl ⟨rfl, rfl⟩ ⟨Nat.le_of_ble_eq_true rfl, Nat.le_of_ble_eq_true rfl⟩ ⟨Nat.zero_le _, Nat.zero_le _⟩ hl.1 rfl (Nat.le_of_ble_eq_true rfl) d_K_point_17) (fun z_ h_ => h_.1.1) hS (fun H locs X1 eX1 hS hV hJ_ => ?_)
  subst eX1
  have hX := hJ_.ob (fun z_ => z_.1.2 rfl) hX
  have hT := hJ_.ob (fun z_ => z_.2 rfl) hT
  refine sx_ti (y := nI 1) (by rw [hw]; rfl) ?_
  refine lv_istore_n (lv' := [(1, .int (nI (1))), (0, .ref x)]) hx hb d_K_point_20 rfl hl (by decide) rfl (fun ls hl => ?_)
  refine lv_aload_n hx hb d_K_point_21 rfl (lv_at hl 1 rfl) ?_
  refine sx_get (v := .ref ta) EE hX rfl i_K 6 (by decide) rfl fl_K_54 rfl d_K_point_22 ?_
  refine lv_iconst (v := nI 0) hx hb d_K_point_25 (by decide +kernel) ?_
  have h0_ := hT
  refine sx_putN (E := E) (v := .int (nI (0))) EE hT rfl i_Ro t_Ro tok_Ro n_Ro 1 (by decide) rfl fn_K_76 (ty := t_Ro 1) (by decide +kernel) rfl rfl (Nat.le_of_ble_eq_true rfl) et hS d_K_point_26 (fun H locs hT hJ_ hs_ hS => ?_)
  have hT : va_P D classes [(ta, .inr (9, [.ref bt, .int (nI (0))]))] H := hT
  have hV := (vx_obj hG hK.1 h0_ hT hs_).trans hV
  have hX := hX.one hs_ nxt
  refine lv_iload_n hx hb d_K_point_29 rfl (lv_at hl 0 rfl) ?_
  refine lv_if_eq (tgt := 50) hx hb d_K_point_30 (by decide) (fun q30_1 => absurd (show 1 = 0 by have q30_1 : 1 = 0 := (nI_eq (a := 1) (b := 0) (by omega) (by omega)).mp q30_1; exact q30_1) (by decide)) (fun _ => ?_)
  refine lv_aload_n hx hb d_K_point_33 rfl (lv_at hl 1 rfl) ?_
  refine sx_get (v := .ref (kq 2 99)) EE hX rfl i_K 4 (by decide) rfl fl_K_38 rfl d_K_point_34 ?_
  refine lv_aload_n hx hb d_K_point_37 rfl (lv_at hl 1 rfl) ?_
  refine sx_get (v := .ref re) EE hX rfl i_K 1 (by decide) rfl fl_K_18 rfl d_K_point_38 ?_
  have hC1 := (((hC.kept hS.1).cut (o := x) (fun _ _ _ ha_ => vx_ne hG hK.1 hX ha_)).cut (o := ta) (fun _ _ _ ha_ => vx_ne hG hK.1 hT ha_))
  refine vx_gvJ (sx_runV (As := [.ref re]) (rest := []) EE (kc_o2 hC1) rfl rfl (v_Ed_writeFoundX (E := (cutE (cutE E x) ta)) (X := (LF_Ed_find X kq ts bt).1) hC1 ((hS.a fr).le (by decide)) ⟨⟨er, vx_ne hG hK.1 hX (hS.a fr)⟩, vx_ne hG hK.1 hT (hS.a fr)⟩ hV) w_K_151 rfl ⟨rfl, rfl⟩ ⟨Nat.le_of_ble_eq_true rfl, Nat.le_of_ble_eq_true rfl⟩ ⟨Nat.zero_le _, Nat.zero_le _⟩ hl.1 rfl (Nat.le_of_ble_eq_true rfl) d_K_point_41) (fun z_ h_ => h_.1.1) hS (fun H locs X3 eX3 hS hV hJ_ => ?_)
  subst eX3
  have hX := hJ_.ob (fun z_ => z_.1.2 rfl) hX
  have hT := hJ_.ob (fun z_ => z_.2 rfl) hT
  refine lv_aload_n hx hb d_K_point_44 rfl (lv_at hl 1 rfl) ?_
  refine lv_bipush (v := nI 32) hx hb d_K_point_45 (by decide +kernel) ?_
  have h0_ := hX
  refine sx_put (E := E) (v := .int (nI (32))) EE hX rfl i_K t_K tok_K n_K 9 (by decide) rfl fl_K_123 (ty := t_K 9) (by decide +kernel) rfl rfl (Nat.le_of_ble_eq_true rfl) ex hS d_K_point_47 (fun H locs hX hJ_ hs_ hS => ?_)
  have hX : va_P D classes [(x, .inr (1, [.ref kA, .ref re, .ref ve, .ref (kq 1 99), .ref (kq 2 99), .ref (kq 7 99), .ref ta, .ref ma, .int (nI (kc)), .int (nI (32)), .int sg, .int za]))] H := hX
  have hV := (vx_obj hG hK.1 h0_ hX hs_).trans hV
  have hT := hT.one hs_ (Ne.symm nxt)
  refine lv_iload_n hx hb d_K_point_50 rfl (lv_at hl 0 rfl) ?_
  exact hret _ _ _ _ ⟨hV, hX, hT⟩ hS d_K_point_51
set_option maxHeartbeats 4000000 in
set_option maxRecDepth 100000 in
theorem v_K_verify {l : Launch} {D : va_G} {g : ClassId → FieldType → Prop} {H0 : Heap} {X : vM} {x kA re ve ta ma kc rl : Nat} {kq : Nat → Nat → Nat} {sg za : Int32} {E : Nat → Prop} {ts : Nat → Nat} {bt nt bm ml nm : Nat} (hX : va_P D classes [(x, .inr (1, [.ref kA, .ref re, .ref ve, .ref (kq 1 99), .ref (kq 2 99), .ref (kq 7 99), .ref ta, .ref ma, .int (nI (kc)), .int (nI (rl)), .int sg, .int za]))] H0) (hT : va_P D classes [(ta, .inr (9, [.ref bt, .int (nI (96))]))] H0) (nxt : x ≠ ta) (nX : ¬ E x) (et : E ta) (fb : sx_A g .byte H0 bt nt) (hnt : 96 ≤ nt) (h5t : kq 5 99 ≠ ta) (nmt : ma ≠ ta) (hM : va_P D classes [(ma, .inr (9, [.ref bm, .int (nI (ml))]))] H0) (nM : ¬ E ma) (fm : sx_A g .byte H0 bm nm) (lm : ml ≤ nm) (um : nm ≤ 65536) (fv : sx_A g .int H0 ve 4) (ev : E ve) (hHo : ho_ D kq H0) (eH : E (kq 5 99)) (hC : kc_ D g E H0 kq ts) (hV : mm g H0 = X) : Met l y_K_verify (.code y_K_verify b_K_verify 2 (some .int) :: G_) { frames := 7, cells := 0, slots := 0, locals := 239 } (sx_Pc [.ref x] H0 D g) (px_Q g E H0 (nI (LF_Si_judge X kq ts bt bm ml).2.toNatClampNeg) (fun H => (∃ w, mm g H = stI (LF_Si_judge X kq ts bt bm ml).1 ve (LF_Si_judge X kq ts bt bm ml).2.toNatClampNeg w) ∧ va_P D classes [(ta, .inr (9, [.ref bt, .int (nI (0))]))] H ∧ ho_ D kq H)) 0 0 E := by
  refine px_mi (P := fun H => (∃ w, mm g H = stI (LF_Si_judge X kq ts bt bm ml).1 ve (LF_Si_judge X kq ts bt bm ml).2.toNatClampNeg w) ∧ va_P D classes [(ta, .inr (9, [.ref bt, .int (nI (0))]))] H ∧ ho_ D kq H) (own := R_K) (by decide) rfl (Nat.le_of_ble_eq_true rfl) ?_
  intro p e s m args below meth c Q ls EE hl hret
  obtain ⟨hx, hb, hml, hown, hts, hG, hK⟩ := id EE
  have hS : sx_S g E E H0 H0 [] := sx_S.rf
  have hl : lv_has ls 2 [(0, .ref x)] := hl
  refine lv_aload_n hx hb d_K_verify_0 rfl (lv_at hl 0 rfl) ?_
  refine lv_bipush (v := nI 96) hx hb d_K_verify_1 (by decide +kernel) ?_
  refine px_gv (E' := (fun _ => False)) (P := fun H1 => H0 = H1) (sx_runV (As := [.int (nI (96))]) (rest := []) EE hX rfl rfl (v_K_requireTapeE hX hT) w_K_85 rfl ⟨rfl, rfl⟩ ⟨Nat.le_of_ble_eq_true rfl, Nat.le_of_ble_eq_true rfl⟩ ⟨Nat.zero_le _, Nat.zero_le _⟩ hl.1 rfl (Nat.le_of_ble_eq_true rfl) d_K_verify_3) (fun _ h => h.elim) hS (fun H1 locs hJ_ hP hS => ?_)
  obtain rfl := hP
  refine lv_aload_n hx hb d_K_verify_6 rfl (lv_at hl 0 rfl) ?_
  refine sx_get (v := .ref (kq 7 99)) EE hX rfl i_K 5 (by decide) rfl fl_K_47 rfl d_K_verify_7 ?_
  refine lv_aload_n hx hb d_K_verify_10 rfl (lv_at hl 0 rfl) ?_
  refine sx_get (v := .ref ta) EE hX rfl i_K 6 (by decide) rfl fl_K_54 rfl d_K_verify_11 ?_
  refine sx_getN (v := .ref bt) EE hT rfl i_Ro 0 (by decide) rfl fn_K_94 rfl d_K_verify_14 ?_
  refine lv_aload_n hx hb d_K_verify_17 rfl (lv_at hl 0 rfl) ?_
  refine sx_get (v := .ref ma) EE hX rfl i_K 7 (by decide) rfl fl_K_58 rfl d_K_verify_18 ?_
  have hC1 := ((hC.kept hS.1).cut (o := ta) (fun _ _ _ ha_ => vx_ne hG hK.1 hT ha_))
  refine vx_giP (sx_runV (As := [.ref bt, .ref ma]) (rest := []) EE (kc_o7 hC1) rfl rfl (v_Si_judge (E := (cutE E ta)) (X := X) hC1 hHo ⟨eH, h5t⟩ ((hS.a fb).le (by omega)) hM (fun z_ => nM z_.1) (hS.a fm) lm um hV) w_K_144 rfl ⟨rfl, rfl⟩ ⟨Nat.le_of_ble_eq_true rfl, Nat.le_of_ble_eq_true rfl⟩ ⟨Nat.zero_le _, Nat.zero_le _⟩ hl.1 rfl (Nat.le_of_ble_eq_true rfl) d_K_verify_21) (fun z_ h_ => h_.1) hS (fun H locs X1 eX1 hP_ hS hV hJ_ => ?_)
  subst eX1
  have hT := hJ_.ob (fun z_ => z_.2 rfl) hT
  have hX := hJ_.ob (fun z_ => nX z_.1) hX
  have hM := hJ_.ob (fun z_ => nM z_.1) hM
  have hHo := hP_
  obtain ⟨kv, ekv⟩ : ∃ n : Nat, (LF_Si_judge X kq ts bt bm ml).2.toNatClampNeg = n := ⟨_, rfl⟩
  have hkv := jd_n X kq ts bt bm ml
  rw [ekv] at hkv
  refine sx_ti (y := nI kv) hkv.1 ?_
  have hkv2 := hkv.2
  refine lv_istore_n (lv' := [(1, .int (nI (kv))), (0, .ref x)]) hx hb d_K_verify_24 rfl hl (by decide) rfl (fun ls hl => ?_)
  refine lv_aload_n hx hb d_K_verify_25 rfl (lv_at hl 1 rfl) ?_
  refine sx_get (v := .ref ta) EE hX rfl i_K 6 (by decide) rfl fl_K_54 rfl d_K_verify_26 ?_
  refine lv_iconst (v := nI 0) hx hb d_K_verify_29 (by decide +kernel) ?_
  have h0_ := hT
  refine sx_putN (E := E) (v := .int (nI (0))) EE hT rfl i_Ro t_Ro tok_Ro n_Ro 1 (by decide) rfl fn_K_76 (ty := t_Ro 1) (by decide +kernel) rfl rfl (Nat.le_of_ble_eq_true rfl) et hS d_K_verify_30 (fun H locs hT hJ_ hs_ hS => ?_)
  have hT : va_P D classes [(ta, .inr (9, [.ref bt, .int (nI (0))]))] H := hT
  have hV := (vx_obj hG hK.1 h0_ hT hs_).trans hV
  have hX := hX.one hs_ nxt
  have hM := hM.one hs_ nmt
  have hHo : ho_ D kq H := by
    obtain ⟨z1_, z2_, z3_⟩ := hHo
    exact ⟨z1_, z2_, z3_.one hs_ h5t⟩
  refine lv_aload_n hx hb d_K_verify_33 rfl (lv_at hl 1 rfl) ?_
  refine sx_get (v := .ref ve) EE hX rfl i_K 2 (by decide) rfl fl_K_22 rfl d_K_verify_34 ?_
  refine lv_iload_n hx hb d_K_verify_37 rfl (lv_at hl 0 rfl) ?_
  refine lv_dup2_11 hx hb d_K_verify_38 rfl rfl ?_
  refine vx_iald hx hb hG hS hV fv (by omega) (by decide) d_K_verify_39 ?_
  refine lv_iconst (v := nI 1) hx hb d_K_verify_40 (by decide +kernel) ?_
  refine lv_iadd hx hb d_K_verify_41 ?_
  refine vx_iastJ hx hb hG hK.1 hS hV fv ev (by omega) (by decide) d_K_verify_42 (fun H locs X2 eX2 hS hV hO => ?_)
  have hX := hO _ _ hX
  have hT := hO _ _ hT
  have hM := hO _ _ hM
  subst eX2
  refine lv_iload_n hx hb d_K_verify_43 rfl (lv_at hl 0 rfl) ?_
  have hHo : ho_ D kq H := by
    obtain ⟨z1_, z2_, z3_⟩ := hHo
    exact ⟨z1_, z2_, hO _ _ z3_⟩
  subst ekv
  exact hret _ _ _ _ ⟨⟨_, hV⟩, hT, hHo⟩ hS d_K_verify_44
