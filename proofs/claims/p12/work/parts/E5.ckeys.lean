/-- where all of the class's cells lie: b what comes first, c_ what comes behind the curve's multiples -/
def kqE (b : Nat) : Nat → Nat → Nat := fun i k =>
  if i = 0 then (if k = 99 then b + 0 else b + 1 + k)
  else if i = 1 then (if k = 99 then b + 11 else b + 11 + k)
  else if i = 2 then (if k = 99 then b + 23 else b + 31 + k)
  else if i = 3 then (if k = 99 then b + 24 else b + 25 + k)
  else if i = 4 then (if k = 99 then b + 29 else b + 30 + k)
  else if i < 32 then (if k = 99 then b + 46 + 10 * (i - 16) else b + 46 + 10 * (i - 16) + 1 + k)
  else (if k = 99 then b + 46 + 10 * (i - 32) + 5 else b + 46 + 10 * (i - 32) + 5 + 1 + k)
def kqF (b c_ : Nat) : Nat → Nat → Nat := fun i k =>
  if i = 5 then (if k = 99 then c_ + 1 else c_ + 2 + k)
  else if i = 6 then (if k = 99 then c_ + 5 else c_ + 6 + k)
  else if i = 7 then (if k = 99 then c_ + 0 else c_ + 4 + k)
  else kqE b i k
theorem kqE_16 (b j k : Nat) (hj : j < 16) (hk : k ≠ 99) : kqE b (16 + j) k = b + 46 + 10 * j + 1 + k ∧ kqE b (16 + j) 99 = b + 46 + 10 * j := by
  constructor
  · simp only [kqE]
    rw [if_neg (by omega), if_neg (by omega), if_neg (by omega), if_neg (by omega), if_neg (by omega), if_pos (by omega), if_neg hk, Nat.add_sub_cancel_left]
  · simp only [kqE]
    rw [if_neg (by omega), if_neg (by omega), if_neg (by omega), if_neg (by omega), if_neg (by omega), if_pos (by omega), if_pos trivial, Nat.add_sub_cancel_left]
theorem kqE_32 (b j k : Nat) (hk : k ≠ 99) : kqE b (32 + j) k = b + 46 + 10 * j + 5 + 1 + k ∧ kqE b (32 + j) 99 = b + 46 + 10 * j + 5 := by
  constructor
  · simp only [kqE]
    rw [if_neg (by omega), if_neg (by omega), if_neg (by omega), if_neg (by omega), if_neg (by omega), if_neg (by omega), if_neg hk, Nat.add_sub_cancel_left]
  · simp only [kqE]
    rw [if_neg (by omega), if_neg (by omega), if_neg (by omega), if_neg (by omega), if_neg (by omega), if_neg (by omega), if_pos trivial, Nat.add_sub_cancel_left]
theorem kqE_ed (b : Nat) : edQ (kqE b) (b + 24) (b + 0) := by
  refine ⟨rfl, rfl, rfl, fun k h1 h2 => ?_, fun k hk => ?_, fun j hj => ⟨(kqE_16 b j 0 hj (by decide)).2, fun k hk => (kqE_16 b j k hj (by omega)).1⟩⟩
  · show (if k = 99 then b + 23 else b + 31 + k) = b + 24 + 7 + k
    rw [if_neg (by omega)]
  · show (if k = 99 then b + 29 else b + 30 + k) = b + 24 + 6 + k
    rw [if_neg (by omega)]
def up_K (D : va_G) (g : ClassId → FieldType → Prop) (b o : Nat) (X : vM) (ts : Nat → Nat) (H : Heap) : Prop := ∃ c_ : Nat, b + 206 ≤ c_ ∧ H.size = c_ + 17 ∧ va_P D classes [(o, .inr (1, [.ref (b + 8), .ref (b + 9), .ref (b + 10), .ref (b + 11), .ref (b + 23), .ref (c_ + 0), .ref (c_ + 13), .ref (c_ + 15), .int 0, .int 0, .int 0, .int 0]))] H ∧ obs_ D H b [((c_ + 15), 9, [.ref (c_ + 16), .int 0]), ((c_ + 13), 9, [.ref (c_ + 14), .int 0]), ((c_ + 0), 11, [.ref (b + 23), .ref (c_ + 1), .ref (c_ + 5), .ref (c_ + 7), .ref (c_ + 8), .ref (c_ + 9), .ref (c_ + 10), .ref (c_ + 11), .ref (c_ + 12)]), ((c_ + 5), 8, [.ref (c_ + 6)]), ((c_ + 1), 7, [.ref (c_ + 2), .ref (c_ + 3), .ref (c_ + 4), .int 0, .int 0]), ((b + 23), 6, [.ref (b + 0), .ref (b + 24), .ref (b + 29), .ref (b + 34), .ref (b + 35), .ref (b + 36), .ref (b + 37), .ref (b + 38), .ref (b + 39), .ref (b + 40), .ref (b + 41), .ref (b + 42), .ref (b + 43), .ref (b + 44), .ref (b + 45)]), ((b + 29), 4, [.ref (b + 30), .ref (b + 31), .ref (b + 32), .ref (b + 33)]), ((b + 24), 4, [.ref (b + 25), .ref (b + 26), .ref (b + 27), .ref (b + 28)]), ((b + 11), 3, [.ref (b + 0), .ref (b + 12), .ref (b + 13), .ref (b + 14), .ref (b + 15), .ref (b + 16), .ref (b + 17), .ref (b + 18), .ref (b + 19), .ref (b + 20), .ref (b + 21), .ref (b + 22)]), ((b + 0), 2, [.ref (b + 1), .ref (b + 2), .ref (b + 3), .ref (b + 4), .ref (b + 5), .ref (b + 6), .ref (b + 7)])] ∧ sx_AR g H [((c_ + 16), .byte, 1024), ((c_ + 14), .byte, 1024), ((c_ + 12), .byte, 32), ((c_ + 11), .byte, 32), ((c_ + 10), .byte, 32), ((c_ + 9), .byte, 32), ((c_ + 8), .byte, 32), ((c_ + 7), .byte, 64), ((c_ + 6), .long, 64), ((c_ + 4), .byte, 128), ((c_ + 3), .long, 80), ((c_ + 2), .long, 8), ((b + 45), .long, 10), ((b + 44), .long, 10), ((b + 43), .long, 10), ((b + 42), .long, 10), ((b + 41), .long, 10), ((b + 40), .long, 10), ((b + 39), .long, 10), ((b + 38), .long, 10), ((b + 37), .byte, 32), ((b + 36), .byte, 32), ((b + 33), .long, 10), ((b + 32), .long, 10), ((b + 31), .long, 10), ((b + 30), .long, 10), ((b + 28), .long, 10), ((b + 27), .long, 10), ((b + 26), .long, 10), ((b + 25), .long, 10), ((b + 22), .long, 10), ((b + 21), .long, 10), ((b + 20), .long, 10), ((b + 19), .long, 10), ((b + 18), .long, 10), ((b + 17), .long, 10), ((b + 16), .long, 10), ((b + 15), .long, 10), ((b + 14), .long, 10), ((b + 13), .byte, 32), ((b + 12), .byte, 32), ((b + 10), .int, 4), ((b + 9), .byte, 64), ((b + 7), .long, 10), ((b + 6), .long, 10), ((b + 5), .long, 10), ((b + 4), .long, 10), ((b + 3), .long, 10), ((b + 2), .long, 10), ((b + 1), .long, 10)] ∧ mm g H = (LF_Ed_fillMultiples (LF_Pt_setAffine (stI X (b + 13) 0 (nI 9).toInt8.toInt32) ((kqE b) 4) (ts 1) (ts 2)) (edr (kqE b)) (fun j => (kqE b) (16 + j)) ((kqE b) 4) ts) ∧ ka_ D H (b + 8) (fun _ => .null) ∧ rx_ g R_Ad H (b + 34) 16 (fun j => (b + 24) + 22 + 10 * j) ∧ rx_ g R_Ad H (b + 35) 16 (fun j => (b + 24) + 22 + 10 * j + 5) ∧ ∀ j, j < 16 → o4_ D g H 5 ((b + 24) + 22 + 10 * j) (fun k => (b + 24) + 22 + 10 * j + 1 + k) ∧ o4_ D g H 5 ((b + 24) + 22 + 10 * j + 5) (fun k => (b + 24) + 22 + 10 * j + 5 + 1 + k)
abbrev rm_K_init : Room := { frames := 6, cells := 223, slots := 4669, locals := 187 }
set_option maxHeartbeats 4000000 in
set_option maxRecDepth 100000 in
theorem u_K_init {l : Launch} {D : va_G} {g : ClassId → FieldType → Prop} {E : Nat → Prop} {H0 : Heap} {o b : Nat} {X : vM} {ts : Nat → Nat} (hEo : E o) (hEn : ∀ q, b ≤ q → E q) (hO : va_P D classes [(o, .inr (1, [.null, .null, .null, .null, .null, .null, .null, .null, .int 0, .int 0, .int 0, .int 0]))] H0) (hsz : H0.size = b) (hV : mm g H0 = X) (hst : st_H D g E H0 ts) : Met l y_K_init (.code y_K_init b_K_init 2 none :: G_) rm_K_init (sx_Pc [.ref o] H0 D g) (va_Qv (fun _ : Unit => True) (fun _ t => sx_J g E H0 t.heap ∧ up_K D g b o X ts t.heap) E) 223 4669 E := by
  refine sx_mva (own := R_K) (P := up_K D g b o X ts) (by decide) rfl (Nat.le_of_ble_eq_true rfl) ?_
  intro p e s m args below meth c Q ls EE hin hl hret
  obtain ⟨hx, hb, hml, hown, hts, hG, hK⟩ := id EE
  have hS : sx_S g E E H0 H0 [] := sx_S.rf
  have hA : sx_AR g H0 [] := sx_AR.nil
  have hB : obs_ D H0 b [] := obs_.nil
  have ho : o < b := hsz ▸ (hO 0 _ rfl).lt
  have hsz0 := hsz
  have hsz : H0.size = b + 0 := hsz
  have hle : ∀ k, b ≤ b + k := fun k => Nat.le_add_right b k
  have hl : lv_has ls 2 [(0, .ref o)] := hl
  refine lv_aload_n hx hb d_K_init_0 rfl (lv_at hl 0 rfl) ?_
  refine W.objInit hx hb hown (hts (.methodLink R_K 1 objectInit) (by decide +kernel)) (hts (.instanceMethod objectInit) (by decide +kernel)) (hts (.code objectInit ⟨#[0xb1]⟩ 1 none) (by decide +kernel)) rfl (by rw [hml]; exact hl.1) rfl d_K_init_1 (Nat.le_of_ble_eq_true rfl) (Nat.le_of_ble_eq_true rfl) ?_
  refine W.eq (g2 := F0 m 4 ls []) rfl ?_
  refine sx_newo (ci := 2) (fs := [.null, .null, .null, .null, .null, .null, .null]) (cells' := 1) (slots' := 7) EE rfl i_F t_F tok_F nw_K_7 (by decide) rfl rfl (Nat.le_of_ble_eq_true rfl) (Nat.le_of_ble_eq_true rfl) d_K_init_4 (fun q H4 e0 hN s0 k1 => ?_)
  have e_ : b = q := hsz.symm.trans e0
  subst e_
  have hV := mm_newo hG hK.1 k1 hN e0 s0 hV
  refine lv_dup hx hb d_K_init_7 rfl ?_
  refine sx_gI (E' := (fun z => z = b + 0 ∨ b + 1 ≤ z)) (P := up_F D g (b + 1) (b + 0) X) (F := E) (mc := 7) (ms := 70) (cells' := 8) (slots' := 77) (sx_runIN (As := []) (rest := [.ref (b + 0)]) EE (u_F_init (E := (fun z => z = b + 0 ∨ b + 1 ≤ z)) (b := b + 1) (X := X) (Or.inl rfl) (fun z h => Or.inr h) hN s0 hV) il_K_9 iw_K_9 rfl rfl ⟨rfl, rfl⟩ ⟨Nat.le_of_ble_eq_true rfl, Nat.le_of_ble_eq_true rfl⟩ ⟨Nat.le_of_ble_eq_true rfl, Nat.le_of_ble_eq_true rfl⟩ hl.1 rfl (Nat.le_of_ble_eq_true rfl) d_K_init_8) (nE_en hEn (hle 0)) hS.2.2 rfl rfl (fun H8 locs hJc hPc hlo => ?_)
  have hk := sx_J.news e0 k1 (le_1 e0 s0) hJc (nE_to s0)
  have hJ : sx_J g E H0 H8 := (sx_J.grow (le_1 e0 s0) k1).tr (hJc.mono (nE_en hEn (hle 0)))
  have hS : sx_S g E E H0 H8 locs := ⟨hS.1.tr hJ, fun _ h => h, hlo⟩
  have hA := hA.kept hJ
  have hO := hO.grown hk
  have hB := hB.grown hk
  obtain ⟨hsz_, hN_, hB_, hA_, hV⟩ := hPc
  have hsz : H8.size = b + 8 := hsz_
  have hB : obs_ D H8 b [((b + 0), 2, [.ref (b + 1), .ref (b + 2), .ref (b + 3), .ref (b + 4), .ref (b + 5), .ref (b + 6), .ref (b + 7)])] := (hB.app hB_ (hle 1)).cons hN_ (hle 0)
  have hA : sx_AR g H8 [((b + 7), .long, 10), ((b + 6), .long, 10), ((b + 5), .long, 10), ((b + 4), .long, 10), ((b + 3), .long, 10), ((b + 2), .long, 10), ((b + 1), .long, 10)] := hA.app hA_
  have hV : mm g H8 = X := hV
  refine lv_astore_n (lv' := [(1, .ref (b + 0)), (0, .ref o)]) hx hb d_K_init_11 rfl hl (by decide) rfl (fun ls hl => ?_)
  refine lv_aload_n hx hb d_K_init_12 rfl (lv_at hl 1 rfl) ?_
  refine lv_bipush (v := nI 100) hx hb d_K_init_13 (by decide +kernel) ?_
  refine vx_newr (C := R_Ke) (cells' := 9) (slots' := 177) EE (by decide +kernel) hK.2.2.2.2.1 (by decide) (by decide) rfl rfl (Nat.le_of_ble_eq_true rfl) (Nat.le_of_ble_eq_true rfl) hS hV d_K_init_15 (fun q H15 eq hz y_ hJ hk hS hV => ?_)
  have e_ : q = b + 8 := eq.symm.trans hsz
  subst e_
  have hsz : H15.size = b + 9 := hz
  have hA := hA.kept hJ
  have hO := hO.grown hk
  have hB := hB.grown hk
  have hKA : ka_ D H15 (b + 8) (fun _ => .null) := ka_new hK.2.2.2.2.2 y_
  have hO0 := hO
  refine sx_putF EE hin hO rfl i_K t_K tok_K n_K 0 (by decide) rfl fl_K_14 (ty := t_K 0) (by decide +kernel) rfl rfl (Nat.le_of_ble_eq_true rfl) hEo hS d_K_init_18 (fun H18 locs hO hJ hs hS => ?_)
  have hO : va_P D classes [(o, .inr (1, [.ref (b + 8), .null, .null, .null, .null, .null, .null, .null, .int 0, .int 0, .int 0, .int 0]))] H18 := hO
  have hV := (vx_obj hG hK.1 hO0 hO hs).trans hV
  have hA := hA.kept hJ
  have hB := hB.one hs ho
  have hsz := (sz_one hJ.1 hs (lt_sz ho hsz)).trans hsz
  have hKA := hKA.kept (hs _ (ne_o ho (Nat.le_add_right _ _)))
  refine lv_aload_n hx hb d_K_init_21 rfl (lv_at hl 1 rfl) ?_
  refine lv_bipush (v := nI 64) hx hb d_K_init_22 (by decide +kernel) ?_
  refine vx_newa (cells' := 10) (slots' := 241) hx hb hG hts rfl (Or.inr (Or.inl rfl)) (by decide +kernel) (by decide) (by decide) rfl rfl (Nat.le_of_ble_eq_true rfl) (Nat.le_of_ble_eq_true rfl) hS hV d_K_init_24 (fun q H24 eq hz a_ l_ hJ hk hS hV => ?_)
  have e_ : q = b + 9 := eq.symm.trans hsz
  subst e_
  have hsz : H24.size = b + 10 := hz
  have hA := hA.kept hJ
  have hO := hO.grown hk
  have hB := hB.grown hk
  have hKA := hKA.kept (hk _ hKA.lt)
  have hA := hA.cons a_ l_
  have hO0 := hO
  refine sx_putF EE hin hO rfl i_K t_K tok_K n_K 1 (by decide) rfl fl_K_18 (ty := t_K 1) (by decide +kernel) rfl rfl (Nat.le_of_ble_eq_true rfl) hEo hS d_K_init_26 (fun H26 locs hO hJ hs hS => ?_)
  have hO : va_P D classes [(o, .inr (1, [.ref (b + 8), .ref (b + 9), .null, .null, .null, .null, .null, .null, .int 0, .int 0, .int 0, .int 0]))] H26 := hO
  have hV := (vx_obj hG hK.1 hO0 hO hs).trans hV
  have hA := hA.kept hJ
  have hB := hB.one hs ho
  have hsz := (sz_one hJ.1 hs (lt_sz ho hsz)).trans hsz
  have hKA := hKA.kept (hs _ (ne_o ho (Nat.le_add_right _ _)))
  refine lv_aload_n hx hb d_K_init_29 rfl (lv_at hl 1 rfl) ?_
  refine lv_iconst (v := nI 4) hx hb d_K_init_30 (by decide +kernel) ?_
  refine vx_newa (cells' := 11) (slots' := 245) hx hb hG hts rfl (Or.inr (Or.inr rfl)) (by decide +kernel) (by decide) (by decide) rfl rfl (Nat.le_of_ble_eq_true rfl) (Nat.le_of_ble_eq_true rfl) hS hV d_K_init_31 (fun q H31 eq hz a_ l_ hJ hk hS hV => ?_)
  have e_ : q = b + 10 := eq.symm.trans hsz
  subst e_
  have hsz : H31.size = b + 11 := hz
  have hA := hA.kept hJ
  have hO := hO.grown hk
  have hB := hB.grown hk
  have hKA := hKA.kept (hk _ hKA.lt)
  have hA := hA.cons a_ l_
  have hO0 := hO
  refine sx_putF EE hin hO rfl i_K t_K tok_K n_K 2 (by decide) rfl fl_K_22 (ty := t_K 2) (by decide +kernel) rfl rfl (Nat.le_of_ble_eq_true rfl) hEo hS d_K_init_33 (fun H33 locs hO hJ hs hS => ?_)
  have hO : va_P D classes [(o, .inr (1, [.ref (b + 8), .ref (b + 9), .ref (b + 10), .null, .null, .null, .null, .null, .int 0, .int 0, .int 0, .int 0]))] H33 := hO
  have hV := (vx_obj hG hK.1 hO0 hO hs).trans hV
  have hA := hA.kept hJ
  have hB := hB.one hs ho
  have hsz := (sz_one hJ.1 hs (lt_sz ho hsz)).trans hsz
  have hKA := hKA.kept (hs _ (ne_o ho (Nat.le_add_right _ _)))
  refine lv_aload_n hx hb d_K_init_36 rfl (lv_at hl 1 rfl) ?_
  refine sx_newo (ci := 3) (fs := [.null, .null, .null, .null, .null, .null, .null, .null, .null, .null, .null, .null]) (cells' := 12) (slots' := 257) EE rfl i_La t_La tok_La nw_K_26 (by decide) rfl rfl (Nat.le_of_ble_eq_true rfl) (Nat.le_of_ble_eq_true rfl) d_K_init_37 (fun q H37 e0 hN s0 k1 => ?_)
  have e_ : q = b + 11 := e0.symm.trans hsz
  subst e_
  have hV := mm_newo hG hK.1 k1 hN e0 s0 hV
  refine lv_dup hx hb d_K_init_40 rfl ?_
  refine lv_aload_n hx hb d_K_init_41 rfl (lv_at hl 0 rfl) ?_
  refine sx_gI (E' := (fun z => z = b + 11 ∨ b + 12 ≤ z)) (P := up_La D g (b + 12) (b + 11) (b + 0) X) (F := E) (mc := 11) (ms := 154) (cells' := 23) (slots' := 411) (sx_runI (As := [.ref (b + 0)]) (rest := [.ref (b + 11), .ref o]) EE (u_La_init (E := (fun z => z = b + 11 ∨ b + 12 ≤ z)) (b := b + 12) (X := X) (Or.inl rfl) (fun z h => Or.inr h) hN s0 hV) iw_K_28 rfl rfl ⟨rfl, rfl⟩ ⟨Nat.le_of_ble_eq_true rfl, Nat.le_of_ble_eq_true rfl⟩ ⟨Nat.le_of_ble_eq_true rfl, Nat.le_of_ble_eq_true rfl⟩ hl.1 rfl (Nat.le_of_ble_eq_true rfl) d_K_init_42) (nE_en hEn (hle 11)) hS.2.2 rfl rfl (fun H42 locs hJc hPc hlo => ?_)
  have hk := sx_J.news e0 k1 (le_1 e0 s0) hJc (nE_to s0)
  have hJ : sx_J g E H33 H42 := (sx_J.grow (le_1 e0 s0) k1).tr (hJc.mono (nE_en hEn (hle 11)))
  have hS : sx_S g E E H0 H42 locs := ⟨hS.1.tr hJ, fun _ h => h, hlo⟩
  have hA := hA.kept hJ
  have hO := hO.grown hk
  have hB := hB.grown hk
  have hKA := hKA.kept (hk _ hKA.lt)
  obtain ⟨hsz_, hN_, hB_, hA_, hV⟩ := hPc
  have hsz : H42.size = b + 23 := hsz_
  have hB : obs_ D H42 b [((b + 11), 3, [.ref (b + 0), .ref (b + 12), .ref (b + 13), .ref (b + 14), .ref (b + 15), .ref (b + 16), .ref (b + 17), .ref (b + 18), .ref (b + 19), .ref (b + 20), .ref (b + 21), .ref (b + 22)]), ((b + 0), 2, [.ref (b + 1), .ref (b + 2), .ref (b + 3), .ref (b + 4), .ref (b + 5), .ref (b + 6), .ref (b + 7)])] := (hB.app hB_ (hle 12)).cons hN_ (hle 11)
  have hA : sx_AR g H42 [((b + 22), .long, 10), ((b + 21), .long, 10), ((b + 20), .long, 10), ((b + 19), .long, 10), ((b + 18), .long, 10), ((b + 17), .long, 10), ((b + 16), .long, 10), ((b + 15), .long, 10), ((b + 14), .long, 10), ((b + 13), .byte, 32), ((b + 12), .byte, 32), ((b + 10), .int, 4), ((b + 9), .byte, 64), ((b + 7), .long, 10), ((b + 6), .long, 10), ((b + 5), .long, 10), ((b + 4), .long, 10), ((b + 3), .long, 10), ((b + 2), .long, 10), ((b + 1), .long, 10)] := hA.app hA_
  have hV : mm g H42 = (stI X (b + 13) 0 (nI 9).toInt8.toInt32) := hV
  have hO0 := hO
  refine sx_putF EE hin hO rfl i_K t_K tok_K n_K 3 (by decide) rfl fl_K_31 (ty := t_K 3) (by decide +kernel) rfl rfl (Nat.le_of_ble_eq_true rfl) hEo hS d_K_init_45 (fun H45 locs hO hJ hs hS => ?_)
  have hO : va_P D classes [(o, .inr (1, [.ref (b + 8), .ref (b + 9), .ref (b + 10), .ref (b + 11), .null, .null, .null, .null, .int 0, .int 0, .int 0, .int 0]))] H45 := hO
  have hV := (vx_obj hG hK.1 hO0 hO hs).trans hV
  have hA := hA.kept hJ
  have hB := hB.one hs ho
  have hsz := (sz_one hJ.1 hs (lt_sz ho hsz)).trans hsz
  have hKA := hKA.kept (hs _ (ne_o ho (Nat.le_add_right _ _)))
  refine lv_aload_n hx hb d_K_init_48 rfl (lv_at hl 1 rfl) ?_
  refine sx_newo (ci := 6) (fs := [.null, .null, .null, .null, .null, .null, .null, .null, .null, .null, .null, .null, .null, .null, .null]) (cells' := 24) (slots' := 426) EE rfl i_Ed t_Ed tok_Ed nw_K_35 (by decide) rfl rfl (Nat.le_of_ble_eq_true rfl) (Nat.le_of_ble_eq_true rfl) d_K_init_49 (fun q H49 e0 hN s0 k1 => ?_)
  have e_ : q = b + 23 := e0.symm.trans hsz
  subst e_
  have hV := mm_newo hG hK.1 k1 hN e0 s0 hV
  refine lv_dup hx hb d_K_init_52 rfl ?_
  refine lv_aload_n hx hb d_K_init_53 rfl (lv_at hl 0 rfl) ?_
  refine sx_gI (E' := (fun z => z = b + 23 ∨ b + 24 ≤ z)) (P := up_Ed D g (b + 24) (b + 23) (b + 0) (stI X (b + 13) 0 (nI 9).toInt8.toInt32) ts (kqE b)) (F := E) (mc := 182) (ms := 1672) (cells' := 206) (slots' := 2098) (sx_runI (As := [.ref (b + 0)]) (rest := [.ref (b + 23), .ref o]) EE (u_Ed_init (E := (fun z => z = b + 23 ∨ b + 24 ≤ z)) (b := b + 24) (X := (stI X (b + 13) 0 (nI 9).toInt8.toInt32)) (Or.inl rfl) (fun z h => Or.inr h) hN s0 hV (hst.news (hS.1.tr (sx_J.grow (le_1 e0 s0) k1)) (nE_ge hsz0 (hle 23))) (kqE_ed b)) iw_K_37 rfl rfl ⟨rfl, rfl⟩ ⟨Nat.le_of_ble_eq_true rfl, Nat.le_of_ble_eq_true rfl⟩ ⟨Nat.le_of_ble_eq_true rfl, Nat.le_of_ble_eq_true rfl⟩ hl.1 rfl (Nat.le_of_ble_eq_true rfl) d_K_init_54) (nE_en hEn (hle 23)) hS.2.2 rfl rfl (fun H54 locs hJc hPc hlo => ?_)
  have hk := sx_J.news e0 k1 (le_1 e0 s0) hJc (nE_to s0)
  have hJ : sx_J g E H45 H54 := (sx_J.grow (le_1 e0 s0) k1).tr (hJc.mono (nE_en hEn (hle 23)))
  have hS : sx_S g E E H0 H54 locs := ⟨hS.1.tr hJ, fun _ h => h, hlo⟩
  have hA := hA.kept hJ
  have hO := hO.grown hk
  have hB := hB.grown hk
  have hKA := hKA.kept (hk _ hKA.lt)
  obtain ⟨hsz_, hN_, hB_, hA_, hV, y3, y4, h4⟩ := hPc
  have hbc : b + 206 ≤ H54.size := hsz_
  have hB : obs_ D H54 b [((b + 23), 6, [.ref (b + 0), .ref (b + 24), .ref (b + 29), .ref (b + 34), .ref (b + 35), .ref (b + 36), .ref (b + 37), .ref (b + 38), .ref (b + 39), .ref (b + 40), .ref (b + 41), .ref (b + 42), .ref (b + 43), .ref (b + 44), .ref (b + 45)]), ((b + 29), 4, [.ref (b + 30), .ref (b + 31), .ref (b + 32), .ref (b + 33)]), ((b + 24), 4, [.ref (b + 25), .ref (b + 26), .ref (b + 27), .ref (b + 28)]), ((b + 11), 3, [.ref (b + 0), .ref (b + 12), .ref (b + 13), .ref (b + 14), .ref (b + 15), .ref (b + 16), .ref (b + 17), .ref (b + 18), .ref (b + 19), .ref (b + 20), .ref (b + 21), .ref (b + 22)]), ((b + 0), 2, [.ref (b + 1), .ref (b + 2), .ref (b + 3), .ref (b + 4), .ref (b + 5), .ref (b + 6), .ref (b + 7)])] := (hB.app hB_ (hle 24)).cons hN_ (hle 23)
  have hA : sx_AR g H54 [((b + 45), .long, 10), ((b + 44), .long, 10), ((b + 43), .long, 10), ((b + 42), .long, 10), ((b + 41), .long, 10), ((b + 40), .long, 10), ((b + 39), .long, 10), ((b + 38), .long, 10), ((b + 37), .byte, 32), ((b + 36), .byte, 32), ((b + 33), .long, 10), ((b + 32), .long, 10), ((b + 31), .long, 10), ((b + 30), .long, 10), ((b + 28), .long, 10), ((b + 27), .long, 10), ((b + 26), .long, 10), ((b + 25), .long, 10), ((b + 22), .long, 10), ((b + 21), .long, 10), ((b + 20), .long, 10), ((b + 19), .long, 10), ((b + 18), .long, 10), ((b + 17), .long, 10), ((b + 16), .long, 10), ((b + 15), .long, 10), ((b + 14), .long, 10), ((b + 13), .byte, 32), ((b + 12), .byte, 32), ((b + 10), .int, 4), ((b + 9), .byte, 64), ((b + 7), .long, 10), ((b + 6), .long, 10), ((b + 5), .long, 10), ((b + 4), .long, 10), ((b + 3), .long, 10), ((b + 2), .long, 10), ((b + 1), .long, 10)] := hA.app hA_
  have hV : mm g H54 = (LF_Ed_fillMultiples (LF_Pt_setAffine (stI X (b + 13) 0 (nI 9).toInt8.toInt32) ((kqE b) 4) (ts 1) (ts 2)) (edr (kqE b)) (fun j => (kqE b) (16 + j)) ((kqE b) 4) ts) := hV
  have y3 : rx_ g R_Ad H54 (b + 34) 16 (fun j => (b + 24) + 22 + 10 * j) := y3
  have y4 : rx_ g R_Ad H54 (b + 35) 16 (fun j => (b + 24) + 22 + 10 * j + 5) := y4
  have h4 : ∀ j, j < 16 → o4_ D g H54 5 ((b + 24) + 22 + 10 * j) (fun k => (b + 24) + 22 + 10 * j + 1 + k) ∧ o4_ D g H54 5 ((b + 24) + 22 + 10 * j + 5) (fun k => (b + 24) + 22 + 10 * j + 5 + 1 + k) := h4
  obtain ⟨c_, hsz⟩ : ∃ c_, H54.size = c_ := ⟨_, rfl⟩
  have hsz : H54.size = c_ + 0 := hsz
  have hbc : b + 206 ≤ c_ := Nat.le_trans hbc (Nat.le_of_eq hsz)
  have hle : ∀ k, b ≤ c_ + k := le_c hbc
  have hoc : o < c_ := Nat.lt_of_lt_of_le ho (hle 0)
  have hO0 := hO
  refine sx_putF EE hin hO rfl i_K t_K tok_K n_K 4 (by decide) rfl fl_K_38 (ty := t_K 4) (by decide +kernel) rfl rfl (Nat.le_of_ble_eq_true rfl) hEo hS d_K_init_57 (fun H57 locs hO hJ hs hS => ?_)
  have hO : va_P D classes [(o, .inr (1, [.ref (b + 8), .ref (b + 9), .ref (b + 10), .ref (b + 11), .ref (b + 23), .null, .null, .null, .int 0, .int 0, .int 0, .int 0]))] H57 := hO
  have hV := (vx_obj hG hK.1 hO0 hO hs).trans hV
  have hA := hA.kept hJ
  have hB := hB.one hs ho
  have hsz := (sz_one hJ.1 hs (lt_sz hoc hsz)).trans hsz
  have hKA := hKA.kept (hs _ (ne_o ho (Nat.le_add_right _ _)))
  have y3 := y3.kept (hs _ (ne_o ho (Nat.le_add_right _ _)))
  have y4 := y4.kept (hs _ (ne_o ho (Nat.le_add_right _ _)))
  have h4 := fun j hj => And.intro ((h4 j hj).1.put hJ hs (ne_o3 ho)) ((h4 j hj).2.put hJ hs (ne_o4 ho))
  refine lv_aload_n hx hb d_K_init_60 rfl (lv_at hl 1 rfl) ?_
  refine sx_newo (ci := 11) (fs := [.null, .null, .null, .null, .null, .null, .null, .null, .null]) (cells' := 207) (slots' := 2107) EE rfl i_Si t_Si tok_Si nw_K_42 (by decide) rfl rfl (Nat.le_of_ble_eq_true rfl) (Nat.le_of_ble_eq_true rfl) d_K_init_61 (fun q H61 e0 hN s0 k1 => ?_)
  have e_ : c_ = q := hsz.symm.trans e0
  subst e_
  have hV := mm_newo hG hK.1 k1 hN e0 s0 hV
  refine lv_dup hx hb d_K_init_64 rfl ?_
  refine lv_aload_n hx hb d_K_init_65 rfl (lv_at hl 1 rfl) ?_
  refine sx_get (v := .ref (b + 23)) EE (hO.grown k1) rfl i_K 4 (by decide) rfl fl_K_38 rfl d_K_init_66 ?_
  refine sx_gI (E' := (fun z => z = c_ + 0 ∨ c_ + 1 ≤ z)) (P := up_Si D g (c_ + 1) (c_ + 0) (b + 23) (LF_Ed_fillMultiples (LF_Pt_setAffine (stI X (b + 13) 0 (nI 9).toInt8.toInt32) ((kqE b) 4) (ts 1) (ts 2)) (edr (kqE b)) (fun j => (kqE b) (16 + j)) ((kqE b) 4) ts)) (F := E) (mc := 12) (ms := 510) (cells' := 219) (slots' := 2617) (sx_runI (As := [.ref (b + 23)]) (rest := [.ref (c_ + 0), .ref o]) EE (u_Si_init (E := (fun z => z = c_ + 0 ∨ c_ + 1 ≤ z)) (b := c_ + 1) (X := (LF_Ed_fillMultiples (LF_Pt_setAffine (stI X (b + 13) 0 (nI 9).toInt8.toInt32) ((kqE b) 4) (ts 1) (ts 2)) (edr (kqE b)) (fun j => (kqE b) (16 + j)) ((kqE b) 4) ts)) (Or.inl rfl) (fun z h => Or.inr h) hN s0 hV) iw_K_44 rfl rfl ⟨rfl, rfl⟩ ⟨Nat.le_of_ble_eq_true rfl, Nat.le_of_ble_eq_true rfl⟩ ⟨Nat.le_of_ble_eq_true rfl, Nat.le_of_ble_eq_true rfl⟩ hl.1 rfl (Nat.le_of_ble_eq_true rfl) d_K_init_69) (nE_en hEn (hle 0)) hS.2.2 rfl rfl (fun H69 locs hJc hPc hlo => ?_)
  have hk := sx_J.news e0 k1 (le_1 e0 s0) hJc (nE_to s0)
  have hJ : sx_J g E H57 H69 := (sx_J.grow (le_1 e0 s0) k1).tr (hJc.mono (nE_en hEn (hle 0)))
  have hS : sx_S g E E H0 H69 locs := ⟨hS.1.tr hJ, fun _ h => h, hlo⟩
  have hA := hA.kept hJ
  have hO := hO.grown hk
  have hB := hB.grown hk
  have hKA := hKA.kept (hk _ hKA.lt)
  have y3 := y3.kept (hk _ y3.lt)
  have y4 := y4.kept (hk _ y4.lt)
  have h4 := fun j hj => And.intro ((h4 j hj).1.grown hJ.1 hk) ((h4 j hj).2.grown hJ.1 hk)
  obtain ⟨hsz_, hN_, hB_, hA_, hV⟩ := hPc
  have hsz : H69.size = c_ + 13 := hsz_
  have hB : obs_ D H69 b [((c_ + 0), 11, [.ref (b + 23), .ref (c_ + 1), .ref (c_ + 5), .ref (c_ + 7), .ref (c_ + 8), .ref (c_ + 9), .ref (c_ + 10), .ref (c_ + 11), .ref (c_ + 12)]), ((c_ + 5), 8, [.ref (c_ + 6)]), ((c_ + 1), 7, [.ref (c_ + 2), .ref (c_ + 3), .ref (c_ + 4), .int 0, .int 0]), ((b + 23), 6, [.ref (b + 0), .ref (b + 24), .ref (b + 29), .ref (b + 34), .ref (b + 35), .ref (b + 36), .ref (b + 37), .ref (b + 38), .ref (b + 39), .ref (b + 40), .ref (b + 41), .ref (b + 42), .ref (b + 43), .ref (b + 44), .ref (b + 45)]), ((b + 29), 4, [.ref (b + 30), .ref (b + 31), .ref (b + 32), .ref (b + 33)]), ((b + 24), 4, [.ref (b + 25), .ref (b + 26), .ref (b + 27), .ref (b + 28)]), ((b + 11), 3, [.ref (b + 0), .ref (b + 12), .ref (b + 13), .ref (b + 14), .ref (b + 15), .ref (b + 16), .ref (b + 17), .ref (b + 18), .ref (b + 19), .ref (b + 20), .ref (b + 21), .ref (b + 22)]), ((b + 0), 2, [.ref (b + 1), .ref (b + 2), .ref (b + 3), .ref (b + 4), .ref (b + 5), .ref (b + 6), .ref (b + 7)])] := (hB.app hB_ (hle 1)).cons hN_ (hle 0)
  have hA : sx_AR g H69 [((c_ + 12), .byte, 32), ((c_ + 11), .byte, 32), ((c_ + 10), .byte, 32), ((c_ + 9), .byte, 32), ((c_ + 8), .byte, 32), ((c_ + 7), .byte, 64), ((c_ + 6), .long, 64), ((c_ + 4), .byte, 128), ((c_ + 3), .long, 80), ((c_ + 2), .long, 8), ((b + 45), .long, 10), ((b + 44), .long, 10), ((b + 43), .long, 10), ((b + 42), .long, 10), ((b + 41), .long, 10), ((b + 40), .long, 10), ((b + 39), .long, 10), ((b + 38), .long, 10), ((b + 37), .byte, 32), ((b + 36), .byte, 32), ((b + 33), .long, 10), ((b + 32), .long, 10), ((b + 31), .long, 10), ((b + 30), .long, 10), ((b + 28), .long, 10), ((b + 27), .long, 10), ((b + 26), .long, 10), ((b + 25), .long, 10), ((b + 22), .long, 10), ((b + 21), .long, 10), ((b + 20), .long, 10), ((b + 19), .long, 10), ((b + 18), .long, 10), ((b + 17), .long, 10), ((b + 16), .long, 10), ((b + 15), .long, 10), ((b + 14), .long, 10), ((b + 13), .byte, 32), ((b + 12), .byte, 32), ((b + 10), .int, 4), ((b + 9), .byte, 64), ((b + 7), .long, 10), ((b + 6), .long, 10), ((b + 5), .long, 10), ((b + 4), .long, 10), ((b + 3), .long, 10), ((b + 2), .long, 10), ((b + 1), .long, 10)] := hA.app hA_
  have hV : mm g H69 = (LF_Ed_fillMultiples (LF_Pt_setAffine (stI X (b + 13) 0 (nI 9).toInt8.toInt32) ((kqE b) 4) (ts 1) (ts 2)) (edr (kqE b)) (fun j => (kqE b) (16 + j)) ((kqE b) 4) ts) := hV
  have hO0 := hO
  refine sx_putF EE hin hO rfl i_K t_K tok_K n_K 5 (by decide) rfl fl_K_47 (ty := t_K 5) (by decide +kernel) rfl rfl (Nat.le_of_ble_eq_true rfl) hEo hS d_K_init_72 (fun H72 locs hO hJ hs hS => ?_)
  have hO : va_P D classes [(o, .inr (1, [.ref (b + 8), .ref (b + 9), .ref (b + 10), .ref (b + 11), .ref (b + 23), .ref (c_ + 0), .null, .null, .int 0, .int 0, .int 0, .int 0]))] H72 := hO
  have hV := (vx_obj hG hK.1 hO0 hO hs).trans hV
  have hA := hA.kept hJ
  have hB := hB.one hs ho
  have hsz := (sz_one hJ.1 hs (lt_sz hoc hsz)).trans hsz
  have hKA := hKA.kept (hs _ (ne_o ho (Nat.le_add_right _ _)))
  have y3 := y3.kept (hs _ (ne_o ho (Nat.le_add_right _ _)))
  have y4 := y4.kept (hs _ (ne_o ho (Nat.le_add_right _ _)))
  have h4 := fun j hj => And.intro ((h4 j hj).1.put hJ hs (ne_o3 ho)) ((h4 j hj).2.put hJ hs (ne_o4 ho))
  refine lv_aload_n hx hb d_K_init_75 rfl (lv_at hl 1 rfl) ?_
  refine sx_newo (ci := 9) (fs := [.null, .int 0]) (cells' := 220) (slots' := 2619) EE rfl i_Ro t_Ro tok_Ro nw_K_51 (by decide) rfl rfl (Nat.le_of_ble_eq_true rfl) (Nat.le_of_ble_eq_true rfl) d_K_init_76 (fun q H76 e0 hN s0 k1 => ?_)
  have e_ : q = c_ + 13 := e0.symm.trans hsz
  subst e_
  have hV := mm_newo hG hK.1 k1 hN e0 s0 hV
  refine lv_dup hx hb d_K_init_79 rfl ?_
  refine sx_gI (E' := (fun z => z = c_ + 13 ∨ c_ + 14 ≤ z)) (P := up_Ro D g (c_ + 14) (c_ + 13) (LF_Ed_fillMultiples (LF_Pt_setAffine (stI X (b + 13) 0 (nI 9).toInt8.toInt32) ((kqE b) 4) (ts 1) (ts 2)) (edr (kqE b)) (fun j => (kqE b) (16 + j)) ((kqE b) 4) ts)) (F := E) (mc := 1) (ms := 1024) (cells' := 221) (slots' := 3643) (sx_runIN (As := []) (rest := [.ref (c_ + 13), .ref o]) EE (u_Ro_init (E := (fun z => z = c_ + 13 ∨ c_ + 14 ≤ z)) (b := c_ + 14) (X := (LF_Ed_fillMultiples (LF_Pt_setAffine (stI X (b + 13) 0 (nI 9).toInt8.toInt32) ((kqE b) 4) (ts 1) (ts 2)) (edr (kqE b)) (fun j => (kqE b) (16 + j)) ((kqE b) 4) ts)) (Or.inl rfl) (fun z h => Or.inr h) hN s0 hV) il_K_53 iw_K_53 rfl rfl ⟨rfl, rfl⟩ ⟨Nat.le_of_ble_eq_true rfl, Nat.le_of_ble_eq_true rfl⟩ ⟨Nat.le_of_ble_eq_true rfl, Nat.le_of_ble_eq_true rfl⟩ hl.1 rfl (Nat.le_of_ble_eq_true rfl) d_K_init_80) (nE_en hEn (hle 13)) hS.2.2 rfl rfl (fun H80 locs hJc hPc hlo => ?_)
  have hk := sx_J.news e0 k1 (le_1 e0 s0) hJc (nE_to s0)
  have hJ : sx_J g E H72 H80 := (sx_J.grow (le_1 e0 s0) k1).tr (hJc.mono (nE_en hEn (hle 13)))
  have hS : sx_S g E E H0 H80 locs := ⟨hS.1.tr hJ, fun _ h => h, hlo⟩
  have hA := hA.kept hJ
  have hO := hO.grown hk
  have hB := hB.grown hk
  have hKA := hKA.kept (hk _ hKA.lt)
  have y3 := y3.kept (hk _ y3.lt)
  have y4 := y4.kept (hk _ y4.lt)
  have h4 := fun j hj => And.intro ((h4 j hj).1.grown hJ.1 hk) ((h4 j hj).2.grown hJ.1 hk)
  obtain ⟨hsz_, hN_, hB_, hA_, hV⟩ := hPc
  have hsz : H80.size = c_ + 15 := hsz_
  have hB : obs_ D H80 b [((c_ + 13), 9, [.ref (c_ + 14), .int 0]), ((c_ + 0), 11, [.ref (b + 23), .ref (c_ + 1), .ref (c_ + 5), .ref (c_ + 7), .ref (c_ + 8), .ref (c_ + 9), .ref (c_ + 10), .ref (c_ + 11), .ref (c_ + 12)]), ((c_ + 5), 8, [.ref (c_ + 6)]), ((c_ + 1), 7, [.ref (c_ + 2), .ref (c_ + 3), .ref (c_ + 4), .int 0, .int 0]), ((b + 23), 6, [.ref (b + 0), .ref (b + 24), .ref (b + 29), .ref (b + 34), .ref (b + 35), .ref (b + 36), .ref (b + 37), .ref (b + 38), .ref (b + 39), .ref (b + 40), .ref (b + 41), .ref (b + 42), .ref (b + 43), .ref (b + 44), .ref (b + 45)]), ((b + 29), 4, [.ref (b + 30), .ref (b + 31), .ref (b + 32), .ref (b + 33)]), ((b + 24), 4, [.ref (b + 25), .ref (b + 26), .ref (b + 27), .ref (b + 28)]), ((b + 11), 3, [.ref (b + 0), .ref (b + 12), .ref (b + 13), .ref (b + 14), .ref (b + 15), .ref (b + 16), .ref (b + 17), .ref (b + 18), .ref (b + 19), .ref (b + 20), .ref (b + 21), .ref (b + 22)]), ((b + 0), 2, [.ref (b + 1), .ref (b + 2), .ref (b + 3), .ref (b + 4), .ref (b + 5), .ref (b + 6), .ref (b + 7)])] := (hB.app hB_ (hle 14)).cons hN_ (hle 13)
  have hA : sx_AR g H80 [((c_ + 14), .byte, 1024), ((c_ + 12), .byte, 32), ((c_ + 11), .byte, 32), ((c_ + 10), .byte, 32), ((c_ + 9), .byte, 32), ((c_ + 8), .byte, 32), ((c_ + 7), .byte, 64), ((c_ + 6), .long, 64), ((c_ + 4), .byte, 128), ((c_ + 3), .long, 80), ((c_ + 2), .long, 8), ((b + 45), .long, 10), ((b + 44), .long, 10), ((b + 43), .long, 10), ((b + 42), .long, 10), ((b + 41), .long, 10), ((b + 40), .long, 10), ((b + 39), .long, 10), ((b + 38), .long, 10), ((b + 37), .byte, 32), ((b + 36), .byte, 32), ((b + 33), .long, 10), ((b + 32), .long, 10), ((b + 31), .long, 10), ((b + 30), .long, 10), ((b + 28), .long, 10), ((b + 27), .long, 10), ((b + 26), .long, 10), ((b + 25), .long, 10), ((b + 22), .long, 10), ((b + 21), .long, 10), ((b + 20), .long, 10), ((b + 19), .long, 10), ((b + 18), .long, 10), ((b + 17), .long, 10), ((b + 16), .long, 10), ((b + 15), .long, 10), ((b + 14), .long, 10), ((b + 13), .byte, 32), ((b + 12), .byte, 32), ((b + 10), .int, 4), ((b + 9), .byte, 64), ((b + 7), .long, 10), ((b + 6), .long, 10), ((b + 5), .long, 10), ((b + 4), .long, 10), ((b + 3), .long, 10), ((b + 2), .long, 10), ((b + 1), .long, 10)] := hA.app hA_
  have hV : mm g H80 = (LF_Ed_fillMultiples (LF_Pt_setAffine (stI X (b + 13) 0 (nI 9).toInt8.toInt32) ((kqE b) 4) (ts 1) (ts 2)) (edr (kqE b)) (fun j => (kqE b) (16 + j)) ((kqE b) 4) ts) := hV
  have hO0 := hO
  refine sx_put EE hO rfl i_K t_K tok_K n_K 6 (by decide) rfl fl_K_54 (ty := t_K 6) (by decide +kernel) rfl rfl (Nat.le_of_ble_eq_true rfl) hEo hS d_K_init_83 (fun H83 locs hO hJ hs hS => ?_)
  have hO : va_P D classes [(o, .inr (1, [.ref (b + 8), .ref (b + 9), .ref (b + 10), .ref (b + 11), .ref (b + 23), .ref (c_ + 0), .ref (c_ + 13), .null, .int 0, .int 0, .int 0, .int 0]))] H83 := hO
  have hV := (vx_obj hG hK.1 hO0 hO hs).trans hV
  have hA := hA.kept hJ
  have hB := hB.one hs ho
  have hsz := (sz_one hJ.1 hs (lt_sz hoc hsz)).trans hsz
  have hKA := hKA.kept (hs _ (ne_o ho (Nat.le_add_right _ _)))
  have y3 := y3.kept (hs _ (ne_o ho (Nat.le_add_right _ _)))
  have y4 := y4.kept (hs _ (ne_o ho (Nat.le_add_right _ _)))
  have h4 := fun j hj => And.intro ((h4 j hj).1.put hJ hs (ne_o3 ho)) ((h4 j hj).2.put hJ hs (ne_o4 ho))
  refine lv_aload_n hx hb d_K_init_86 rfl (lv_at hl 1 rfl) ?_
  refine sx_newo (ci := 9) (fs := [.null, .int 0]) (cells' := 222) (slots' := 3645) EE rfl i_Ro t_Ro tok_Ro nw_K_51 (by decide) rfl rfl (Nat.le_of_ble_eq_true rfl) (Nat.le_of_ble_eq_true rfl) d_K_init_87 (fun q H87 e0 hN s0 k1 => ?_)
  have e_ : q = c_ + 15 := e0.symm.trans hsz
  subst e_
  have hV := mm_newo hG hK.1 k1 hN e0 s0 hV
  refine lv_dup hx hb d_K_init_90 rfl ?_
  refine sx_gI (E' := (fun z => z = c_ + 15 ∨ c_ + 16 ≤ z)) (P := up_Ro D g (c_ + 16) (c_ + 15) (LF_Ed_fillMultiples (LF_Pt_setAffine (stI X (b + 13) 0 (nI 9).toInt8.toInt32) ((kqE b) 4) (ts 1) (ts 2)) (edr (kqE b)) (fun j => (kqE b) (16 + j)) ((kqE b) 4) ts)) (F := E) (mc := 1) (ms := 1024) (cells' := 223) (slots' := 4669) (sx_runIN (As := []) (rest := [.ref (c_ + 15), .ref o]) EE (u_Ro_init (E := (fun z => z = c_ + 15 ∨ c_ + 16 ≤ z)) (b := c_ + 16) (X := (LF_Ed_fillMultiples (LF_Pt_setAffine (stI X (b + 13) 0 (nI 9).toInt8.toInt32) ((kqE b) 4) (ts 1) (ts 2)) (edr (kqE b)) (fun j => (kqE b) (16 + j)) ((kqE b) 4) ts)) (Or.inl rfl) (fun z h => Or.inr h) hN s0 hV) il_K_53 iw_K_53 rfl rfl ⟨rfl, rfl⟩ ⟨Nat.le_of_ble_eq_true rfl, Nat.le_of_ble_eq_true rfl⟩ ⟨Nat.le_of_ble_eq_true rfl, Nat.le_of_ble_eq_true rfl⟩ hl.1 rfl (Nat.le_of_ble_eq_true rfl) d_K_init_91) (nE_en hEn (hle 15)) hS.2.2 rfl rfl (fun H91 locs hJc hPc hlo => ?_)
  have hk := sx_J.news e0 k1 (le_1 e0 s0) hJc (nE_to s0)
  have hJ : sx_J g E H83 H91 := (sx_J.grow (le_1 e0 s0) k1).tr (hJc.mono (nE_en hEn (hle 15)))
  have hS : sx_S g E E H0 H91 locs := ⟨hS.1.tr hJ, fun _ h => h, hlo⟩
  have hA := hA.kept hJ
  have hO := hO.grown hk
  have hB := hB.grown hk
  have hKA := hKA.kept (hk _ hKA.lt)
  have y3 := y3.kept (hk _ y3.lt)
  have y4 := y4.kept (hk _ y4.lt)
  have h4 := fun j hj => And.intro ((h4 j hj).1.grown hJ.1 hk) ((h4 j hj).2.grown hJ.1 hk)
  obtain ⟨hsz_, hN_, hB_, hA_, hV⟩ := hPc
  have hsz : H91.size = c_ + 17 := hsz_
  have hB : obs_ D H91 b [((c_ + 15), 9, [.ref (c_ + 16), .int 0]), ((c_ + 13), 9, [.ref (c_ + 14), .int 0]), ((c_ + 0), 11, [.ref (b + 23), .ref (c_ + 1), .ref (c_ + 5), .ref (c_ + 7), .ref (c_ + 8), .ref (c_ + 9), .ref (c_ + 10), .ref (c_ + 11), .ref (c_ + 12)]), ((c_ + 5), 8, [.ref (c_ + 6)]), ((c_ + 1), 7, [.ref (c_ + 2), .ref (c_ + 3), .ref (c_ + 4), .int 0, .int 0]), ((b + 23), 6, [.ref (b + 0), .ref (b + 24), .ref (b + 29), .ref (b + 34), .ref (b + 35), .ref (b + 36), .ref (b + 37), .ref (b + 38), .ref (b + 39), .ref (b + 40), .ref (b + 41), .ref (b + 42), .ref (b + 43), .ref (b + 44), .ref (b + 45)]), ((b + 29), 4, [.ref (b + 30), .ref (b + 31), .ref (b + 32), .ref (b + 33)]), ((b + 24), 4, [.ref (b + 25), .ref (b + 26), .ref (b + 27), .ref (b + 28)]), ((b + 11), 3, [.ref (b + 0), .ref (b + 12), .ref (b + 13), .ref (b + 14), .ref (b + 15), .ref (b + 16), .ref (b + 17), .ref (b + 18), .ref (b + 19), .ref (b + 20), .ref (b + 21), .ref (b + 22)]), ((b + 0), 2, [.ref (b + 1), .ref (b + 2), .ref (b + 3), .ref (b + 4), .ref (b + 5), .ref (b + 6), .ref (b + 7)])] := (hB.app hB_ (hle 16)).cons hN_ (hle 15)
  have hA : sx_AR g H91 [((c_ + 16), .byte, 1024), ((c_ + 14), .byte, 1024), ((c_ + 12), .byte, 32), ((c_ + 11), .byte, 32), ((c_ + 10), .byte, 32), ((c_ + 9), .byte, 32), ((c_ + 8), .byte, 32), ((c_ + 7), .byte, 64), ((c_ + 6), .long, 64), ((c_ + 4), .byte, 128), ((c_ + 3), .long, 80), ((c_ + 2), .long, 8), ((b + 45), .long, 10), ((b + 44), .long, 10), ((b + 43), .long, 10), ((b + 42), .long, 10), ((b + 41), .long, 10), ((b + 40), .long, 10), ((b + 39), .long, 10), ((b + 38), .long, 10), ((b + 37), .byte, 32), ((b + 36), .byte, 32), ((b + 33), .long, 10), ((b + 32), .long, 10), ((b + 31), .long, 10), ((b + 30), .long, 10), ((b + 28), .long, 10), ((b + 27), .long, 10), ((b + 26), .long, 10), ((b + 25), .long, 10), ((b + 22), .long, 10), ((b + 21), .long, 10), ((b + 20), .long, 10), ((b + 19), .long, 10), ((b + 18), .long, 10), ((b + 17), .long, 10), ((b + 16), .long, 10), ((b + 15), .long, 10), ((b + 14), .long, 10), ((b + 13), .byte, 32), ((b + 12), .byte, 32), ((b + 10), .int, 4), ((b + 9), .byte, 64), ((b + 7), .long, 10), ((b + 6), .long, 10), ((b + 5), .long, 10), ((b + 4), .long, 10), ((b + 3), .long, 10), ((b + 2), .long, 10), ((b + 1), .long, 10)] := hA.app hA_
  have hV : mm g H91 = (LF_Ed_fillMultiples (LF_Pt_setAffine (stI X (b + 13) 0 (nI 9).toInt8.toInt32) ((kqE b) 4) (ts 1) (ts 2)) (edr (kqE b)) (fun j => (kqE b) (16 + j)) ((kqE b) 4) ts) := hV
  have hO0 := hO
  refine sx_put EE hO rfl i_K t_K tok_K n_K 7 (by decide) rfl fl_K_58 (ty := t_K 7) (by decide +kernel) rfl rfl (Nat.le_of_ble_eq_true rfl) hEo hS d_K_init_94 (fun H94 locs hO hJ hs hS => ?_)
  have hO : va_P D classes [(o, .inr (1, [.ref (b + 8), .ref (b + 9), .ref (b + 10), .ref (b + 11), .ref (b + 23), .ref (c_ + 0), .ref (c_ + 13), .ref (c_ + 15), .int 0, .int 0, .int 0, .int 0]))] H94 := hO
  have hV := (vx_obj hG hK.1 hO0 hO hs).trans hV
  have hA := hA.kept hJ
  have hB := hB.one hs ho
  have hsz := (sz_one hJ.1 hs (lt_sz hoc hsz)).trans hsz
  have hKA := hKA.kept (hs _ (ne_o ho (Nat.le_add_right _ _)))
  have y3 := y3.kept (hs _ (ne_o ho (Nat.le_add_right _ _)))
  have y4 := y4.kept (hs _ (ne_o ho (Nat.le_add_right _ _)))
  have h4 := fun j hj => And.intro ((h4 j hj).1.put hJ hs (ne_o3 ho)) ((h4 j hj).2.put hJ hs (ne_o4 ho))
  exact hret _ _ _ _ ⟨c_, hbc, hsz, hO, hB, hA, hV, hKA, y3, y4, h4⟩ hS.1 hS.2.2 d_K_init_97
