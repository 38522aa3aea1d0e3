/-! prime: the next prime -/
def pl_ (k : Nat) : Nat := ([1, 2, 3, 5, 7, 11, 13, 17, 19, 23, 29, 31, 37, 41, 43, 47, 53, 59, 61, 67, 71, 73, 79, 83, 89, 97, 101, 103, 107, 109, 113, 127, 131, 137, 139, 149, 151, 157, 163, 167, 173, 179, 181, 191, 193, 197, 199, 211, 223, 227, 229, 233, 239, 241, 251, 257, 263, 269, 271, 277, 281, 283, 293, 307, 311, 313, 317, 331, 337, 347, 349, 353, 359, 367, 373, 379, 383, 389, 397, 401, 409] : List Nat).getD k 0
theorem pl_ok0 : ∀ k, k < 80 → pl_ k < pl_ (k + 1) ∧ pl_ (k + 1) ≤ 409 ∧ ∀ d, d < 21 → 2 ≤ d → d * d ≤ pl_ (k + 1) → pl_ (k + 1) % d ≠ 0 := by decide +kernel
theorem pl_ok (k : Nat) (hk : k < 80) : pl_ k < pl_ (k + 1) ∧ pl_ (k + 1) ≤ 409 ∧ ∀ d, 2 ≤ d → d * d ≤ pl_ (k + 1) → pl_ (k + 1) % d ≠ 0 := by
  obtain ⟨h1, h2, h3⟩ := pl_ok0 k hk
  refine ⟨h1, h2, fun d hd hdd => h3 d ?_ hd hdd⟩
  rcases Nat.lt_or_ge d 21 with h | h
  · exact h
  · have := Nat.mul_le_mul h h
    omega
def pl_chk : Bool := (List.range 80).all fun k => (List.range 409).all fun x => if pl_ k < x ∧ x < pl_ (k + 1) then (List.range 21).any (fun d => decide (2 ≤ d ∧ d * d ≤ x ∧ x % d = 0)) else true
theorem pl_chk_ok : pl_chk = true := by decide +kernel
theorem pl_cs (k : Nat) (hk : k < 80) (x : Nat) (h1 : pl_ k < x) (h2 : x < pl_ (k + 1)) : ∃ d, 2 ≤ d ∧ d * d ≤ x ∧ x % d = 0 := by
  have h3 := List.all_eq_true.mp (List.all_eq_true.mp pl_chk_ok k (List.mem_range.mpr hk)) x (List.mem_range.mpr (by have := (pl_ok k hk).2.1; omega))
  rw [if_pos ⟨h1, h2⟩] at h3
  obtain ⟨d, -, h4⟩ := List.any_eq_true.mp h3
  exact ⟨d, of_decide_eq_true h4⟩
abbrev rm_M_prime : Room := { frames := 0, cells := 0, slots := 0, locals := 0 }
set_option maxHeartbeats 4000000 in
set_option maxRecDepth 100000 in
theorem v_M_prime {l : Launch} {D : va_G} {g : ClassId → FieldType → Prop} {E : Nat → Prop} {H0 : Heap} {X : vM} {v0 q : Nat} (h0 : v0 < q) (hq : q ≤ 409) (hp : ∀ d, 2 ≤ d → d * d ≤ q → q % d ≠ 0) (hc : ∀ x, v0 < x → x < q → ∃ d, 2 ≤ d ∧ d * d ≤ x ∧ x % d = 0) (hV : mm g H0 = X) : Met l y_M_prime (.code y_M_prime b_M_prime 4 (some .int) :: G_) rm_M_prime (sx_Pc [.int (nI v0)] H0 D g) (vx_Qi g E H0 X (nI q)) 0 0 E := by
  refine vx_mi (own := R_M) (by decide) rfl rfl rfl (Nat.le_of_ble_eq_true rfl) ?_
  intro p e s m args below meth c Q ls EE hl hret
  obtain ⟨hx, hb, hml, hown, hts, hG, hK⟩ := id EE
  have hS : sx_S g E E H0 H0 [] := sx_S.rf
  have hl : lv_has ls 4 [(0, .int (nI v0))] := hl
  have outer : ∀ (k x f : Nat) (ls : Array Slot), v0 ≤ x → x ≤ q → q < x + k → f ≤ 1 → (f = 0 → x < q) → (f = 1 → x = q) → lv_has ls 4 [(2, .int (nI f)), (1, .int (nI x))] → W p l e rm_M_prime s m args below meth c H0 [] 0 0 Q (F0 m 4 ls []) := by
    intro k
    induction k with
    | zero =>
      intro x f ls h0 h1 h2
      exact absurd h2 (by omega)
    | succ k ih =>
      intro x f ls hv h1 h2 h3 h4 h5 hl
      refine lv_iload_n hx hb d_M_prime_4 rfl (lv_at hl 0 rfl) ?_
      refine lv_if_ne (tgt := 39) hx hb d_M_prime_5 (by decide) (fun q5 => ?_) (fun q5 => ?_)
      · have q5 : ¬ (f = 0) := fun z => q5 ((nI_eq (a := f) (b := 0) (by omega) (by omega)).mpr z)
        have e5 : x = q := h5 (by omega)
        refine lv_iload_n hx hb d_M_prime_39 rfl (lv_at hl 1 rfl) ?_
        exact hret _ _ _ _ _ _ rfl (by rw [e5]) hS hV d_M_prime_40
      · have q5 : f = 0 := (nI_eq (a := f) (b := 0) (by omega) (by omega)).mp q5
        have hxq := h4 q5
        refine lv_iinc (v := nI (x + 1)) (lv' := [(1, .int (nI (x + 1))), (2, .int (nI f))]) hx hb d_M_prime_8 hl (k := 1) rfl (sx_inc _ _) (by decide) rfl (fun ls hl => ?_)
        refine lv_iconst (v := nI 1) hx hb d_M_prime_11 (by decide +kernel) ?_
        refine lv_istore_n (lv' := [(2, .int (nI 1)), (1, .int (nI (x + 1)))]) hx hb d_M_prime_12 rfl hl (by decide) rfl (fun ls hl => ?_)
        refine lv_iconst (v := nI 2) hx hb d_M_prime_13 (by decide +kernel) ?_
        refine lv_istore_n (lv' := [(3, .int (nI 2)), (2, .int (nI 1)), (1, .int (nI (x + 1)))]) hx hb d_M_prime_14 rfl hl (by decide) rfl (fun ls hl => ?_)
        have inner : ∀ (j d f : Nat) (ls : Array Slot), 2 ≤ d → d ≤ 30 → 30 < d + j → f ≤ 1 → (x + 1 = q → f = 1) → (f = 1 → ∀ u, 2 ≤ u → u < d → (x + 1) % u ≠ 0) → lv_has ls 4 [(3, .int (nI d)), (2, .int (nI f)), (1, .int (nI (x + 1)))] → W p l e rm_M_prime s m args below meth c H0 [] 0 0 Q (F0 m 15 ls []) := by
          intro j
          induction j with
          | zero =>
            intro d f ls g1 g2 g3
            exact absurd g3 (by omega)
          | succ j ihj =>
            intro d f ls g1 g2 g3 g4 g5 g6 hl
            have hdd : d * d ≤ 900 := Nat.mul_le_mul g2 g2
            refine lv_iload_n hx hb d_M_prime_15 rfl (lv_at hl 0 rfl) ?_
            refine lv_iload_n hx hb d_M_prime_16 rfl (lv_at hl 0 rfl) ?_
            refine lv_imul hx hb d_M_prime_17 ?_
            refine sx_ti (y := nI (d * d)) (pk_mul _ _) ?_
            refine lv_iload_n hx hb d_M_prime_18 rfl (lv_at hl 2 rfl) ?_
            obtain ⟨w, hw⟩ : ∃ w, d * d = w := ⟨_, rfl⟩
            rw [hw]
            rw [hw] at hdd
            refine lv_icmp_gt (tgt := 36) hx hb d_M_prime_19 (by decide) (fun q19 => ?_) (fun q19 => ?_)
            · have q19 : x + 1 < w := (nI_ltI (a := x + 1) (b := w) (by omega) (by omega)).mp q19
              refine lv_goto (tgt := 4) hx hb d_M_prime_36 (by decide) ?_
              refine ih (x + 1) f ls (by omega) (by omega) (by omega) g4 (fun hf => by
                rcases Nat.lt_or_ge (x + 1) q with h | h
                · exact h
                · have := g5 (by omega)
                  omega) (fun hf => ?_) (lv_sub hl [1, 2] rfl)
              rcases Nat.lt_or_ge (x + 1) q with h | h
              · obtain ⟨u, u1, u2, u3⟩ := hc (x + 1) (by omega) h
                refine absurd u3 (g6 hf u u1 ?_)
                rcases Nat.lt_or_ge u d with h' | h'
                · exact h'
                · have := Nat.mul_le_mul h' h'
                  omega
              · omega
            · have q19 : ¬ (x + 1 < w) := fun z => q19 ((nI_ltI (a := x + 1) (b := w) (by omega) (by omega)).mpr z)
              have hd20 : d ≤ 20 := by
                rcases Nat.lt_or_ge 20 d with h | h
                · have := Nat.mul_le_mul (show 21 ≤ d from h) (show 21 ≤ d from h)
                  omega
                · exact h
              refine lv_iload_n hx hb d_M_prime_22 rfl (lv_at hl 2 rfl) ?_
              refine lv_iload_n hx hb d_M_prime_23 rfl (lv_at hl 0 rfl) ?_
              refine lv_irem hx hb d_M_prime_24 (nI_ne0 (by omega) (by omega)) ?_
              refine sx_ti (y := nI ((x + 1) % d)) (pk_rem (by omega) (by omega) (by omega)) ?_
              have hlt : (x + 1) % d < d := Nat.mod_lt _ (by omega)
              refine lv_if_ne (tgt := 30) hx hb d_M_prime_25 (by decide) (fun q25 => ?_) (fun q25 => ?_)
              · have q25 : ¬ ((x + 1) % d = 0) := fun z => q25 ((nI_eq (a := (x + 1) % d) (b := 0) (by omega) (by omega)).mpr z)
                refine lv_iinc (v := nI (d + 1)) (lv' := [(3, .int (nI (d + 1))), (2, .int (nI f)), (1, .int (nI (x + 1)))]) hx hb d_M_prime_30 hl (k := 0) rfl (sx_inc _ _) (by decide) rfl (fun ls hl => ?_)
                refine lv_goto (tgt := 15) hx hb d_M_prime_33 (by decide) ?_
                exact ihj (d + 1) f ls (by omega) (by omega) (by omega) g4 g5 (fun hf u u1 u2 => by
                  rcases Nat.lt_or_ge u d with h | h
                  · exact g6 hf u u1 h
                  · rw [show u = d by omega]; exact q25) hl
              · have q25 : (x + 1) % d = 0 := (nI_eq (a := (x + 1) % d) (b := 0) (by omega) (by omega)).mp q25
                refine lv_iconst (v := nI 0) hx hb d_M_prime_28 (by decide +kernel) ?_
                refine lv_istore_n (lv' := [(2, .int (nI 0)), (3, .int (nI d)), (1, .int (nI (x + 1)))]) hx hb d_M_prime_29 rfl hl (by decide) rfl (fun ls hl => ?_)
                refine lv_iinc (v := nI (d + 1)) (lv' := [(3, .int (nI (d + 1))), (2, .int (nI 0)), (1, .int (nI (x + 1)))]) hx hb d_M_prime_30 hl (k := 1) rfl (sx_inc _ _) (by decide) rfl (fun ls hl => ?_)
                refine lv_goto (tgt := 15) hx hb d_M_prime_33 (by decide) ?_
                exact ihj (d + 1) 0 ls (by omega) (by omega) (by omega) (by omega) (fun hz => by
                  rw [hz] at q25
                  exact absurd q25 (hp d g1 (by omega))) (fun hz => by omega) hl
        exact inner 29 2 1 ls (by omega) (by omega) (by omega) (by omega) (fun _ => rfl) (fun _ u u1 u2 => by omega) (lv_sub hl [0, 1, 2] rfl)
  refine lv_iload_n hx hb d_M_prime_0 rfl (lv_at hl 0 rfl) ?_
  refine lv_istore_n (lv' := [(1, .int (nI v0)), (0, .int (nI v0))]) hx hb d_M_prime_1 rfl hl (by decide) rfl (fun ls hl => ?_)
  refine lv_iconst (v := nI 0) hx hb d_M_prime_2 (by decide +kernel) ?_
  refine lv_istore_n (lv' := [(2, .int (nI 0)), (1, .int (nI v0)), (0, .int (nI v0))]) hx hb d_M_prime_3 rfl hl (by decide) rfl (fun ls hl => ?_)
  exact outer (q + 1) v0 0 ls (by omega) (by omega) (by omega) (by omega) (fun _ => h0) (fun h => by omega) (lv_sub hl [0, 1] rfl)
def LL_M_raise_3 (r : Nat → Nat) : Nat → vM → vM := fun i_0 s_1 => (let X_2 : vM := stL s_1 (r 51) i_0 (0 : Int64); X_2)
def LL_M_raise_68 (r : Nat → Nat) (i_0 : Nat) (J_1 : Int64) : Nat → (vM × Int64) → (vM × Int64) := fun i_2 s_3 => (let z_4 : Int64 := (((s_3.1.1 (r 51) (i_0 + i_2)) + (J_1 * (s_3.1.1 (r 50) i_2))) + s_3.2); let X_5 : vM := stL s_3.1 (r 51) (i_0 + i_2) (z_4 &&& (4294967295 : Int64)); let z_6 : Int64 := ((z_4).toUInt64 >>> ((nI 32).toInt64.toUInt64 &&& Int64.toUInt64 63)).toInt64; (X_5, z_6))
def LL_M_raise_27 (v1 : Int64) (v0 : Int64) (r : Nat → Nat) : Nat → vM → vM := fun i_0 s_1 => (let J_2 : Int64 := if i_0 = 0 then (v1 &&& (4294967295 : Int64)) else (if i_0 = 1 then ((((v1).toUInt64 >>> ((nI 32).toInt64.toUInt64 &&& Int64.toUInt64 63)).toInt64)) else (v0)); (let R_3 : (vM × Int64) := lpU 1 (LL_M_raise_68 r i_0 J_2) (8 - i_0 - 0) 0 (s_1, (0 : Int64)); R_3.1))
def LL_M_raise_142 (r : Nat → Nat) : Nat → vM → vM := fun i_0 s_1 => (let X_2 : vM := stL s_1 (r 50) i_0 (s_1.1 (r 51) i_0); X_2)
def LF_M_raise (X : vM) (r : Nat → Nat) (v0 : Int64) (v1 : Int64) : vM := (let R3 : vM := lpU 1 (LL_M_raise_3 r) 8 0 X; (let R7 : vM := lpU 1 (LL_M_raise_27 v1 v0 r) 3 0 R3; (let R21 : vM := lpU 1 (LL_M_raise_142 r) 8 0 R7; R21)))
abbrev rm_M_raise : Room := { frames := 0, cells := 0, slots := 0, locals := 0 }
set_option maxHeartbeats 4000000 in
set_option maxRecDepth 100000 in
theorem v_M_raise {l : Launch} {D : va_G} {g : ClassId → FieldType → Prop} {E : Nat → Prop} {H0 : Heap} {X : vM} {o : Nat} {r : Nat → Nat} {i : Nat → Int32} {v0 : Int64} {v1 : Int64} (hM : mo_ D g H0 o r i) (hE : ¬ E o) (hW : ∀ q ∈ mo_wr, E (r q.1)) (hV : mm g H0 = X) : Met l y_M_raise (.code y_M_raise b_M_raise 13 none :: G_) rm_M_raise (sx_Pc [.ref o, .long v0, .long v1] H0 D g) (vx_Qv g E H0 (LF_M_raise X r v0 v1)) 0 0 E := by
  refine vx_mv (own := R_M) (by decide) rfl rfl rfl (Nat.le_of_ble_eq_true rfl) ?_
  intro p e s m args below meth c Q ls EE hl hret
  obtain ⟨hx, hb, hml, hown, hts, hG, hK⟩ := id EE
  have hS : sx_S g E E H0 H0 [] := sx_S.rf
  have hl : lv_has ls 13 [(0, .ref o), (1, .long v0), (3, .long v1)] := hl
  refine lv_iconst (v := nI 0) hx hb d_M_raise_0 (by decide +kernel) ?_
  refine lv_istore (lv' := [(5, .int (nI (0))), (0, .ref o), (1, .long v0), (3, .long v1)]) hx hb d_M_raise_1 hl (by decide) rfl (fun ls hl => ?_)
  obtain ⟨R3, eR3⟩ : ∃ t : vM, lpU 1 (LL_M_raise_3 r) 8 0 X = t := ⟨_, rfl⟩
  refine lpU_go (σ := vM) (P := fun i1 s2 H locs ls => sx_S g E E H0 H locs ∧ mm g H = s2 ∧ lv_has ls 13 [(5, .int (nI (i1))), (0, .ref o), (1, .long v0), (3, .long v1)]) (Wd := fun H locs ls => W p l e rm_M_raise s m args below meth c H locs 0 0 Q (F0 m 3 ls [])) (N := 8) (d := 1) (by decide) ?_ ?_ 8 0 _ (by omega) eR3 _ _ _ ⟨hS, hV, lv_sub hl [0, 1, 2, 3] rfl⟩
  · intro i1 s2 H locs ls hii1 hP ihi1
    obtain ⟨hS, hV, hl⟩ := hP
    refine lv_iload hx hb d_M_raise_3 (lv_at hl 0 rfl) ?_
    refine lv_bipush (v := nI 8) hx hb d_M_raise_5 (by decide +kernel) ?_
    refine lv_icmp_ge (tgt := 24) hx hb d_M_raise_7 (by decide) (fun q => absurd q (nI_ge (by omega) (by omega))) (fun _ => ?_)
    refine lv_aload_n hx hb d_M_raise_10 rfl (lv_at hl 1 rfl) ?_
    refine sx_get EE (hS.1.ob hE hM.1) rfl i_M 51 (by decide) rfl fl_M_156 rfl d_M_raise_11 ?_
    refine lv_iload hx hb d_M_raise_14 (lv_at hl 0 rfl) ?_
    refine lv_lconst (v := 0) hx hb d_M_raise_16 (by decide +kernel) ?_
    refine vx_last hx hb hG hS hV (mo_51 hM) (mow_51 hW) (by omega) (by decide) d_M_raise_17 (fun H locs X4 eX4 hS hV => ?_)
    refine lv_iinc (v := nI (i1 + 1)) (lv' := [(5, .int (nI (i1 + 1))), (0, .ref o), (1, .long v0), (3, .long v1)]) hx hb d_M_raise_18 hl (k := 0) rfl (sx_inc _ _) (by decide) rfl (fun ls hl => ?_)
    refine lv_goto (tgt := 3) hx hb d_M_raise_21 (by decide) ?_
    exact ihi1 X4 _ _ _ (by subst eX4; exact rfl) ⟨hS, hV, lv_sub hl [0, 1, 2, 3] rfl⟩
  · intro H locs ls hP
    obtain ⟨hS, hV, hl⟩ := hP
    refine lv_iload hx hb d_M_raise_3 (lv_at hl 0 rfl) ?_
    refine lv_bipush (v := nI 8) hx hb d_M_raise_5 (by decide +kernel) ?_
    refine lv_icmp_ge (tgt := 24) hx hb d_M_raise_7 (by decide) (fun _ => ?_) (fun q => absurd (nI_le (by omega) (by omega)) q)
    refine lv_iconst (v := nI 0) hx hb d_M_raise_24 (by decide +kernel) ?_
    refine lv_istore (lv' := [(5, .int (nI (0))), (0, .ref o), (1, .long v0), (3, .long v1)]) hx hb d_M_raise_25 hl (by decide) rfl (fun ls hl => ?_)
    obtain ⟨R7, eR7⟩ : ∃ t : vM, lpU 1 (LL_M_raise_27 v1 v0 r) 3 0 R3 = t := ⟨_, rfl⟩
    refine lpU_go (σ := vM) (P := fun i5 s6 H locs ls => sx_S g E E H0 H locs ∧ mm g H = s6 ∧ lv_has ls 13 [(5, .int (nI (i5))), (0, .ref o), (1, .long v0), (3, .long v1)]) (Wd := fun H locs ls => W p l e rm_M_raise s m args below meth c H locs 0 0 Q (F0 m 27 ls [])) (N := 3) (d := 1) (by decide) ?_ ?_ 3 0 _ (by omega) eR7 _ _ _ ⟨hS, hV, lv_sub hl [0, 1, 2, 3] rfl⟩
    · intro i5 s6 H locs ls hii5 hP ihi5
      obtain ⟨hS, hV, hl⟩ := hP
      refine lv_iload hx hb d_M_raise_27 (lv_at hl 0 rfl) ?_
      refine lv_iconst (v := nI 3) hx hb d_M_raise_29 (by decide +kernel) ?_
      refine lv_icmp_ge (tgt := 139) hx hb d_M_raise_30 (by decide) (fun q => absurd q (nI_ge (by omega) (by omega))) (fun _ => ?_)
      refine lv_iload hx hb d_M_raise_33 (lv_at hl 0 rfl) ?_
      have jn60_10 : ∀ (J10 : Int64) (H : Heap) (locs : List Loc) (ls : Array Slot), (if i5 = 0 then (v1 &&& (4294967295 : Int64)) else (if i5 = 1 then ((((v1).toUInt64 >>> ((nI 32).toInt64.toUInt64 &&& Int64.toUInt64 63)).toInt64)) else (v0))) = J10 → sx_S g E E H0 H locs → mm g H = s6 → lv_has ls 13 [(5, .int (nI (i5))), (0, .ref o), (1, .long v0), (3, .long v1)] → W p l e rm_M_raise s m args below meth c H locs 0 0 Q (F0 m 60 ls [.long J10]) := by
        intro J10 H locs ls eJ10 hS hV hl
        refine lv_lstore (lv' := [(6, .long J10), (5, .int (nI (i5))), (0, .ref o), (1, .long v0), (3, .long v1)]) hx hb d_M_raise_60 hl (by decide) rfl (fun ls hl => ?_)
        refine lv_lconst (v := 0) hx hb d_M_raise_62 (by decide +kernel) ?_
        refine lv_lstore (lv' := [(8, .long (0 : Int64)), (6, .long J10), (5, .int (nI (i5))), (0, .ref o), (1, .long v0), (3, .long v1)]) hx hb d_M_raise_63 hl (by decide) rfl (fun ls hl => ?_)
        refine lv_iconst (v := nI 0) hx hb d_M_raise_65 (by decide +kernel) ?_
        refine lv_istore (lv' := [(10, .int (nI (0))), (8, .long (0 : Int64)), (6, .long J10), (5, .int (nI (i5))), (0, .ref o), (1, .long v0), (3, .long v1)]) hx hb d_M_raise_66 hl (by decide) rfl (fun ls hl => ?_)
        obtain ⟨R14, eR14⟩ : ∃ t : (vM × Int64), lpU 1 (LL_M_raise_68 r i5 J10) (8 - i5 - 0) 0 (s6, (0 : Int64)) = t := ⟨_, rfl⟩
        refine lpU_go (σ := (vM × Int64)) (P := fun i12 s13 H locs ls => sx_S g E E H0 H locs ∧ mm g H = s13.1 ∧ lv_has ls 13 [(10, .int (nI (i12))), (8, .long s13.2), (6, .long J10), (5, .int (nI (i5))), (0, .ref o), (1, .long v0), (3, .long v1)]) (Wd := fun H locs ls => W p l e rm_M_raise s m args below meth c H locs 0 0 Q (F0 m 68 ls [])) (N := (8 - i5)) (d := 1) (by decide) ?_ ?_ (8 - i5 - 0) 0 _ (by omega) eR14 _ _ _ ⟨hS, hV, lv_sub hl [0, 1, 2, 3, 4, 5, 6] rfl⟩
        · intro i12 s13 H locs ls hii12 hP ihi12
          obtain ⟨hS, hV, hl⟩ := hP
          refine lv_iload hx hb d_M_raise_68 (lv_at hl 3 rfl) ?_
          refine lv_iload hx hb d_M_raise_70 (lv_at hl 0 rfl) ?_
          refine lv_iadd hx hb d_M_raise_72 ?_
          refine sx_ti (y := nI (i5 + i12)) (nI_add _ _) ?_
          refine lv_bipush (v := nI 8) hx hb d_M_raise_73 (by decide +kernel) ?_
          refine lv_icmp_ge (tgt := 133) hx hb d_M_raise_75 (by decide) (fun q => absurd q (nI_ge (by omega) (by omega))) (fun _ => ?_)
          refine lv_aload_n hx hb d_M_raise_78 rfl (lv_at hl 4 rfl) ?_
          refine sx_get EE (hS.1.ob hE hM.1) rfl i_M 51 (by decide) rfl fl_M_156 rfl d_M_raise_79 ?_
          refine lv_iload hx hb d_M_raise_82 (lv_at hl 3 rfl) ?_
          refine lv_iload hx hb d_M_raise_84 (lv_at hl 0 rfl) ?_
          refine lv_iadd hx hb d_M_raise_86 ?_
          refine sx_ti (y := nI (i5 + i12)) (nI_add _ _) ?_
          refine vx_lald hx hb hG hS hV (mo_51 hM) (by omega) (by decide) d_M_raise_87 ?_
          refine lv_lload hx hb d_M_raise_88 (lv_at hl 2 rfl) ?_
          refine lv_aload_n hx hb d_M_raise_90 rfl (lv_at hl 4 rfl) ?_
          refine sx_get EE (hS.1.ob hE hM.1) rfl i_M 50 (by decide) rfl fl_M_153 rfl d_M_raise_91 ?_
          refine lv_iload hx hb d_M_raise_94 (lv_at hl 0 rfl) ?_
          refine vx_lald hx hb hG hS hV (mo_50 hM) (by omega) (by decide) d_M_raise_96 ?_
          refine lv_lmul hx hb d_M_raise_97 ?_
          refine lv_ladd hx hb d_M_raise_98 ?_
          refine lv_lload hx hb d_M_raise_99 (lv_at hl 1 rfl) ?_
          refine lv_ladd hx hb d_M_raise_101 ?_
          refine vx_nmL (fun z15 ez15 => ?_)
          refine lv_lstore (lv' := [(11, .long z15), (10, .int (nI (i12))), (8, .long s13.2), (6, .long J10), (5, .int (nI (i5))), (0, .ref o), (1, .long v0), (3, .long v1)]) hx hb d_M_raise_102 hl (by decide) rfl (fun ls hl => ?_)
          refine lv_aload_n hx hb d_M_raise_104 rfl (lv_at hl 5 rfl) ?_
          refine sx_get EE (hS.1.ob hE hM.1) rfl i_M 51 (by decide) rfl fl_M_156 rfl d_M_raise_105 ?_
          refine lv_iload hx hb d_M_raise_108 (lv_at hl 4 rfl) ?_
          refine lv_iload hx hb d_M_raise_110 (lv_at hl 1 rfl) ?_
          refine lv_iadd hx hb d_M_raise_112 ?_
          refine sx_ti (y := nI (i5 + i12)) (nI_add _ _) ?_
          refine lv_lload hx hb d_M_raise_113 (lv_at hl 0 rfl) ?_
          refine lv_ldc2 (v := (4294967295)) hx hb hown (hts (.constantLong R_M 256 (4294967295)) (by decide +kernel)) d_M_raise_115 ?_
          refine lv_land hx hb d_M_raise_118 ?_
          refine vx_last hx hb hG hS hV (mo_51 hM) (mow_51 hW) (by omega) (by decide) d_M_raise_119 (fun H locs X16 eX16 hS hV => ?_)
          refine lv_lload hx hb d_M_raise_120 (lv_at hl 0 rfl) ?_
          refine lv_bipush (v := nI 32) hx hb d_M_raise_122 (by decide +kernel) ?_
          refine lv_lushr hx hb d_M_raise_124 rfl ?_
          refine vx_nmL (fun z17 ez17 => ?_)
          refine lv_lstore (lv' := [(8, .long z17), (11, .long z15), (10, .int (nI (i12))), (6, .long J10), (5, .int (nI (i5))), (0, .ref o), (1, .long v0), (3, .long v1)]) hx hb d_M_raise_125 hl (by decide) rfl (fun ls hl => ?_)
          refine lv_iinc (v := nI (i12 + 1)) (lv' := [(10, .int (nI (i12 + 1))), (8, .long z17), (11, .long z15), (6, .long J10), (5, .int (nI (i5))), (0, .ref o), (1, .long v0), (3, .long v1)]) hx hb d_M_raise_127 hl (k := 2) rfl (sx_inc _ _) (by decide) rfl (fun ls hl => ?_)
          refine lv_goto (tgt := 68) hx hb d_M_raise_130 (by decide) ?_
          exact ihi12 (X16, z17) _ _ _ (by subst ez15 eX16 ez17; exact rfl) ⟨hS, hV, lv_sub hl [0, 1, 3, 4, 5, 6, 7] rfl⟩
        · intro H locs ls hP
          obtain ⟨hS, hV, hl⟩ := hP
          refine lv_iload hx hb d_M_raise_68 (lv_at hl 3 rfl) ?_
          refine lv_iload hx hb d_M_raise_70 (lv_at hl 0 rfl) ?_
          refine lv_iadd hx hb d_M_raise_72 ?_
          refine sx_ti (y := nI (i5 + (8 - i5))) (nI_add _ _) ?_
          refine lv_bipush (v := nI 8) hx hb d_M_raise_73 (by decide +kernel) ?_
          refine lv_icmp_ge (tgt := 133) hx hb d_M_raise_75 (by decide) (fun _ => ?_) (fun q => absurd (nI_le (by omega) (by omega)) q)
          refine lv_iinc (v := nI (i5 + 1)) (lv' := [(5, .int (nI (i5 + 1))), (10, .int (nI (8 - i5))), (8, .long R14.2), (6, .long J10), (0, .ref o), (1, .long v0), (3, .long v1)]) hx hb d_M_raise_133 hl (k := 3) rfl (sx_inc _ _) (by decide) rfl (fun ls hl => ?_)
          refine lv_goto (tgt := 27) hx hb d_M_raise_136 (by decide) ?_
          exact ihi5 R14.1 _ _ _ (by subst eJ10 eR14; exact rfl) ⟨hS, hV, lv_sub hl [0, 4, 5, 6] rfl⟩
      refine lv_if_ne (tgt := 46) hx hb d_M_raise_35 (by decide) (fun q35_7 => ?_) (fun q35_7 => ?_)
      · skip
        have q35_7 : ¬ (i5 = 0) := fun z => q35_7 ((nI_eq (a := i5) (b := 0) (by omega) (by omega)).mpr z)
        refine lv_iload hx hb d_M_raise_46 (lv_at hl 0 rfl) ?_
        refine lv_iconst (v := nI 1) hx hb d_M_raise_48 (by decide +kernel) ?_
        refine lv_icmp_ne (tgt := 59) hx hb d_M_raise_49 (by decide) (fun q49_17 => ?_) (fun q49_17 => ?_)
        · skip
          have q49_17 : ¬ (i5 = 1) := fun z => q49_17 ((nI_eq (a := i5) (b := 1) (by omega) (by omega)).mpr z)
          refine lv_lload_n hx hb d_M_raise_59 rfl (lv_at hl 2 rfl) ?_
          exact jn60_10 v0 _ _ _ (vx_n q35_7 (vx_n q49_17 rfl)) hS hV (lv_sub hl [0, 1, 2, 3] rfl)
        · skip
          have q49_17 : i5 = 1 := (nI_eq (a := i5) (b := 1) (by omega) (by omega)).mp q49_17
          refine lv_lload_n hx hb d_M_raise_52 rfl (lv_at hl 3 rfl) ?_
          refine lv_bipush (v := nI 32) hx hb d_M_raise_53 (by decide +kernel) ?_
          refine lv_lushr hx hb d_M_raise_55 rfl ?_
          refine lv_goto (tgt := 60) hx hb d_M_raise_56 (by decide) ?_
          exact jn60_10 (((v1).toUInt64 >>> ((nI 32).toInt64.toUInt64 &&& Int64.toUInt64 63)).toInt64) _ _ _ (vx_n q35_7 (vx_p q49_17 rfl)) hS hV (lv_sub hl [0, 1, 2, 3] rfl)
      · skip
        have q35_7 : i5 = 0 := (nI_eq (a := i5) (b := 0) (by omega) (by omega)).mp q35_7
        refine lv_lload_n hx hb d_M_raise_38 rfl (lv_at hl 3 rfl) ?_
        refine lv_ldc2 (v := (4294967295)) hx hb hown (hts (.constantLong R_M 256 (4294967295)) (by decide +kernel)) d_M_raise_39 ?_
        refine lv_land hx hb d_M_raise_42 ?_
        refine lv_goto (tgt := 60) hx hb d_M_raise_43 (by decide) ?_
        exact jn60_10 (v1 &&& (4294967295 : Int64)) _ _ _ (vx_p q35_7 rfl) hS hV (lv_sub hl [0, 1, 2, 3] rfl)
    · intro H locs ls hP
      obtain ⟨hS, hV, hl⟩ := hP
      refine lv_iload hx hb d_M_raise_27 (lv_at hl 0 rfl) ?_
      refine lv_iconst (v := nI 3) hx hb d_M_raise_29 (by decide +kernel) ?_
      refine lv_icmp_ge (tgt := 139) hx hb d_M_raise_30 (by decide) (fun _ => ?_) (fun q => absurd (nI_le (by omega) (by omega)) q)
      refine lv_iconst (v := nI 0) hx hb d_M_raise_139 (by decide +kernel) ?_
      refine lv_istore (lv' := [(5, .int (nI (0))), (0, .ref o), (1, .long v0), (3, .long v1)]) hx hb d_M_raise_140 hl (by decide) rfl (fun ls hl => ?_)
      obtain ⟨R21, eR21⟩ : ∃ t : vM, lpU 1 (LL_M_raise_142 r) 8 0 R7 = t := ⟨_, rfl⟩
      refine lpU_go (σ := vM) (P := fun i19 s20 H locs ls => sx_S g E E H0 H locs ∧ mm g H = s20 ∧ lv_has ls 13 [(5, .int (nI (i19))), (0, .ref o)]) (Wd := fun H locs ls => W p l e rm_M_raise s m args below meth c H locs 0 0 Q (F0 m 142 ls [])) (N := 8) (d := 1) (by decide) ?_ ?_ 8 0 _ (by omega) eR21 _ _ _ ⟨hS, hV, lv_sub hl [0, 1] rfl⟩
      · intro i19 s20 H locs ls hii19 hP ihi19
        obtain ⟨hS, hV, hl⟩ := hP
        refine lv_iload hx hb d_M_raise_142 (lv_at hl 0 rfl) ?_
        refine lv_bipush (v := nI 8) hx hb d_M_raise_144 (by decide +kernel) ?_
        refine lv_icmp_ge (tgt := 169) hx hb d_M_raise_146 (by decide) (fun q => absurd q (nI_ge (by omega) (by omega))) (fun _ => ?_)
        refine lv_aload_n hx hb d_M_raise_149 rfl (lv_at hl 1 rfl) ?_
        refine sx_get EE (hS.1.ob hE hM.1) rfl i_M 50 (by decide) rfl fl_M_153 rfl d_M_raise_150 ?_
        refine lv_iload hx hb d_M_raise_153 (lv_at hl 0 rfl) ?_
        refine lv_aload_n hx hb d_M_raise_155 rfl (lv_at hl 1 rfl) ?_
        refine sx_get EE (hS.1.ob hE hM.1) rfl i_M 51 (by decide) rfl fl_M_156 rfl d_M_raise_156 ?_
        refine lv_iload hx hb d_M_raise_159 (lv_at hl 0 rfl) ?_
        refine vx_lald hx hb hG hS hV (mo_51 hM) (by omega) (by decide) d_M_raise_161 ?_
        refine vx_last hx hb hG hS hV (mo_50 hM) (mow_50 hW) (by omega) (by decide) d_M_raise_162 (fun H locs X22 eX22 hS hV => ?_)
        refine lv_iinc (v := nI (i19 + 1)) (lv' := [(5, .int (nI (i19 + 1))), (0, .ref o)]) hx hb d_M_raise_163 hl (k := 0) rfl (sx_inc _ _) (by decide) rfl (fun ls hl => ?_)
        refine lv_goto (tgt := 142) hx hb d_M_raise_166 (by decide) ?_
        exact ihi19 X22 _ _ _ (by subst eX22; exact rfl) ⟨hS, hV, lv_sub hl [0, 1] rfl⟩
      · intro H locs ls hP
        obtain ⟨hS, hV, hl⟩ := hP
        refine lv_iload hx hb d_M_raise_142 (lv_at hl 0 rfl) ?_
        refine lv_bipush (v := nI 8) hx hb d_M_raise_144 (by decide +kernel) ?_
        refine lv_icmp_ge (tgt := 169) hx hb d_M_raise_146 (by decide) (fun _ => ?_) (fun q => absurd (nI_le (by omega) (by omega)) q)
        exact hret _ _ _ _ _ (by subst eR3 eR7 eR21; exact rfl) hS hV d_M_raise_169
def LL_M_fits_3 (r : Nat → Nat) : Nat → vM → vM := fun i_0 s_1 => (let J_2 : Int64 := if i_0 = 0 then (1 : Int64) else (0 : Int64); (let X_3 : vM := stL s_1 (r 50) i_0 J_2; X_3))
def LL_M_fits_36 (r : Nat → Nat) (v0 : Int64) (v1 : Int64) : Nat → vM → vM := fun i_0 s_1 => (let X_2 : vM := (LF_M_raise s_1 r v0 v1); X_2)
def LL_M_fits_62 (R_0 : vM) (r : Nat → Nat) (v3 : Nat) : Nat → Int64 → Int64 := fun i_1 s_2 => (let z_3 : Int64 := ((s_2 <<< ((nI 32).toInt64 &&& 63)) ||| (R_0.1 (r 50) ((2 * v3) + i_1))); z_3)
def LL_M_fits_119 (R_0 : vM) (r : Nat → Nat) : Nat → Unit → (vM × Bool) ⊕ Unit := fun i_1 s_2 => if (R_0.1 (r 50) i_1) = (0 : Int64) then (Sum.inr ()) else (Sum.inl ((R_0, false)))
def LF_M_fits (X : vM) (r : Nat → Nat) (v0 : Int64) (v1 : Int64) (v2 : Int32) (v3 : Nat) : vM × Bool := (let R3 : vM := lpU 1 (LL_M_fits_3 r) 8 0 X; (let R10 : vM := lpU 1 (LL_M_fits_36 r v0 v1) (v3 - 0) 0 R3; (let R14 : Int64 := lpD (LL_M_fits_62 R10 r v3) (7 + 1 - (2 * v3)) (0 : Int64); if R14 = v2.toInt64 then (Sum.elim (fun r => r) (fun (s21 : Unit) => (R10, true)) (lpE 1 (LL_M_fits_119 R10 r) (2 * v3 - 0) 0 ())) else (let J23 : Bool := if v2.toInt64 ≤ R14 then false else true; (R10, J23)))))
abbrev rm_M_fits : Room := { frames := 1, cells := 0, slots := 0, locals := 32 }
set_option maxHeartbeats 4000000 in
set_option maxRecDepth 100000 in
theorem v_M_fits {l : Launch} {D : va_G} {g : ClassId → FieldType → Prop} {E : Nat → Prop} {H0 : Heap} {X : vM} {o : Nat} {r : Nat → Nat} {i : Nat → Int32} {v0 : Int64} {v1 : Int64} {v2 : Int32} {v3 : Nat} (hM : mo_ D g H0 o r i) (hE : ¬ E o) (hW : ∀ q ∈ mo_wr, E (r q.1)) (h3 : 2 ≤ v3 ∧ v3 ≤ 3) (hV : mm g H0 = X) : Met l y_M_fits (.code y_M_fits b_M_fits 10 (some .boolean) :: G_) rm_M_fits (sx_Pc [.ref o, .long v0, .long v1, .int v2, .int (nI v3)] H0 D g) (vx_Qi g E H0 (LF_M_fits X r v0 v1 v2 v3).1 (nI ((LF_M_fits X r v0 v1 v2 v3).2).toNat)) 0 0 E := by
  refine vx_mz (own := R_M) (by decide) rfl rfl rfl (Nat.le_of_ble_eq_true rfl) ?_
  intro p e s m args below meth c Q ls EE hl hret
  obtain ⟨hx, hb, hml, hown, hts, hG, hK⟩ := id EE
  have hS : sx_S g E E H0 H0 [] := sx_S.rf
  have hl : lv_has ls 10 [(0, .ref o), (1, .long v0), (3, .long v1), (5, .int v2), (6, .int (nI (v3)))] := hl
  refine lv_iconst (v := nI 0) hx hb d_M_fits_0 (by decide +kernel) ?_
  refine lv_istore (lv' := [(7, .int (nI (0))), (0, .ref o), (1, .long v0), (3, .long v1), (5, .int v2), (6, .int (nI (v3)))]) hx hb d_M_fits_1 hl (by decide) rfl (fun ls hl => ?_)
  obtain ⟨R3, eR3⟩ : ∃ t : vM, lpU 1 (LL_M_fits_3 r) 8 0 X = t := ⟨_, rfl⟩
  refine lpU_go (σ := vM) (P := fun i1 s2 H locs ls => sx_S g E E H0 H locs ∧ mm g H = s2 ∧ lv_has ls 10 [(7, .int (nI (i1))), (0, .ref o), (1, .long v0), (3, .long v1), (5, .int v2), (6, .int (nI (v3)))]) (Wd := fun H locs ls => W p l e rm_M_fits s m args below meth c H locs 0 0 Q (F0 m 3 ls [])) (N := 8) (d := 1) (by decide) ?_ ?_ 8 0 _ (by omega) eR3 _ _ _ ⟨hS, hV, lv_sub hl [0, 1, 2, 3, 4, 5] rfl⟩
  · intro i1 s2 H locs ls hii1 hP ihi1
    obtain ⟨hS, hV, hl⟩ := hP
    refine lv_iload hx hb d_M_fits_3 (lv_at hl 0 rfl) ?_
    refine lv_bipush (v := nI 8) hx hb d_M_fits_5 (by decide +kernel) ?_
    refine lv_icmp_ge (tgt := 33) hx hb d_M_fits_7 (by decide) (fun q => absurd q (nI_ge (by omega) (by omega))) (fun _ => ?_)
    refine lv_aload_n hx hb d_M_fits_10 rfl (lv_at hl 1 rfl) ?_
    refine sx_get EE (hS.1.ob hE hM.1) rfl i_M 50 (by decide) rfl fl_M_153 rfl d_M_fits_11 ?_
    refine lv_iload hx hb d_M_fits_14 (lv_at hl 0 rfl) ?_
    refine lv_iload hx hb d_M_fits_16 (lv_at hl 0 rfl) ?_
    have jn26_5 : ∀ (J5 : Int64) (H : Heap) (locs : List Loc) (ls : Array Slot), (if i1 = 0 then (1 : Int64) else (0 : Int64)) = J5 → sx_S g E E H0 H locs → mm g H = s2 → lv_has ls 10 [(7, .int (nI (i1))), (0, .ref o), (1, .long v0), (3, .long v1), (5, .int v2), (6, .int (nI (v3)))] → W p l e rm_M_fits s m args below meth c H locs 0 0 Q (F0 m 26 ls [.long J5, .int (nI (i1)), .ref (r 50)]) := by
      intro J5 H locs ls eJ5 hS hV hl
      refine vx_last hx hb hG hS hV (mo_50 hM) (mow_50 hW) (by omega) (by decide) d_M_fits_26 (fun H locs X7 eX7 hS hV => ?_)
      refine lv_iinc (v := nI (i1 + 1)) (lv' := [(7, .int (nI (i1 + 1))), (0, .ref o), (1, .long v0), (3, .long v1), (5, .int v2), (6, .int (nI (v3)))]) hx hb d_M_fits_27 hl (k := 0) rfl (sx_inc _ _) (by decide) rfl (fun ls hl => ?_)
      refine lv_goto (tgt := 3) hx hb d_M_fits_30 (by decide) ?_
      exact ihi1 X7 _ _ _ (by subst eJ5 eX7; exact rfl) ⟨hS, hV, lv_sub hl [0, 1, 2, 3, 4, 5] rfl⟩
    refine lv_if_ne (tgt := 25) hx hb d_M_fits_18 (by decide) (fun q18_3 => ?_) (fun q18_3 => ?_)
    · skip
      have q18_3 : ¬ (i1 = 0) := fun z => q18_3 ((nI_eq (a := i1) (b := 0) (by omega) (by omega)).mpr z)
      refine lv_lconst (v := 0) hx hb d_M_fits_25 (by decide +kernel) ?_
      exact jn26_5 (0 : Int64) _ _ _ (vx_n q18_3 rfl) hS hV (lv_sub hl [0, 1, 2, 3, 4, 5] rfl)
    · skip
      have q18_3 : i1 = 0 := (nI_eq (a := i1) (b := 0) (by omega) (by omega)).mp q18_3
      refine lv_lconst (v := 1) hx hb d_M_fits_21 (by decide +kernel) ?_
      refine lv_goto (tgt := 26) hx hb d_M_fits_22 (by decide) ?_
      exact jn26_5 (1 : Int64) _ _ _ (vx_p q18_3 rfl) hS hV (lv_sub hl [0, 1, 2, 3, 4, 5] rfl)
  · intro H locs ls hP
    obtain ⟨hS, hV, hl⟩ := hP
    refine lv_iload hx hb d_M_fits_3 (lv_at hl 0 rfl) ?_
    refine lv_bipush (v := nI 8) hx hb d_M_fits_5 (by decide +kernel) ?_
    refine lv_icmp_ge (tgt := 33) hx hb d_M_fits_7 (by decide) (fun _ => ?_) (fun q => absurd (nI_le (by omega) (by omega)) q)
    refine lv_iconst (v := nI 0) hx hb d_M_fits_33 (by decide +kernel) ?_
    refine lv_istore (lv' := [(7, .int (nI (0))), (0, .ref o), (1, .long v0), (3, .long v1), (5, .int v2), (6, .int (nI (v3)))]) hx hb d_M_fits_34 hl (by decide) rfl (fun ls hl => ?_)
    obtain ⟨R10, eR10⟩ : ∃ t : vM, lpU 1 (LL_M_fits_36 r v0 v1) (v3 - 0) 0 R3 = t := ⟨_, rfl⟩
    refine lpU_go (σ := vM) (P := fun i8 s9 H locs ls => sx_S g E E H0 H locs ∧ mm g H = s9 ∧ lv_has ls 10 [(7, .int (nI (i8))), (0, .ref o), (1, .long v0), (3, .long v1), (5, .int v2), (6, .int (nI (v3)))]) (Wd := fun H locs ls => W p l e rm_M_fits s m args below meth c H locs 0 0 Q (F0 m 36 ls [])) (N := v3) (d := 1) (by decide) ?_ ?_ (v3 - 0) 0 _ (by omega) eR10 _ _ _ ⟨hS, hV, lv_sub hl [0, 1, 2, 3, 4, 5] rfl⟩
    · intro i8 s9 H locs ls hii8 hP ihi8
      obtain ⟨hS, hV, hl⟩ := hP
      refine lv_iload hx hb d_M_fits_36 (lv_at hl 0 rfl) ?_
      refine lv_iload hx hb d_M_fits_38 (lv_at hl 5 rfl) ?_
      refine lv_icmp_ge (tgt := 55) hx hb d_M_fits_40 (by decide) (fun q => absurd q (nI_ge (by omega) (by omega))) (fun _ => ?_)
      refine lv_aload_n hx hb d_M_fits_43 rfl (lv_at hl 1 rfl) ?_
      refine lv_lload_n hx hb d_M_fits_44 rfl (lv_at hl 2 rfl) ?_
      refine lv_lload_n hx hb d_M_fits_45 rfl (lv_at hl 3 rfl) ?_
      refine vx_gv (sx_runV (As := [.long v0, .long v1]) (rest := []) EE (hS.1.ob hE hM.1) rfl rfl (v_M_raise (X := s9) (hM.kept hS.1 hE) hE hW hV) w_M_252 rfl ⟨rfl, rfl⟩ ⟨Nat.le_of_ble_eq_true rfl, Nat.le_of_ble_eq_true rfl⟩ ⟨Nat.zero_le _, Nat.zero_le _⟩ hl.1 rfl (Nat.le_of_ble_eq_true rfl) d_M_fits_46) hS (fun H locs X11 eX11 hS hV => ?_)
      refine lv_iinc (v := nI (i8 + 1)) (lv' := [(7, .int (nI (i8 + 1))), (0, .ref o), (1, .long v0), (3, .long v1), (5, .int v2), (6, .int (nI (v3)))]) hx hb d_M_fits_49 hl (k := 0) rfl (sx_inc _ _) (by decide) rfl (fun ls hl => ?_)
      refine lv_goto (tgt := 36) hx hb d_M_fits_52 (by decide) ?_
      exact ihi8 X11 _ _ _ (by subst eX11; exact rfl) ⟨hS, hV, lv_sub hl [0, 1, 2, 3, 4, 5] rfl⟩
    · intro H locs ls hP
      obtain ⟨hS, hV, hl⟩ := hP
      refine lv_iload hx hb d_M_fits_36 (lv_at hl 0 rfl) ?_
      refine lv_iload hx hb d_M_fits_38 (lv_at hl 5 rfl) ?_
      refine lv_icmp_ge (tgt := 55) hx hb d_M_fits_40 (by decide) (fun _ => ?_) (fun q => absurd (nI_le (by omega) (by omega)) q)
      refine lv_lconst (v := 0) hx hb d_M_fits_55 (by decide +kernel) ?_
      refine lv_lstore (lv' := [(7, .long (0 : Int64)), (0, .ref o), (1, .long v0), (3, .long v1), (5, .int v2), (6, .int (nI (v3)))]) hx hb d_M_fits_56 hl (by decide) rfl (fun ls hl => ?_)
      refine lv_bipush (v := nI 7) hx hb d_M_fits_58 (by decide +kernel) ?_
      refine lv_istore (lv' := [(9, .int (nI (7))), (7, .long (0 : Int64)), (0, .ref o), (1, .long v0), (3, .long v1), (5, .int v2), (6, .int (nI (v3)))]) hx hb d_M_fits_60 hl (by decide) rfl (fun ls hl => ?_)
      obtain ⟨R14, eR14⟩ : ∃ t : Int64, lpD (LL_M_fits_62 R10 r v3) (7 + 1 - (2 * v3)) (0 : Int64) = t := ⟨_, rfl⟩
      rw [show (nI (7)) = nI ((2 * v3) + (7 + 1 - (2 * v3))) - 1 from by rw [show (2 * v3) + (7 + 1 - (2 * v3)) = 7 + 1 from by omega]; exact (nI_pred _).symm] at hl
      refine lpD_go (σ := Int64) (P := fun i12 s13 H locs ls => sx_S g E E H0 H locs ∧ mm g H = R10 ∧ lv_has ls 10 [(9, .int (nI ((2 * v3) + i12) - 1)), (7, .long s13), (0, .ref o), (5, .int v2), (6, .int (nI (v3)))]) (Wd := fun H locs ls => W p l e rm_M_fits s m args below meth c H locs 0 0 Q (F0 m 62 ls [])) (N := (7 + 1 - (2 * v3))) ?_ ?_ (7 + 1 - (2 * v3)) _ (by omega) eR14 _ _ _ ⟨hS, hV, lv_sub hl [0, 1, 2, 5, 6] rfl⟩
      · intro i12 s13 H locs ls hii12 hP ihi12
        obtain ⟨hS, hV, hl⟩ := hP
        rw [show (2 * v3) + (i12 + 1) = ((2 * v3) + i12) + 1 from rfl, nI_pred] at hl
        refine lv_iload hx hb d_M_fits_62 (lv_at hl 0 rfl) ?_
        refine lv_iconst (v := nI 2) hx hb d_M_fits_64 (by decide +kernel) ?_
        refine lv_iload hx hb d_M_fits_65 (lv_at hl 4 rfl) ?_
        refine lv_imul hx hb d_M_fits_67 ?_
        refine sx_ti (y := nI (2 * v3)) (pk_mul _ _) ?_
        refine lv_icmp_lt (tgt := 92) hx hb d_M_fits_68 (by decide) (fun q => absurd ((nI_ltI (by omega) (by omega)).mp q) (by omega)) (fun _ => ?_)
        refine lv_lload hx hb d_M_fits_71 (lv_at hl 1 rfl) ?_
        refine lv_bipush (v := nI 32) hx hb d_M_fits_73 (by decide +kernel) ?_
        refine lv_lshl hx hb d_M_fits_75 rfl ?_
        refine lv_aload_n hx hb d_M_fits_76 rfl (lv_at hl 2 rfl) ?_
        refine sx_get EE (hS.1.ob hE hM.1) rfl i_M 50 (by decide) rfl fl_M_153 rfl d_M_fits_77 ?_
        refine lv_iload hx hb d_M_fits_80 (lv_at hl 0 rfl) ?_
        refine vx_lald hx hb hG hS hV (mo_50 hM) (by omega) (by decide) d_M_fits_82 ?_
        refine lv_lor hx hb d_M_fits_83 ?_
        refine vx_nmL (fun z15 ez15 => ?_)
        refine lv_lstore (lv' := [(7, .long z15), (9, .int (nI ((2 * v3) + i12))), (0, .ref o), (5, .int v2), (6, .int (nI (v3)))]) hx hb d_M_fits_84 hl (by decide) rfl (fun ls hl => ?_)
        refine lv_iinc (v := nI ((2 * v3) + i12) - 1) (lv' := [(9, .int (nI ((2 * v3) + i12) - 1)), (7, .long z15), (0, .ref o), (5, .int v2), (6, .int (nI (v3)))]) hx hb d_M_fits_86 hl (k := 1) rfl (sx_dn _) (by decide) rfl (fun ls hl => ?_)
        refine lv_goto (tgt := 62) hx hb d_M_fits_89 (by decide) ?_
        exact ihi12 z15 _ _ _ (by subst ez15; exact rfl) ⟨hS, hV, lv_sub hl [0, 1, 2, 3, 4] rfl⟩
      · intro H locs ls hP
        obtain ⟨hS, hV, hl⟩ := hP
        refine lv_iload hx hb d_M_fits_62 (lv_at hl 0 rfl) ?_
        refine lv_iconst (v := nI 2) hx hb d_M_fits_64 (by decide +kernel) ?_
        refine lv_iload hx hb d_M_fits_65 (lv_at hl 4 rfl) ?_
        refine lv_imul hx hb d_M_fits_67 ?_
        refine sx_ti (y := nI (2 * v3)) (pk_mul _ _) ?_
        refine lv_icmp_lt (tgt := 92) hx hb d_M_fits_68 (by decide) (fun _ => ?_) (fun q => absurd (vx_lo (by omega) (by omega)) q)
        refine lv_lload hx hb d_M_fits_92 (lv_at hl 1 rfl) ?_
        refine lv_iload hx hb d_M_fits_94 (lv_at hl 3 rfl) ?_
        refine lv_i2l hx hb d_M_fits_96 rfl ?_
        refine W.lcmp hx hb d_M_fits_97 ?_
        refine lv_if_eq (tgt := 116) hx hb d_M_fits_98 (by decide) (fun q98_15 => ?_) (fun q98_15 => ?_)
        · skip
          have q98_15 := (lg_cmp_eq _ _).mp q98_15
          refine lv_iconst (v := nI 0) hx hb d_M_fits_116 (by decide +kernel) ?_
          refine lv_istore (lv' := [(9, .int (nI (0))), (7, .long R14), (0, .ref o), (5, .int v2), (6, .int (nI (v3)))]) hx hb d_M_fits_117 hl (by decide) rfl (fun ls hl => ?_)
          obtain ⟨R19, eR19⟩ : ∃ t : ((vM × Bool) ⊕ Unit), lpE 1 (LL_M_fits_119 R10 r) (2 * v3 - 0) 0 () = t := ⟨_, rfl⟩
          refine lpE_go (σ := Unit) (P := fun i17 s18 H locs ls => sx_S g E E H0 H locs ∧ mm g H = R10 ∧ lv_has ls 10 [(9, .int (nI (i17))), (0, .ref o), (6, .int (nI (v3)))]) (Wd := fun H locs ls => W p l e rm_M_fits s m args below meth c H locs 0 0 Q (F0 m 119 ls [])) (N := (2 * v3)) (d := 1) (by decide) ?_ ?_ (2 * v3 - 0) 0 _ (by omega) eR19 _ _ _ ⟨hS, hV, lv_sub hl [0, 2, 4] rfl⟩
          · intro i17 s18 H locs ls hii17 hP ihi17 hxR19
            obtain ⟨hS, hV, hl⟩ := hP
            refine lv_iload hx hb d_M_fits_119 (lv_at hl 0 rfl) ?_
            refine lv_iconst (v := nI 2) hx hb d_M_fits_121 (by decide +kernel) ?_
            refine lv_iload hx hb d_M_fits_122 (lv_at hl 2 rfl) ?_
            refine lv_imul hx hb d_M_fits_124 ?_
            refine sx_ti (y := nI (2 * v3)) (pk_mul _ _) ?_
            refine lv_icmp_ge (tgt := 148) hx hb d_M_fits_125 (by decide) (fun q => absurd q (nI_ge (by omega) (by omega))) (fun _ => ?_)
            refine lv_aload_n hx hb d_M_fits_128 rfl (lv_at hl 1 rfl) ?_
            refine sx_get EE (hS.1.ob hE hM.1) rfl i_M 50 (by decide) rfl fl_M_153 rfl d_M_fits_129 ?_
            refine lv_iload hx hb d_M_fits_132 (lv_at hl 0 rfl) ?_
            refine vx_lald hx hb hG hS hV (mo_50 hM) (by omega) (by decide) d_M_fits_134 ?_
            refine lv_lconst (v := 0) hx hb d_M_fits_135 (by decide +kernel) ?_
            refine W.lcmp hx hb d_M_fits_136 ?_
            refine lv_if_eq (tgt := 142) hx hb d_M_fits_137 (by decide) (fun q137_19 => ?_) (fun q137_19 => ?_)
            · skip
              have q137_19 := (lg_cmp_eq _ _).mp q137_19
              refine lv_iinc (v := nI (i17 + 1)) (lv' := [(9, .int (nI (i17 + 1))), (0, .ref o), (6, .int (nI (v3)))]) hx hb d_M_fits_142 hl (k := 0) rfl (sx_inc _ _) (by decide) rfl (fun ls hl => ?_)
              refine lv_goto (tgt := 119) hx hb d_M_fits_145 (by decide) ?_
              exact ihi17 () _ _ _ (vx_p q137_19 rfl) ⟨hS, hV, lv_sub hl [0, 1, 2] rfl⟩
            · skip
              have q137_19 : ¬ ((R10.1 (r 50) i17) = (0 : Int64)) := fun z => q137_19 ((lg_cmp_eq _ _).mpr z)
              refine lv_iconst (v := nI 0) hx hb d_M_fits_140 (by decide +kernel) ?_
              have hrR19 := hxR19 ((R10, false)) (vx_n q137_19 rfl)
              have hp : LF_M_fits X r v0 v1 v2 v3 = (R10, false) := (by subst eR3 eR10 eR14 eR19; exact (vx_p q98_15 (vx_l hrR19 rfl)))
              exact hret _ _ _ _ _ false _ (congrArg Prod.fst hp :) (congrArg Prod.snd hp :) rfl hS hV d_M_fits_141
          · intro s21 H locs ls erR19 hP
            obtain ⟨hS, hV, hl⟩ := hP
            refine lv_iload hx hb d_M_fits_119 (lv_at hl 0 rfl) ?_
            refine lv_iconst (v := nI 2) hx hb d_M_fits_121 (by decide +kernel) ?_
            refine lv_iload hx hb d_M_fits_122 (lv_at hl 2 rfl) ?_
            refine lv_imul hx hb d_M_fits_124 ?_
            refine sx_ti (y := nI (2 * v3)) (pk_mul _ _) ?_
            refine lv_icmp_ge (tgt := 148) hx hb d_M_fits_125 (by decide) (fun _ => ?_) (fun q => absurd (nI_le (by omega) (by omega)) q)
            refine lv_iconst (v := nI 1) hx hb d_M_fits_148 (by decide +kernel) ?_
            have hp : LF_M_fits X r v0 v1 v2 v3 = (R10, true) := (by subst eR3 eR10 eR14 eR19; exact (vx_p q98_15 (vx_r erR19 rfl)))
            exact hret _ _ _ _ _ true _ (congrArg Prod.fst hp :) (congrArg Prod.snd hp :) rfl hS hV d_M_fits_149
        · skip
          have q98_15 : ¬ (R14 = v2.toInt64) := fun z => q98_15 ((lg_cmp_eq _ _).mpr z)
          refine lv_lload hx hb d_M_fits_101 (lv_at hl 1 rfl) ?_
          refine lv_iload hx hb d_M_fits_103 (lv_at hl 3 rfl) ?_
          refine lv_i2l hx hb d_M_fits_105 rfl ?_
          refine W.lcmp hx hb d_M_fits_106 ?_
          have jn115_23 : ∀ (J23 : Bool) (H : Heap) (locs : List Loc) (ls : Array Slot), (if v2.toInt64 ≤ R14 then false else true) = J23 → sx_S g E E H0 H locs → mm g H = R10 → lv_has ls 10 [(9, .int (nI ((2 * v3) + 0) - 1)), (7, .long R14), (0, .ref o), (5, .int v2), (6, .int (nI (v3)))] → W p l e rm_M_fits s m args below meth c H locs 0 0 Q (F0 m 115 ls [.int (nI ((J23).toNat))]) := by
            intro J23 H locs ls eJ23 hS hV hl
            have hp : LF_M_fits X r v0 v1 v2 v3 = (R10, J23) := (by subst eR3 eR10 eR14 eJ23; exact (vx_n q98_15 rfl))
            exact hret _ _ _ _ _ J23 _ (congrArg Prod.fst hp :) (congrArg Prod.snd hp :) rfl hS hV d_M_fits_115
          refine lv_if_ge (tgt := 114) hx hb d_M_fits_107 (by decide) (fun q107_21 => ?_) (fun q107_21 => ?_)
          · skip
            have q107_21 := (lg_cmp_ge _ _).mp q107_21
            refine lv_iconst (v := nI 0) hx hb d_M_fits_114 (by decide +kernel) ?_
            exact jn115_23 false _ _ _ (vx_p q107_21 rfl) hS hV (lv_sub hl [0, 1, 2, 3, 4] rfl)
          · skip
            have q107_21 : ¬ (v2.toInt64 ≤ R14) := fun z => q107_21 ((lg_cmp_ge _ _).mpr z)
            refine lv_iconst (v := nI 1) hx hb d_M_fits_110 (by decide +kernel) ?_
            refine lv_goto (tgt := 115) hx hb d_M_fits_111 (by decide) ?_
            exact jn115_23 true _ _ _ (vx_n q107_21 rfl) hS hV (lv_sub hl [0, 1, 2, 3, 4] rfl)
def LL_M_root_9 (r : Nat → Nat) (v0 : Int32) (v1 : Nat) : Nat → (vM × Int64 × Int64) → (vM × Int64 × Int64) := fun i_0 s_1 => (let J_2 : Int64 := if i_0 ≤ 63 then s_1.2.2 else (s_1.2.2 ||| ((1 : Int64) <<< ((nI (i_0 - 64)).toInt64 &&& 63))); (let J_3 : Int64 := if i_0 ≤ 63 then (s_1.2.1 ||| ((1 : Int64) <<< ((nI i_0).toInt64 &&& 63))) else s_1.2.1; (let X_4 : vM := (LF_M_fits s_1.1 r J_2 J_3 v0 v1).1; let J_5 : (Int64 × Int64) := if ((LF_M_fits s_1.1 r J_2 J_3 v0 v1).2) = true then (J_3, J_2) else (s_1.2.1, s_1.2.2); (X_4, J_5.1, J_5.2))))
def LF_M_root (X : vM) (r : Nat → Nat) (v0 : Int32) (v1 : Nat) : vM × Int64 := (let R3 : (vM × Int64 × Int64) := lpD (LL_M_root_9 r v0 v1) 67 (X, (0 : Int64), (0 : Int64)); (R3.1, R3.2.1))
abbrev rm_M_root : Room := { frames := 2, cells := 0, slots := 0, locals := 61 }
set_option maxHeartbeats 4000000 in
set_option maxRecDepth 100000 in
theorem v_M_root {l : Launch} {D : va_G} {g : ClassId → FieldType → Prop} {E : Nat → Prop} {H0 : Heap} {X : vM} {o : Nat} {r : Nat → Nat} {i : Nat → Int32} {v0 : Int32} {v1 : Nat} (hM : mo_ D g H0 o r i) (hE : ¬ E o) (hW : ∀ q ∈ mo_wr, E (r q.1)) (h1 : 2 ≤ v1 ∧ v1 ≤ 3) (hV : mm g H0 = X) : Met l y_M_root (.code y_M_root b_M_root 12 (some .long) :: G_) rm_M_root (sx_Pc [.ref o, .int v0, .int (nI v1)] H0 D g) (vx_Ql g E H0 (LF_M_root X r v0 v1).1 (LF_M_root X r v0 v1).2) 0 0 E := by
  refine vx_ml (own := R_M) (by decide) rfl rfl rfl (Nat.le_of_ble_eq_true rfl) ?_
  intro p e s m args below meth c Q ls EE hl hret
  obtain ⟨hx, hb, hml, hown, hts, hG, hK⟩ := id EE
  have hS : sx_S g E E H0 H0 [] := sx_S.rf
  have hl : lv_has ls 12 [(0, .ref o), (1, .int v0), (2, .int (nI (v1)))] := hl
  refine lv_lconst (v := 0) hx hb d_M_root_0 (by decide +kernel) ?_
  refine lv_lstore_n (lv' := [(3, .long (0 : Int64)), (0, .ref o), (1, .int v0), (2, .int (nI (v1)))]) hx hb d_M_root_1 rfl hl (by decide) rfl (fun ls hl => ?_)
  refine lv_lconst (v := 0) hx hb d_M_root_2 (by decide +kernel) ?_
  refine lv_lstore (lv' := [(5, .long (0 : Int64)), (3, .long (0 : Int64)), (0, .ref o), (1, .int v0), (2, .int (nI (v1)))]) hx hb d_M_root_3 hl (by decide) rfl (fun ls hl => ?_)
  refine lv_bipush (v := nI 66) hx hb d_M_root_5 (by decide +kernel) ?_
  refine lv_istore (lv' := [(7, .int (nI (66))), (5, .long (0 : Int64)), (3, .long (0 : Int64)), (0, .ref o), (1, .int v0), (2, .int (nI (v1)))]) hx hb d_M_root_7 hl (by decide) rfl (fun ls hl => ?_)
  obtain ⟨R3, eR3⟩ : ∃ t : (vM × Int64 × Int64), lpD (LL_M_root_9 r v0 v1) 67 (X, (0 : Int64), (0 : Int64)) = t := ⟨_, rfl⟩
  rw [show (nI (66)) = nI 67 - 1 from (nI_pred _).symm] at hl
  refine lpD_go (σ := (vM × Int64 × Int64)) (P := fun i1 s2 H locs ls => sx_S g E E H0 H locs ∧ mm g H = s2.1 ∧ lv_has ls 12 [(7, .int (nI i1 - 1)), (5, .long s2.2.1), (3, .long s2.2.2), (0, .ref o), (1, .int v0), (2, .int (nI (v1)))]) (Wd := fun H locs ls => W p l e rm_M_root s m args below meth c H locs 0 0 Q (F0 m 9 ls [])) (N := 67) ?_ ?_ 67 _ (by omega) eR3 _ _ _ ⟨hS, hV, lv_sub hl [0, 1, 2, 3, 4, 5] rfl⟩
  · intro i1 s2 H locs ls hii1 hP ihi1
    obtain ⟨hS, hV, hl⟩ := hP
    rw [nI_pred] at hl
    refine lv_iload hx hb d_M_root_9 (lv_at hl 0 rfl) ?_
    refine lv_if_lt (tgt := 83) hx hb d_M_root_11 (by decide) (fun q => absurd q (nI_pos (by omega))) (fun _ => ?_)
    refine lv_iload hx hb d_M_root_14 (lv_at hl 0 rfl) ?_
    refine lv_bipush (v := nI 63) hx hb d_M_root_16 (by decide +kernel) ?_
    have jn34_5 : ∀ (J5 : Int64) (H : Heap) (locs : List Loc) (ls : Array Slot), (if i1 ≤ 63 then s2.2.2 else (s2.2.2 ||| ((1 : Int64) <<< ((nI (i1 - 64)).toInt64 &&& 63)))) = J5 → sx_S g E E H0 H locs → mm g H = s2.1 → lv_has ls 12 [(7, .int (nI (i1))), (5, .long s2.2.1), (3, .long s2.2.2), (0, .ref o), (1, .int v0), (2, .int (nI (v1)))] → W p l e rm_M_root s m args below meth c H locs 0 0 Q (F0 m 34 ls [.long J5]) := by
      intro J5 H locs ls eJ5 hS hV hl
      refine lv_lstore (lv' := [(8, .long J5), (7, .int (nI (i1))), (5, .long s2.2.1), (3, .long s2.2.2), (0, .ref o), (1, .int v0), (2, .int (nI (v1)))]) hx hb d_M_root_34 hl (by decide) rfl (fun ls hl => ?_)
      refine lv_iload hx hb d_M_root_36 (lv_at hl 1 rfl) ?_
      refine lv_bipush (v := nI 63) hx hb d_M_root_38 (by decide +kernel) ?_
      have jn55_8 : ∀ (J8 : Int64) (H : Heap) (locs : List Loc) (ls : Array Slot), (if i1 ≤ 63 then (s2.2.1 ||| ((1 : Int64) <<< ((nI i1).toInt64 &&& 63))) else s2.2.1) = J8 → sx_S g E E H0 H locs → mm g H = s2.1 → lv_has ls 12 [(8, .long J5), (7, .int (nI (i1))), (5, .long s2.2.1), (3, .long s2.2.2), (0, .ref o), (1, .int v0), (2, .int (nI (v1)))] → W p l e rm_M_root s m args below meth c H locs 0 0 Q (F0 m 55 ls [.long J8]) := by
        intro J8 H locs ls eJ8 hS hV hl
        refine lv_lstore (lv' := [(10, .long J8), (8, .long J5), (7, .int (nI (i1))), (5, .long s2.2.1), (3, .long s2.2.2), (0, .ref o), (1, .int v0), (2, .int (nI (v1)))]) hx hb d_M_root_55 hl (by decide) rfl (fun ls hl => ?_)
        refine lv_aload_n hx hb d_M_root_57 rfl (lv_at hl 5 rfl) ?_
        refine lv_lload hx hb d_M_root_58 (lv_at hl 1 rfl) ?_
        refine lv_lload hx hb d_M_root_60 (lv_at hl 0 rfl) ?_
        refine lv_iload_n hx hb d_M_root_62 rfl (lv_at hl 6 rfl) ?_
        refine lv_iload_n hx hb d_M_root_63 rfl (lv_at hl 7 rfl) ?_
        refine vx_gi (sx_runV (As := [.long J5, .long J8, .int v0, .int (nI (v1))]) (rest := []) EE (hS.1.ob hE hM.1) rfl rfl (v_M_fits (X := s2.1) (hM.kept hS.1 hE) hE hW (by omega) hV) w_M_248 rfl ⟨rfl, rfl⟩ ⟨Nat.le_of_ble_eq_true rfl, Nat.le_of_ble_eq_true rfl⟩ ⟨Nat.zero_le _, Nat.zero_le _⟩ hl.1 rfl (Nat.le_of_ble_eq_true rfl) d_M_root_64) hS (fun H locs X10 eX10 hS hV => ?_)
        have jn77_12 : ∀ (J12 : (Int64 × Int64)) (H : Heap) (locs : List Loc) (ls : Array Slot), (if ((LF_M_fits s2.1 r J5 J8 v0 v1).2) = true then (J8, J5) else (s2.2.1, s2.2.2)) = J12 → sx_S g E E H0 H locs → mm g H = X10 → lv_has ls 12 [(10, .long J8), (8, .long J5), (7, .int (nI (i1))), (5, .long J12.1), (3, .long J12.2), (0, .ref o), (1, .int v0), (2, .int (nI (v1)))] → W p l e rm_M_root s m args below meth c H locs 0 0 Q (F0 m 77 ls []) := by
          intro J12 H locs ls eJ12 hS hV hl
          refine lv_iinc (v := nI i1 - 1) (lv' := [(7, .int (nI i1 - 1)), (10, .long J8), (8, .long J5), (5, .long J12.1), (3, .long J12.2), (0, .ref o), (1, .int v0), (2, .int (nI (v1)))]) hx hb d_M_root_77 hl (k := 2) rfl (sx_dn _) (by decide) rfl (fun ls hl => ?_)
          refine lv_goto (tgt := 9) hx hb d_M_root_80 (by decide) ?_
          exact ihi1 (X10, J12.1, J12.2) _ _ _ (by subst eJ5 eJ8 eX10 eJ12; exact rfl) ⟨hS, hV, lv_sub hl [0, 3, 4, 5, 6, 7] rfl⟩
        refine lv_if_eq (tgt := 77) hx hb d_M_root_67 (by decide) (fun q67_10 => ?_) (fun q67_10 => ?_)
        · skip
          have q67_10 := vx_bf (vx_b0 q67_10)
          exact jn77_12 (s2.2.1, s2.2.2) _ _ _ (vx_n q67_10 rfl) hS hV (lv_sub hl [0, 1, 2, 3, 4, 5, 6, 7] rfl)
        · skip
          have q67_10 := vx_b1 q67_10
          refine lv_lload hx hb d_M_root_70 (lv_at hl 1 rfl) ?_
          refine lv_lstore_n (lv' := [(3, .long J5), (10, .long J8), (8, .long J5), (7, .int (nI (i1))), (5, .long s2.2.1), (0, .ref o), (1, .int v0), (2, .int (nI (v1)))]) hx hb d_M_root_72 rfl hl (by decide) rfl (fun ls hl => ?_)
          refine lv_lload hx hb d_M_root_73 (lv_at hl 1 rfl) ?_
          refine lv_lstore (lv' := [(5, .long J8), (3, .long J5), (10, .long J8), (8, .long J5), (7, .int (nI (i1))), (0, .ref o), (1, .int v0), (2, .int (nI (v1)))]) hx hb d_M_root_75 hl (by decide) rfl (fun ls hl => ?_)
          exact jn77_12 (J8, J5) _ _ _ (vx_p q67_10 rfl) hS hV (lv_sub hl [2, 3, 4, 0, 1, 5, 6, 7] rfl)
      refine lv_icmp_le (tgt := 48) hx hb d_M_root_40 (by decide) (fun q40_6 => ?_) (fun q40_6 => ?_)
      · skip
        have q40_6 : i1 ≤ 63 := (nI_leI (a := i1) (b := 63) (by omega) (by omega)).mp q40_6
        refine lv_lload hx hb d_M_root_48 (lv_at hl 2 rfl) ?_
        refine lv_lconst (v := 1) hx hb d_M_root_50 (by decide +kernel) ?_
        refine lv_iload hx hb d_M_root_51 (lv_at hl 1 rfl) ?_
        refine lv_lshl hx hb d_M_root_53 rfl ?_
        refine lv_lor hx hb d_M_root_54 ?_
        exact jn55_8 (s2.2.1 ||| ((1 : Int64) <<< ((nI i1).toInt64 &&& 63))) _ _ _ (vx_p q40_6 rfl) hS hV (lv_sub hl [0, 1, 2, 3, 4, 5, 6] rfl)
      · skip
        have q40_6 : ¬ (i1 ≤ 63) := fun z => q40_6 ((nI_leI (a := i1) (b := 63) (by omega) (by omega)).mpr z)
        refine lv_lload hx hb d_M_root_43 (lv_at hl 2 rfl) ?_
        refine lv_goto (tgt := 55) hx hb d_M_root_45 (by decide) ?_
        exact jn55_8 s2.2.1 _ _ _ (vx_n q40_6 rfl) hS hV (lv_sub hl [0, 1, 2, 3, 4, 5, 6] rfl)
    refine lv_icmp_le (tgt := 33) hx hb d_M_root_18 (by decide) (fun q18_3 => ?_) (fun q18_3 => ?_)
    · skip
      have q18_3 : i1 ≤ 63 := (nI_leI (a := i1) (b := 63) (by omega) (by omega)).mp q18_3
      refine lv_lload_n hx hb d_M_root_33 rfl (lv_at hl 2 rfl) ?_
      exact jn34_5 s2.2.2 _ _ _ (vx_p q18_3 rfl) hS hV (lv_sub hl [0, 1, 2, 3, 4, 5] rfl)
    · skip
      have q18_3 : ¬ (i1 ≤ 63) := fun z => q18_3 ((nI_leI (a := i1) (b := 63) (by omega) (by omega)).mpr z)
      refine lv_lload_n hx hb d_M_root_21 rfl (lv_at hl 2 rfl) ?_
      refine lv_lconst (v := 1) hx hb d_M_root_22 (by decide +kernel) ?_
      refine lv_iload hx hb d_M_root_23 (lv_at hl 0 rfl) ?_
      refine lv_bipush (v := nI 64) hx hb d_M_root_25 (by decide +kernel) ?_
      refine lv_isub hx hb d_M_root_27 ?_
      refine sx_ti (y := nI (i1 - 64)) (pk_sub (by omega)) ?_
      refine lv_lshl hx hb d_M_root_28 rfl ?_
      refine lv_lor hx hb d_M_root_29 ?_
      refine lv_goto (tgt := 34) hx hb d_M_root_30 (by decide) ?_
      exact jn34_5 (s2.2.2 ||| ((1 : Int64) <<< ((nI (i1 - 64)).toInt64 &&& 63))) _ _ _ (vx_n q18_3 rfl) hS hV (lv_sub hl [0, 1, 2, 3, 4, 5] rfl)
  · intro H locs ls hP
    obtain ⟨hS, hV, hl⟩ := hP
    refine lv_iload hx hb d_M_root_9 (lv_at hl 0 rfl) ?_
    refine lv_if_lt (tgt := 83) hx hb d_M_root_11 (by decide) (fun _ => ?_) (fun q => absurd (by decide +kernel) q)
    refine lv_lload hx hb d_M_root_83 (lv_at hl 1 rfl) ?_
    have hp : LF_M_root X r v0 v1 = (R3.1, R3.2.1) := (by subst eR3; exact rfl)
    exact hret _ _ _ _ _ _ (congrArg Prod.fst hp :) (congrArg Prod.snd hp :) hS hV d_M_root_85
def LL_M_constants_4 (r : Nat → Nat) : Nat → (vM × Nat) → (vM × Nat) := fun i_0 s_1 => (let X_2 : vM := (LF_M_root s_1.1 r (nI (pl_ (i_0 + 1))) 3).1; let X_3 : vM := stL X_2 (r 46) i_0 ((LF_M_root s_1.1 r (nI (pl_ (i_0 + 1))) 3).2); let J_4 : vM := if 8 ≤ i_0 then X_3 else (let X_5 : vM := (LF_M_root X_3 r (nI (pl_ (i_0 + 1))) 2).1; let X_6 : vM := stL X_5 (r 47) i_0 ((LF_M_root X_3 r (nI (pl_ (i_0 + 1))) 2).2); X_6); (J_4, pl_ (i_0 + 1)))
def LF_M_constants (X : vM) (r : Nat → Nat) : vM := (let R3 : (vM × Nat) := lpU 1 (LL_M_constants_4 r) 80 0 (X, 1); R3.1)
abbrev rm_M_constants : Room := { frames := 3, cells := 0, slots := 0, locals := 92 }
set_option maxHeartbeats 4000000 in
set_option maxRecDepth 100000 in
theorem v_M_constants {l : Launch} {D : va_G} {g : ClassId → FieldType → Prop} {E : Nat → Prop} {H0 : Heap} {X : vM} {o : Nat} {r : Nat → Nat} {i : Nat → Int32} (hM : mo_ D g H0 o r i) (hE : ¬ E o) (hW : ∀ q ∈ mo_wr, E (r q.1)) (hV : mm g H0 = X) : Met l y_M_constants (.code y_M_constants b_M_constants 3 none :: G_) rm_M_constants (sx_Pc [.ref o] H0 D g) (vx_Qv g E H0 (LF_M_constants X r)) 0 0 E := by
  refine vx_mv (own := R_M) (by decide) rfl rfl rfl (Nat.le_of_ble_eq_true rfl) ?_
  intro p e s m args below meth c Q ls EE hl hret
  obtain ⟨hx, hb, hml, hown, hts, hG, hK⟩ := id EE
  have hS : sx_S g E E H0 H0 [] := sx_S.rf
  have hl : lv_has ls 3 [(0, .ref o)] := hl
  refine lv_iconst (v := nI 1) hx hb d_M_constants_0 (by decide +kernel) ?_
  refine lv_istore_n (lv' := [(1, .int (nI (1))), (0, .ref o)]) hx hb d_M_constants_1 rfl hl (by decide) rfl (fun ls hl => ?_)
  refine lv_iconst (v := nI 0) hx hb d_M_constants_2 (by decide +kernel) ?_
  refine lv_istore_n (lv' := [(2, .int (nI (0))), (1, .int (nI (1))), (0, .ref o)]) hx hb d_M_constants_3 rfl hl (by decide) rfl (fun ls hl => ?_)
  obtain ⟨R3, eR3⟩ : ∃ t : (vM × Nat), lpU 1 (LL_M_constants_4 r) 80 0 (X, 1) = t := ⟨_, rfl⟩
  refine lpU_go (σ := (vM × Nat)) (P := fun i1 s2 H locs ls => s2.2 = pl_ i1 ∧ sx_S g E E H0 H locs ∧ mm g H = s2.1 ∧ lv_has ls 3 [(2, .int (nI (i1))), (1, .int (nI (s2.2))), (0, .ref o)]) (Wd := fun H locs ls => W p l e rm_M_constants s m args below meth c H locs 0 0 Q (F0 m 4 ls [])) (N := 80) (d := 1) (by decide) ?_ ?_ 80 0 _ (by omega) eR3 _ _ _ ⟨(rfl), hS, hV, lv_sub hl [0, 1, 2] rfl⟩
  · intro i1 s2 H locs ls hii1 hP ihi1
    obtain ⟨hs2_1, hS, hV, hl⟩ := hP
    refine lv_iload_n hx hb d_M_constants_4 rfl (lv_at hl 0 rfl) ?_
    refine lv_bipush (v := nI 80) hx hb d_M_constants_5 (by decide +kernel) ?_
    refine lv_icmp_ge (tgt := 51) hx hb d_M_constants_7 (by decide) (fun q => absurd q (nI_ge (by omega) (by omega))) (fun _ => ?_)
    refine lv_iload_n hx hb d_M_constants_10 rfl (lv_at hl 1 rfl) ?_
    have hpl := pl_ok i1 (by omega)
    refine vx_gi (sx_runS (As := [.int (nI (s2.2))]) (rest := []) EE (v_M_prime (X := s2.1) (q := pl_ (i1 + 1)) (by rw [hs2_1]; exact hpl.1) hpl.2.1 hpl.2.2 (by rw [hs2_1]; exact pl_cs _ (by omega)) hV) w_M_241 rfl ⟨rfl, rfl⟩ ⟨Nat.le_of_ble_eq_true rfl, Nat.le_of_ble_eq_true rfl⟩ ⟨Nat.zero_le _, Nat.zero_le _⟩ hl.1 rfl (Nat.le_of_ble_eq_true rfl) d_M_constants_11) hS (fun H locs X_ eX_ hS hV => ?_)
    subst eX_
    refine lv_istore_n (lv' := [(1, .int (nI (pl_ (i1 + 1)))), (2, .int (nI (i1))), (0, .ref o)]) hx hb d_M_constants_14 rfl hl (by decide) rfl (fun ls hl => ?_)
    refine lv_aload_n hx hb d_M_constants_15 rfl (lv_at hl 2 rfl) ?_
    refine sx_get EE (hS.1.ob hE hM.1) rfl i_M 46 (by decide) rfl fl_M_141 rfl d_M_constants_16 ?_
    refine lv_iload_n hx hb d_M_constants_19 rfl (lv_at hl 1 rfl) ?_
    refine lv_aload_n hx hb d_M_constants_20 rfl (lv_at hl 2 rfl) ?_
    refine lv_iload_n hx hb d_M_constants_21 rfl (lv_at hl 0 rfl) ?_
    refine lv_iconst (v := nI 3) hx hb d_M_constants_22 (by decide +kernel) ?_
    refine vx_gl (sx_runV (As := [.int (nI (pl_ (i1 + 1))), .int (nI (3))]) (rest := [.int (nI (i1)), .ref (r 46)]) EE (hS.1.ob hE hM.1) rfl rfl (v_M_root (X := s2.1) (hM.kept hS.1 hE) hE hW (by omega) hV) w_M_245 rfl ⟨rfl, rfl⟩ ⟨Nat.le_of_ble_eq_true rfl, Nat.le_of_ble_eq_true rfl⟩ ⟨Nat.zero_le _, Nat.zero_le _⟩ hl.1 rfl (Nat.le_of_ble_eq_true rfl) d_M_constants_23) hS (fun H locs X4 eX4 hS hV => ?_)
    refine vx_last hx hb hG hS hV (mo_46 hM) (mow_46 hW) (by omega) (by decide) d_M_constants_26 (fun H locs X5 eX5 hS hV => ?_)
    refine lv_iload_n hx hb d_M_constants_27 rfl (lv_at hl 1 rfl) ?_
    refine lv_bipush (v := nI 8) hx hb d_M_constants_28 (by decide +kernel) ?_
    have jn45_9 : ∀ (J9 : vM) (H : Heap) (locs : List Loc) (ls : Array Slot), (if 8 ≤ i1 then X5 else (let X7 : vM := (LF_M_root X5 r (nI (pl_ (i1 + 1))) 2).1; let X8 : vM := stL X7 (r 47) i1 ((LF_M_root X5 r (nI (pl_ (i1 + 1))) 2).2); X8)) = J9 → sx_S g E E H0 H locs → mm g H = J9 → lv_has ls 3 [(1, .int (nI (pl_ (i1 + 1)))), (2, .int (nI (i1))), (0, .ref o)] → W p l e rm_M_constants s m args below meth c H locs 0 0 Q (F0 m 45 ls []) := by
      intro J9 H locs ls eJ9 hS hV hl
      refine lv_iinc (v := nI (i1 + 1)) (lv' := [(2, .int (nI (i1 + 1))), (1, .int (nI (pl_ (i1 + 1)))), (0, .ref o)]) hx hb d_M_constants_45 hl (k := 1) rfl (sx_inc _ _) (by decide) rfl (fun ls hl => ?_)
      refine lv_goto (tgt := 4) hx hb d_M_constants_48 (by decide) ?_
      exact ihi1 (J9, pl_ (i1 + 1)) _ _ _ (by subst eX4 eX5 eJ9; exact rfl) ⟨(rfl), hS, hV, lv_sub hl [0, 1, 2] rfl⟩
    refine lv_icmp_ge (tgt := 45) hx hb d_M_constants_30 (by decide) (fun q30_5 => ?_) (fun q30_5 => ?_)
    · skip
      have q30_5 : 8 ≤ i1 := (nI_leI (a := 8) (b := i1) (by omega) (by omega)).mp q30_5
      exact jn45_9 X5 _ _ _ (vx_p q30_5 rfl) hS hV (lv_sub hl [0, 1, 2] rfl)
    · skip
      have q30_5 : ¬ (8 ≤ i1) := fun z => q30_5 ((nI_leI (a := 8) (b := i1) (by omega) (by omega)).mpr z)
      refine lv_aload_n hx hb d_M_constants_33 rfl (lv_at hl 2 rfl) ?_
      refine sx_get EE (hS.1.ob hE hM.1) rfl i_M 47 (by decide) rfl fl_M_144 rfl d_M_constants_34 ?_
      refine lv_iload_n hx hb d_M_constants_37 rfl (lv_at hl 1 rfl) ?_
      refine lv_aload_n hx hb d_M_constants_38 rfl (lv_at hl 2 rfl) ?_
      refine lv_iload_n hx hb d_M_constants_39 rfl (lv_at hl 0 rfl) ?_
      refine lv_iconst (v := nI 2) hx hb d_M_constants_40 (by decide +kernel) ?_
      refine vx_gl (sx_runV (As := [.int (nI (pl_ (i1 + 1))), .int (nI (2))]) (rest := [.int (nI (i1)), .ref (r 47)]) EE (hS.1.ob hE hM.1) rfl rfl (v_M_root (X := X5) (hM.kept hS.1 hE) hE hW (by omega) hV) w_M_245 rfl ⟨rfl, rfl⟩ ⟨Nat.le_of_ble_eq_true rfl, Nat.le_of_ble_eq_true rfl⟩ ⟨Nat.zero_le _, Nat.zero_le _⟩ hl.1 rfl (Nat.le_of_ble_eq_true rfl) d_M_constants_41) hS (fun H locs X11 eX11 hS hV => ?_)
      refine vx_last hx hb hG hS hV (mo_47 hM) (mow_47 hW) (by omega) (by decide) d_M_constants_44 (fun H locs X12 eX12 hS hV => ?_)
      exact jn45_9 X12 _ _ _ (by subst eX11 eX12; exact (vx_n q30_5 rfl)) hS hV (lv_sub hl [0, 1, 2] rfl)
  · intro H locs ls hP
    obtain ⟨hR3_1, hS, hV, hl⟩ := hP
    refine lv_iload_n hx hb d_M_constants_4 rfl (lv_at hl 0 rfl) ?_
    refine lv_bipush (v := nI 80) hx hb d_M_constants_5 (by decide +kernel) ?_
    refine lv_icmp_ge (tgt := 51) hx hb d_M_constants_7 (by decide) (fun _ => ?_) (fun q => absurd (nI_le (by omega) (by omega)) q)
    exact hret _ _ _ _ _ (by subst eR3; exact rfl) hS hV d_M_constants_51
