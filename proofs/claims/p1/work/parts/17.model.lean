/-! prime: the next prime is found, at the latest a prime that is known to lie ahead -/
def pl_ (k : Nat) : Nat := ([1, 2, 3, 5, 7, 11, 13, 17, 19, 23, 29, 31, 37, 41, 43, 47, 53, 59, 61, 67, 71, 73, 79, 83, 89, 97, 101, 103, 107, 109, 113, 127, 131, 137, 139, 149, 151, 157, 163, 167, 173, 179, 181, 191, 193, 197, 199, 211, 223, 227, 229, 233, 239, 241, 251, 257, 263, 269, 271, 277, 281, 283, 293, 307, 311, 313, 317, 331, 337, 347, 349, 353, 359, 367, 373, 379, 383, 389, 397, 401, 409] : List Nat).getD k 0
theorem pl_ok0 : ∀ k, k < 80 → pl_ k < pl_ (k + 1) ∧ pl_ (k + 1) ≤ 409 ∧ ∀ d, d < 21 → 2 ≤ d → d * d ≤ pl_ (k + 1) → pl_ (k + 1) % d ≠ 0 := by decide +kernel
theorem pl_ok (k : Nat) (hk : k < 80) : pl_ k < pl_ (k + 1) ∧ pl_ (k + 1) ≤ 409 ∧ ∀ d, 2 ≤ d → d * d ≤ pl_ (k + 1) → pl_ (k + 1) % d ≠ 0 := by
  obtain ⟨h1, h2, h3⟩ := pl_ok0 k hk
  refine ⟨h1, h2, fun d hd hdd => h3 d ?_ hd hdd⟩
  rcases Nat.lt_or_ge d 21 with h | h
  · exact h
  · have := Nat.mul_le_mul h h
    omega
abbrev rm_M_prime : Room := { frames := 0, cells := 0, slots := 0, locals := 0 }
set_option maxHeartbeats 4000000 in
set_option maxRecDepth 100000 in
theorem c_M_prime {l : Launch} {D : va_G} {g : ClassId → FieldType → Prop} {E : Nat → Prop} {H0 : Heap} {v0 q : Nat} (h0 : v0 < q) (hq : q ≤ 409) (hp : ∀ d, 2 ≤ d → d * d ≤ q → q % d ≠ 0) : Met l y_M_prime (.code y_M_prime b_M_prime 4 (some .int) :: G_) rm_M_prime (sx_Pc [.int (nI v0)] H0 D g) (sx_Qn g E H0 (fun z => z ≤ q)) 0 0 E := by
  refine sx_mn (own := R_M) (by decide) rfl rfl rfl (Nat.le_of_ble_eq_true rfl) ?_
  intro p e s m args below meth c Q ls EE hl hret
  obtain ⟨hx, hb, hml, hown, hts, hG, hK⟩ := id EE
  have hS : sx_S g E E H0 H0 [] := sx_S.rf
  have hl : lv_has ls 4 [(0, .int (nI v0))] := hl
  have outer : ∀ (k x f : Nat) (ls : Array Slot), x ≤ q → q < x + k → f ≤ 1 → (f = 0 → x < q) → lv_has ls 4 [(2, .int (nI f)), (1, .int (nI x))] → W p l e rm_M_prime s m args below meth c H0 [] 0 0 Q (F0 m 4 ls []) := by
    intro k
    induction k with
    | zero =>
      intro x f ls h1 h2
      exact absurd h2 (by omega)
    | succ k ih =>
      intro x f ls h1 h2 h3 h4 hl
      refine lv_iload_n hx hb d_M_prime_4 rfl (lv_at hl 0 rfl) ?_
      refine lv_if_ne (tgt := 39) hx hb d_M_prime_5 (by decide) (fun q5 => ?_) (fun q5 => ?_)
      · refine lv_iload_n hx hb d_M_prime_39 rfl (lv_at hl 1 rfl) ?_
        exact hret _ _ _ _ x h1 hS d_M_prime_40
      · have q5 : f = 0 := (nI_eq (a := f) (b := 0) (by omega) (by omega)).mp q5
        have hxq := h4 q5
        refine lv_iinc (v := nI (x + 1)) (lv' := [(1, .int (nI (x + 1))), (2, .int (nI f))]) hx hb d_M_prime_8 hl (k := 1) rfl (sx_inc _ _) (by decide) rfl (fun ls hl => ?_)
        refine lv_iconst (v := nI 1) hx hb d_M_prime_11 (by decide +kernel) ?_
        refine lv_istore_n (lv' := [(2, .int (nI 1)), (1, .int (nI (x + 1)))]) hx hb d_M_prime_12 rfl hl (by decide) rfl (fun ls hl => ?_)
        refine lv_iconst (v := nI 2) hx hb d_M_prime_13 (by decide +kernel) ?_
        refine lv_istore_n (lv' := [(3, .int (nI 2)), (2, .int (nI 1)), (1, .int (nI (x + 1)))]) hx hb d_M_prime_14 rfl hl (by decide) rfl (fun ls hl => ?_)
        have inner : ∀ (j d f : Nat) (ls : Array Slot), 2 ≤ d → d ≤ 30 → 30 < d + j → f ≤ 1 → (x + 1 = q → f = 1) → lv_has ls 4 [(3, .int (nI d)), (2, .int (nI f)), (1, .int (nI (x + 1)))] → W p l e rm_M_prime s m args below meth c H0 [] 0 0 Q (F0 m 15 ls []) := by
          intro j
          induction j with
          | zero =>
            intro d f ls g1 g2 g3
            exact absurd g3 (by omega)
          | succ j ihj =>
            intro d f ls g1 g2 g3 g4 g5 hl
            have hdd : d * d ≤ 900 := Nat.mul_le_mul g2 g2
            refine lv_iload_n hx hb d_M_prime_15 rfl (lv_at hl 0 rfl) ?_
            refine lv_iload_n hx hb d_M_prime_16 rfl (lv_at hl 0 rfl) ?_
            refine lv_imul hx hb d_M_prime_17 ?_
            refine sx_ti (y := nI (d * d)) (pk_mul _ _) ?_
            refine lv_iload_n hx hb d_M_prime_18 rfl (lv_at hl 2 rfl) ?_
            generalize hw : d * d = w at *
            refine lv_icmp_gt (tgt := 36) hx hb d_M_prime_19 (by decide) (fun q19 => ?_) (fun q19 => ?_)
            · refine lv_goto (tgt := 4) hx hb d_M_prime_36 (by decide) ?_
              exact ih (x + 1) f ls (by omega) (by omega) g4 (fun hf => by
                rcases Nat.lt_or_ge (x + 1) q with h | h
                · exact h
                · have := g5 (by omega)
                  omega) (lv_sub hl [1, 2] rfl)
            · have q19 : ¬ (x + 1 < w) := fun z => q19 ((nI_ltI (a := x + 1) (b := w) (by omega) (by omega)).mpr z)
              have hd20 : d ≤ 20 := by
                rcases Nat.lt_or_ge 20 d with h | h
                · have := Nat.mul_le_mul (show 21 ≤ d from h) (show 21 ≤ d from h)
                  omega
                · exact h
              refine lv_iload_n hx hb d_M_prime_22 rfl (lv_at hl 2 rfl) ?_
              refine lv_iload_n hx hb d_M_prime_23 rfl (lv_at hl 0 rfl) ?_
              refine lv_irem hx hb d_M_prime_24 (nI_ne0 (by omega) (by omega)) ?_
              refine sx_ti (y := nI ((x + 1) % d)) (pk_rem (by omega) (by omega) (by omega)) ?_
              have hlt : (x + 1) % d < d := Nat.mod_lt _ (by omega)
              refine lv_if_ne (tgt := 30) hx hb d_M_prime_25 (by decide) (fun q25 => ?_) (fun q25 => ?_)
              · refine lv_iinc (v := nI (d + 1)) (lv' := [(3, .int (nI (d + 1))), (2, .int (nI f)), (1, .int (nI (x + 1)))]) hx hb d_M_prime_30 hl (k := 0) rfl (sx_inc _ _) (by decide) rfl (fun ls hl => ?_)
                refine lv_goto (tgt := 15) hx hb d_M_prime_33 (by decide) ?_
                exact ihj (d + 1) f ls (by omega) (by omega) (by omega) g4 g5 hl
              · have q25 : (x + 1) % d = 0 := (nI_eq (a := (x + 1) % d) (b := 0) (by omega) (by omega)).mp q25
                refine lv_iconst (v := nI 0) hx hb d_M_prime_28 (by decide +kernel) ?_
                refine lv_istore_n (lv' := [(2, .int (nI 0)), (3, .int (nI d)), (1, .int (nI (x + 1)))]) hx hb d_M_prime_29 rfl hl (by decide) rfl (fun ls hl => ?_)
                refine lv_iinc (v := nI (d + 1)) (lv' := [(3, .int (nI (d + 1))), (2, .int (nI 0)), (1, .int (nI (x + 1)))]) hx hb d_M_prime_30 hl (k := 1) rfl (sx_inc _ _) (by decide) rfl (fun ls hl => ?_)
                refine lv_goto (tgt := 15) hx hb d_M_prime_33 (by decide) ?_
                exact ihj (d + 1) 0 ls (by omega) (by omega) (by omega) (by omega) (fun hz => by
                  rw [hz] at q25
                  exact absurd q25 (hp d g1 (by omega))) hl
        exact inner 29 2 1 ls (by omega) (by omega) (by omega) (by omega) (fun _ => rfl) (lv_sub hl [0, 1, 2] rfl)
  refine lv_iload_n hx hb d_M_prime_0 rfl (lv_at hl 0 rfl) ?_
  refine lv_istore_n (lv' := [(1, .int (nI v0)), (0, .int (nI v0))]) hx hb d_M_prime_1 rfl hl (by decide) rfl (fun ls hl => ?_)
  refine lv_iconst (v := nI 0) hx hb d_M_prime_2 (by decide +kernel) ?_
  refine lv_istore_n (lv' := [(2, .int (nI 0)), (1, .int (nI v0)), (0, .int (nI v0))]) hx hb d_M_prime_3 rfl hl (by decide) rfl (fun ls hl => ?_)
  exact outer (q + 1) v0 0 ls (by omega) (by omega) (by omega) (fun _ => h0) (lv_sub hl [0, 1] rfl)
abbrev rm_M_raise : Room := { frames := 0, cells := 0, slots := 0, locals := 0 }
set_option maxHeartbeats 4000000 in
set_option maxRecDepth 100000 in
theorem c_M_raise {l : Launch} {D : va_G} {g : ClassId → FieldType → Prop} {E : Nat → Prop} {H0 : Heap} {o : Nat} {r : Nat → Nat} {i : Nat → Int32} {v0 : Int64} {v1 : Int64} (hM : mo_ D g H0 o r i) (hE : ¬ E o) (hW : ∀ q ∈ mo_wr, E (r q.1)) : Met l y_M_raise (.code y_M_raise b_M_raise 13 none :: G_) rm_M_raise (sx_Pc [.ref o, .long v0, .long v1] H0 D g) (sx_Qv g E H0) 0 0 E := by
  refine sx_mv (own := R_M) (by decide) rfl rfl rfl (Nat.le_of_ble_eq_true rfl) ?_
  intro p e s m args below meth c Q ls EE hl hret
  obtain ⟨hx, hb, hml, hown, hts, hG, hK⟩ := id EE
  have hS : sx_S g E E H0 H0 [] := sx_S.rf
  have hl : lv_has ls 13 [(0, .ref o), (1, .long v0), (3, .long v1)] := hl
  refine lv_iconst (v := nI 0) hx hb d_M_raise_0 (by decide +kernel) ?_
  refine lv_istore (lv' := [(5, .int (nI (0))), (0, .ref o), (1, .long v0), (3, .long v1)]) hx hb d_M_raise_1 hl (by decide) rfl (fun ls hl => ?_)
  have lp3 : ∀ (k i1 : Nat) (H : Heap) (locs : List Loc) (ls : Array Slot), i1 + k = 8 → sx_S g E E H0 H locs → lv_has ls 13 [(5, .int (nI (i1))), (0, .ref o), (1, .long v0), (3, .long v1)] → W p l e rm_M_raise s m args below meth c H locs 0 0 Q (F0 m 3 ls []) := by
    intro k
    induction k with
    | zero =>
      intro i1  H locs ls hi  hS hl
      refine lv_iload hx hb d_M_raise_3 (lv_at hl 0 rfl) ?_
      refine lv_bipush (v := nI 8) hx hb d_M_raise_5 (by decide +kernel) ?_
      refine lv_icmp_ge (tgt := 24) hx hb d_M_raise_7 (by decide) (fun _ => ?_) (fun q => absurd (nI_le (by omega) (by omega)) q)
      refine lv_iconst (v := nI 0) hx hb d_M_raise_24 (by decide +kernel) ?_
      refine lv_istore (lv' := [(5, .int (nI (0))), (0, .ref o), (1, .long v0), (3, .long v1)]) hx hb d_M_raise_25 hl (by decide) rfl (fun ls hl => ?_)
      have lp27 : ∀ (k i2 : Nat) (H : Heap) (locs : List Loc) (ls : Array Slot), i2 + k = 3 → sx_S g E E H0 H locs → lv_has ls 13 [(5, .int (nI (i2))), (0, .ref o), (1, .long v0), (3, .long v1)] → W p l e rm_M_raise s m args below meth c H locs 0 0 Q (F0 m 27 ls []) := by
        intro k
        induction k with
        | zero =>
          intro i2  H locs ls hi  hS hl
          refine lv_iload hx hb d_M_raise_27 (lv_at hl 0 rfl) ?_
          refine lv_iconst (v := nI 3) hx hb d_M_raise_29 (by decide +kernel) ?_
          refine lv_icmp_ge (tgt := 139) hx hb d_M_raise_30 (by decide) (fun _ => ?_) (fun q => absurd (nI_le (by omega) (by omega)) q)
          refine lv_iconst (v := nI 0) hx hb d_M_raise_139 (by decide +kernel) ?_
          refine lv_istore (lv' := [(5, .int (nI (0))), (0, .ref o), (1, .long v0), (3, .long v1)]) hx hb d_M_raise_140 hl (by decide) rfl (fun ls hl => ?_)
          have lp142 : ∀ (k i3 : Nat) (H : Heap) (locs : List Loc) (ls : Array Slot), i3 + k = 8 → sx_S g E E H0 H locs → lv_has ls 13 [(5, .int (nI (i3))), (0, .ref o), (1, .long v0), (3, .long v1)] → W p l e rm_M_raise s m args below meth c H locs 0 0 Q (F0 m 142 ls []) := by
            intro k
            induction k with
            | zero =>
              intro i3  H locs ls hi  hS hl
              refine lv_iload hx hb d_M_raise_142 (lv_at hl 0 rfl) ?_
              refine lv_bipush (v := nI 8) hx hb d_M_raise_144 (by decide +kernel) ?_
              refine lv_icmp_ge (tgt := 169) hx hb d_M_raise_146 (by decide) (fun _ => ?_) (fun q => absurd (nI_le (by omega) (by omega)) q)
              exact hret _ _ _ _ hS d_M_raise_169
            | succ k ih142 =>
              intro i3  H locs ls hi  hS hl
              refine lv_iload hx hb d_M_raise_142 (lv_at hl 0 rfl) ?_
              refine lv_bipush (v := nI 8) hx hb d_M_raise_144 (by decide +kernel) ?_
              refine lv_icmp_ge (tgt := 169) hx hb d_M_raise_146 (by decide) (fun q => absurd q (nI_ge (by omega) (by omega))) (fun _ => ?_)
              refine lv_aload_n hx hb d_M_raise_149 rfl (lv_at hl 1 rfl) ?_
              refine sx_get EE (hS.1.ob hE hM.1) rfl i_M 50 (by decide) rfl fl_M_153 rfl d_M_raise_150 ?_
              refine lv_iload hx hb d_M_raise_153 (lv_at hl 0 rfl) ?_
              refine lv_aload_n hx hb d_M_raise_155 rfl (lv_at hl 1 rfl) ?_
              refine sx_get EE (hS.1.ob hE hM.1) rfl i_M 51 (by decide) rfl fl_M_156 rfl d_M_raise_156 ?_
              refine lv_iload hx hb d_M_raise_159 (lv_at hl 0 rfl) ?_
              refine sx_lald hx hb hG hS (mo_51 hM) (sx_in (by omega) (by decide)) d_M_raise_161 (fun z4 => ?_)
              refine sx_last hx hb hG hS (mo_50 hM) (mow_50 hW) (sx_in (by omega) (by decide)) d_M_raise_162 (fun H locs hS => ?_)
              refine lv_iinc (v := nI (i3 + 1)) (lv' := [(5, .int (nI (i3 + 1))), (0, .ref o), (1, .long v0), (3, .long v1)]) hx hb d_M_raise_163 hl (k := 0) rfl (sx_inc _ _) (by decide) rfl (fun ls hl => ?_)
              refine lv_goto (tgt := 142) hx hb d_M_raise_166 (by decide) ?_
              exact ih142 (i3 + 1)  _ _ _ (by omega)  hS (lv_sub hl [0, 1, 2, 3] rfl)
          exact lp142 (8) 0  _ _ _ (by omega)  hS (lv_sub hl [0, 1, 2, 3] rfl)
        | succ k ih27 =>
          intro i2  H locs ls hi  hS hl
          refine lv_iload hx hb d_M_raise_27 (lv_at hl 0 rfl) ?_
          refine lv_iconst (v := nI 3) hx hb d_M_raise_29 (by decide +kernel) ?_
          refine lv_icmp_ge (tgt := 139) hx hb d_M_raise_30 (by decide) (fun q => absurd q (nI_ge (by omega) (by omega))) (fun _ => ?_)
          refine lv_iload hx hb d_M_raise_33 (lv_at hl 0 rfl) ?_
          have jn60_7 : ∀ (w7 : Int64) (H : Heap) (locs : List Loc) (ls : Array Slot), sx_S g E E H0 H locs → lv_has ls 13 [(5, .int (nI (i2))), (0, .ref o), (1, .long v0), (3, .long v1)] → W p l e rm_M_raise s m args below meth c H locs 0 0 Q (F0 m 60 ls [.long w7]) := by
            intro w7 H locs ls  hS hl
            refine lv_lstore (lv' := [(6, .long w7), (5, .int (nI (i2))), (0, .ref o), (1, .long v0), (3, .long v1)]) hx hb d_M_raise_60 hl (by decide) rfl (fun ls hl => ?_)
            refine lv_lconst (v := 0) hx hb d_M_raise_62 (by decide +kernel) ?_
            refine lv_lstore (lv' := [(8, .long 0), (6, .long w7), (5, .int (nI (i2))), (0, .ref o), (1, .long v0), (3, .long v1)]) hx hb d_M_raise_63 hl (by decide) rfl (fun ls hl => ?_)
            refine lv_iconst (v := nI 0) hx hb d_M_raise_65 (by decide +kernel) ?_
            refine lv_istore (lv' := [(10, .int (nI (0))), (8, .long 0), (6, .long w7), (5, .int (nI (i2))), (0, .ref o), (1, .long v0), (3, .long v1)]) hx hb d_M_raise_66 hl (by decide) rfl (fun ls hl => ?_)
            have lp68 : ∀ (k i10 : Nat) (w9 : Int64) (H : Heap) (locs : List Loc) (ls : Array Slot), i10 ≤ 8 → 8 - i10 < k → sx_S g E E H0 H locs → lv_has ls 13 [(10, .int (nI (i10))), (8, .long w9), (6, .long w7), (5, .int (nI (i2))), (0, .ref o), (1, .long v0), (3, .long v1)] → W p l e rm_M_raise s m args below meth c H locs 0 0 Q (F0 m 68 ls []) := by
              intro k
              induction k with
              | zero =>
                intro i10 w9 H locs ls hi hk
                exact absurd hk (Nat.not_lt_zero _)
              | succ k ih68 =>
                intro i10 w9 H locs ls hi hk  hS hl
                refine lv_iload hx hb d_M_raise_68 (lv_at hl 3 rfl) ?_
                refine lv_iload hx hb d_M_raise_70 (lv_at hl 0 rfl) ?_
                refine lv_iadd hx hb d_M_raise_72 ?_
                refine sx_ti (y := nI (i2 + i10)) (nI_add _ _) ?_
                refine lv_bipush (v := nI 8) hx hb d_M_raise_73 (by decide +kernel) ?_
                refine lv_icmp_ge (tgt := 133) hx hb d_M_raise_75 (by decide) (fun q75 => ?_) (fun q75 => ?_)
                · skip
                  have q75 : 8 ≤ (i2 + i10) := (nI_leI (a := 8) (b := (i2 + i10)) (by omega) (by omega)).mp q75
                  refine lv_iinc (v := nI (i2 + 1)) (lv' := [(5, .int (nI (i2 + 1))), (10, .int (nI (i10))), (8, .long w9), (6, .long w7), (0, .ref o), (1, .long v0), (3, .long v1)]) hx hb d_M_raise_133 hl (k := 3) rfl (sx_inc _ _) (by decide) rfl (fun ls hl => ?_)
                  refine lv_goto (tgt := 27) hx hb d_M_raise_136 (by decide) ?_
                  exact ih27 (i2 + 1)  _ _ _ (by omega)  hS (lv_sub hl [0, 4, 5, 6] rfl)
                · skip
                  have q75 : ¬ (8 ≤ (i2 + i10)) := fun z => q75 ((nI_leI (a := 8) (b := (i2 + i10)) (by omega) (by omega)).mpr z)
                  refine lv_aload_n hx hb d_M_raise_78 rfl (lv_at hl 4 rfl) ?_
                  refine sx_get EE (hS.1.ob hE hM.1) rfl i_M 51 (by decide) rfl fl_M_156 rfl d_M_raise_79 ?_
                  refine lv_iload hx hb d_M_raise_82 (lv_at hl 3 rfl) ?_
                  refine lv_iload hx hb d_M_raise_84 (lv_at hl 0 rfl) ?_
                  refine lv_iadd hx hb d_M_raise_86 ?_
                  refine sx_ti (y := nI (i2 + i10)) (nI_add _ _) ?_
                  refine sx_lald hx hb hG hS (mo_51 hM) (sx_in (by omega) (by decide)) d_M_raise_87 (fun z18 => ?_)
                  refine lv_lload hx hb d_M_raise_88 (lv_at hl 2 rfl) ?_
                  refine lv_aload_n hx hb d_M_raise_90 rfl (lv_at hl 4 rfl) ?_
                  refine sx_get EE (hS.1.ob hE hM.1) rfl i_M 50 (by decide) rfl fl_M_153 rfl d_M_raise_91 ?_
                  refine lv_iload hx hb d_M_raise_94 (lv_at hl 0 rfl) ?_
                  refine sx_lald hx hb hG hS (mo_50 hM) (sx_in (by omega) (by decide)) d_M_raise_96 (fun z19 => ?_)
                  refine sx_lmul hx hb d_M_raise_97 (fun z20 => ?_)
                  refine sx_ladd hx hb d_M_raise_98 (fun z21 => ?_)
                  refine lv_lload hx hb d_M_raise_99 (lv_at hl 1 rfl) ?_
                  refine sx_ladd hx hb d_M_raise_101 (fun z22 => ?_)
                  refine lv_lstore (lv' := [(11, .long z22), (10, .int (nI (i10))), (8, .long w9), (6, .long w7), (5, .int (nI (i2))), (0, .ref o), (1, .long v0), (3, .long v1)]) hx hb d_M_raise_102 hl (by decide) rfl (fun ls hl => ?_)
                  refine lv_aload_n hx hb d_M_raise_104 rfl (lv_at hl 5 rfl) ?_
                  refine sx_get EE (hS.1.ob hE hM.1) rfl i_M 51 (by decide) rfl fl_M_156 rfl d_M_raise_105 ?_
                  refine lv_iload hx hb d_M_raise_108 (lv_at hl 4 rfl) ?_
                  refine lv_iload hx hb d_M_raise_110 (lv_at hl 1 rfl) ?_
                  refine lv_iadd hx hb d_M_raise_112 ?_
                  refine sx_ti (y := nI (i2 + i10)) (nI_add _ _) ?_
                  refine lv_lload hx hb d_M_raise_113 (lv_at hl 0 rfl) ?_
                  refine lv_ldc2 (v := (4294967295)) hx hb hown (hts (.constantLong R_M 256 (4294967295)) (by decide +kernel)) d_M_raise_115 ?_
                  refine sx_land hx hb d_M_raise_118 (fun z23 => ?_)
                  refine sx_last hx hb hG hS (mo_51 hM) (mow_51 hW) (sx_in (by omega) (by decide)) d_M_raise_119 (fun H locs hS => ?_)
                  refine lv_lload hx hb d_M_raise_120 (lv_at hl 0 rfl) ?_
                  refine lv_bipush (v := nI 32) hx hb d_M_raise_122 (by decide +kernel) ?_
                  refine sx_lushr hx hb d_M_raise_124 (fun z24 => ?_)
                  refine lv_lstore (lv' := [(8, .long z24), (11, .long z22), (10, .int (nI (i10))), (6, .long w7), (5, .int (nI (i2))), (0, .ref o), (1, .long v0), (3, .long v1)]) hx hb d_M_raise_125 hl (by decide) rfl (fun ls hl => ?_)
                  refine lv_iinc (v := nI (i10 + 1)) (lv' := [(10, .int (nI (i10 + 1))), (8, .long z24), (11, .long z22), (6, .long w7), (5, .int (nI (i2))), (0, .ref o), (1, .long v0), (3, .long v1)]) hx hb d_M_raise_127 hl (k := 2) rfl (sx_inc _ _) (by decide) rfl (fun ls hl => ?_)
                  refine lv_goto (tgt := 68) hx hb d_M_raise_130 (by decide) ?_
                  exact ih68 (i10 + 1) z24 _ _ _ (by omega) (by omega)  hS (lv_sub hl [0, 1, 3, 4, 5, 6, 7] rfl)
            exact lp68 (8 - 0 + 1) 0 0 _ _ _ (by omega) (by omega)  hS (lv_sub hl [0, 1, 2, 3, 4, 5, 6] rfl)
          refine lv_if_ne (tgt := 46) hx hb d_M_raise_35 (by decide) (fun q35 => ?_) (fun q35 => ?_)
          · skip
            have q35 : ¬ (i2 = 0) := fun z => q35 ((nI_eq (a := i2) (b := 0) (by omega) (by omega)).mpr z)
            refine lv_iload hx hb d_M_raise_46 (lv_at hl 0 rfl) ?_
            refine lv_iconst (v := nI 1) hx hb d_M_raise_48 (by decide +kernel) ?_
            refine lv_icmp_ne (tgt := 59) hx hb d_M_raise_49 (by decide) (fun q49 => ?_) (fun q49 => ?_)
            · skip
              have q49 : ¬ (i2 = 1) := fun z => q49 ((nI_eq (a := i2) (b := 1) (by omega) (by omega)).mpr z)
              refine lv_lload_n hx hb d_M_raise_59 rfl (lv_at hl 2 rfl) ?_
              exact jn60_7 v0 _ _ _  hS (lv_sub hl [0, 1, 2, 3] rfl)
            · skip
              have q49 : i2 = 1 := (nI_eq (a := i2) (b := 1) (by omega) (by omega)).mp q49
              refine lv_lload_n hx hb d_M_raise_52 rfl (lv_at hl 3 rfl) ?_
              refine lv_bipush (v := nI 32) hx hb d_M_raise_53 (by decide +kernel) ?_
              refine sx_lushr hx hb d_M_raise_55 (fun z25 => ?_)
              refine lv_goto (tgt := 60) hx hb d_M_raise_56 (by decide) ?_
              exact jn60_7 z25 _ _ _  hS (lv_sub hl [0, 1, 2, 3] rfl)
          · skip
            have q35 : i2 = 0 := (nI_eq (a := i2) (b := 0) (by omega) (by omega)).mp q35
            refine lv_lload_n hx hb d_M_raise_38 rfl (lv_at hl 3 rfl) ?_
            refine lv_ldc2 (v := (4294967295)) hx hb hown (hts (.constantLong R_M 256 (4294967295)) (by decide +kernel)) d_M_raise_39 ?_
            refine sx_land hx hb d_M_raise_42 (fun z26 => ?_)
            refine lv_goto (tgt := 60) hx hb d_M_raise_43 (by decide) ?_
            exact jn60_7 z26 _ _ _  hS (lv_sub hl [0, 1, 2, 3] rfl)
      exact lp27 (3) 0  _ _ _ (by omega)  hS (lv_sub hl [0, 1, 2, 3] rfl)
    | succ k ih3 =>
      intro i1  H locs ls hi  hS hl
      refine lv_iload hx hb d_M_raise_3 (lv_at hl 0 rfl) ?_
      refine lv_bipush (v := nI 8) hx hb d_M_raise_5 (by decide +kernel) ?_
      refine lv_icmp_ge (tgt := 24) hx hb d_M_raise_7 (by decide) (fun q => absurd q (nI_ge (by omega) (by omega))) (fun _ => ?_)
      refine lv_aload_n hx hb d_M_raise_10 rfl (lv_at hl 1 rfl) ?_
      refine sx_get EE (hS.1.ob hE hM.1) rfl i_M 51 (by decide) rfl fl_M_156 rfl d_M_raise_11 ?_
      refine lv_iload hx hb d_M_raise_14 (lv_at hl 0 rfl) ?_
      refine lv_lconst (v := 0) hx hb d_M_raise_16 (by decide +kernel) ?_
      refine sx_last hx hb hG hS (mo_51 hM) (mow_51 hW) (sx_in (by omega) (by decide)) d_M_raise_17 (fun H locs hS => ?_)
      refine lv_iinc (v := nI (i1 + 1)) (lv' := [(5, .int (nI (i1 + 1))), (0, .ref o), (1, .long v0), (3, .long v1)]) hx hb d_M_raise_18 hl (k := 0) rfl (sx_inc _ _) (by decide) rfl (fun ls hl => ?_)
      refine lv_goto (tgt := 3) hx hb d_M_raise_21 (by decide) ?_
      exact ih3 (i1 + 1)  _ _ _ (by omega)  hS (lv_sub hl [0, 1, 2, 3] rfl)
  exact lp3 (8) 0  _ _ _ (by omega)  hS (lv_sub hl [0, 1, 2, 3] rfl)
abbrev rm_M_fits : Room := { frames := 1, cells := 0, slots := 0, locals := 32 }
set_option maxHeartbeats 4000000 in
set_option maxRecDepth 100000 in
theorem c_M_fits {l : Launch} {D : va_G} {g : ClassId → FieldType → Prop} {E : Nat → Prop} {H0 : Heap} {o : Nat} {r : Nat → Nat} {i : Nat → Int32} {v0 : Int64} {v1 : Int64} {v2 : Int32} {v3 : Nat} (hM : mo_ D g H0 o r i) (hE : ¬ E o) (hW : ∀ q ∈ mo_wr, E (r q.1)) (h3 : 2 ≤ v3 ∧ v3 ≤ 3) : Met l y_M_fits (.code y_M_fits b_M_fits 10 (some .boolean) :: G_) rm_M_fits (sx_Pc [.ref o, .long v0, .long v1, .int v2, .int (nI v3)] H0 D g) (sx_Qz g E H0) 0 0 E := by
  refine sx_mz (own := R_M) (by decide) rfl rfl rfl (Nat.le_of_ble_eq_true rfl) ?_
  intro p e s m args below meth c Q ls EE hl hret
  obtain ⟨hx, hb, hml, hown, hts, hG, hK⟩ := id EE
  have hS : sx_S g E E H0 H0 [] := sx_S.rf
  have hl : lv_has ls 10 [(0, .ref o), (1, .long v0), (3, .long v1), (5, .int v2), (6, .int (nI (v3)))] := hl
  refine lv_iconst (v := nI 0) hx hb d_M_fits_0 (by decide +kernel) ?_
  refine lv_istore (lv' := [(7, .int (nI (0))), (0, .ref o), (1, .long v0), (3, .long v1), (5, .int v2), (6, .int (nI (v3)))]) hx hb d_M_fits_1 hl (by decide) rfl (fun ls hl => ?_)
  have lp3 : ∀ (k i1 : Nat) (H : Heap) (locs : List Loc) (ls : Array Slot), i1 + k = 8 → sx_S g E E H0 H locs → lv_has ls 10 [(7, .int (nI (i1))), (0, .ref o), (1, .long v0), (3, .long v1), (5, .int v2), (6, .int (nI (v3)))] → W p l e rm_M_fits s m args below meth c H locs 0 0 Q (F0 m 3 ls []) := by
    intro k
    induction k with
    | zero =>
      intro i1  H locs ls hi  hS hl
      refine lv_iload hx hb d_M_fits_3 (lv_at hl 0 rfl) ?_
      refine lv_bipush (v := nI 8) hx hb d_M_fits_5 (by decide +kernel) ?_
      refine lv_icmp_ge (tgt := 33) hx hb d_M_fits_7 (by decide) (fun _ => ?_) (fun q => absurd (nI_le (by omega) (by omega)) q)
      refine lv_iconst (v := nI 0) hx hb d_M_fits_33 (by decide +kernel) ?_
      refine lv_istore (lv' := [(7, .int (nI (0))), (0, .ref o), (1, .long v0), (3, .long v1), (5, .int v2), (6, .int (nI (v3)))]) hx hb d_M_fits_34 hl (by decide) rfl (fun ls hl => ?_)
      have lp36 : ∀ (k i2 : Nat) (H : Heap) (locs : List Loc) (ls : Array Slot), i2 + k = v3 → sx_S g E E H0 H locs → lv_has ls 10 [(7, .int (nI (i2))), (0, .ref o), (1, .long v0), (3, .long v1), (5, .int v2), (6, .int (nI (v3)))] → W p l e rm_M_fits s m args below meth c H locs 0 0 Q (F0 m 36 ls []) := by
        intro k
        induction k with
        | zero =>
          intro i2  H locs ls hi  hS hl
          refine lv_iload hx hb d_M_fits_36 (lv_at hl 0 rfl) ?_
          refine lv_iload hx hb d_M_fits_38 (lv_at hl 5 rfl) ?_
          refine lv_icmp_ge (tgt := 55) hx hb d_M_fits_40 (by decide) (fun _ => ?_) (fun q => absurd (nI_le (by omega) (by omega)) q)
          refine lv_lconst (v := 0) hx hb d_M_fits_55 (by decide +kernel) ?_
          refine lv_lstore (lv' := [(7, .long 0), (0, .ref o), (1, .long v0), (3, .long v1), (5, .int v2), (6, .int (nI (v3)))]) hx hb d_M_fits_56 hl (by decide) rfl (fun ls hl => ?_)
          refine lv_bipush (v := nI 7) hx hb d_M_fits_58 (by decide +kernel) ?_
          refine lv_istore (lv' := [(9, .int (nI (7))), (7, .long 0), (0, .ref o), (1, .long v0), (3, .long v1), (5, .int v2), (6, .int (nI (v3)))]) hx hb d_M_fits_60 hl (by decide) rfl (fun ls hl => ?_)
          have lp62 : ∀ (k i4 : Nat) (w3 : Int64) (H : Heap) (locs : List Loc) (ls : Array Slot), 3 ≤ i4 ∧ i4 ≤ 7 → i4 < k → sx_S g E E H0 H locs → lv_has ls 10 [(9, .int (nI (i4))), (7, .long w3), (0, .ref o), (1, .long v0), (3, .long v1), (5, .int v2), (6, .int (nI (v3)))] → W p l e rm_M_fits s m args below meth c H locs 0 0 Q (F0 m 62 ls []) := by
            intro k
            induction k with
            | zero =>
              intro i4 w3 H locs ls hi hk
              exact absurd hk (Nat.not_lt_zero _)
            | succ k ih62 =>
              intro i4 w3 H locs ls hi hk  hS hl
              refine lv_iload hx hb d_M_fits_62 (lv_at hl 0 rfl) ?_
              refine lv_iconst (v := nI 2) hx hb d_M_fits_64 (by decide +kernel) ?_
              refine lv_iload hx hb d_M_fits_65 (lv_at hl 6 rfl) ?_
              refine lv_imul hx hb d_M_fits_67 ?_
              refine sx_ti (y := nI (2 * v3)) (pk_mul _ _) ?_
              refine lv_icmp_lt (tgt := 92) hx hb d_M_fits_68 (by decide) (fun q68 => ?_) (fun q68 => ?_)
              · skip
                have q68 : i4 < (2 * v3) := (nI_ltI (a := i4) (b := (2 * v3)) (by omega) (by omega)).mp q68
                refine lv_lload hx hb d_M_fits_92 (lv_at hl 1 rfl) ?_
                refine lv_iload hx hb d_M_fits_94 (lv_at hl 5 rfl) ?_
                refine sx_i2l hx hb d_M_fits_96 (fun z8 => ?_)
                refine sx_lcmp hx hb d_M_fits_97 (fun z9 => ?_)
                refine lv_if_eq (tgt := 116) hx hb d_M_fits_98 (by decide) (fun _ => ?_) (fun _ => ?_)
                · skip
                  refine lv_iconst (v := nI 0) hx hb d_M_fits_116 (by decide +kernel) ?_
                  refine lv_istore (lv' := [(9, .int (nI (0))), (7, .long w3), (0, .ref o), (1, .long v0), (3, .long v1), (5, .int v2), (6, .int (nI (v3)))]) hx hb d_M_fits_117 hl (by decide) rfl (fun ls hl => ?_)
                  have lp119 : ∀ (k i10 : Nat) (H : Heap) (locs : List Loc) (ls : Array Slot), i10 ≤ 8 → 8 - i10 < k → sx_S g E E H0 H locs → lv_has ls 10 [(9, .int (nI (i10))), (7, .long w3), (0, .ref o), (1, .long v0), (3, .long v1), (5, .int v2), (6, .int (nI (v3)))] → W p l e rm_M_fits s m args below meth c H locs 0 0 Q (F0 m 119 ls []) := by
                    intro k
                    induction k with
                    | zero =>
                      intro i10  H locs ls hi hk
                      exact absurd hk (Nat.not_lt_zero _)
                    | succ k ih119 =>
                      intro i10  H locs ls hi hk  hS hl
                      refine lv_iload hx hb d_M_fits_119 (lv_at hl 0 rfl) ?_
                      refine lv_iconst (v := nI 2) hx hb d_M_fits_121 (by decide +kernel) ?_
                      refine lv_iload hx hb d_M_fits_122 (lv_at hl 6 rfl) ?_
                      refine lv_imul hx hb d_M_fits_124 ?_
                      refine sx_ti (y := nI (2 * v3)) (pk_mul _ _) ?_
                      refine lv_icmp_ge (tgt := 148) hx hb d_M_fits_125 (by decide) (fun q125 => ?_) (fun q125 => ?_)
                      · skip
                        have q125 : (2 * v3) ≤ i10 := (nI_leI (a := (2 * v3)) (b := i10) (by omega) (by omega)).mp q125
                        refine lv_iconst (v := nI 1) hx hb d_M_fits_148 (by decide +kernel) ?_
                        exact hret _ _ _ _ (1) (by omega) hS d_M_fits_149
                      · skip
                        have q125 : ¬ ((2 * v3) ≤ i10) := fun z => q125 ((nI_leI (a := (2 * v3)) (b := i10) (by omega) (by omega)).mpr z)
                        refine lv_aload_n hx hb d_M_fits_128 rfl (lv_at hl 2 rfl) ?_
                        refine sx_get EE (hS.1.ob hE hM.1) rfl i_M 50 (by decide) rfl fl_M_153 rfl d_M_fits_129 ?_
                        refine lv_iload hx hb d_M_fits_132 (lv_at hl 0 rfl) ?_
                        refine sx_lald hx hb hG hS (mo_50 hM) (sx_in (by omega) (by decide)) d_M_fits_134 (fun z11 => ?_)
                        refine lv_lconst (v := 0) hx hb d_M_fits_135 (by decide +kernel) ?_
                        refine sx_lcmp hx hb d_M_fits_136 (fun z12 => ?_)
                        refine lv_if_eq (tgt := 142) hx hb d_M_fits_137 (by decide) (fun _ => ?_) (fun _ => ?_)
                        · skip
                          refine lv_iinc (v := nI (i10 + 1)) (lv' := [(9, .int (nI (i10 + 1))), (7, .long w3), (0, .ref o), (1, .long v0), (3, .long v1), (5, .int v2), (6, .int (nI (v3)))]) hx hb d_M_fits_142 hl (k := 0) rfl (sx_inc _ _) (by decide) rfl (fun ls hl => ?_)
                          refine lv_goto (tgt := 119) hx hb d_M_fits_145 (by decide) ?_
                          exact ih119 (i10 + 1)  _ _ _ (by omega) (by omega)  hS (lv_sub hl [0, 1, 2, 3, 4, 5, 6] rfl)
                        · skip
                          refine lv_iconst (v := nI 0) hx hb d_M_fits_140 (by decide +kernel) ?_
                          exact hret _ _ _ _ (0) (by omega) hS d_M_fits_141
                  exact lp119 (8 - 0 + 1) 0  _ _ _ (by omega) (by omega)  hS (lv_sub hl [0, 1, 2, 3, 4, 5, 6] rfl)
                · skip
                  refine lv_lload hx hb d_M_fits_101 (lv_at hl 1 rfl) ?_
                  refine lv_iload hx hb d_M_fits_103 (lv_at hl 5 rfl) ?_
                  refine sx_i2l hx hb d_M_fits_105 (fun z13 => ?_)
                  refine sx_lcmp hx hb d_M_fits_106 (fun z14 => ?_)
                  have jn115_15 : ∀ (n15 : Nat) (H : Heap) (locs : List Loc) (ls : Array Slot), n15 ≤ 1 → sx_S g E E H0 H locs → lv_has ls 10 [(9, .int (nI (i4))), (7, .long w3), (0, .ref o), (1, .long v0), (3, .long v1), (5, .int v2), (6, .int (nI (v3)))] → W p l e rm_M_fits s m args below meth c H locs 0 0 Q (F0 m 115 ls [.int (nI (n15))]) := by
                    intro n15 H locs ls h_n15 hS hl
                    exact hret _ _ _ _ (n15) (by omega) hS d_M_fits_115
                  refine lv_if_ge (tgt := 114) hx hb d_M_fits_107 (by decide) (fun _ => ?_) (fun _ => ?_)
                  · skip
                    refine lv_iconst (v := nI 0) hx hb d_M_fits_114 (by decide +kernel) ?_
                    exact jn115_15 0 _ _ _ (by omega) hS (lv_sub hl [0, 1, 2, 3, 4, 5, 6] rfl)
                  · skip
                    refine lv_iconst (v := nI 1) hx hb d_M_fits_110 (by decide +kernel) ?_
                    refine lv_goto (tgt := 115) hx hb d_M_fits_111 (by decide) ?_
                    exact jn115_15 1 _ _ _ (by omega) hS (lv_sub hl [0, 1, 2, 3, 4, 5, 6] rfl)
              · skip
                have q68 : ¬ (i4 < (2 * v3)) := fun z => q68 ((nI_ltI (a := i4) (b := (2 * v3)) (by omega) (by omega)).mpr z)
                refine lv_lload hx hb d_M_fits_71 (lv_at hl 1 rfl) ?_
                refine lv_bipush (v := nI 32) hx hb d_M_fits_73 (by decide +kernel) ?_
                refine sx_lshl hx hb d_M_fits_75 (fun z17 => ?_)
                refine lv_aload_n hx hb d_M_fits_76 rfl (lv_at hl 2 rfl) ?_
                refine sx_get EE (hS.1.ob hE hM.1) rfl i_M 50 (by decide) rfl fl_M_153 rfl d_M_fits_77 ?_
                refine lv_iload hx hb d_M_fits_80 (lv_at hl 0 rfl) ?_
                refine sx_lald hx hb hG hS (mo_50 hM) (sx_in (by omega) (by decide)) d_M_fits_82 (fun z18 => ?_)
                refine sx_lor hx hb d_M_fits_83 (fun z19 => ?_)
                refine lv_lstore (lv' := [(7, .long z19), (9, .int (nI (i4))), (0, .ref o), (1, .long v0), (3, .long v1), (5, .int v2), (6, .int (nI (v3)))]) hx hb d_M_fits_84 hl (by decide) rfl (fun ls hl => ?_)
                refine lv_iinc (v := nI (i4 - 1)) (lv' := [(9, .int (nI (i4 - 1))), (7, .long z19), (0, .ref o), (1, .long v0), (3, .long v1), (5, .int v2), (6, .int (nI (v3)))]) hx hb d_M_fits_86 hl (k := 1) rfl (sx_dec (by omega)) (by decide) rfl (fun ls hl => ?_)
                refine lv_goto (tgt := 62) hx hb d_M_fits_89 (by decide) ?_
                exact ih62 (i4 - 1) z19 _ _ _ (by omega) (by omega)  hS (lv_sub hl [0, 1, 2, 3, 4, 5, 6] rfl)
          exact lp62 (7 + 1) 7 0 _ _ _ (by omega) (by omega)  hS (lv_sub hl [0, 1, 2, 3, 4, 5, 6] rfl)
        | succ k ih36 =>
          intro i2  H locs ls hi  hS hl
          refine lv_iload hx hb d_M_fits_36 (lv_at hl 0 rfl) ?_
          refine lv_iload hx hb d_M_fits_38 (lv_at hl 5 rfl) ?_
          refine lv_icmp_ge (tgt := 55) hx hb d_M_fits_40 (by decide) (fun q => absurd q (nI_ge (by omega) (by omega))) (fun _ => ?_)
          refine lv_aload_n hx hb d_M_fits_43 rfl (lv_at hl 1 rfl) ?_
          refine lv_lload_n hx hb d_M_fits_44 rfl (lv_at hl 2 rfl) ?_
          refine lv_lload_n hx hb d_M_fits_45 rfl (lv_at hl 3 rfl) ?_
          refine sx_gv (sx_runV (As := [.long v0, .long v1]) (rest := []) EE (hS.1.ob hE hM.1) rfl rfl (c_M_raise (hM.kept hS.1 hE) hE hW) w_M_252 rfl ⟨rfl, rfl⟩ ⟨Nat.le_of_ble_eq_true rfl, Nat.le_of_ble_eq_true rfl⟩ ⟨Nat.zero_le _, Nat.zero_le _⟩ hl.1 rfl (Nat.le_of_ble_eq_true rfl) d_M_fits_46) hS (fun H locs hS => ?_)
          refine lv_iinc (v := nI (i2 + 1)) (lv' := [(7, .int (nI (i2 + 1))), (0, .ref o), (1, .long v0), (3, .long v1), (5, .int v2), (6, .int (nI (v3)))]) hx hb d_M_fits_49 hl (k := 0) rfl (sx_inc _ _) (by decide) rfl (fun ls hl => ?_)
          refine lv_goto (tgt := 36) hx hb d_M_fits_52 (by decide) ?_
          exact ih36 (i2 + 1)  _ _ _ (by omega)  hS (lv_sub hl [0, 1, 2, 3, 4, 5] rfl)
      exact lp36 ((v3 - 0) / 1) 0  _ _ _ (by omega)  hS (lv_sub hl [0, 1, 2, 3, 4, 5] rfl)
    | succ k ih3 =>
      intro i1  H locs ls hi  hS hl
      refine lv_iload hx hb d_M_fits_3 (lv_at hl 0 rfl) ?_
      refine lv_bipush (v := nI 8) hx hb d_M_fits_5 (by decide +kernel) ?_
      refine lv_icmp_ge (tgt := 33) hx hb d_M_fits_7 (by decide) (fun q => absurd q (nI_ge (by omega) (by omega))) (fun _ => ?_)
      refine lv_aload_n hx hb d_M_fits_10 rfl (lv_at hl 1 rfl) ?_
      refine sx_get EE (hS.1.ob hE hM.1) rfl i_M 50 (by decide) rfl fl_M_153 rfl d_M_fits_11 ?_
      refine lv_iload hx hb d_M_fits_14 (lv_at hl 0 rfl) ?_
      refine lv_iload hx hb d_M_fits_16 (lv_at hl 0 rfl) ?_
      have jn26_20 : ∀ (w20 : Int64) (H : Heap) (locs : List Loc) (ls : Array Slot), sx_S g E E H0 H locs → lv_has ls 10 [(7, .int (nI (i1))), (0, .ref o), (1, .long v0), (3, .long v1), (5, .int v2), (6, .int (nI (v3)))] → W p l e rm_M_fits s m args below meth c H locs 0 0 Q (F0 m 26 ls [.long w20, .int (nI (i1)), .ref (r 50)]) := by
        intro w20 H locs ls  hS hl
        refine sx_last hx hb hG hS (mo_50 hM) (mow_50 hW) (sx_in (by omega) (by decide)) d_M_fits_26 (fun H locs hS => ?_)
        refine lv_iinc (v := nI (i1 + 1)) (lv' := [(7, .int (nI (i1 + 1))), (0, .ref o), (1, .long v0), (3, .long v1), (5, .int v2), (6, .int (nI (v3)))]) hx hb d_M_fits_27 hl (k := 0) rfl (sx_inc _ _) (by decide) rfl (fun ls hl => ?_)
        refine lv_goto (tgt := 3) hx hb d_M_fits_30 (by decide) ?_
        exact ih3 (i1 + 1)  _ _ _ (by omega)  hS (lv_sub hl [0, 1, 2, 3, 4, 5] rfl)
      refine lv_if_ne (tgt := 25) hx hb d_M_fits_18 (by decide) (fun q18 => ?_) (fun q18 => ?_)
      · skip
        have q18 : ¬ (i1 = 0) := fun z => q18 ((nI_eq (a := i1) (b := 0) (by omega) (by omega)).mpr z)
        refine lv_lconst (v := 0) hx hb d_M_fits_25 (by decide +kernel) ?_
        exact jn26_20 0 _ _ _  hS (lv_sub hl [0, 1, 2, 3, 4, 5] rfl)
      · skip
        have q18 : i1 = 0 := (nI_eq (a := i1) (b := 0) (by omega) (by omega)).mp q18
        refine lv_lconst (v := 1) hx hb d_M_fits_21 (by decide +kernel) ?_
        refine lv_goto (tgt := 26) hx hb d_M_fits_22 (by decide) ?_
        exact jn26_20 1 _ _ _  hS (lv_sub hl [0, 1, 2, 3, 4, 5] rfl)
  exact lp3 (8) 0  _ _ _ (by omega)  hS (lv_sub hl [0, 1, 2, 3, 4, 5] rfl)
abbrev rm_M_root : Room := { frames := 2, cells := 0, slots := 0, locals := 61 }
set_option maxHeartbeats 4000000 in
set_option maxRecDepth 100000 in
theorem c_M_root {l : Launch} {D : va_G} {g : ClassId → FieldType → Prop} {E : Nat → Prop} {H0 : Heap} {o : Nat} {r : Nat → Nat} {i : Nat → Int32} {v0 : Int32} {v1 : Nat} (hM : mo_ D g H0 o r i) (hE : ¬ E o) (hW : ∀ q ∈ mo_wr, E (r q.1)) (h1 : 2 ≤ v1 ∧ v1 ≤ 3) : Met l y_M_root (.code y_M_root b_M_root 12 (some .long) :: G_) rm_M_root (sx_Pc [.ref o, .int v0, .int (nI v1)] H0 D g) (sx_Ql g E H0) 0 0 E := by
  refine sx_ml (own := R_M) (by decide) rfl rfl rfl (Nat.le_of_ble_eq_true rfl) ?_
  intro p e s m args below meth c Q ls EE hl hret
  obtain ⟨hx, hb, hml, hown, hts, hG, hK⟩ := id EE
  have hS : sx_S g E E H0 H0 [] := sx_S.rf
  have hl : lv_has ls 12 [(0, .ref o), (1, .int v0), (2, .int (nI (v1)))] := hl
  refine lv_lconst (v := 0) hx hb d_M_root_0 (by decide +kernel) ?_
  refine lv_lstore_n (lv' := [(3, .long 0), (0, .ref o), (1, .int v0), (2, .int (nI (v1)))]) hx hb d_M_root_1 rfl hl (by decide) rfl (fun ls hl => ?_)
  refine lv_lconst (v := 0) hx hb d_M_root_2 (by decide +kernel) ?_
  refine lv_lstore (lv' := [(5, .long 0), (3, .long 0), (0, .ref o), (1, .int v0), (2, .int (nI (v1)))]) hx hb d_M_root_3 hl (by decide) rfl (fun ls hl => ?_)
  refine lv_bipush (v := nI 66) hx hb d_M_root_5 (by decide +kernel) ?_
  refine lv_istore (lv' := [(7, .int (nI (66))), (5, .long 0), (3, .long 0), (0, .ref o), (1, .int v0), (2, .int (nI (v1)))]) hx hb d_M_root_7 hl (by decide) rfl (fun ls hl => ?_)
  have lp9 : ∀ (i3 : Nat) (xi3 : Int32) (w1 : Int64) (w2 : Int64) (H : Heap) (locs : List Loc) (ls : Array Slot), xi3 = nI i3 - 1 → i3 ≤ 66 + 1 → sx_S g E E H0 H locs → lv_has ls 12 [(7, .int xi3), (5, .long w1), (3, .long w2), (0, .ref o), (1, .int v0), (2, .int (nI (v1)))] → W p l e rm_M_root s m args below meth c H locs 0 0 Q (F0 m 9 ls []) := by
    intro i3
    induction i3 with
    | zero =>
      intro xi3 w1 w2 H locs ls ex hi  hS hl
      refine lv_iload hx hb d_M_root_9 (lv_at hl 0 rfl) ?_
      refine lv_if_lt (tgt := 83) hx hb d_M_root_11 (by decide) (fun _ => ?_) (fun q => absurd (by rw [ex]; decide +kernel) q)
      refine lv_lload hx hb d_M_root_83 (lv_at hl 1 rfl) ?_
      exact hret _ _ _ _ w1 hS d_M_root_85
    | succ i3 ih9 =>
      intro xi3 w1 w2 H locs ls ex hi  hS hl
      rw [nI_pred] at ex
      subst ex
      refine lv_iload hx hb d_M_root_9 (lv_at hl 0 rfl) ?_
      refine lv_if_lt (tgt := 83) hx hb d_M_root_11 (by decide) (fun q => absurd q (nI_pos (by omega))) (fun _ => ?_)
      refine lv_iload hx hb d_M_root_14 (lv_at hl 0 rfl) ?_
      refine lv_bipush (v := nI 63) hx hb d_M_root_16 (by decide +kernel) ?_
      have jn34_7 : ∀ (w7 : Int64) (H : Heap) (locs : List Loc) (ls : Array Slot), sx_S g E E H0 H locs → lv_has ls 12 [(7, .int (nI (i3))), (5, .long w1), (3, .long w2), (0, .ref o), (1, .int v0), (2, .int (nI (v1)))] → W p l e rm_M_root s m args below meth c H locs 0 0 Q (F0 m 34 ls [.long w7]) := by
        intro w7 H locs ls  hS hl
        refine lv_lstore (lv' := [(8, .long w7), (7, .int (nI (i3))), (5, .long w1), (3, .long w2), (0, .ref o), (1, .int v0), (2, .int (nI (v1)))]) hx hb d_M_root_34 hl (by decide) rfl (fun ls hl => ?_)
        refine lv_iload hx hb d_M_root_36 (lv_at hl 1 rfl) ?_
        refine lv_bipush (v := nI 63) hx hb d_M_root_38 (by decide +kernel) ?_
        have jn55_11 : ∀ (w11 : Int64) (H : Heap) (locs : List Loc) (ls : Array Slot), sx_S g E E H0 H locs → lv_has ls 12 [(8, .long w7), (7, .int (nI (i3))), (5, .long w1), (3, .long w2), (0, .ref o), (1, .int v0), (2, .int (nI (v1)))] → W p l e rm_M_root s m args below meth c H locs 0 0 Q (F0 m 55 ls [.long w11]) := by
          intro w11 H locs ls  hS hl
          refine lv_lstore (lv' := [(10, .long w11), (8, .long w7), (7, .int (nI (i3))), (5, .long w1), (3, .long w2), (0, .ref o), (1, .int v0), (2, .int (nI (v1)))]) hx hb d_M_root_55 hl (by decide) rfl (fun ls hl => ?_)
          refine lv_aload_n hx hb d_M_root_57 rfl (lv_at hl 5 rfl) ?_
          refine lv_lload hx hb d_M_root_58 (lv_at hl 1 rfl) ?_
          refine lv_lload hx hb d_M_root_60 (lv_at hl 0 rfl) ?_
          refine lv_iload_n hx hb d_M_root_62 rfl (lv_at hl 6 rfl) ?_
          refine lv_iload_n hx hb d_M_root_63 rfl (lv_at hl 7 rfl) ?_
          refine sx_gn (sx_runV (As := [.long w7, .long w11, .int v0, .int (nI (v1))]) (rest := []) EE (hS.1.ob hE hM.1) rfl rfl (c_M_fits (hM.kept hS.1 hE) hE hW (by omega)) w_M_248 rfl ⟨rfl, rfl⟩ ⟨Nat.le_of_ble_eq_true rfl, Nat.le_of_ble_eq_true rfl⟩ ⟨Nat.zero_le _, Nat.zero_le _⟩ hl.1 rfl (Nat.le_of_ble_eq_true rfl) d_M_root_64) hS (fun n13 h_n13 H locs hS => ?_)
          have h_n13 : n13 ≤ 1 := h_n13
          have jn77_15 : ∀ (w14 : Int64) (w15 : Int64) (H : Heap) (locs : List Loc) (ls : Array Slot), sx_S g E E H0 H locs → lv_has ls 12 [(10, .long w11), (8, .long w7), (7, .int (nI (i3))), (5, .long w14), (3, .long w15), (0, .ref o), (1, .int v0), (2, .int (nI (v1)))] → W p l e rm_M_root s m args below meth c H locs 0 0 Q (F0 m 77 ls []) := by
            intro w14 w15 H locs ls  hS hl
            refine lv_iinc (v := nI i3 - 1) (lv' := [(7, .int (nI i3 - 1)), (10, .long w11), (8, .long w7), (5, .long w14), (3, .long w15), (0, .ref o), (1, .int v0), (2, .int (nI (v1)))]) hx hb d_M_root_77 hl (k := 2) rfl (sx_dn _) (by decide) rfl (fun ls hl => ?_)
            refine lv_goto (tgt := 9) hx hb d_M_root_80 (by decide) ?_
            exact ih9 _ w14 w15 _ _ _ rfl (by omega)  hS (lv_sub hl [0, 3, 4, 5, 6, 7] rfl)
          refine lv_if_eq (tgt := 77) hx hb d_M_root_67 (by decide) (fun q67 => ?_) (fun q67 => ?_)
          · skip
            have q67 : n13 = 0 := (nI_eq (a := n13) (b := 0) (by omega) (by omega)).mp q67
            exact jn77_15 w1 w2 _ _ _  hS (lv_sub hl [0, 1, 2, 3, 4, 5, 6, 7] rfl)
          · skip
            have q67 : ¬ (n13 = 0) := fun z => q67 ((nI_eq (a := n13) (b := 0) (by omega) (by omega)).mpr z)
            refine lv_lload hx hb d_M_root_70 (lv_at hl 1 rfl) ?_
            refine lv_lstore_n (lv' := [(3, .long w7), (10, .long w11), (8, .long w7), (7, .int (nI (i3))), (5, .long w1), (0, .ref o), (1, .int v0), (2, .int (nI (v1)))]) hx hb d_M_root_72 rfl hl (by decide) rfl (fun ls hl => ?_)
            refine lv_lload hx hb d_M_root_73 (lv_at hl 1 rfl) ?_
            refine lv_lstore (lv' := [(5, .long w11), (3, .long w7), (10, .long w11), (8, .long w7), (7, .int (nI (i3))), (0, .ref o), (1, .int v0), (2, .int (nI (v1)))]) hx hb d_M_root_75 hl (by decide) rfl (fun ls hl => ?_)
            exact jn77_15 w11 w7 _ _ _  hS (lv_sub hl [2, 3, 4, 0, 1, 5, 6, 7] rfl)
        refine lv_icmp_le (tgt := 48) hx hb d_M_root_40 (by decide) (fun q40 => ?_) (fun q40 => ?_)
        · skip
          have q40 : i3 ≤ 63 := (nI_leI (a := i3) (b := 63) (by omega) (by omega)).mp q40
          refine lv_lload hx hb d_M_root_48 (lv_at hl 2 rfl) ?_
          refine lv_lconst (v := 1) hx hb d_M_root_50 (by decide +kernel) ?_
          refine lv_iload hx hb d_M_root_51 (lv_at hl 1 rfl) ?_
          refine sx_lshl hx hb d_M_root_53 (fun z17 => ?_)
          refine sx_lor hx hb d_M_root_54 (fun z18 => ?_)
          exact jn55_11 z18 _ _ _  hS (lv_sub hl [0, 1, 2, 3, 4, 5, 6] rfl)
        · skip
          have q40 : ¬ (i3 ≤ 63) := fun z => q40 ((nI_leI (a := i3) (b := 63) (by omega) (by omega)).mpr z)
          refine lv_lload hx hb d_M_root_43 (lv_at hl 2 rfl) ?_
          refine lv_goto (tgt := 55) hx hb d_M_root_45 (by decide) ?_
          exact jn55_11 w1 _ _ _  hS (lv_sub hl [0, 1, 2, 3, 4, 5, 6] rfl)
      refine lv_icmp_le (tgt := 33) hx hb d_M_root_18 (by decide) (fun q18 => ?_) (fun q18 => ?_)
      · skip
        have q18 : i3 ≤ 63 := (nI_leI (a := i3) (b := 63) (by omega) (by omega)).mp q18
        refine lv_lload_n hx hb d_M_root_33 rfl (lv_at hl 2 rfl) ?_
        exact jn34_7 w2 _ _ _  hS (lv_sub hl [0, 1, 2, 3, 4, 5] rfl)
      · skip
        have q18 : ¬ (i3 ≤ 63) := fun z => q18 ((nI_leI (a := i3) (b := 63) (by omega) (by omega)).mpr z)
        refine lv_lload_n hx hb d_M_root_21 rfl (lv_at hl 2 rfl) ?_
        refine lv_lconst (v := 1) hx hb d_M_root_22 (by decide +kernel) ?_
        refine lv_iload hx hb d_M_root_23 (lv_at hl 0 rfl) ?_
        refine lv_bipush (v := nI 64) hx hb d_M_root_25 (by decide +kernel) ?_
        refine sx_isub hx hb d_M_root_27 (fun x19 => ?_)
        refine sx_lshl hx hb d_M_root_28 (fun z20 => ?_)
        refine sx_lor hx hb d_M_root_29 (fun z21 => ?_)
        refine lv_goto (tgt := 34) hx hb d_M_root_30 (by decide) ?_
        exact jn34_7 z21 _ _ _  hS (lv_sub hl [0, 1, 2, 3, 4, 5] rfl)
  exact lp9 67 _ 0 0 _ _ _ (nI_pred _).symm (by omega)  hS (lv_sub hl [0, 1, 2, 3, 4, 5] rfl)
abbrev rm_M_constants : Room := { frames := 3, cells := 0, slots := 0, locals := 92 }
set_option maxHeartbeats 4000000 in
set_option maxRecDepth 100000 in
theorem c_M_constants {l : Launch} {D : va_G} {g : ClassId → FieldType → Prop} {E : Nat → Prop} {H0 : Heap} {o : Nat} {r : Nat → Nat} {i : Nat → Int32} (hM : mo_ D g H0 o r i) (hE : ¬ E o) (hW : ∀ q ∈ mo_wr, E (r q.1)) : Met l y_M_constants (.code y_M_constants b_M_constants 3 none :: G_) rm_M_constants (sx_Pc [.ref o] H0 D g) (sx_Qv g E H0) 0 0 E := by
  refine sx_mv (own := R_M) (by decide) rfl rfl rfl (Nat.le_of_ble_eq_true rfl) ?_
  intro p e s m args below meth c Q ls EE hl hret
  obtain ⟨hx, hb, hml, hown, hts, hG, hK⟩ := id EE
  have hS : sx_S g E E H0 H0 [] := sx_S.rf
  have hl : lv_has ls 3 [(0, .ref o)] := hl
  refine lv_iconst (v := nI 1) hx hb d_M_constants_0 (by decide +kernel) ?_
  refine lv_istore_n (lv' := [(1, .int (nI (1))), (0, .ref o)]) hx hb d_M_constants_1 rfl hl (by decide) rfl (fun ls hl => ?_)
  refine lv_iconst (v := nI 0) hx hb d_M_constants_2 (by decide +kernel) ?_
  refine lv_istore_n (lv' := [(2, .int (nI (0))), (1, .int (nI (1))), (0, .ref o)]) hx hb d_M_constants_3 rfl hl (by decide) rfl (fun ls hl => ?_)
  have lp4 : ∀ (k i2 : Nat) (n1 : Nat) (H : Heap) (locs : List Loc) (ls : Array Slot), i2 + k = 80 → n1 ≤ pl_ i2 → sx_S g E E H0 H locs → lv_has ls 3 [(2, .int (nI (i2))), (1, .int (nI (n1))), (0, .ref o)] → W p l e rm_M_constants s m args below meth c H locs 0 0 Q (F0 m 4 ls []) := by
    intro k
    induction k with
    | zero =>
      intro i2 n1 H locs ls hi h_n1 hS hl
      refine lv_iload_n hx hb d_M_constants_4 rfl (lv_at hl 0 rfl) ?_
      refine lv_bipush (v := nI 80) hx hb d_M_constants_5 (by decide +kernel) ?_
      refine lv_icmp_ge (tgt := 51) hx hb d_M_constants_7 (by decide) (fun _ => ?_) (fun q => absurd (nI_le (by omega) (by omega)) q)
      exact hret _ _ _ _ hS d_M_constants_51
    | succ k ih4 =>
      intro i2 n1 H locs ls hi h_n1 hS hl
      refine lv_iload_n hx hb d_M_constants_4 rfl (lv_at hl 0 rfl) ?_
      refine lv_bipush (v := nI 80) hx hb d_M_constants_5 (by decide +kernel) ?_
      refine lv_icmp_ge (tgt := 51) hx hb d_M_constants_7 (by decide) (fun q => absurd q (nI_ge (by omega) (by omega))) (fun _ => ?_)
      refine lv_iload_n hx hb d_M_constants_10 rfl (lv_at hl 1 rfl) ?_
      have hpl := pl_ok i2 (by omega)
      refine sx_gn (sx_runS (As := [.int (nI (n1))]) (rest := []) EE (c_M_prime (q := pl_ (i2 + 1)) (by omega) (by omega) hpl.2.2) w_M_241 rfl ⟨rfl, rfl⟩ ⟨Nat.le_of_ble_eq_true rfl, Nat.le_of_ble_eq_true rfl⟩ ⟨Nat.zero_le _, Nat.zero_le _⟩ hl.1 rfl (Nat.le_of_ble_eq_true rfl) d_M_constants_11) hS (fun n3 h_n3 H locs hS => ?_)
      have h_n3 : n3 ≤ pl_ (i2 + 1) := h_n3
      refine lv_istore_n (lv' := [(1, .int (nI (n3))), (2, .int (nI (i2))), (0, .ref o)]) hx hb d_M_constants_14 rfl hl (by decide) rfl (fun ls hl => ?_)
      refine lv_aload_n hx hb d_M_constants_15 rfl (lv_at hl 2 rfl) ?_
      refine sx_get EE (hS.1.ob hE hM.1) rfl i_M 46 (by decide) rfl fl_M_141 rfl d_M_constants_16 ?_
      refine lv_iload_n hx hb d_M_constants_19 rfl (lv_at hl 1 rfl) ?_
      refine lv_aload_n hx hb d_M_constants_20 rfl (lv_at hl 2 rfl) ?_
      refine lv_iload_n hx hb d_M_constants_21 rfl (lv_at hl 0 rfl) ?_
      refine lv_iconst (v := nI 3) hx hb d_M_constants_22 (by decide +kernel) ?_
      refine sx_gl (sx_runV (As := [.int (nI (n3)), .int (nI (3))]) (rest := [.int (nI (i2)), .ref (r 46)]) EE (hS.1.ob hE hM.1) rfl rfl (c_M_root (hM.kept hS.1 hE) hE hW (by omega)) w_M_245 rfl ⟨rfl, rfl⟩ ⟨Nat.le_of_ble_eq_true rfl, Nat.le_of_ble_eq_true rfl⟩ ⟨Nat.zero_le _, Nat.zero_le _⟩ hl.1 rfl (Nat.le_of_ble_eq_true rfl) d_M_constants_23) hS (fun w4 H locs hS => ?_)
      refine sx_last hx hb hG hS (mo_46 hM) (mow_46 hW) (sx_in (by omega) (by decide)) d_M_constants_26 (fun H locs hS => ?_)
      refine lv_iload_n hx hb d_M_constants_27 rfl (lv_at hl 1 rfl) ?_
      refine lv_bipush (v := nI 8) hx hb d_M_constants_28 (by decide +kernel) ?_
      have jn45_5 : ∀ (H : Heap) (locs : List Loc) (ls : Array Slot), sx_S g E E H0 H locs → lv_has ls 3 [(1, .int (nI (n3))), (2, .int (nI (i2))), (0, .ref o)] → W p l e rm_M_constants s m args below meth c H locs 0 0 Q (F0 m 45 ls []) := by
        intro  H locs ls  hS hl
        refine lv_iinc (v := nI (i2 + 1)) (lv' := [(2, .int (nI (i2 + 1))), (1, .int (nI (n3))), (0, .ref o)]) hx hb d_M_constants_45 hl (k := 1) rfl (sx_inc _ _) (by decide) rfl (fun ls hl => ?_)
        refine lv_goto (tgt := 4) hx hb d_M_constants_48 (by decide) ?_
        exact ih4 (i2 + 1) n3 _ _ _ (by omega) h_n3 hS (lv_sub hl [0, 1, 2] rfl)
      refine lv_icmp_ge (tgt := 45) hx hb d_M_constants_30 (by decide) (fun q30 => ?_) (fun q30 => ?_)
      · skip
        have q30 : 8 ≤ i2 := (nI_leI (a := 8) (b := i2) (by omega) (by omega)).mp q30
        exact jn45_5  _ _ _  hS (lv_sub hl [0, 1, 2] rfl)
      · skip
        have q30 : ¬ (8 ≤ i2) := fun z => q30 ((nI_leI (a := 8) (b := i2) (by omega) (by omega)).mpr z)
        refine lv_aload_n hx hb d_M_constants_33 rfl (lv_at hl 2 rfl) ?_
        refine sx_get EE (hS.1.ob hE hM.1) rfl i_M 47 (by decide) rfl fl_M_144 rfl d_M_constants_34 ?_
        refine lv_iload_n hx hb d_M_constants_37 rfl (lv_at hl 1 rfl) ?_
        refine lv_aload_n hx hb d_M_constants_38 rfl (lv_at hl 2 rfl) ?_
        refine lv_iload_n hx hb d_M_constants_39 rfl (lv_at hl 0 rfl) ?_
        refine lv_iconst (v := nI 2) hx hb d_M_constants_40 (by decide +kernel) ?_
        refine sx_gl (sx_runV (As := [.int (nI (n3)), .int (nI (2))]) (rest := [.int (nI (i2)), .ref (r 47)]) EE (hS.1.ob hE hM.1) rfl rfl (c_M_root (hM.kept hS.1 hE) hE hW (by omega)) w_M_245 rfl ⟨rfl, rfl⟩ ⟨Nat.le_of_ble_eq_true rfl, Nat.le_of_ble_eq_true rfl⟩ ⟨Nat.zero_le _, Nat.zero_le _⟩ hl.1 rfl (Nat.le_of_ble_eq_true rfl) d_M_constants_41) hS (fun w7 H locs hS => ?_)
        refine sx_last hx hb hG hS (mo_47 hM) (mow_47 hW) (sx_in (by omega) (by decide)) d_M_constants_44 (fun H locs hS => ?_)
        exact jn45_5  _ _ _  hS (lv_sub hl [0, 1, 2] rfl)
  exact lp4 (80) 0 1 _ _ _ (by omega) (by decide) hS (lv_sub hl [0, 1, 2] rfl)
