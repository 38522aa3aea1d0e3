/-! frames of the reference -/
def mvar (k : Nat) : Bool := (Nat.ble 18 k && Nat.ble k 52 && !(k == 30 || k == 46 || k == 47)) || k == 9
section FRN
variable {K : Nat → Prop} {X : vM}
theorem onP.e {d : Nat} {f : Nat → vM → vM ⊕ vM} (hf : ∀ i Y, onP K Y (Sum.elim id id (f i Y))) : ∀ n i (X : vM), onP K X (Sum.elim id id (lpE d f n i X))
  | 0, i, X => onP.rf
  | n + 1, i, X => by
    show onP K X (Sum.elim id id (Sum.elim Sum.inl (fun t => lpE d f n (i + d) t) (f i X)))
    have h := hf i X
    cases hc : f i X with
    | inl Y =>
      rw [hc] at h
      exact h
    | inr Y =>
      rw [hc] at h
      exact h.tr (onP.e hf n (i + d) Y)
theorem onP.ep {σ : Type} {d : Nat} {f : Nat → vM × σ → (vM × σ) ⊕ (vM × σ)} (hf : ∀ i Y, onP K Y.1 (Sum.elim id id (f i Y)).1) : ∀ n i (X : vM × σ), onP K X.1 (Sum.elim id id (lpE d f n i X)).1
  | 0, i, X => onP.rf
  | n + 1, i, X => by
    show onP K X.1 (Sum.elim id id (Sum.elim Sum.inl (fun t => lpE d f n (i + d) t) (f i X))).1
    have h := hf i X
    cases hc : f i X with
    | inl Y =>
      rw [hc] at h
      exact h
    | inr Y =>
      rw [hc] at h
      exact h.tr (onP.ep hf n (i + d) Y)
theorem on_ifS {c : Prop} [Decidable c] {A B : vM ⊕ vM} (h1 : onP K X (Sum.elim id id A)) (h2 : onP K X (Sum.elim id id B)) : onP K X (Sum.elim id id (if c then A else B)) := by
  split
  · exact h1
  · exact h2
theorem on_ifSp {σ : Type} {c : Prop} [Decidable c] {A B : (vM × σ) ⊕ (vM × σ)} (h1 : onP K X (Sum.elim id id A).1) (h2 : onP K X (Sum.elim id id B).1) : onP K X (Sum.elim id id (if c then A else B)).1 := by
  split
  · exact h1
  · exact h2
theorem on_ifp {σ : Type} {c : Prop} [Decidable c] {A B : vM × σ} (h1 : onP K X A.1) (h2 : onP K X B.1) : onP K X (if c then A else B).1 := by
  split
  · exact h1
  · exact h2
theorem on_M_less_5 {a1 : Nat} {a2 : Nat} {a0 : Nat} (h_a0 : K a0) (i_0 : Nat) (s_1 : vM × Int64) : onP K s_1.1 (LL_M_less_5 a1 a2 a0 i_0 s_1).1 := by
  unfold LL_M_less_5
  refine onP.sl h_a0 ?_
  exact onP.rf
theorem on_M_less {a0 : Nat} {a1 : Nat} {a2 : Nat} (h_a0 : K a0) : onP K X (LF_M_less X a0 a1 a2) := by
  unfold LF_M_less
  refine onP.tr ?_ (onP.v (fun i_ Y_ => (on_M_less_5 h_a0) i_ Y_) _ _ _)
  exact onP.rf
theorem on_M_reduce_220 {a0 : Nat} {a1 : Nat} (h_a0 : K a0) (i_0 : Nat) (s_1 : vM) : onP K s_1 (Sum.elim id id (LL_M_reduce_220 a0 a1 i_0 s_1)) := by
  unfold LL_M_reduce_220
  refine on_ifS ?_ ?_
  · skip
    show onP K s_1 _
    exact onP.rf
  · skip
    show onP K s_1 _
    refine onP.tr ?_ (on_M_less h_a0)
    exact onP.rf
theorem on_M_reduce_193 {a0 : Nat} {r : Nat → Nat} (h_a0 : K a0) (i_0 : Nat) (s_1 : vM) : onP K s_1 (LL_M_reduce_193 a0 r i_0 s_1) := by
  unfold LL_M_reduce_193
  refine onP.sl h_a0 ?_
  exact onP.rf
theorem on_M_reduce_154 {r : Nat → Nat} {R_0 : (vM × Int64)} {a2 : Nat} (hK : ∀ k, mvar k = true → K (r k))  (i_1 : Nat) (s_2 : vM) : onP K s_2 (LL_M_reduce_154 r R_0 a2 i_1 s_2) := by
  unfold LL_M_reduce_154
  refine onP.sl (hK 41 rfl) ?_
  exact onP.rf
theorem on_M_reduce_102 {r : Nat → Nat} (hK : ∀ k, mvar k = true → K (r k))  (i_0 : Nat) (s_1 : vM × Int64) : onP K s_1.1 (LL_M_reduce_102 r i_0 s_1).1 := by
  unfold LL_M_reduce_102
  refine onP.sl (hK 41 rfl) ?_
  exact onP.rf
theorem on_M_reduce_82 {r : Nat → Nat} {a2 : Nat} (hK : ∀ k, mvar k = true → K (r k))  (i_0 : Nat) (s_1 : vM × Int64) : onP K s_1.1 (Sum.elim id id (LL_M_reduce_82 r a2 i_0 s_1)).1 := by
  unfold LL_M_reduce_82
  refine on_ifSp ?_ ?_
  · skip
    show onP K s_1.1 _
    exact onP.rf
  · skip
    show onP K s_1.1 _
    refine onP.tr ?_ (onP.u (fun i_ Y_ => (on_M_reduce_154 hK) i_ Y_) _ _ _)
    refine onP.tr ?_ (onP.v (fun i_ Y_ => (on_M_reduce_102 hK) i_ Y_) _ _ _)
    exact onP.rf
theorem on_M_reduce_3 {r : Nat → Nat} {a2 : Nat} (hK : ∀ k, mvar k = true → K (r k))  (i_0 : Nat) (s_1 : vM) : onP K s_1 (LL_M_reduce_3 r a2 i_0 s_1) := by
  unfold LL_M_reduce_3
  refine onP.sl (hK 41 rfl) ?_
  exact onP.rf
theorem on_M_reduce {r : Nat → Nat} {a0 : Nat} {a1 : Nat} {a2 : Nat} (hK : ∀ k, mvar k = true → K (r k)) (h_a0 : K a0) : onP K X (LF_M_reduce X r a0 a1 a2) := by
  unfold LF_M_reduce
  refine onP.tr ?_ (onP.e (fun i_ Y_ => (on_M_reduce_220 h_a0) i_ Y_) _ _ _)
  refine onP.tr ?_ (onP.u (fun i_ Y_ => (on_M_reduce_193 h_a0) i_ Y_) _ _ _)
  refine onP.tr ?_ (onP.ep (fun i_ Y_ => (on_M_reduce_82 hK) i_ Y_) _ _ _)
  refine onP.tr ?_ (onP.u (fun i_ Y_ => (on_M_reduce_3 hK) i_ Y_) _ _ _)
  exact onP.rf
theorem on_M_times_40 {r : Nat → Nat} {i_0 : Nat} {a1 : Nat} {a2 : Nat} (hK : ∀ k, mvar k = true → K (r k))  (i_1 : Nat) (s_2 : vM × Int64) : onP K s_2.1 (LL_M_times_40 r i_0 a1 a2 i_1 s_2).1 := by
  unfold LL_M_times_40
  refine onP.sl (hK 40 rfl) ?_
  exact onP.rf
theorem on_M_times_27 {r : Nat → Nat} {a1 : Nat} {a2 : Nat} (hK : ∀ k, mvar k = true → K (r k))  (i_0 : Nat) (s_1 : vM) : onP K s_1 (LL_M_times_27 r a1 a2 i_0 s_1) := by
  unfold LL_M_times_27
  refine onP.sl (hK 40 rfl) ?_
  refine onP.tr ?_ (onP.v (fun i_ Y_ => (on_M_times_40 hK) i_ Y_) _ _ _)
  exact onP.rf
theorem on_M_times_3 {r : Nat → Nat} (hK : ∀ k, mvar k = true → K (r k))  (i_0 : Nat) (s_1 : vM) : onP K s_1 (LL_M_times_3 r i_0 s_1) := by
  unfold LL_M_times_3
  refine onP.sl (hK 40 rfl) ?_
  exact onP.rf
theorem on_M_times {r : Nat → Nat} {a0 : Nat} {a1 : Nat} {a2 : Nat} {a3 : Nat} {a4 : Nat} (hK : ∀ k, mvar k = true → K (r k)) (h_a0 : K a0) : onP K X (LF_M_times X r a0 a1 a2 a3 a4) := by
  unfold LF_M_times
  refine onP.tr ?_ (on_M_reduce hK h_a0)
  refine onP.tr ?_ (onP.u (fun i_ Y_ => (on_M_times_27 hK) i_ Y_) _ _ _)
  refine onP.tr ?_ (onP.u (fun i_ Y_ => (on_M_times_3 hK) i_ Y_) _ _ _)
  exact onP.rf
theorem on_M_copy_2 {a0 : Nat} {a1 : Nat} (h_a0 : K a0) (i_0 : Nat) (s_1 : vM) : onP K s_1 (LL_M_copy_2 a0 a1 i_0 s_1) := by
  unfold LL_M_copy_2
  refine onP.sl h_a0 ?_
  exact onP.rf
theorem on_M_copy {a0 : Nat} {a1 : Nat} (h_a0 : K a0) : onP K X (LF_M_copy X a0 a1) := by
  unfold LF_M_copy
  refine onP.tr ?_ (onP.u (fun i_ Y_ => (on_M_copy_2 h_a0) i_ Y_) _ _ _)
  exact onP.rf
theorem on_M_power_13 {r : Nat → Nat} {a2 : Nat} {a1 : Nat} (hK : ∀ k, mvar k = true → K (r k))  (i_0 : Nat) (s_1 : vM) : onP K s_1 (LL_M_power_13 r a2 a1 i_0 s_1) := by
  unfold LL_M_power_13
  refine on_if ?_ ?_
  · skip
    refine onP.tr ?_ (on_M_times hK (hK 28 rfl))
    refine onP.tr ?_ (on_M_times hK (hK 28 rfl))
    exact onP.rf
  · skip
    refine onP.tr ?_ (on_M_times hK (hK 28 rfl))
    exact onP.rf
theorem on_M_set_2 {v1 : Int32} {a0 : Nat} (h_a0 : K a0) (i_0 : Nat) (s_1 : vM) : onP K s_1 (LL_M_set_2 v1 a0 i_0 s_1) := by
  unfold LL_M_set_2
  refine onP.sl h_a0 ?_
  exact onP.rf
theorem on_M_set {a0 : Nat} {v1 : Int32} (h_a0 : K a0) : onP K X (LF_M_set X a0 v1) := by
  unfold LF_M_set
  refine onP.tr ?_ (onP.u (fun i_ Y_ => (on_M_set_2 h_a0) i_ Y_) _ _ _)
  exact onP.rf
theorem on_M_power {r : Nat → Nat} {a0 : Nat} {a1 : Nat} {a2 : Nat} (hK : ∀ k, mvar k = true → K (r k)) (h_a0 : K a0) : onP K X (LF_M_power X r a0 a1 a2) := by
  unfold LF_M_power
  refine onP.tr ?_ (on_M_copy h_a0)
  refine onP.tr ?_ (onP.d (N := 256) (fun i_ Y_ _ => (on_M_power_13 hK) i_ Y_) _ _ (Nat.le_refl _))
  refine onP.tr ?_ (on_M_set (hK 28 rfl))
  exact onP.rf
theorem on_M_decode_214 {r : Nat → Nat} (hK : ∀ k, mvar k = true → K (r k))  (i_0 : Nat) (s_1 : vM) : onP K s_1 (LL_M_decode_214 r i_0 s_1) := by
  unfold LL_M_decode_214
  refine onP.sl (hK 27 rfl) ?_
  exact onP.rf
theorem on_M_half_64 {a0 : Nat} (h_a0 : K a0) (i_0 : Nat) (s_1 : vM) : onP K s_1 (LL_M_half_64 a0 i_0 s_1) := by
  unfold LL_M_half_64
  refine onP.sl h_a0 ?_
  exact onP.rf
theorem on_M_half_15 {a0 : Nat} {a1 : Nat} (h_a0 : K a0) (i_0 : Nat) (s_1 : vM × Int64) : onP K s_1.1 (LL_M_half_15 a0 a1 i_0 s_1).1 := by
  unfold LL_M_half_15
  refine onP.sl h_a0 ?_
  exact onP.rf
theorem on_M_half {a0 : Nat} {a1 : Nat} (h_a0 : K a0) : onP K X (LF_M_half X a0 a1) := by
  unfold LF_M_half
  refine onP.sl h_a0 ?_
  refine onP.tr ?_ (onP.u (fun i_ Y_ => (on_M_half_64 h_a0) i_ Y_) _ _ _)
  refine on_if ?_ ?_
  · skip
    refine onP.sl h_a0 ?_
    refine onP.tr ?_ (onP.v (fun i_ Y_ => (on_M_half_15 h_a0) i_ Y_) _ _ _)
    exact onP.rf
  · skip
    exact onP.rf
theorem on_M_halve_2 {a0 : Nat} (h_a0 : K a0) (i_0 : Nat) (s_1 : vM) : onP K s_1 (LL_M_halve_2 a0 i_0 s_1) := by
  unfold LL_M_halve_2
  refine onP.sl h_a0 ?_
  exact onP.rf
theorem on_M_halve {a0 : Nat} (h_a0 : K a0) : onP K X (LF_M_halve X a0) := by
  unfold LF_M_halve
  refine onP.tr ?_ (onP.u (fun i_ Y_ => (on_M_halve_2 h_a0) i_ Y_) _ _ _)
  exact onP.rf
theorem on_M_minus_6 {a1 : Nat} {a2 : Nat} {a0 : Nat} (h_a0 : K a0) (i_0 : Nat) (s_1 : vM × Int64) : onP K s_1.1 (LL_M_minus_6 a1 a2 a0 i_0 s_1).1 := by
  unfold LL_M_minus_6
  refine onP.sl h_a0 ?_
  exact onP.rf
theorem on_M_minus_71 {a0 : Nat} {a3 : Nat} (h_a0 : K a0) (i_0 : Nat) (s_1 : vM × Int64) : onP K s_1.1 (LL_M_minus_71 a0 a3 i_0 s_1).1 := by
  unfold LL_M_minus_71
  refine onP.sl h_a0 ?_
  exact onP.rf
theorem on_M_minus {a0 : Nat} {a1 : Nat} {a2 : Nat} {a3 : Nat} (h_a0 : K a0) : onP K X (LF_M_minus X a0 a1 a2 a3) := by
  unfold LF_M_minus
  refine on_if ?_ ?_
  · skip
    refine onP.tr ?_ (onP.v (fun i_ Y_ => (on_M_minus_6 h_a0) i_ Y_) _ _ _)
    exact onP.rf
  · skip
    refine onP.tr ?_ (onP.v (fun i_ Y_ => (on_M_minus_71 h_a0) i_ Y_) _ _ _)
    refine onP.tr ?_ (onP.v (fun i_ Y_ => (on_M_minus_6 h_a0) i_ Y_) _ _ _)
    exact onP.rf
theorem on_M_inverse_51 {a1 : Nat} {r : Nat → Nat} {a2 : Nat} (hK : ∀ k, mvar k = true → K (r k))  (i_0 : Nat) (s_1 : vM) : onP K s_1 (Sum.elim id id (LL_M_inverse_51 a1 r a2 i_0 s_1)) := by
  unfold LL_M_inverse_51
  refine on_ifS ?_ ?_
  · skip
    show onP K s_1 _
    exact onP.rf
  · skip
    refine on_ifS ?_ ?_
    · skip
      show onP K s_1 _
      exact onP.rf
    · skip
      refine on_ifS ?_ ?_
      · skip
        show onP K s_1 _
        exact onP.rf
      · skip
        show onP K s_1 _
        refine on_if ?_ ?_
        · skip
          refine onP.tr ?_ (on_M_half (hK 44 rfl))
          refine onP.tr ?_ (on_M_halve (hK 42 rfl))
          exact onP.rf
        · skip
          refine on_if ?_ ?_
          · skip
            refine onP.tr ?_ (on_M_half (hK 45 rfl))
            refine onP.tr ?_ (on_M_halve (hK 43 rfl))
            exact onP.rf
          · skip
            refine on_if ?_ ?_
            · skip
              refine onP.tr ?_ (on_M_minus (hK 45 rfl))
              refine onP.tr ?_ (on_M_less (hK 43 rfl))
              exact onP.rf
            · skip
              refine onP.tr ?_ (on_M_minus (hK 44 rfl))
              refine onP.tr ?_ (on_M_less (hK 42 rfl))
              exact onP.rf
theorem on_M_inverse {r : Nat → Nat} {a0 : Nat} {a1 : Nat} {a2 : Nat} (hK : ∀ k, mvar k = true → K (r k)) (h_a0 : K a0) : onP K X (LF_M_inverse X r a0 a1 a2) := by
  unfold LF_M_inverse
  refine on_if ?_ ?_
  · skip
    refine onP.tr ?_ (on_M_set h_a0)
    refine onP.tr ?_ (onP.e (fun i_ Y_ => (on_M_inverse_51 hK) i_ Y_) _ _ _)
    refine onP.sl (hK 45 rfl) ?_
    refine onP.sl (hK 44 rfl) ?_
    refine onP.tr ?_ (on_M_set (hK 45 rfl))
    refine onP.tr ?_ (on_M_set (hK 44 rfl))
    refine onP.tr ?_ (on_M_copy (hK 43 rfl))
    refine onP.tr ?_ (on_M_copy (hK 42 rfl))
    exact onP.rf
  · skip
    refine onP.tr ?_ (on_M_copy h_a0)
    refine onP.tr ?_ (onP.e (fun i_ Y_ => (on_M_inverse_51 hK) i_ Y_) _ _ _)
    refine onP.sl (hK 45 rfl) ?_
    refine onP.sl (hK 44 rfl) ?_
    refine onP.tr ?_ (on_M_set (hK 45 rfl))
    refine onP.tr ?_ (on_M_set (hK 44 rfl))
    refine onP.tr ?_ (on_M_copy (hK 43 rfl))
    refine onP.tr ?_ (on_M_copy (hK 42 rfl))
    exact onP.rf
theorem on_M_plus_6 {a1 : Nat} {a2 : Nat} {a0 : Nat} (h_a0 : K a0) (i_0 : Nat) (s_1 : vM × Int64) : onP K s_1.1 (LL_M_plus_6 a1 a2 a0 i_0 s_1).1 := by
  unfold LL_M_plus_6
  refine onP.sl h_a0 ?_
  exact onP.rf
theorem on_M_plus {a0 : Nat} {a1 : Nat} {a2 : Nat} {a3 : Nat} (h_a0 : K a0) : onP K X (LF_M_plus X a0 a1 a2 a3) := by
  unfold LF_M_plus
  refine on_if ?_ ?_
  · skip
    refine onP.tr ?_ (on_M_less h_a0)
    refine onP.tr ?_ (onP.v (fun i_ Y_ => (on_M_plus_6 h_a0) i_ Y_) _ _ _)
    exact onP.rf
  · skip
    refine on_if ?_ ?_
    · skip
      refine onP.tr ?_ (onP.v (fun i_ Y_ => (on_M_plus_6 h_a0) i_ Y_) _ _ _)
      exact onP.rf
    · skip
      refine onP.tr ?_ (on_M_less h_a0)
      refine onP.tr ?_ (onP.v (fun i_ Y_ => (on_M_plus_6 h_a0) i_ Y_) _ _ _)
      exact onP.rf
theorem on_M_decode_2 {r : Nat → Nat} (hK : ∀ k, mvar k = true → K (r k))  (i_0 : Nat) (s_1 : vM) : onP K s_1 (LL_M_decode_2 r i_0 s_1) := by
  unfold LL_M_decode_2
  refine onP.sl (hK 21 rfl) ?_
  exact onP.rf
theorem on_M_decode {r : Nat → Nat} (hK : ∀ k, mvar k = true → K (r k))  : onP K X (LF_M_decode X r).1 := by
  unfold LF_M_decode
  refine on_ifp ?_ ?_
  · skip
    refine on_ifp ?_ ?_
    · skip
      refine on_ifp ?_ ?_
      · skip
        refine on_ifp ?_ ?_
        · skip
          refine onP.tr ?_ (on_M_times hK (hK 26 rfl))
          refine on_if ?_ ?_
          · skip
            refine onP.tr ?_ (on_M_times hK (hK 26 rfl))
            refine onP.tr ?_ (on_M_power hK (hK 20 rfl))
            refine onP.tr ?_ (onP.u (fun i_ Y_ => (on_M_decode_214 hK) i_ Y_) _ _ _)
            refine onP.tr ?_ (on_M_times hK (hK 24 rfl))
            refine onP.tr ?_ (on_M_inverse hK (hK 26 rfl))
            refine onP.tr ?_ (on_M_plus (hK 25 rfl))
            refine onP.tr ?_ (on_M_minus (hK 24 rfl))
            refine onP.tr ?_ (on_M_times hK (hK 25 rfl))
            refine onP.tr ?_ (on_M_times hK (hK 24 rfl))
            refine onP.tr ?_ (onP.u (fun i_ Y_ => (on_M_decode_2 hK) i_ Y_) _ _ _)
            exact onP.rf
          · skip
            refine onP.tr ?_ (on_M_times hK (hK 20 rfl))
            refine onP.tr ?_ (on_M_times hK (hK 26 rfl))
            refine onP.tr ?_ (on_M_power hK (hK 20 rfl))
            refine onP.tr ?_ (onP.u (fun i_ Y_ => (on_M_decode_214 hK) i_ Y_) _ _ _)
            refine onP.tr ?_ (on_M_times hK (hK 24 rfl))
            refine onP.tr ?_ (on_M_inverse hK (hK 26 rfl))
            refine onP.tr ?_ (on_M_plus (hK 25 rfl))
            refine onP.tr ?_ (on_M_minus (hK 24 rfl))
            refine onP.tr ?_ (on_M_times hK (hK 25 rfl))
            refine onP.tr ?_ (on_M_times hK (hK 24 rfl))
            refine onP.tr ?_ (onP.u (fun i_ Y_ => (on_M_decode_2 hK) i_ Y_) _ _ _)
            exact onP.rf
        · skip
          refine on_if ?_ ?_
          · skip
            refine onP.tr ?_ (on_M_times hK (hK 26 rfl))
            refine on_if ?_ ?_
            · skip
              refine onP.tr ?_ (on_M_times hK (hK 26 rfl))
              refine onP.tr ?_ (on_M_power hK (hK 20 rfl))
              refine onP.tr ?_ (onP.u (fun i_ Y_ => (on_M_decode_214 hK) i_ Y_) _ _ _)
              refine onP.tr ?_ (on_M_times hK (hK 24 rfl))
              refine onP.tr ?_ (on_M_inverse hK (hK 26 rfl))
              refine onP.tr ?_ (on_M_plus (hK 25 rfl))
              refine onP.tr ?_ (on_M_minus (hK 24 rfl))
              refine onP.tr ?_ (on_M_times hK (hK 25 rfl))
              refine onP.tr ?_ (on_M_times hK (hK 24 rfl))
              refine onP.tr ?_ (onP.u (fun i_ Y_ => (on_M_decode_2 hK) i_ Y_) _ _ _)
              exact onP.rf
            · skip
              refine onP.tr ?_ (on_M_times hK (hK 20 rfl))
              refine onP.tr ?_ (on_M_times hK (hK 26 rfl))
              refine onP.tr ?_ (on_M_power hK (hK 20 rfl))
              refine onP.tr ?_ (onP.u (fun i_ Y_ => (on_M_decode_214 hK) i_ Y_) _ _ _)
              refine onP.tr ?_ (on_M_times hK (hK 24 rfl))
              refine onP.tr ?_ (on_M_inverse hK (hK 26 rfl))
              refine onP.tr ?_ (on_M_plus (hK 25 rfl))
              refine onP.tr ?_ (on_M_minus (hK 24 rfl))
              refine onP.tr ?_ (on_M_times hK (hK 25 rfl))
              refine onP.tr ?_ (on_M_times hK (hK 24 rfl))
              refine onP.tr ?_ (onP.u (fun i_ Y_ => (on_M_decode_2 hK) i_ Y_) _ _ _)
              exact onP.rf
          · skip
            refine onP.tr ?_ (on_M_minus (hK 20 rfl))
            refine onP.tr ?_ (on_M_set (hK 26 rfl))
            refine onP.tr ?_ (on_M_times hK (hK 26 rfl))
            refine on_if ?_ ?_
            · skip
              refine onP.tr ?_ (on_M_times hK (hK 26 rfl))
              refine onP.tr ?_ (on_M_power hK (hK 20 rfl))
              refine onP.tr ?_ (onP.u (fun i_ Y_ => (on_M_decode_214 hK) i_ Y_) _ _ _)
              refine onP.tr ?_ (on_M_times hK (hK 24 rfl))
              refine onP.tr ?_ (on_M_inverse hK (hK 26 rfl))
              refine onP.tr ?_ (on_M_plus (hK 25 rfl))
              refine onP.tr ?_ (on_M_minus (hK 24 rfl))
              refine onP.tr ?_ (on_M_times hK (hK 25 rfl))
              refine onP.tr ?_ (on_M_times hK (hK 24 rfl))
              refine onP.tr ?_ (onP.u (fun i_ Y_ => (on_M_decode_2 hK) i_ Y_) _ _ _)
              exact onP.rf
            · skip
              refine onP.tr ?_ (on_M_times hK (hK 20 rfl))
              refine onP.tr ?_ (on_M_times hK (hK 26 rfl))
              refine onP.tr ?_ (on_M_power hK (hK 20 rfl))
              refine onP.tr ?_ (onP.u (fun i_ Y_ => (on_M_decode_214 hK) i_ Y_) _ _ _)
              refine onP.tr ?_ (on_M_times hK (hK 24 rfl))
              refine onP.tr ?_ (on_M_inverse hK (hK 26 rfl))
              refine onP.tr ?_ (on_M_plus (hK 25 rfl))
              refine onP.tr ?_ (on_M_minus (hK 24 rfl))
              refine onP.tr ?_ (on_M_times hK (hK 25 rfl))
              refine onP.tr ?_ (on_M_times hK (hK 24 rfl))
              refine onP.tr ?_ (onP.u (fun i_ Y_ => (on_M_decode_2 hK) i_ Y_) _ _ _)
              exact onP.rf
      · skip
        refine on_if ?_ ?_
        · skip
          refine onP.tr ?_ (on_M_times hK (hK 26 rfl))
          refine on_if ?_ ?_
          · skip
            refine onP.tr ?_ (on_M_times hK (hK 26 rfl))
            refine onP.tr ?_ (on_M_power hK (hK 20 rfl))
            refine onP.tr ?_ (onP.u (fun i_ Y_ => (on_M_decode_214 hK) i_ Y_) _ _ _)
            refine onP.tr ?_ (on_M_times hK (hK 24 rfl))
            refine onP.tr ?_ (on_M_inverse hK (hK 26 rfl))
            refine onP.tr ?_ (on_M_plus (hK 25 rfl))
            refine onP.tr ?_ (on_M_minus (hK 24 rfl))
            refine onP.tr ?_ (on_M_times hK (hK 25 rfl))
            refine onP.tr ?_ (on_M_times hK (hK 24 rfl))
            refine onP.tr ?_ (onP.u (fun i_ Y_ => (on_M_decode_2 hK) i_ Y_) _ _ _)
            exact onP.rf
          · skip
            refine onP.tr ?_ (on_M_times hK (hK 20 rfl))
            refine onP.tr ?_ (on_M_times hK (hK 26 rfl))
            refine onP.tr ?_ (on_M_power hK (hK 20 rfl))
            refine onP.tr ?_ (onP.u (fun i_ Y_ => (on_M_decode_214 hK) i_ Y_) _ _ _)
            refine onP.tr ?_ (on_M_times hK (hK 24 rfl))
            refine onP.tr ?_ (on_M_inverse hK (hK 26 rfl))
            refine onP.tr ?_ (on_M_plus (hK 25 rfl))
            refine onP.tr ?_ (on_M_minus (hK 24 rfl))
            refine onP.tr ?_ (on_M_times hK (hK 25 rfl))
            refine onP.tr ?_ (on_M_times hK (hK 24 rfl))
            refine onP.tr ?_ (onP.u (fun i_ Y_ => (on_M_decode_2 hK) i_ Y_) _ _ _)
            exact onP.rf
        · skip
          refine onP.tr ?_ (on_M_minus (hK 20 rfl))
          refine onP.tr ?_ (on_M_set (hK 26 rfl))
          refine onP.tr ?_ (on_M_times hK (hK 26 rfl))
          refine on_if ?_ ?_
          · skip
            refine onP.tr ?_ (on_M_times hK (hK 26 rfl))
            refine onP.tr ?_ (on_M_power hK (hK 20 rfl))
            refine onP.tr ?_ (onP.u (fun i_ Y_ => (on_M_decode_214 hK) i_ Y_) _ _ _)
            refine onP.tr ?_ (on_M_times hK (hK 24 rfl))
            refine onP.tr ?_ (on_M_inverse hK (hK 26 rfl))
            refine onP.tr ?_ (on_M_plus (hK 25 rfl))
            refine onP.tr ?_ (on_M_minus (hK 24 rfl))
            refine onP.tr ?_ (on_M_times hK (hK 25 rfl))
            refine onP.tr ?_ (on_M_times hK (hK 24 rfl))
            refine onP.tr ?_ (onP.u (fun i_ Y_ => (on_M_decode_2 hK) i_ Y_) _ _ _)
            exact onP.rf
          · skip
            refine onP.tr ?_ (on_M_times hK (hK 20 rfl))
            refine onP.tr ?_ (on_M_times hK (hK 26 rfl))
            refine onP.tr ?_ (on_M_power hK (hK 20 rfl))
            refine onP.tr ?_ (onP.u (fun i_ Y_ => (on_M_decode_214 hK) i_ Y_) _ _ _)
            refine onP.tr ?_ (on_M_times hK (hK 24 rfl))
            refine onP.tr ?_ (on_M_inverse hK (hK 26 rfl))
            refine onP.tr ?_ (on_M_plus (hK 25 rfl))
            refine onP.tr ?_ (on_M_minus (hK 24 rfl))
            refine onP.tr ?_ (on_M_times hK (hK 25 rfl))
            refine onP.tr ?_ (on_M_times hK (hK 24 rfl))
            refine onP.tr ?_ (onP.u (fun i_ Y_ => (on_M_decode_2 hK) i_ Y_) _ _ _)
            exact onP.rf
    · skip
      refine onP.tr ?_ (on_M_times hK (hK 26 rfl))
      refine on_if ?_ ?_
      · skip
        refine onP.tr ?_ (on_M_times hK (hK 26 rfl))
        refine onP.tr ?_ (on_M_power hK (hK 20 rfl))
        refine onP.tr ?_ (onP.u (fun i_ Y_ => (on_M_decode_214 hK) i_ Y_) _ _ _)
        refine onP.tr ?_ (on_M_times hK (hK 24 rfl))
        refine onP.tr ?_ (on_M_inverse hK (hK 26 rfl))
        refine onP.tr ?_ (on_M_plus (hK 25 rfl))
        refine onP.tr ?_ (on_M_minus (hK 24 rfl))
        refine onP.tr ?_ (on_M_times hK (hK 25 rfl))
        refine onP.tr ?_ (on_M_times hK (hK 24 rfl))
        refine onP.tr ?_ (onP.u (fun i_ Y_ => (on_M_decode_2 hK) i_ Y_) _ _ _)
        exact onP.rf
      · skip
        refine onP.tr ?_ (on_M_times hK (hK 20 rfl))
        refine onP.tr ?_ (on_M_times hK (hK 26 rfl))
        refine onP.tr ?_ (on_M_power hK (hK 20 rfl))
        refine onP.tr ?_ (onP.u (fun i_ Y_ => (on_M_decode_214 hK) i_ Y_) _ _ _)
        refine onP.tr ?_ (on_M_times hK (hK 24 rfl))
        refine onP.tr ?_ (on_M_inverse hK (hK 26 rfl))
        refine onP.tr ?_ (on_M_plus (hK 25 rfl))
        refine onP.tr ?_ (on_M_minus (hK 24 rfl))
        refine onP.tr ?_ (on_M_times hK (hK 25 rfl))
        refine onP.tr ?_ (on_M_times hK (hK 24 rfl))
        refine onP.tr ?_ (onP.u (fun i_ Y_ => (on_M_decode_2 hK) i_ Y_) _ _ _)
        exact onP.rf
  · skip
    refine onP.tr ?_ (onP.u (fun i_ Y_ => (on_M_decode_2 hK) i_ Y_) _ _ _)
    exact onP.rf
theorem on_M_hash_147 {r : Nat → Nat} (hK : ∀ k, mvar k = true → K (r k))  (i_0 : Nat) (s_1 : vM) : onP K s_1 (LL_M_hash_147 r i_0 s_1) := by
  unfold LL_M_hash_147
  refine onP.si (hK 52 rfl) ?_
  exact onP.rf
theorem on_M_over_3 {r : Nat → Nat} (hK : ∀ k, mvar k = true → K (r k))  (i_0 : Nat) (s_1 : vM) : onP K s_1 (LL_M_over_3 r i_0 s_1) := by
  unfold LL_M_over_3
  refine onP.sl (hK 48 rfl) ?_
  exact onP.rf
theorem on_M_over {r : Nat → Nat} (hK : ∀ k, mvar k = true → K (r k))  : onP K X (LF_M_over X r) := by
  unfold LF_M_over
  refine onP.sl (hK 49 rfl) ?_
  refine onP.sl (hK 49 rfl) ?_
  refine onP.sl (hK 49 rfl) ?_
  refine onP.sl (hK 49 rfl) ?_
  refine onP.sl (hK 49 rfl) ?_
  refine onP.sl (hK 49 rfl) ?_
  refine onP.sl (hK 49 rfl) ?_
  refine onP.sl (hK 49 rfl) ?_
  refine onP.tr ?_ (onP.u (fun i_ Y_ => (on_M_over_3 hK) i_ Y_) _ _ _)
  exact onP.rf
theorem on_M_hash_76 {r : Nat → Nat} {i_0 : Nat} {a0 : Nat} {v1 : Nat} {i_1 : Nat} (hK : ∀ k, mvar k = true → K (r k))  (i_2 : Nat) (s_3 : vM) : onP K s_3 (LL_M_hash_76 r i_0 a0 v1 i_1 i_2 s_3) := by
  unfold LL_M_hash_76
  refine onP.sl (hK 48 rfl) ?_
  exact onP.rf
theorem on_M_hash_58 {r : Nat → Nat} {a0 : Nat} {v1 : Nat} {i_0 : Nat} (hK : ∀ k, mvar k = true → K (r k))  (i_1 : Nat) (s_2 : vM) : onP K s_2 (LL_M_hash_58 r a0 v1 i_0 i_1 s_2) := by
  unfold LL_M_hash_58
  refine onP.tr ?_ (onP.u (fun i_ Y_ => (on_M_hash_76 hK) i_ Y_) _ _ _)
  refine onP.sl (hK 48 rfl) ?_
  exact onP.rf
theorem on_M_hash_49 {r : Nat → Nat} {a0 : Nat} {v1 : Nat} (hK : ∀ k, mvar k = true → K (r k))  (i_0 : Nat) (s_1 : vM) : onP K s_1 (LL_M_hash_49 r a0 v1 i_0 s_1) := by
  unfold LL_M_hash_49
  refine onP.tr ?_ (on_M_over hK)
  refine onP.tr ?_ (onP.u (fun i_ Y_ => (on_M_hash_58 hK) i_ Y_) _ _ _)
  exact onP.rf
theorem on_M_hash_19 {r : Nat → Nat} (hK : ∀ k, mvar k = true → K (r k))  (i_0 : Nat) (s_1 : vM) : onP K s_1 (LL_M_hash_19 r i_0 s_1) := by
  unfold LL_M_hash_19
  refine onP.sl (hK 49 rfl) ?_
  exact onP.rf
theorem on_M_hash {r : Nat → Nat} {a0 : Nat} {v1 : Nat} (hK : ∀ k, mvar k = true → K (r k))  : onP K X (LF_M_hash X r a0 v1) := by
  unfold LF_M_hash
  refine onP.tr ?_ (onP.u (fun i_ Y_ => (on_M_hash_147 hK) i_ Y_) _ _ _)
  refine onP.tr ?_ (onP.u (fun i_ Y_ => (on_M_hash_49 hK) i_ Y_) _ _ _)
  refine onP.tr ?_ (onP.u (fun i_ Y_ => (on_M_hash_19 hK) i_ Y_) _ _ _)
  exact onP.rf
theorem on_M_hashMessage_2 {r : Nat → Nat} {v0 : Nat} (hK : ∀ k, mvar k = true → K (r k))  (i_0 : Nat) (s_1 : vM) : onP K s_1 (LL_M_hashMessage_2 r v0 i_0 s_1) := by
  unfold LL_M_hashMessage_2
  refine onP.si (hK 38 rfl) ?_
  exact onP.rf
theorem on_M_hashMessage {r : Nat → Nat} {v0 : Nat} {nm : Nat} (hK : ∀ k, mvar k = true → K (r k))  : onP K X (LF_M_hashMessage X r v0 nm) := by
  unfold LF_M_hashMessage
  refine onP.tr ?_ (on_M_hash hK)
  refine onP.tr ?_ (onP.u (fun i_ Y_ => (on_M_hashMessage_2 hK) i_ Y_) _ _ _)
  exact onP.rf
theorem on_M_hashNumber_2 {r : Nat → Nat} (hK : ∀ k, mvar k = true → K (r k))  (i_0 : Nat) (s_1 : vM) : onP K s_1 (LL_M_hashNumber_2 r i_0 s_1) := by
  unfold LL_M_hashNumber_2
  refine onP.sl (hK 40 rfl) ?_
  exact onP.rf
theorem on_M_hashNumber {r : Nat → Nat} {a0 : Nat} (hK : ∀ k, mvar k = true → K (r k)) (h_a0 : K a0) : onP K X (LF_M_hashNumber X r a0) := by
  unfold LF_M_hashNumber
  refine onP.tr ?_ (on_M_reduce hK h_a0)
  refine onP.tr ?_ (onP.u (fun i_ Y_ => (on_M_hashNumber_2 hK) i_ Y_) _ _ _)
  exact onP.rf
theorem on_M_add {r : Nat → Nat} {a0 : Nat} {a1 : Nat} {a2 : Nat} {a3 : Nat} (hK : ∀ k, mvar k = true → K (r k)) (h_a0 : K a0) (h_a1 : K a1) : onP K X (LF_M_add X r a0 a1 a2 a3) := by
  unfold LF_M_add
  refine onP.tr ?_ (on_M_times hK h_a1)
  refine onP.tr ?_ (on_M_times hK (hK 25 rfl))
  refine onP.tr ?_ (on_M_times hK h_a0)
  refine onP.tr ?_ (on_M_times hK (hK 24 rfl))
  refine onP.tr ?_ (on_M_inverse hK (hK 26 rfl))
  refine onP.tr ?_ (on_M_times hK (hK 26 rfl))
  refine onP.tr ?_ (on_M_minus (hK 29 rfl))
  refine onP.tr ?_ (on_M_plus (hK 28 rfl))
  refine onP.tr ?_ (on_M_times hK (hK 27 rfl))
  refine onP.tr ?_ (on_M_plus (hK 25 rfl))
  refine onP.tr ?_ (on_M_times hK (hK 27 rfl))
  refine onP.tr ?_ (on_M_times hK (hK 26 rfl))
  refine onP.tr ?_ (on_M_times hK (hK 25 rfl))
  refine onP.tr ?_ (on_M_plus (hK 24 rfl))
  refine onP.tr ?_ (on_M_times hK (hK 25 rfl))
  refine onP.tr ?_ (on_M_times hK (hK 24 rfl))
  exact onP.rf
theorem on_M_multiply_20 {r : Nat → Nat} {a0 : Nat} (hK : ∀ k, mvar k = true → K (r k))  (i_0 : Nat) (s_1 : vM) : onP K s_1 (LL_M_multiply_20 r a0 i_0 s_1) := by
  unfold LL_M_multiply_20
  refine on_if ?_ ?_
  · skip
    refine onP.tr ?_ (on_M_add hK (hK 18 rfl) (hK 19 rfl))
    refine on_if ?_ ?_
    · skip
      refine on_if ?_ ?_
      · skip
        exact onP.rf
      · skip
        refine onP.tr ?_ (on_M_add hK (hK 18 rfl) (hK 19 rfl))
        exact onP.rf
    · skip
      refine onP.tr ?_ (on_M_add hK (hK 18 rfl) (hK 19 rfl))
      exact onP.rf
  · skip
    refine on_if ?_ ?_
    · skip
      refine on_if ?_ ?_
      · skip
        exact onP.rf
      · skip
        refine onP.tr ?_ (on_M_add hK (hK 18 rfl) (hK 19 rfl))
        exact onP.rf
    · skip
      refine onP.tr ?_ (on_M_add hK (hK 18 rfl) (hK 19 rfl))
      exact onP.rf
theorem on_M_multiply {r : Nat → Nat} {a0 : Nat} (hK : ∀ k, mvar k = true → K (r k))  : onP K X (LF_M_multiply X r a0) := by
  unfold LF_M_multiply
  refine onP.tr ?_ (onP.d (N := 256) (fun i_ Y_ _ => (on_M_multiply_20 hK) i_ Y_) _ _ (Nat.le_refl _))
  refine onP.tr ?_ (on_M_set (hK 19 rfl))
  refine onP.tr ?_ (on_M_set (hK 18 rfl))
  exact onP.rf
theorem on_M_fromBase {r : Nat → Nat} {a0 : Nat} (hK : ∀ k, mvar k = true → K (r k))  : onP K X (LF_M_fromBase X r a0) := by
  unfold LF_M_fromBase
  refine onP.tr ?_ (on_M_multiply hK)
  refine onP.tr ?_ (on_M_copy (hK 21 rfl))
  refine onP.tr ?_ (on_M_copy (hK 20 rfl))
  exact onP.rf
theorem on_M_encode_3 {a0 : Nat} {a2 : Nat} (h_a0 : K a0) (i_0 : Nat) (s_1 : vM) : onP K s_1 (LL_M_encode_3 a0 a2 i_0 s_1) := by
  unfold LL_M_encode_3
  refine onP.si h_a0 ?_
  exact onP.rf
theorem on_M_encode {r : Nat → Nat} {a0 : Nat} {a1 : Nat} {a2 : Nat} (h_a0 : K a0) : onP K X (LF_M_encode X r a0 a1 a2) := by
  unfold LF_M_encode
  refine onP.si h_a0 ?_
  refine onP.tr ?_ (onP.u (fun i_ Y_ => (on_M_encode_3 h_a0) i_ Y_) _ _ _)
  exact onP.rf
end FRN
