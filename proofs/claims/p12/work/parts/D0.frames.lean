/-! frames: what a method leaves alone -/
def onP (K : Nat → Prop) (X Y : vM) : Prop := ∀ b, ¬ K b → Y.1 b = X.1 b ∧ Y.2 b = X.2 b
theorem onP.rf {K : Nat → Prop} {X : vM} : onP K X X := fun _ _ => ⟨rfl, rfl⟩
theorem onP.tr {K : Nat → Prop} {X Y Z : vM} (h : onP K X Y) (k : onP K Y Z) : onP K X Z := fun b hb => ⟨(k b hb).1.trans (h b hb).1, (k b hb).2.trans (h b hb).2⟩
theorem onP.mono {K L : Nat → Prop} {X Y : vM} (h : onP K X Y) (hs : ∀ x, K x → L x) : onP L X Y := fun b hb => h b (fun z => hb (hs b z))
theorem onP.w {S : List Nat} {K : Nat → Prop} {X Y : vM} (h : onW S X Y) (hs : ∀ x ∈ S, K x) : onP K X Y := fun b hb => h b (fun z => hb (hs b z))
theorem onP.k {kq : Nat → Nat → Nat} {l : List (Nat × Nat)} {K : Nat → Prop} {X Y : vM} (h : onK kq l X Y) (hs : ∀ p ∈ l, K (kq p.1 p.2)) : onP K X Y := onP.w h (fun x hx => by
  obtain ⟨p, hp, rfl⟩ := List.mem_map.mp hx
  exact hs p hp)
theorem onP.l {S : List Nat} {K : Nat → Prop} {X Y : vM} (h : onL S X Y) (hs : ∀ x ∈ S, K x) : onP K X Y := onP.w (onW.of h) hs
theorem onP.sl {K : Nat → Prop} {X Y : vM} {a i : Nat} {v : Int64} (ha : K a) (h : onP K X Y) : onP K X (stL Y a i v) := h.tr (fun b hb => ⟨funext fun k => if_neg (fun z => hb (by rw [z.1]; exact ha)), rfl⟩)
theorem onP.si {K : Nat → Prop} {X Y : vM} {a i : Nat} {v : Int32} (ha : K a) (h : onP K X Y) : onP K X (stI Y a i v) := h.tr (fun b hb => ⟨rfl, funext fun k => if_neg (fun z => hb (by rw [z.1]; exact ha))⟩)
theorem onP.vl {K : Nat → Prop} {X Y : vM} {a n : Nat} {f : Nat → Int64} (ha : K a) (h : onP K X Y) : onP K X (svL Y a n f) := h.tr (fun b hb => ⟨funext fun k => if_neg (fun z => hb (by rw [z.1]; exact ha)), rfl⟩)
theorem onP.vi {K : Nat → Prop} {X Y : vM} {a n : Nat} {f : Nat → Int32} (ha : K a) (h : onP K X Y) : onP K X (svI Y a n f) := h.tr (fun b hb => ⟨rfl, funext fun k => if_neg (fun z => hb (by rw [z.1]; exact ha))⟩)
theorem onP.cl {K : Nat → Prop} {X Y : vM} {a i b j n : Nat} (ha : K b) (h : onP K X Y) : onP K X (cpL Y a i b j n) := h.tr (fun c hc => ⟨funext fun k => if_neg (fun z => hc (by rw [z.1]; exact ha)), rfl⟩)
theorem onP.ci {K : Nat → Prop} {X Y : vM} {a i b j n : Nat} (ha : K b) (h : onP K X Y) : onP K X (cpI Y a i b j n) := h.tr (fun c hc => ⟨rfl, funext fun k => if_neg (fun z => hc (by rw [z.1]; exact ha))⟩)
theorem onP.u {K : Nat → Prop} {d : Nat} {f : Nat → vM → vM} (hf : ∀ i Y, onP K Y (f i Y)) : ∀ n i (X : vM), onP K X (lpU d f n i X)
  | 0, i, X => onP.rf
  | n + 1, i, X => (hf i X).tr (onP.u hf n (i + d) (f i X))
theorem onP.d {K : Nat → Prop} {f : Nat → vM → vM} {N : Nat} (hf : ∀ i Y, i < N → onP K Y (f i Y)) : ∀ n (X : vM), n ≤ N → onP K X (lpD f n X)
  | 0, X, _ => onP.rf
  | n + 1, X, h => (hf n X h).tr (onP.d hf n (f n X) (Nat.le_of_succ_le h))
theorem onP.v {K : Nat → Prop} {σ : Type} {d : Nat} {f : Nat → vM × σ → vM × σ} (hf : ∀ i Y, onP K Y.1 (f i Y).1) : ∀ n i (X : vM × σ), onP K X.1 (lpU d f n i X).1
  | 0, i, X => onP.rf
  | n + 1, i, X => (hf i X).tr (onP.v hf n (i + d) (f i X))
theorem onP.ub {K : Nat → Prop} {f : Nat → vM → vM} {N : Nat} (hf : ∀ i Y, i < N → onP K Y (f i Y)) : ∀ n i (X : vM), i + n ≤ N → onP K X (lpU 1 f n i X)
  | 0, i, X, _ => onP.rf
  | n + 1, i, X, h => (hf i X (by omega)).tr (onP.ub hf n (i + 1) (f i X) (by omega))
section FRM
variable {K : Nat → Prop} {X Y : vM} {kq : Nat → Nat → Nat} {ts : Nat → Nat}
theorem on_cyS {a : Nat} (ha : K a) : ∀ n, onP K X (cyS X a n).1
  | 0 => onP.rf
  | n + 1 => by
    show onP K X (if n % 2 = 0 then cyE (cyS X a n).1 a n (cyS X a n).2 else cyO (cyS X a n).1 a n (cyS X a n).2).1
    split
    · exact (on_cyS ha n).sl ha
    · exact (on_cyS ha n).sl ha
theorem on_carry {a : Nat} (ha : K a) : onP K X (LF_F_carry X a) := by
  rw [LF_F_carry_s]
  exact ((on_cyS ha 10).sl ha).sl ha
theorem on_nmS {a : Nat} {c : Int64} (ha : K a) : ∀ n, onP K X (nmS X a c n).1
  | 0 => onP.rf
  | n + 1 => by
    unfold nmS
    split
    · exact (on_nmS ha n).sl ha
    · exact (on_nmS ha n).sl ha
theorem on_settle {f : Nat} (ha : K (kq 0 6)) : onP K X (LF_F_settle X kq ts f) := by
  rw [settle_s]
  exact ((onP.rf.cl ha).tr (on_carry ha)).tr (on_nmS ha 10)
theorem on_times {h f g : Nat} (hh : K h) : onP K X (LF_F_times X h f g) := by
  rw [times_s]
  exact (onP.rf.vl hh).tr (on_carry hh)
theorem on_square {h f : Nat} (hh : K h) : onP K X (LF_F_square X h f) := by
  rw [square_s]
  exact (onP.rf.vl hh).tr (on_carry hh)
theorem on_add {h f g : Nat} (hh : K h) : onP K X (LF_F_add X h f g) := by
  rw [LF_F_add_eq]
  exact onP.rf.vl hh
theorem on_subtract {h f g : Nat} (hh : K h) : onP K X (LF_F_subtract X h f g) := by
  rw [LF_F_sub_eq]
  exact onP.rf.vl hh
theorem on_negate {h f : Nat} (hh : K h) : onP K X (LF_F_negate X h f) := by
  rw [LF_F_neg_eq]
  exact onP.rf.vl hh
theorem on_copy {h f : Nat} (hh : K h) : onP K X (LF_F_copy X h f) := by
  rw [LF_F_copy_eq]
  exact onP.rf.vl hh
theorem on_set {h : Nat} {v : Int64} (hh : K h) : onP K X (LF_F_set X h v) := by
  rw [LF_F_set_eq]
  exact onP.rf.vl hh
theorem on_stretch {a0 a1 n a3 : Nat} (h6 : K (kq 0 6)) (h0 : K a0) : onP K X (LF_F_stretch X kq ts a0 a1 n a3) := by
  unfold LF_F_stretch
  refine onP.tr ?_ (on_times h0)
  refine onP.tr ?_ (onP.u (fun i Y => on_square h6) _ _ _)
  exact on_copy h6
theorem on_ones {a0 : Nat} (h : ∀ k, k < 7 → K (kq 0 k)) : onP K X (LF_F_raiseToOnes X kq ts a0) := by
  have s6 := h 6 (by decide)
  unfold LF_F_raiseToOnes
  refine onP.tr ?_ (on_stretch s6 (h 3 (by decide)))
  refine onP.tr ?_ (on_stretch s6 (h 5 (by decide)))
  refine onP.tr ?_ (on_stretch s6 (h 4 (by decide)))
  refine onP.tr ?_ (on_stretch s6 (h 2 (by decide)))
  refine onP.tr ?_ (on_stretch s6 (h 5 (by decide)))
  refine onP.tr ?_ (on_stretch s6 (h 4 (by decide)))
  refine onP.tr ?_ (on_stretch s6 (h 1 (by decide)))
  refine onP.tr ?_ (on_stretch s6 (h 4 (by decide)))
  refine onP.tr ?_ (on_times (h 0 (by decide)))
  refine onP.tr ?_ (on_stretch s6 (h 5 (by decide)))
  exact (on_square (h 4 (by decide)))
theorem on_invert {a0 a1 : Nat} (h : ∀ k, k < 7 → K (kq 0 k)) (h0 : K a0) : onP K X (LF_F_invert X kq ts a0 a1) := by
  unfold LF_F_invert
  refine onP.tr ?_ (on_stretch (h 6 (by decide)) h0)
  exact (on_ones h)
set_option maxRecDepth 100000 in
theorem on_write {a0 a1 : Nat} (h6 : K (kq 0 6)) (h0 : K a0) : onP K X (LF_F_write X kq ts a0 a1) := by
  have h1 : onP K X (LF_F_settle X kq ts a1) := on_settle h6
  unfold LF_F_write
  lift_lets
  intros
  exact ((((((((((((((((((((((((((((((((h1).si h0).si h0).si h0).si h0).si h0).si h0).si h0).si h0).si h0).si h0).si h0).si h0).si h0).si h0).si h0).si h0).si h0).si h0).si h0).si h0).si h0).si h0).si h0).si h0).si h0).si h0).si h0).si h0).si h0).si h0).si h0).si h0
theorem on_join {r r0 : Nat → Nat} (h : ∀ k, k < 4 → K (r0 k)) : onP K X (LF_Ed_join X r r0) := by
  unfold LF_Ed_join
  refine onP.tr ?_ (on_times (h 2 (by decide)))
  refine onP.tr ?_ (on_times (h 3 (by decide)))
  refine onP.tr ?_ (on_times (h 1 (by decide)))
  exact (on_times (h 0 (by decide)))
theorem on_edadd {r r0 r1 : Nat → Nat} (h : ∀ k, k < 4 → K (r0 k)) (hr : ∀ k, 7 ≤ k → k < 15 → K (r k)) : onP K X (LF_Ed_add X r r0 r1) := by
  unfold LF_Ed_add
  refine onP.tr ?_ (on_join h)
  refine onP.tr ?_ (on_add (hr 14 (by decide) (by decide)))
  refine onP.tr ?_ (on_add (hr 13 (by decide) (by decide)))
  refine onP.tr ?_ (on_subtract (hr 12 (by decide) (by decide)))
  refine onP.tr ?_ (on_subtract (hr 11 (by decide) (by decide)))
  refine onP.tr ?_ (on_times (hr 10 (by decide) (by decide)))
  refine onP.tr ?_ (on_times (hr 9 (by decide) (by decide)))
  refine onP.tr ?_ (on_times (hr 8 (by decide) (by decide)))
  refine onP.tr ?_ (on_add (hr 8 (by decide) (by decide)))
  refine onP.tr ?_ (on_times (hr 7 (by decide) (by decide)))
  exact (on_subtract (hr 7 (by decide) (by decide)))
theorem on_twice {r r0 : Nat → Nat} (h : ∀ k, k < 4 → K (r0 k)) (hr : ∀ k, 7 ≤ k → k < 15 → K (r k)) : onP K X (LF_Ed_twice X r r0) := by
  unfold LF_Ed_twice
  refine onP.tr ?_ (on_join h)
  refine onP.tr ?_ (on_add (hr 12 (by decide) (by decide)))
  refine onP.tr ?_ (on_subtract (hr 13 (by decide) (by decide)))
  refine onP.tr ?_ (on_subtract (hr 11 (by decide) (by decide)))
  refine onP.tr ?_ (on_square (hr 11 (by decide) (by decide)))
  refine onP.tr ?_ (on_add (hr 11 (by decide) (by decide)))
  refine onP.tr ?_ (on_add (hr 14 (by decide) (by decide)))
  refine onP.tr ?_ (on_add (hr 9 (by decide) (by decide)))
  refine onP.tr ?_ (on_square (hr 9 (by decide) (by decide)))
  refine onP.tr ?_ (on_square (hr 8 (by decide) (by decide)))
  exact (on_square (hr 7 (by decide) (by decide)))
theorem on_adset {r r0 : Nat → Nat} (h : ∀ k, k < 4 → K (r k)) : onP K X (LF_Ad_set X r r0 ts) := by
  unfold LF_Ad_set
  refine onP.tr ?_ (on_times (h 3 (by decide)))
  refine onP.tr ?_ (on_add (h 2 (by decide)))
  refine onP.tr ?_ (on_add (h 1 (by decide)))
  exact (on_subtract (h 0 (by decide)))
theorem on_fill {r r1 : Nat → Nat} {w : Nat → Nat → Nat} (hw : ∀ j, j < 16 → ∀ k, k < 4 → K (w j k)) (h : ∀ k, k < 4 → K (r1 k)) (hr : ∀ k, 7 ≤ k → k < 15 → K (r k)) : onP K X (LF_Ed_fillMultiples X r w r1 ts) := by
  unfold LF_Ed_fillMultiples
  refine onP.tr ?_ (onP.ub (N := 16) (fun i Y hi => ?_) 14 2 _ (by decide))
  · exact on_adset (hw 1 (by decide))
  · unfold LL_Ed_fillMultiples_9
    refine onP.tr ?_ (on_adset (hw i hi))
    exact on_edadd h hr
theorem on_neutral {r : Nat → Nat} (h : ∀ k, k < 4 → K (r k)) : onP K X (LF_Pt_setNeutral X r) := by
  unfold LF_Pt_setNeutral
  refine onP.tr ?_ (on_set (h 3 (by decide)))
  refine onP.tr ?_ (on_set (h 2 (by decide)))
  refine onP.tr ?_ (on_set (h 1 (by decide)))
  exact (on_set (h 0 (by decide)))
theorem on_ptneg {r : Nat → Nat} (h : ∀ k, k < 4 → K (r k)) : onP K X (LF_Pt_negate X r) := by
  unfold LF_Pt_negate
  refine onP.tr ?_ (on_negate (h 3 (by decide)))
  exact (on_negate (h 0 (by decide)))
theorem on_if {c : Prop} [Decidable c] {Z : vM} (h1 : onP K X Y) (h2 : onP K X Z) : onP K X (if c then Y else Z) := by
  split
  · exact h1
  · exact h2
theorem on_addUp {a0 a1 : Nat} (h : ∀ k, k < 4 → K (kq 3 k)) (hr : ∀ k, 7 ≤ k → k < 15 → K (edr kq k)) : onP K X (LF_Ed_addUp X kq ts a0 a1) := by
  unfold LF_Ed_addUp
  refine onP.tr ?_ (onP.d (N := 64) (fun i Y _ => ?_) 64 _ (Nat.le_refl _))
  · exact on_neutral h
  have t4 : onP K Y (LF_Ed_twice (LF_Ed_twice (LF_Ed_twice (LF_Ed_twice Y (edr kq) (kq 3)) (edr kq) (kq 3)) (edr kq) (kq 3)) (edr kq) (kq 3)) := (((on_twice h hr).tr (on_twice h hr)).tr (on_twice h hr)).tr (on_twice h hr)
  have p1 : ∀ Z : vM, onP K Z (if LF_Ed_digitAt Z a0 i = 0 then Z else LF_Ed_add Z (edr kq) (kq 3) (kq (16 + LF_Ed_digitAt Z a0 i))) := fun Z => on_if onP.rf (on_edadd h hr)
  have p2 : ∀ Z : vM, onP K Z (if LF_Ed_digitAt Z a1 i = 0 then Z else LF_Ed_add Z (edr kq) (kq 3) (kq (32 + LF_Ed_digitAt Z a1 i))) := fun Z => on_if onP.rf (on_edadd h hr)
  have e : LL_Ed_addUp_10 kq a0 a1 i Y = (fun Z : vM => (fun W : vM => (if LF_Ed_digitAt W a1 i = 0 then W else LF_Ed_add W (edr kq) (kq 3) (kq (32 + LF_Ed_digitAt W a1 i)))) (if LF_Ed_digitAt Z a0 i = 0 then Z else LF_Ed_add Z (edr kq) (kq 3) (kq (16 + LF_Ed_digitAt Z a0 i)))) (LF_Ed_twice (LF_Ed_twice (LF_Ed_twice (LF_Ed_twice Y (edr kq) (kq 3)) (edr kq) (kq 3)) (edr kq) (kq 3)) (edr kq) (kq 3)) := rfl
  rw [e]
  exact (t4.tr (p1 _)).tr (p2 _)
theorem on_subBase {a0 a1 : Nat} (h3 : ∀ k, k < 4 → K (kq 3 k)) (h4 : ∀ k, k < 4 → K (kq 4 k)) (hw : ∀ j, j < 16 → ∀ k, k < 4 → K (kq (32 + j) k)) (hr : ∀ k, 7 ≤ k → k < 15 → K (edr kq k)) : onP K X (LF_Ed_subtractFromBase X kq ts a0 a1) := by
  unfold LF_Ed_subtractFromBase
  refine onP.tr ?_ (on_addUp h3 hr)
  refine onP.tr ?_ (on_fill hw h4 hr)
  exact (on_ptneg h4)
theorem on_wsum {a0 : Nat} (h : ∀ k, k < 7 → K (kq 0 k)) (h0 : K a0) (h6 : K (kq 2 6)) (h7 : K (kq 2 7)) (h8 : K (kq 2 8)) (h9 : K (kq 2 9)) : onP K X (LF_Ed_writeSum X kq ts a0) := by
  unfold LF_Ed_writeSum
  refine onP.si h0 ?_
  refine onP.tr ?_ (on_write (h 6 (by decide)) h0)
  refine onP.tr ?_ (on_write (h 6 (by decide)) h6)
  refine onP.tr ?_ (on_times h9)
  refine onP.tr ?_ (on_times h8)
  exact (on_invert h h7)
theorem on_anyp {a0 a1 : Nat} (h0 : K a0) (h6 : K (kq 6 0)) : onP K X (LF_Or_reduceForAnyPoint X kq ts a0 a1) := by
  obtain ⟨Z, e, hZ⟩ := c_red (X := X) (kq := kq) (ts := ts) (to := a0) (a1 := a1)
  have h1 : onP K X (LF_Or_reduce X kq ts a0 a1) := by
    rw [e]
    exact onP.vi h0 (onP.l hZ (fun x hx => by rw [List.mem_singleton.mp hx]; exact h6))
  have h2 : ∀ (z : Int32) (Y : vM), onP K Y (lpU 1 (LL_Or_reduceForAnyPoint_25 a0 z) 32 0 (Y, (0 : Int64))).1 := fun z Y => onP.v (K := K) (f := LL_Or_reduceForAnyPoint_25 a0 z) (fun i W => onP.si h0 onP.rf) 32 0 (Y, (0 : Int64))
  unfold LF_Or_reduceForAnyPoint
  exact h1.tr (h2 _ _)
end FRM
