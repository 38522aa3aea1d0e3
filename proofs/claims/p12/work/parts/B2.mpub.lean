/-! the reference's public methods: its object is written -/
def mi (th tp ms rs kc : Int32) : Nat → Int32 := fun k => match k with
  | 0 => th
  | 5 => tp
  | 6 => ms
  | 7 => rs
  | _ => kc
theorem mo_cut {s : State} {g : ClassId → FieldType → Prop} {D : va_G} {o : Nat} {fs : List Value} {H : Heap} {E : Nat → Prop} {r : Nat → Nat} (hG : sx_G s g) (hK : va_K D classes [] s) (hP : va_P D classes [(o, .inr (0, fs))] H) (hA : ∀ q ∈ mo_arr, sx_A g q.2.1 H (r q.1) q.2.2) (hW : ∀ q ∈ mo_arr, E (r q.1)) : ∀ q ∈ mo_wr, cutE E o (r q.1) := fun q hq => by
  have hm : ∀ q ∈ mo_wr, q ∈ mo_arr := by decide +kernel
  exact ⟨hW q (hm q hq), vx_ne hG hK hP (hA q (hm q hq))⟩
section VXMZ
variable {l : Launch} {D : va_G} {g : ClassId → FieldType → Prop} {E : Nat → Prop} {H0 : Heap} {y : MethodName} {cc : ByteArray} {maxL : Nat} {own : String} {vs : List Value} {rm : Room} {X' : vM} {P : Heap → Prop}
theorem vx_mzP {v : Bool} (hy : plainName y.cls = true) (ho : y.cls = own) (hc : rm.cells = 0) (hs : rm.slots = 0) (hlen : (lg_sl vs).length ≤ maxL)
    (body : ∀ (p : Program) (e : Env) (s : State) (m : MethodId) (args : Array Value) (below : List Frame) (meth : Method) (c : Code) (Q : State → Prop) (ls : Array Slot), sx_E p s m args c cc maxL own D g → lv_has ls maxL (lv_args 0 vs) →
      (∀ (H : Heap) (locs : List Loc) (ls : Array Slot) (pc : Nat) (X1 : vM) (r : Bool) (z : Nat), X' = X1 → v = r → r.toNat = z → P H → sx_S g E E H0 H locs → mm g H = X1 → decode cc pc = .ok (.ireturn, 1) → W p l e rm s m args below meth c H locs 0 0 Q (F0 m pc ls [.int (nI z)])) → W p l e rm s m args below meth c H0 [] 0 0 Q (F0 m 0 ls [])) :
    Met l y (.code y cc maxL (some .boolean) :: G_) rm (sx_Pc vs H0 D g) (vx_QiP g E H0 X' (nI v.toNat) P) 0 0 E := by
  refine Met.ofW (cc := cc) (maxL := maxL) (ret := some .boolean) hy rfl ?_
  intro p e s m args below meth c s₁ B hml hv
  obtain ⟨rfl, hh, hU⟩ := hv
  have hl := lv_entry vs (n := maxL) hlen
  rw [lg_entry_eq]
  generalize (lg_sl vs ++ List.replicate (maxL - (lg_sl vs).length) Slot.unset).toArray = ls at hl ⊢
  have hb := B.bytes
  rw [hh]
  refine body p e s m _ below meth c _ ls ⟨B.exec, hb, hml, ho ▸ findClass_of_methodNamed B.named, fun w h => atoms_spec B.pre w (List.mem_cons_of_mem _ h), hU⟩ hl (fun H locs ls pc X1 r z hX hr hz hP hS hV hd => ?_)
  subst hX hr hz
  exact W.zret (v := nI v.toNat) (ty := .boolean) B.exec hb B.returns (sx_nz (Bool.toNat_le v)) (fun t ht hW => ⟨⟨nI v.toNat, (), rfl, rfl, (by rw [← ht] at hS hV hP; exact ⟨hS.1, hV, hP⟩)⟩, sx_F hh (by rw [ht]; exact hS.1)⟩) hS.2.2 hd
end VXMZ
theorem vr_l (X : vM) (r : Nat → Nat) : ∀ n i, (∃ Y, lpE 1 (LL_M_verified_267 X r) n i () = Sum.inr Y) ∨ lpE 1 (LL_M_verified_267 X r) n i () = Sum.inl (X, nI 3)
  | 0, i => Or.inl ⟨(), rfl⟩
  | n + 1, i => by
    show (∃ Y, Sum.elim Sum.inl (fun t => lpE 1 (LL_M_verified_267 X r) n (i + 1) t) (if (X.2 (r 37) i) = (X.2 (r 1) (32 + i)) then (Sum.inr ()) else (Sum.inl ((X, (nI 3))))) = Sum.inr Y) ∨ Sum.elim Sum.inl (fun t => lpE 1 (LL_M_verified_267 X r) n (i + 1) t) (if (X.2 (r 37) i) = (X.2 (r 1) (32 + i)) then (Sum.inr ()) else (Sum.inl ((X, (nI 3))))) = Sum.inl (X, nI 3)
    by_cases h : (X.2 (r 37) i) = (X.2 (r 1) (32 + i))
    · rw [if_pos h]
      exact vr_l X r n (i + 1)
    · rw [if_neg h]
      exact Or.inr rfl
theorem vr_4 (X : vM) (r : Nat → Nat) (nm : Nat) : (LF_M_verified X r nm).2 = nI 0 ∨ (LF_M_verified X r nm).2 = nI 1 ∨ (LF_M_verified X r nm).2 = nI 2 ∨ (LF_M_verified X r nm).2 = nI 3 := by
  unfold LF_M_verified
  simp only []
  split
  · split
    · generalize LF_M_encode _ _ _ _ _ = Z
      rcases vr_l Z r 32 0 with ⟨Y, h⟩ | h
      · rw [h]; exact Or.inl rfl
      · rw [h]; exact Or.inr (Or.inr (Or.inr rfl))
    · exact Or.inr (Or.inr (Or.inl rfl))
  · exact Or.inr (Or.inl rfl)
theorem vr_n (X : vM) (r : Nat → Nat) (nm : Nat) : (LF_M_verified X r nm).2 = nI (LF_M_verified X r nm).2.toNatClampNeg ∧ (LF_M_verified X r nm).2.toNatClampNeg < 4 := by
  rcases vr_4 X r nm with h | h | h | h <;> rw [h] <;> decide +kernel
theorem moA_1 {g : ClassId → FieldType → Prop} {H : Heap} {r : Nat → Nat} (h : ∀ q ∈ mo_arr, sx_A g q.2.1 H (r q.1) q.2.2) : sx_A g .byte H (r 1) 65536 := h (1, .byte, 65536) (by decide +kernel)
theorem moW_1 {E : Nat → Prop} {r : Nat → Nat} (h : ∀ q ∈ mo_arr, E (r q.1)) : E (r 1) := h (1, .byte, 65536) (by decide +kernel)
theorem moA_2 {g : ClassId → FieldType → Prop} {H : Heap} {r : Nat → Nat} (h : ∀ q ∈ mo_arr, sx_A g q.2.1 H (r q.1) q.2.2) : sx_A g .byte H (r 2) 65536 := h (2, .byte, 65536) (by decide +kernel)
theorem moW_2 {E : Nat → Prop} {r : Nat → Nat} (h : ∀ q ∈ mo_arr, E (r q.1)) : E (r 2) := h (2, .byte, 65536) (by decide +kernel)
theorem moA_3 {g : ClassId → FieldType → Prop} {H : Heap} {r : Nat → Nat} (h : ∀ q ∈ mo_arr, sx_A g q.2.1 H (r q.1) q.2.2) : sx_A g .byte H (r 3) 64 := h (3, .byte, 64) (by decide +kernel)
theorem moW_3 {E : Nat → Prop} {r : Nat → Nat} (h : ∀ q ∈ mo_arr, E (r q.1)) : E (r 3) := h (3, .byte, 64) (by decide +kernel)
theorem moA_4 {g : ClassId → FieldType → Prop} {H : Heap} {r : Nat → Nat} (h : ∀ q ∈ mo_arr, sx_A g q.2.1 H (r q.1) q.2.2) : sx_A g .byte H (r 4) 3200 := h (4, .byte, 3200) (by decide +kernel)
theorem moW_4 {E : Nat → Prop} {r : Nat → Nat} (h : ∀ q ∈ mo_arr, E (r q.1)) : E (r 4) := h (4, .byte, 3200) (by decide +kernel)
theorem moA_9 {g : ClassId → FieldType → Prop} {H : Heap} {r : Nat → Nat} (h : ∀ q ∈ mo_arr, sx_A g q.2.1 H (r q.1) q.2.2) : sx_A g .int H (r 9) 6 := h (9, .int, 6) (by decide +kernel)
theorem moW_9 {E : Nat → Prop} {r : Nat → Nat} (h : ∀ q ∈ mo_arr, E (r q.1)) : E (r 9) := h (9, .int, 6) (by decide +kernel)
theorem moA_10 {g : ClassId → FieldType → Prop} {H : Heap} {r : Nat → Nat} (h : ∀ q ∈ mo_arr, sx_A g q.2.1 H (r q.1) q.2.2) : sx_A g .long H (r 10) 16 := h (10, .long, 16) (by decide +kernel)
theorem moW_10 {E : Nat → Prop} {r : Nat → Nat} (h : ∀ q ∈ mo_arr, E (r q.1)) : E (r 10) := h (10, .long, 16) (by decide +kernel)
theorem moA_11 {g : ClassId → FieldType → Prop} {H : Heap} {r : Nat → Nat} (h : ∀ q ∈ mo_arr, sx_A g q.2.1 H (r q.1) q.2.2) : sx_A g .long H (r 11) 256 := h (11, .long, 256) (by decide +kernel)
theorem moW_11 {E : Nat → Prop} {r : Nat → Nat} (h : ∀ q ∈ mo_arr, E (r q.1)) : E (r 11) := h (11, .long, 256) (by decide +kernel)
theorem moA_12 {g : ClassId → FieldType → Prop} {H : Heap} {r : Nat → Nat} (h : ∀ q ∈ mo_arr, sx_A g q.2.1 H (r q.1) q.2.2) : sx_A g .long H (r 12) 16 := h (12, .long, 16) (by decide +kernel)
theorem moW_12 {E : Nat → Prop} {r : Nat → Nat} (h : ∀ q ∈ mo_arr, E (r q.1)) : E (r 12) := h (12, .long, 16) (by decide +kernel)
theorem moA_13 {g : ClassId → FieldType → Prop} {H : Heap} {r : Nat → Nat} (h : ∀ q ∈ mo_arr, sx_A g q.2.1 H (r q.1) q.2.2) : sx_A g .long H (r 13) 256 := h (13, .long, 256) (by decide +kernel)
theorem moW_13 {E : Nat → Prop} {r : Nat → Nat} (h : ∀ q ∈ mo_arr, E (r q.1)) : E (r 13) := h (13, .long, 256) (by decide +kernel)
theorem moA_14 {g : ClassId → FieldType → Prop} {H : Heap} {r : Nat → Nat} (h : ∀ q ∈ mo_arr, sx_A g q.2.1 H (r q.1) q.2.2) : sx_A g .long H (r 14) 16 := h (14, .long, 16) (by decide +kernel)
theorem moW_14 {E : Nat → Prop} {r : Nat → Nat} (h : ∀ q ∈ mo_arr, E (r q.1)) : E (r 14) := h (14, .long, 16) (by decide +kernel)
theorem moA_15 {g : ClassId → FieldType → Prop} {H : Heap} {r : Nat → Nat} (h : ∀ q ∈ mo_arr, sx_A g q.2.1 H (r q.1) q.2.2) : sx_A g .long H (r 15) 16 := h (15, .long, 16) (by decide +kernel)
theorem moW_15 {E : Nat → Prop} {r : Nat → Nat} (h : ∀ q ∈ mo_arr, E (r q.1)) : E (r 15) := h (15, .long, 16) (by decide +kernel)
theorem moA_16 {g : ClassId → FieldType → Prop} {H : Heap} {r : Nat → Nat} (h : ∀ q ∈ mo_arr, sx_A g q.2.1 H (r q.1) q.2.2) : sx_A g .long H (r 16) 16 := h (16, .long, 16) (by decide +kernel)
theorem moW_16 {E : Nat → Prop} {r : Nat → Nat} (h : ∀ q ∈ mo_arr, E (r q.1)) : E (r 16) := h (16, .long, 16) (by decide +kernel)
theorem moA_17 {g : ClassId → FieldType → Prop} {H : Heap} {r : Nat → Nat} (h : ∀ q ∈ mo_arr, sx_A g q.2.1 H (r q.1) q.2.2) : sx_A g .long H (r 17) 16 := h (17, .long, 16) (by decide +kernel)
theorem moW_17 {E : Nat → Prop} {r : Nat → Nat} (h : ∀ q ∈ mo_arr, E (r q.1)) : E (r 17) := h (17, .long, 16) (by decide +kernel)
theorem moA_18 {g : ClassId → FieldType → Prop} {H : Heap} {r : Nat → Nat} (h : ∀ q ∈ mo_arr, sx_A g q.2.1 H (r q.1) q.2.2) : sx_A g .long H (r 18) 16 := h (18, .long, 16) (by decide +kernel)
theorem moW_18 {E : Nat → Prop} {r : Nat → Nat} (h : ∀ q ∈ mo_arr, E (r q.1)) : E (r 18) := h (18, .long, 16) (by decide +kernel)
theorem moA_19 {g : ClassId → FieldType → Prop} {H : Heap} {r : Nat → Nat} (h : ∀ q ∈ mo_arr, sx_A g q.2.1 H (r q.1) q.2.2) : sx_A g .long H (r 19) 16 := h (19, .long, 16) (by decide +kernel)
theorem moW_19 {E : Nat → Prop} {r : Nat → Nat} (h : ∀ q ∈ mo_arr, E (r q.1)) : E (r 19) := h (19, .long, 16) (by decide +kernel)
theorem moA_20 {g : ClassId → FieldType → Prop} {H : Heap} {r : Nat → Nat} (h : ∀ q ∈ mo_arr, sx_A g q.2.1 H (r q.1) q.2.2) : sx_A g .long H (r 20) 16 := h (20, .long, 16) (by decide +kernel)
theorem moW_20 {E : Nat → Prop} {r : Nat → Nat} (h : ∀ q ∈ mo_arr, E (r q.1)) : E (r 20) := h (20, .long, 16) (by decide +kernel)
theorem moA_21 {g : ClassId → FieldType → Prop} {H : Heap} {r : Nat → Nat} (h : ∀ q ∈ mo_arr, sx_A g q.2.1 H (r q.1) q.2.2) : sx_A g .long H (r 21) 16 := h (21, .long, 16) (by decide +kernel)
theorem moW_21 {E : Nat → Prop} {r : Nat → Nat} (h : ∀ q ∈ mo_arr, E (r q.1)) : E (r 21) := h (21, .long, 16) (by decide +kernel)
theorem moA_22 {g : ClassId → FieldType → Prop} {H : Heap} {r : Nat → Nat} (h : ∀ q ∈ mo_arr, sx_A g q.2.1 H (r q.1) q.2.2) : sx_A g .long H (r 22) 16 := h (22, .long, 16) (by decide +kernel)
theorem moW_22 {E : Nat → Prop} {r : Nat → Nat} (h : ∀ q ∈ mo_arr, E (r q.1)) : E (r 22) := h (22, .long, 16) (by decide +kernel)
theorem moA_23 {g : ClassId → FieldType → Prop} {H : Heap} {r : Nat → Nat} (h : ∀ q ∈ mo_arr, sx_A g q.2.1 H (r q.1) q.2.2) : sx_A g .long H (r 23) 16 := h (23, .long, 16) (by decide +kernel)
theorem moW_23 {E : Nat → Prop} {r : Nat → Nat} (h : ∀ q ∈ mo_arr, E (r q.1)) : E (r 23) := h (23, .long, 16) (by decide +kernel)
theorem moA_24 {g : ClassId → FieldType → Prop} {H : Heap} {r : Nat → Nat} (h : ∀ q ∈ mo_arr, sx_A g q.2.1 H (r q.1) q.2.2) : sx_A g .long H (r 24) 16 := h (24, .long, 16) (by decide +kernel)
theorem moW_24 {E : Nat → Prop} {r : Nat → Nat} (h : ∀ q ∈ mo_arr, E (r q.1)) : E (r 24) := h (24, .long, 16) (by decide +kernel)
theorem moA_25 {g : ClassId → FieldType → Prop} {H : Heap} {r : Nat → Nat} (h : ∀ q ∈ mo_arr, sx_A g q.2.1 H (r q.1) q.2.2) : sx_A g .long H (r 25) 16 := h (25, .long, 16) (by decide +kernel)
theorem moW_25 {E : Nat → Prop} {r : Nat → Nat} (h : ∀ q ∈ mo_arr, E (r q.1)) : E (r 25) := h (25, .long, 16) (by decide +kernel)
theorem moA_26 {g : ClassId → FieldType → Prop} {H : Heap} {r : Nat → Nat} (h : ∀ q ∈ mo_arr, sx_A g q.2.1 H (r q.1) q.2.2) : sx_A g .long H (r 26) 16 := h (26, .long, 16) (by decide +kernel)
theorem moW_26 {E : Nat → Prop} {r : Nat → Nat} (h : ∀ q ∈ mo_arr, E (r q.1)) : E (r 26) := h (26, .long, 16) (by decide +kernel)
theorem moA_27 {g : ClassId → FieldType → Prop} {H : Heap} {r : Nat → Nat} (h : ∀ q ∈ mo_arr, sx_A g q.2.1 H (r q.1) q.2.2) : sx_A g .long H (r 27) 16 := h (27, .long, 16) (by decide +kernel)
theorem moW_27 {E : Nat → Prop} {r : Nat → Nat} (h : ∀ q ∈ mo_arr, E (r q.1)) : E (r 27) := h (27, .long, 16) (by decide +kernel)
theorem moA_28 {g : ClassId → FieldType → Prop} {H : Heap} {r : Nat → Nat} (h : ∀ q ∈ mo_arr, sx_A g q.2.1 H (r q.1) q.2.2) : sx_A g .long H (r 28) 16 := h (28, .long, 16) (by decide +kernel)
theorem moW_28 {E : Nat → Prop} {r : Nat → Nat} (h : ∀ q ∈ mo_arr, E (r q.1)) : E (r 28) := h (28, .long, 16) (by decide +kernel)
theorem moA_29 {g : ClassId → FieldType → Prop} {H : Heap} {r : Nat → Nat} (h : ∀ q ∈ mo_arr, sx_A g q.2.1 H (r q.1) q.2.2) : sx_A g .long H (r 29) 16 := h (29, .long, 16) (by decide +kernel)
theorem moW_29 {E : Nat → Prop} {r : Nat → Nat} (h : ∀ q ∈ mo_arr, E (r q.1)) : E (r 29) := h (29, .long, 16) (by decide +kernel)
theorem moA_30 {g : ClassId → FieldType → Prop} {H : Heap} {r : Nat → Nat} (h : ∀ q ∈ mo_arr, sx_A g q.2.1 H (r q.1) q.2.2) : sx_A g .long H (r 30) 16 := h (30, .long, 16) (by decide +kernel)
theorem moW_30 {E : Nat → Prop} {r : Nat → Nat} (h : ∀ q ∈ mo_arr, E (r q.1)) : E (r 30) := h (30, .long, 16) (by decide +kernel)
theorem moA_31 {g : ClassId → FieldType → Prop} {H : Heap} {r : Nat → Nat} (h : ∀ q ∈ mo_arr, sx_A g q.2.1 H (r q.1) q.2.2) : sx_A g .long H (r 31) 16 := h (31, .long, 16) (by decide +kernel)
theorem moW_31 {E : Nat → Prop} {r : Nat → Nat} (h : ∀ q ∈ mo_arr, E (r q.1)) : E (r 31) := h (31, .long, 16) (by decide +kernel)
theorem moA_32 {g : ClassId → FieldType → Prop} {H : Heap} {r : Nat → Nat} (h : ∀ q ∈ mo_arr, sx_A g q.2.1 H (r q.1) q.2.2) : sx_A g .long H (r 32) 16 := h (32, .long, 16) (by decide +kernel)
theorem moW_32 {E : Nat → Prop} {r : Nat → Nat} (h : ∀ q ∈ mo_arr, E (r q.1)) : E (r 32) := h (32, .long, 16) (by decide +kernel)
theorem moA_33 {g : ClassId → FieldType → Prop} {H : Heap} {r : Nat → Nat} (h : ∀ q ∈ mo_arr, sx_A g q.2.1 H (r q.1) q.2.2) : sx_A g .long H (r 33) 16 := h (33, .long, 16) (by decide +kernel)
theorem moW_33 {E : Nat → Prop} {r : Nat → Nat} (h : ∀ q ∈ mo_arr, E (r q.1)) : E (r 33) := h (33, .long, 16) (by decide +kernel)
theorem moA_34 {g : ClassId → FieldType → Prop} {H : Heap} {r : Nat → Nat} (h : ∀ q ∈ mo_arr, sx_A g q.2.1 H (r q.1) q.2.2) : sx_A g .long H (r 34) 16 := h (34, .long, 16) (by decide +kernel)
theorem moW_34 {E : Nat → Prop} {r : Nat → Nat} (h : ∀ q ∈ mo_arr, E (r q.1)) : E (r 34) := h (34, .long, 16) (by decide +kernel)
theorem moA_35 {g : ClassId → FieldType → Prop} {H : Heap} {r : Nat → Nat} (h : ∀ q ∈ mo_arr, sx_A g q.2.1 H (r q.1) q.2.2) : sx_A g .byte H (r 35) 32 := h (35, .byte, 32) (by decide +kernel)
theorem moW_35 {E : Nat → Prop} {r : Nat → Nat} (h : ∀ q ∈ mo_arr, E (r q.1)) : E (r 35) := h (35, .byte, 32) (by decide +kernel)
theorem moA_36 {g : ClassId → FieldType → Prop} {H : Heap} {r : Nat → Nat} (h : ∀ q ∈ mo_arr, sx_A g q.2.1 H (r q.1) q.2.2) : sx_A g .byte H (r 36) 32 := h (36, .byte, 32) (by decide +kernel)
theorem moW_36 {E : Nat → Prop} {r : Nat → Nat} (h : ∀ q ∈ mo_arr, E (r q.1)) : E (r 36) := h (36, .byte, 32) (by decide +kernel)
theorem moA_37 {g : ClassId → FieldType → Prop} {H : Heap} {r : Nat → Nat} (h : ∀ q ∈ mo_arr, sx_A g q.2.1 H (r q.1) q.2.2) : sx_A g .byte H (r 37) 32 := h (37, .byte, 32) (by decide +kernel)
theorem moW_37 {E : Nat → Prop} {r : Nat → Nat} (h : ∀ q ∈ mo_arr, E (r q.1)) : E (r 37) := h (37, .byte, 32) (by decide +kernel)
theorem moA_38 {g : ClassId → FieldType → Prop} {H : Heap} {r : Nat → Nat} (h : ∀ q ∈ mo_arr, sx_A g q.2.1 H (r q.1) q.2.2) : sx_A g .byte H (r 38) 65664 := h (38, .byte, 65664) (by decide +kernel)
theorem moW_38 {E : Nat → Prop} {r : Nat → Nat} (h : ∀ q ∈ mo_arr, E (r q.1)) : E (r 38) := h (38, .byte, 65664) (by decide +kernel)
theorem moA_39 {g : ClassId → FieldType → Prop} {H : Heap} {r : Nat → Nat} (h : ∀ q ∈ mo_arr, sx_A g q.2.1 H (r q.1) q.2.2) : sx_A g .int H (r 39) 8 := h (39, .int, 8) (by decide +kernel)
theorem moW_39 {E : Nat → Prop} {r : Nat → Nat} (h : ∀ q ∈ mo_arr, E (r q.1)) : E (r 39) := h (39, .int, 8) (by decide +kernel)
theorem moA_40 {g : ClassId → FieldType → Prop} {H : Heap} {r : Nat → Nat} (h : ∀ q ∈ mo_arr, sx_A g q.2.1 H (r q.1) q.2.2) : sx_A g .long H (r 40) 32 := h (40, .long, 32) (by decide +kernel)
theorem moW_40 {E : Nat → Prop} {r : Nat → Nat} (h : ∀ q ∈ mo_arr, E (r q.1)) : E (r 40) := h (40, .long, 32) (by decide +kernel)
theorem moA_41 {g : ClassId → FieldType → Prop} {H : Heap} {r : Nat → Nat} (h : ∀ q ∈ mo_arr, sx_A g q.2.1 H (r q.1) q.2.2) : sx_A g .long H (r 41) 18 := h (41, .long, 18) (by decide +kernel)
theorem moW_41 {E : Nat → Prop} {r : Nat → Nat} (h : ∀ q ∈ mo_arr, E (r q.1)) : E (r 41) := h (41, .long, 18) (by decide +kernel)
theorem moA_42 {g : ClassId → FieldType → Prop} {H : Heap} {r : Nat → Nat} (h : ∀ q ∈ mo_arr, sx_A g q.2.1 H (r q.1) q.2.2) : sx_A g .long H (r 42) 16 := h (42, .long, 16) (by decide +kernel)
theorem moW_42 {E : Nat → Prop} {r : Nat → Nat} (h : ∀ q ∈ mo_arr, E (r q.1)) : E (r 42) := h (42, .long, 16) (by decide +kernel)
theorem moA_43 {g : ClassId → FieldType → Prop} {H : Heap} {r : Nat → Nat} (h : ∀ q ∈ mo_arr, sx_A g q.2.1 H (r q.1) q.2.2) : sx_A g .long H (r 43) 16 := h (43, .long, 16) (by decide +kernel)
theorem moW_43 {E : Nat → Prop} {r : Nat → Nat} (h : ∀ q ∈ mo_arr, E (r q.1)) : E (r 43) := h (43, .long, 16) (by decide +kernel)
theorem moA_44 {g : ClassId → FieldType → Prop} {H : Heap} {r : Nat → Nat} (h : ∀ q ∈ mo_arr, sx_A g q.2.1 H (r q.1) q.2.2) : sx_A g .long H (r 44) 17 := h (44, .long, 17) (by decide +kernel)
theorem moW_44 {E : Nat → Prop} {r : Nat → Nat} (h : ∀ q ∈ mo_arr, E (r q.1)) : E (r 44) := h (44, .long, 17) (by decide +kernel)
theorem moA_45 {g : ClassId → FieldType → Prop} {H : Heap} {r : Nat → Nat} (h : ∀ q ∈ mo_arr, sx_A g q.2.1 H (r q.1) q.2.2) : sx_A g .long H (r 45) 17 := h (45, .long, 17) (by decide +kernel)
theorem moW_45 {E : Nat → Prop} {r : Nat → Nat} (h : ∀ q ∈ mo_arr, E (r q.1)) : E (r 45) := h (45, .long, 17) (by decide +kernel)
theorem moA_46 {g : ClassId → FieldType → Prop} {H : Heap} {r : Nat → Nat} (h : ∀ q ∈ mo_arr, sx_A g q.2.1 H (r q.1) q.2.2) : sx_A g .long H (r 46) 80 := h (46, .long, 80) (by decide +kernel)
theorem moW_46 {E : Nat → Prop} {r : Nat → Nat} (h : ∀ q ∈ mo_arr, E (r q.1)) : E (r 46) := h (46, .long, 80) (by decide +kernel)
theorem moA_47 {g : ClassId → FieldType → Prop} {H : Heap} {r : Nat → Nat} (h : ∀ q ∈ mo_arr, sx_A g q.2.1 H (r q.1) q.2.2) : sx_A g .long H (r 47) 8 := h (47, .long, 8) (by decide +kernel)
theorem moW_47 {E : Nat → Prop} {r : Nat → Nat} (h : ∀ q ∈ mo_arr, E (r q.1)) : E (r 47) := h (47, .long, 8) (by decide +kernel)
theorem moA_48 {g : ClassId → FieldType → Prop} {H : Heap} {r : Nat → Nat} (h : ∀ q ∈ mo_arr, sx_A g q.2.1 H (r q.1) q.2.2) : sx_A g .long H (r 48) 80 := h (48, .long, 80) (by decide +kernel)
theorem moW_48 {E : Nat → Prop} {r : Nat → Nat} (h : ∀ q ∈ mo_arr, E (r q.1)) : E (r 48) := h (48, .long, 80) (by decide +kernel)
theorem moA_49 {g : ClassId → FieldType → Prop} {H : Heap} {r : Nat → Nat} (h : ∀ q ∈ mo_arr, sx_A g q.2.1 H (r q.1) q.2.2) : sx_A g .long H (r 49) 8 := h (49, .long, 8) (by decide +kernel)
theorem moW_49 {E : Nat → Prop} {r : Nat → Nat} (h : ∀ q ∈ mo_arr, E (r q.1)) : E (r 49) := h (49, .long, 8) (by decide +kernel)
theorem moA_50 {g : ClassId → FieldType → Prop} {H : Heap} {r : Nat → Nat} (h : ∀ q ∈ mo_arr, sx_A g q.2.1 H (r q.1) q.2.2) : sx_A g .long H (r 50) 8 := h (50, .long, 8) (by decide +kernel)
theorem moW_50 {E : Nat → Prop} {r : Nat → Nat} (h : ∀ q ∈ mo_arr, E (r q.1)) : E (r 50) := h (50, .long, 8) (by decide +kernel)
theorem moA_51 {g : ClassId → FieldType → Prop} {H : Heap} {r : Nat → Nat} (h : ∀ q ∈ mo_arr, sx_A g q.2.1 H (r q.1) q.2.2) : sx_A g .long H (r 51) 8 := h (51, .long, 8) (by decide +kernel)
theorem moW_51 {E : Nat → Prop} {r : Nat → Nat} (h : ∀ q ∈ mo_arr, E (r q.1)) : E (r 51) := h (51, .long, 8) (by decide +kernel)
theorem moA_52 {g : ClassId → FieldType → Prop} {H : Heap} {r : Nat → Nat} (h : ∀ q ∈ mo_arr, sx_A g q.2.1 H (r q.1) q.2.2) : sx_A g .byte H (r 52) 64 := h (52, .byte, 64) (by decide +kernel)
theorem moW_52 {E : Nat → Prop} {r : Nat → Nat} (h : ∀ q ∈ mo_arr, E (r q.1)) : E (r 52) := h (52, .byte, 64) (by decide +kernel)
def LF_M_fail (X : vM) (r : Nat → Nat) (v0 : Int32) (tp : Nat) (ms : Nat) (rs : Nat) (kc : Nat) : vM × Int32 := (X, (nI 0))
abbrev rm_M_fail : Room := { frames := 0, cells := 0, slots := 0, locals := 0 }
set_option maxHeartbeats 4000000 in
set_option maxRecDepth 100000 in
theorem v_M_fail {l : Launch} {D : va_G} {g : ClassId → FieldType → Prop} {E : Nat → Prop} {H0 : Heap} {X : vM} {o : Nat} {r : Nat → Nat} {th : Int32} {tp : Nat} {ms : Nat} {rs : Nat} {kc : Nat} {v0 : Int32} (hM0 : va_P D classes [(o, .inr (0, mo_fs r (mi th (nI tp) (nI ms) (nI rs) (nI kc))))] H0) (eM : E o) (hA : ∀ q ∈ mo_arr, sx_A g q.2.1 H0 (r q.1) q.2.2) (hW : ∀ q ∈ mo_arr, E (r q.1))  (h_tp : tp ≤ 65536) (h_ms : ms ≤ 65536) (h_rs : rs ≤ 64) (h_kc : kc ≤ 100) (hV : mm g H0 = X) : Met l y_M_fail (.code y_M_fail b_M_fail 2 (some .int) :: G_) rm_M_fail (sx_Pc [.ref o, .int v0] H0 D g) (vx_QiP g E H0 (LF_M_fail X r v0 tp ms rs kc).1 (LF_M_fail X r v0 tp ms rs kc).2 (fun H => va_P D classes [(o, .inr (0, mo_fs r (mi v0 (nI tp) (nI ms) (nI rs) (nI kc))))] H)) 0 0 E := by
  refine vx_miP (own := R_M) (by decide) rfl rfl rfl (Nat.le_of_ble_eq_true rfl) ?_
  intro p e s m args below meth c Q ls EE hl hret
  obtain ⟨hx, hb, hml, hown, hts, hG, hK⟩ := id EE
  have hS : sx_S g E E H0 H0 [] := sx_S.rf
  have hl : lv_has ls 2 [(0, .ref o), (1, .int v0)] := hl
  refine lv_aload_n hx hb d_M_fail_0 rfl (lv_at hl 0 rfl) ?_
  refine lv_iload_n hx hb d_M_fail_1 rfl (lv_at hl 1 rfl) ?_
  have h0_ := hM0
  refine sx_put EE hM0 rfl i_M t_M tok_M n_M 0 (by decide) rfl fl_M_211 (ty := .int) (by decide +kernel) rfl rfl (Nat.le_of_ble_eq_true rfl) eM hS d_M_fail_2 (fun H locs hM0 hJ_ hs_ hS => ?_)
  have hM0 : va_P D classes [(o, .inr (0, mo_fs r (mi v0 (nI tp) (nI ms) (nI rs) (nI kc))))] H := hM0
  have hV := (vx_obj hG hK.1 h0_ hM0 hs_).trans hV
  refine lv_iconst (v := nI 0) hx hb d_M_fail_5 (by decide +kernel) ?_
  have hp : LF_M_fail X r v0 tp ms rs kc = (X, (nI 0)) := rfl
  exact hret _ _ _ _ _ _ (congrArg Prod.fst hp :) (congrArg Prod.snd hp :) hM0 hS hV d_M_fail_6
def LF_M_none (X : vM) (r : Nat → Nat) (v0 : Int32) (tp : Nat) (ms : Nat) (rs : Nat) (kc : Nat) : vM × Bool := (let J3 : Bool := if v0 < (0 : Int32) then true else (if v0 < (nI kc) then (false) else (true)); (X, J3))
abbrev rm_M_none : Room := { frames := 0, cells := 0, slots := 0, locals := 0 }
set_option maxHeartbeats 4000000 in
set_option maxRecDepth 100000 in
theorem v_M_none {l : Launch} {D : va_G} {g : ClassId → FieldType → Prop} {E : Nat → Prop} {H0 : Heap} {X : vM} {o : Nat} {r : Nat → Nat} {th : Int32} {tp : Nat} {ms : Nat} {rs : Nat} {kc : Nat} {v0 : Int32} (hM0 : va_P D classes [(o, .inr (0, mo_fs r (mi th (nI tp) (nI ms) (nI rs) (nI kc))))] H0) (eM : E o) (hA : ∀ q ∈ mo_arr, sx_A g q.2.1 H0 (r q.1) q.2.2) (hW : ∀ q ∈ mo_arr, E (r q.1))  (h_tp : tp ≤ 65536) (h_ms : ms ≤ 65536) (h_rs : rs ≤ 64) (h_kc : kc ≤ 100) (hV : mm g H0 = X) : Met l y_M_none (.code y_M_none b_M_none 2 (some .boolean) :: G_) rm_M_none (sx_Pc [.ref o, .int v0] H0 D g) (vx_QiP g E H0 (LF_M_none X r v0 tp ms rs kc).1 (nI (LF_M_none X r v0 tp ms rs kc).2.toNat) (fun H => va_P D classes [(o, .inr (0, mo_fs r (mi th (nI tp) (nI ms) (nI rs) (nI kc))))] H)) 0 0 E := by
  refine vx_mzP (own := R_M) (by decide) rfl rfl rfl (Nat.le_of_ble_eq_true rfl) ?_
  intro p e s m args below meth c Q ls EE hl hret
  obtain ⟨hx, hb, hml, hown, hts, hG, hK⟩ := id EE
  have hS : sx_S g E E H0 H0 [] := sx_S.rf
  have hl : lv_has ls 2 [(0, .ref o), (1, .int v0)] := hl
  refine lv_iload_n hx hb d_M_none_0 rfl (lv_at hl 1 rfl) ?_
  have jn17_3 : ∀ (J3 : Bool) (H : Heap) (locs : List Loc) (ls : Array Slot), (if v0 < (0 : Int32) then true else (if v0 < (nI kc) then (false) else (true))) = J3 → sx_S g E E H0 H locs → mm g H = X → va_P D classes [(o, .inr (0, mo_fs r (mi th (nI tp) (nI ms) (nI rs) (nI kc))))] H → lv_has ls 2 [(0, .ref o), (1, .int v0)] → W p l e rm_M_none s m args below meth c H locs 0 0 Q (F0 m 17 ls [.int (nI ((J3).toNat))]) := by
    intro J3 H locs ls eJ3 hS hV hM0 hl
    have hp : LF_M_none X r v0 tp ms rs kc = (X, J3) := (by subst eJ3; exact rfl)
    exact hret _ _ _ _ _ J3 _ (congrArg Prod.fst hp :) (congrArg Prod.snd hp :) rfl hM0 hS hV d_M_none_17
  refine lv_if_lt (tgt := 12) hx hb d_M_none_1 (by decide) (fun q1_0 => ?_) (fun q1_0 => ?_)
  · skip
    refine lv_iconst (v := nI 1) hx hb d_M_none_12 (by decide +kernel) ?_
    refine lv_goto (tgt := 17) hx hb d_M_none_13 (by decide) ?_
    exact jn17_3 true _ _ _ (vx_p q1_0 rfl) hS hV hM0 (lv_sub hl [0, 1] rfl)
  · skip
    refine lv_iload_n hx hb d_M_none_4 rfl (lv_at hl 1 rfl) ?_
    refine lv_aload_n hx hb d_M_none_5 rfl (lv_at hl 0 rfl) ?_
    refine sx_get EE hM0 rfl i_M 8 (by decide) rfl fl_M_322 rfl d_M_none_6 ?_
    refine W.eq (g2 := F0 m 9 ls [.int (nI (kc)), .int v0]) rfl ?_
    refine lv_icmp_lt (tgt := 16) hx hb d_M_none_9 (by decide) (fun q9_4 => ?_) (fun q9_4 => ?_)
    · skip
      refine lv_iconst (v := nI 0) hx hb d_M_none_16 (by decide +kernel) ?_
      exact jn17_3 false _ _ _ (vx_n q1_0 (vx_p q9_4 rfl)) hS hV hM0 (lv_sub hl [0, 1] rfl)
    · skip
      refine lv_iconst (v := nI 1) hx hb d_M_none_12 (by decide +kernel) ?_
      refine lv_goto (tgt := 17) hx hb d_M_none_13 (by decide) ?_
      exact jn17_3 true _ _ _ (vx_n q1_0 (vx_n q9_4 rfl)) hS hV hM0 (lv_sub hl [0, 1] rfl)
theorem mn_f {X : vM} {r : Nat → Nat} {k tp ms rs kc : Nat} (h : k < kc) (h2 : kc ≤ 100) : (LF_M_none X r (nI k) tp ms rs kc).2 = false := by
  unfold LF_M_none
  have c1 : ¬ (nI k < (0 : Int32)) := nI_pos (by omega)
  have c2 : nI k < nI kc := (nI_ltI (by omega) (by omega)).mpr h
  simp only []
  first
    | (rw [if_neg c1, if_pos c2]; done)
    | (simp [c1, c2]; done)
    | (simp [c1, c2]; intro z; exact absurd c2 (by simpa using z))
def LL_M_tell_3 (r : Nat → Nat) (v1 : Nat) (a0 : Nat) : Nat → vM → vM := fun i_0 s_1 => (let X_2 : vM := stI s_1 (r 3) (v1 + i_0) ((s_1.2 a0 i_0).toInt8.toInt32); X_2)
def LF_M_tell (X : vM) (r : Nat → Nat) (a0 : Nat) (v1 : Nat) (v2 : Nat) (tp : Nat) (ms : Nat) (rs : Nat) (kc : Nat) : vM := (let R3 : vM := lpU 1 (LL_M_tell_3 r v1 a0) (v2 - 0) 0 X; R3)
abbrev rm_M_tell : Room := { frames := 0, cells := 0, slots := 0, locals := 0 }
set_option maxHeartbeats 4000000 in
set_option maxRecDepth 100000 in
theorem v_M_tell {l : Launch} {D : va_G} {g : ClassId → FieldType → Prop} {E : Nat → Prop} {H0 : Heap} {X : vM} {o : Nat} {r : Nat → Nat} {th : Int32} {tp : Nat} {ms : Nat} {rs : Nat} {kc : Nat} {a0 : Nat} {v1 : Nat} {v2 : Nat} (hM0 : va_P D classes [(o, .inr (0, mo_fs r (mi th (nI tp) (nI ms) (nI rs) (nI kc))))] H0) (eM : E o) (hA : ∀ q ∈ mo_arr, sx_A g q.2.1 H0 (r q.1) q.2.2) (hW : ∀ q ∈ mo_arr, E (r q.1)) (f0 : sx_A g .byte H0 a0 32) (h_tp : tp ≤ 65536) (h_ms : ms ≤ 65536) (h_rs : rs ≤ 64) (h_kc : kc ≤ 100) (h1 : v1 + v2 ≤ 64) (h2 : v2 ≤ 32) (hV : mm g H0 = X) : Met l y_M_tell (.code y_M_tell b_M_tell 5 none :: G_) rm_M_tell (sx_Pc [.ref o, .ref a0, .int (nI v1), .int (nI v2)] H0 D g) (vx_QvP g E H0 (LF_M_tell X r a0 v1 v2 tp ms rs kc) (fun H => va_P D classes [(o, .inr (0, mo_fs r (mi th (nI tp) (nI ms) (nI (v1 + v2)) (nI kc))))] H)) 0 0 E := by
  refine vx_mvP (own := R_M) (by decide) rfl rfl rfl (Nat.le_of_ble_eq_true rfl) ?_
  intro p e s m args below meth c Q ls EE hl hret
  obtain ⟨hx, hb, hml, hown, hts, hG, hK⟩ := id EE
  have hS : sx_S g E E H0 H0 [] := sx_S.rf
  have hl : lv_has ls 5 [(0, .ref o), (1, .ref a0), (2, .int (nI (v1))), (3, .int (nI (v2)))] := hl
  refine lv_iconst (v := nI 0) hx hb d_M_tell_0 (by decide +kernel) ?_
  refine lv_istore (lv' := [(4, .int (nI (0))), (0, .ref o), (1, .ref a0), (2, .int (nI (v1))), (3, .int (nI (v2)))]) hx hb d_M_tell_1 hl (by decide) rfl (fun ls hl => ?_)
  obtain ⟨R3, eR3⟩ : ∃ t : vM, lpU 1 (LL_M_tell_3 r v1 a0) (v2 - 0) 0 X = t := ⟨_, rfl⟩
  refine lpU_go (σ := vM) (P := fun i1 s2 H locs ls => sx_S g E E H0 H locs ∧ mm g H = s2 ∧ va_P D classes [(o, .inr (0, mo_fs r (mi th (nI tp) (nI ms) (nI rs) (nI kc))))] H ∧ lv_has ls 5 [(4, .int (nI (i1))), (0, .ref o), (1, .ref a0), (2, .int (nI (v1))), (3, .int (nI (v2)))]) (Wd := fun H locs ls => W p l e rm_M_tell s m args below meth c H locs 0 0 Q (F0 m 3 ls [])) (N := v2) (d := 1) (by decide) ?_ ?_ (v2 - 0) 0 _ (by omega) eR3 _ _ _ ⟨hS, hV, hM0, lv_sub hl [0, 1, 2, 3, 4] rfl⟩
  · intro i1 s2 H locs ls hii1 hP ihi1
    obtain ⟨hS, hV, hM0, hl⟩ := hP
    refine lv_iload hx hb d_M_tell_3 (lv_at hl 0 rfl) ?_
    refine lv_iload_n hx hb d_M_tell_5 rfl (lv_at hl 4 rfl) ?_
    refine lv_icmp_ge (tgt := 28) hx hb d_M_tell_6 (by decide) (fun q => absurd q (nI_ge (by omega) (by omega))) (fun _ => ?_)
    refine lv_aload_n hx hb d_M_tell_9 rfl (lv_at hl 1 rfl) ?_
    refine sx_get EE hM0 rfl i_M 3 (by decide) rfl fl_M_17 rfl d_M_tell_10 ?_
    refine W.eq (g2 := F0 m 13 ls [.ref (r 3)]) rfl ?_
    refine lv_iload_n hx hb d_M_tell_13 rfl (lv_at hl 3 rfl) ?_
    refine lv_iload hx hb d_M_tell_14 (lv_at hl 0 rfl) ?_
    refine lv_iadd hx hb d_M_tell_16 ?_
    refine sx_ti (y := nI (v1 + i1)) (nI_add _ _) ?_
    refine lv_aload_n hx hb d_M_tell_17 rfl (lv_at hl 2 rfl) ?_
    refine lv_iload hx hb d_M_tell_18 (lv_at hl 0 rfl) ?_
    refine vx_bald hx hb hG hS hV f0 (by omega) (by decide) d_M_tell_20 ?_
    refine vx_bastJ hx hb hG hK.1 hS hV (moA_3 hA) (moW_3 hW) (by omega) (by decide) d_M_tell_21 (fun H locs X4 eX4 hS hV hO => ?_)
    have hM0 := hO _ _ hM0
    refine lv_iinc (v := nI (i1 + 1)) (lv' := [(4, .int (nI (i1 + 1))), (0, .ref o), (1, .ref a0), (2, .int (nI (v1))), (3, .int (nI (v2)))]) hx hb d_M_tell_22 hl (k := 0) rfl (sx_inc _ _) (by decide) rfl (fun ls hl => ?_)
    refine lv_goto (tgt := 3) hx hb d_M_tell_25 (by decide) ?_
    exact ihi1 X4 _ _ _ (by subst eX4; exact rfl) ⟨hS, hV, hM0, lv_sub hl [0, 1, 2, 3, 4] rfl⟩
  · intro H locs ls hP
    obtain ⟨hS, hV, hM0, hl⟩ := hP
    refine lv_iload hx hb d_M_tell_3 (lv_at hl 0 rfl) ?_
    refine lv_iload_n hx hb d_M_tell_5 rfl (lv_at hl 4 rfl) ?_
    refine lv_icmp_ge (tgt := 28) hx hb d_M_tell_6 (by decide) (fun _ => ?_) (fun q => absurd (nI_le (by omega) (by omega)) q)
    refine lv_aload_n hx hb d_M_tell_28 rfl (lv_at hl 1 rfl) ?_
    refine lv_iload_n hx hb d_M_tell_29 rfl (lv_at hl 3 rfl) ?_
    refine lv_iload_n hx hb d_M_tell_30 rfl (lv_at hl 4 rfl) ?_
    refine lv_iadd hx hb d_M_tell_31 ?_
    refine sx_ti (y := nI (v1 + v2)) (nI_add _ _) ?_
    have h0_ := hM0
    refine sx_put EE hM0 rfl i_M t_M tok_M n_M 7 (by decide) rfl fl_M_325 (ty := .int) (by decide +kernel) rfl rfl (Nat.le_of_ble_eq_true rfl) eM hS d_M_tell_32 (fun H locs hM0 hJ_ hs_ hS => ?_)
    have hM0 : va_P D classes [(o, .inr (0, mo_fs r (mi th (nI tp) (nI ms) (nI (v1 + v2)) (nI kc))))] H := hM0
    have hV := (vx_obj hG hK.1 h0_ hM0 hs_).trans hV
    exact hret _ _ _ _ _ (by subst eR3; exact rfl) hM0 hS hV d_M_tell_35
def LL_M_feed_24 (v4 : Int32) (v3 : Int32) (v2 : Int32) (v1 : Int32) (v0 : Int32) (r : Nat → Nat) (tp : Nat) : Nat → vM → vM := fun i_0 s_1 => (let J_2 : Int32 := if 4 ≤ i_0 then (if 8 ≤ i_0 then (if 12 ≤ i_0 then (if 16 ≤ i_0 then (v4) else (v3)) else (v2)) else (v1)) else v0; (let X_3 : vM := stI s_1 (r 1) (tp + i_0) (((J_2 >>> ((nI (8 * (3 - (i_0 % 4)))) &&& 31)).toInt8.toInt32).toInt8.toInt32); X_3))
def LF_M_feed_a (X : vM) (r : Nat → Nat) (v0 : Int32) (v1 : Int32) (v2 : Int32) (v3 : Int32) (v4 : Int32) (tp : Nat) (ms : Nat) (rs : Nat) (kc : Nat) : vM × Int32 := (let R4 : vM := lpU 1 (LL_M_feed_24 v4 v3 v2 v1 v0 r tp) 20 0 X; (R4, (nI (tp + 20))))
abbrev rm_M_feed_a : Room := { frames := 0, cells := 0, slots := 0, locals := 0 }
set_option maxHeartbeats 4000000 in
set_option maxRecDepth 100000 in
theorem v_M_feed_a {l : Launch} {D : va_G} {g : ClassId → FieldType → Prop} {E : Nat → Prop} {H0 : Heap} {X : vM} {o : Nat} {r : Nat → Nat} {th : Int32} {tp : Nat} {ms : Nat} {rs : Nat} {kc : Nat} {v0 : Int32} {v1 : Int32} {v2 : Int32} {v3 : Int32} {v4 : Int32} (hM0 : va_P D classes [(o, .inr (0, mo_fs r (mi th (nI tp) (nI ms) (nI rs) (nI kc))))] H0) (eM : E o) (hA : ∀ q ∈ mo_arr, sx_A g q.2.1 H0 (r q.1) q.2.2) (hW : ∀ q ∈ mo_arr, E (r q.1))  (h_tp : tp ≤ 65536) (h_ms : ms ≤ 65536) (h_rs : rs ≤ 64) (h_kc : kc ≤ 100) (hw : tp ≤ 65516) (hV : mm g H0 = X) : Met l y_M_feed (.code y_M_feed b_M_feed 8 (some .int) :: G_) rm_M_feed_a (sx_Pc [.ref o, .int v0, .int v1, .int v2, .int v3, .int v4] H0 D g) (vx_QiP g E H0 (LF_M_feed_a X r v0 v1 v2 v3 v4 tp ms rs kc).1 (LF_M_feed_a X r v0 v1 v2 v3 v4 tp ms rs kc).2 (fun H => va_P D classes [(o, .inr (0, mo_fs r (mi (nI 0) (nI (tp + 20)) (nI ms) (nI rs) (nI kc))))] H)) 0 0 E := by
  refine vx_miP (own := R_M) (by decide) rfl rfl rfl (Nat.le_of_ble_eq_true rfl) ?_
  intro p e s m args below meth c Q ls EE hl hret
  obtain ⟨hx, hb, hml, hown, hts, hG, hK⟩ := id EE
  have hS : sx_S g E E H0 H0 [] := sx_S.rf
  have hl : lv_has ls 8 [(0, .ref o), (1, .int v0), (2, .int v1), (3, .int v2), (4, .int v3), (5, .int v4)] := hl
  refine lv_aload_n hx hb d_M_feed_0 rfl (lv_at hl 0 rfl) ?_
  refine lv_iconst (v := nI 0) hx hb d_M_feed_1 (by decide +kernel) ?_
  have h0_ := hM0
  refine sx_put EE hM0 rfl i_M t_M tok_M n_M 0 (by decide) rfl fl_M_211 (ty := .int) (by decide +kernel) rfl rfl (Nat.le_of_ble_eq_true rfl) eM hS d_M_feed_2 (fun H locs hM0 hJ_ hs_ hS => ?_)
  have hM0 : va_P D classes [(o, .inr (0, mo_fs r (mi (nI 0) (nI tp) (nI ms) (nI rs) (nI kc))))] H := hM0
  have hV := (vx_obj hG hK.1 h0_ hM0 hs_).trans hV
  refine lv_aload_n hx hb d_M_feed_5 rfl (lv_at hl 0 rfl) ?_
  refine sx_get EE hM0 rfl i_M 5 (by decide) rfl fl_M_315 rfl d_M_feed_6 ?_
  refine W.eq (g2 := F0 m 9 ls [.int (nI (tp))]) rfl ?_
  refine lv_ldcw (v := (nI 65516)) hx hb hown (hts (.constant R_M 318 (nI 65516)) (by decide +kernel)) d_M_feed_9 ?_
  refine lv_icmp_le (tgt := 21) hx hb d_M_feed_12 (by decide) (fun _ => ?_) (fun q12_0 => absurd (show tp ≤ 65516 by omega) (by have q12_0 : ¬ (tp ≤ 65516) := fun z => q12_0 ((nI_leI (a := tp) (b := 65516) (by omega) (by omega)).mpr z); exact q12_0))
  refine lv_iconst (v := nI 0) hx hb d_M_feed_21 (by decide +kernel) ?_
  refine lv_istore (lv' := [(6, .int (nI (0))), (0, .ref o), (1, .int v0), (2, .int v1), (3, .int v2), (4, .int v3), (5, .int v4)]) hx hb d_M_feed_22 hl (by decide) rfl (fun ls hl => ?_)
  obtain ⟨R4, eR4⟩ : ∃ t : vM, lpU 1 (LL_M_feed_24 v4 v3 v2 v1 v0 r tp) 20 0 X = t := ⟨_, rfl⟩
  refine lpU_go (σ := vM) (P := fun i2 s3 H locs ls => sx_S g E E H0 H locs ∧ mm g H = s3 ∧ va_P D classes [(o, .inr (0, mo_fs r (mi (nI 0) (nI tp) (nI ms) (nI rs) (nI kc))))] H ∧ lv_has ls 8 [(6, .int (nI (i2))), (0, .ref o), (1, .int v0), (2, .int v1), (3, .int v2), (4, .int v3), (5, .int v4)]) (Wd := fun H locs ls => W p l e rm_M_feed_a s m args below meth c H locs 0 0 Q (F0 m 24 ls [])) (N := 20) (d := 1) (by decide) ?_ ?_ 20 0 _ (by omega) eR4 _ _ _ ⟨hS, hV, hM0, lv_sub hl [0, 1, 2, 3, 4, 5, 6] rfl⟩
  · intro i2 s3 H locs ls hii2 hP ihi2
    obtain ⟨hS, hV, hM0, hl⟩ := hP
    refine lv_iload hx hb d_M_feed_24 (lv_at hl 0 rfl) ?_
    refine lv_bipush (v := nI 20) hx hb d_M_feed_26 (by decide +kernel) ?_
    refine lv_icmp_ge (tgt := 110) hx hb d_M_feed_28 (by decide) (fun q => absurd q (nI_ge (by omega) (by omega))) (fun _ => ?_)
    refine lv_iload hx hb d_M_feed_31 (lv_at hl 0 rfl) ?_
    refine lv_iconst (v := nI 4) hx hb d_M_feed_33 (by decide +kernel) ?_
    have jn77_9 : ∀ (J9 : Int32) (H : Heap) (locs : List Loc) (ls : Array Slot), (if 4 ≤ i2 then (if 8 ≤ i2 then (if 12 ≤ i2 then (if 16 ≤ i2 then (v4) else (v3)) else (v2)) else (v1)) else v0) = J9 → sx_S g E E H0 H locs → mm g H = s3 → va_P D classes [(o, .inr (0, mo_fs r (mi (nI 0) (nI tp) (nI ms) (nI rs) (nI kc))))] H → lv_has ls 8 [(6, .int (nI (i2))), (0, .ref o), (1, .int v0), (2, .int v1), (3, .int v2), (4, .int v3), (5, .int v4)] → W p l e rm_M_feed_a s m args below meth c H locs 0 0 Q (F0 m 77 ls [.int J9]) := by
      intro J9 H locs ls eJ9 hS hV hM0 hl
      refine lv_istore (lv' := [(7, .int J9), (6, .int (nI (i2))), (0, .ref o), (1, .int v0), (2, .int v1), (3, .int v2), (4, .int v3), (5, .int v4)]) hx hb d_M_feed_77 hl (by decide) rfl (fun ls hl => ?_)
      refine lv_aload_n hx hb d_M_feed_79 rfl (lv_at hl 2 rfl) ?_
      refine sx_get EE hM0 rfl i_M 1 (by decide) rfl fl_M_8 rfl d_M_feed_80 ?_
      refine W.eq (g2 := F0 m 83 ls [.ref (r 1)]) rfl ?_
      refine lv_aload_n hx hb d_M_feed_83 rfl (lv_at hl 2 rfl) ?_
      refine sx_get EE hM0 rfl i_M 5 (by decide) rfl fl_M_315 rfl d_M_feed_84 ?_
      refine W.eq (g2 := F0 m 87 ls [.int (nI (tp)), .ref (r 1)]) rfl ?_
      refine lv_iload hx hb d_M_feed_87 (lv_at hl 1 rfl) ?_
      refine lv_iadd hx hb d_M_feed_89 ?_
      refine sx_ti (y := nI (tp + i2)) (nI_add _ _) ?_
      refine lv_iload hx hb d_M_feed_90 (lv_at hl 0 rfl) ?_
      refine lv_bipush (v := nI 8) hx hb d_M_feed_92 (by decide +kernel) ?_
      refine lv_iconst (v := nI 3) hx hb d_M_feed_94 (by decide +kernel) ?_
      refine lv_iload hx hb d_M_feed_95 (lv_at hl 1 rfl) ?_
      refine lv_iconst (v := nI 4) hx hb d_M_feed_97 (by decide +kernel) ?_
      refine lv_irem hx hb d_M_feed_98 (nI_ne0 (by omega) (by omega)) ?_
      refine sx_ti (y := nI (i2 % 4)) (pk_rem (by omega) (by omega) (by omega)) ?_
      refine lv_isub hx hb d_M_feed_99 ?_
      refine sx_ti (y := nI (3 - (i2 % 4))) (pk_sub (by omega)) ?_
      refine lv_imul hx hb d_M_feed_100 ?_
      refine sx_ti (y := nI (8 * (3 - (i2 % 4)))) (pk_mul _ _) ?_
      refine lv_ishr hx hb d_M_feed_101 ?_
      refine lv_i2b hx hb d_M_feed_102 rfl ?_
      refine vx_bastJ hx hb hG hK.1 hS hV (moA_1 hA) (moW_1 hW) (by omega) (by decide) d_M_feed_103 (fun H locs X11 eX11 hS hV hO => ?_)
      have hM0 := hO _ _ hM0
      refine lv_iinc (v := nI (i2 + 1)) (lv' := [(6, .int (nI (i2 + 1))), (7, .int J9), (0, .ref o), (1, .int v0), (2, .int v1), (3, .int v2), (4, .int v3), (5, .int v4)]) hx hb d_M_feed_104 hl (k := 1) rfl (sx_inc _ _) (by decide) rfl (fun ls hl => ?_)
      refine lv_goto (tgt := 24) hx hb d_M_feed_107 (by decide) ?_
      exact ihi2 X11 _ _ _ (by subst eJ9 eX11; exact rfl) ⟨hS, hV, hM0, lv_sub hl [0, 2, 3, 4, 5, 6, 7] rfl⟩
    refine lv_icmp_ge (tgt := 41) hx hb d_M_feed_34 (by decide) (fun q34_4 => ?_) (fun q34_4 => ?_)
    · skip
      have q34_4 : 4 ≤ i2 := (nI_leI (a := 4) (b := i2) (by omega) (by omega)).mp q34_4
      refine lv_iload hx hb d_M_feed_41 (lv_at hl 0 rfl) ?_
      refine lv_bipush (v := nI 8) hx hb d_M_feed_43 (by decide +kernel) ?_
      refine lv_icmp_ge (tgt := 52) hx hb d_M_feed_45 (by decide) (fun q45_11 => ?_) (fun q45_11 => ?_)
      · skip
        have q45_11 : 8 ≤ i2 := (nI_leI (a := 8) (b := i2) (by omega) (by omega)).mp q45_11
        refine lv_iload hx hb d_M_feed_52 (lv_at hl 0 rfl) ?_
        refine lv_bipush (v := nI 12) hx hb d_M_feed_54 (by decide +kernel) ?_
        refine lv_icmp_ge (tgt := 63) hx hb d_M_feed_56 (by decide) (fun q56_12 => ?_) (fun q56_12 => ?_)
        · skip
          have q56_12 : 12 ≤ i2 := (nI_leI (a := 12) (b := i2) (by omega) (by omega)).mp q56_12
          refine lv_iload hx hb d_M_feed_63 (lv_at hl 0 rfl) ?_
          refine lv_bipush (v := nI 16) hx hb d_M_feed_65 (by decide +kernel) ?_
          refine lv_icmp_ge (tgt := 75) hx hb d_M_feed_67 (by decide) (fun q67_13 => ?_) (fun q67_13 => ?_)
          · skip
            have q67_13 : 16 ≤ i2 := (nI_leI (a := 16) (b := i2) (by omega) (by omega)).mp q67_13
            refine lv_iload hx hb d_M_feed_75 (lv_at hl 6 rfl) ?_
            exact jn77_9 v4 _ _ _ (vx_p q34_4 (vx_p q45_11 (vx_p q56_12 (vx_p q67_13 rfl)))) hS hV hM0 (lv_sub hl [0, 1, 2, 3, 4, 5, 6] rfl)
          · skip
            have q67_13 : ¬ (16 ≤ i2) := fun z => q67_13 ((nI_leI (a := 16) (b := i2) (by omega) (by omega)).mpr z)
            refine lv_iload hx hb d_M_feed_70 (lv_at hl 5 rfl) ?_
            refine lv_goto (tgt := 77) hx hb d_M_feed_72 (by decide) ?_
            exact jn77_9 v3 _ _ _ (vx_p q34_4 (vx_p q45_11 (vx_p q56_12 (vx_n q67_13 rfl)))) hS hV hM0 (lv_sub hl [0, 1, 2, 3, 4, 5, 6] rfl)
        · skip
          have q56_12 : ¬ (12 ≤ i2) := fun z => q56_12 ((nI_leI (a := 12) (b := i2) (by omega) (by omega)).mpr z)
          refine lv_iload_n hx hb d_M_feed_59 rfl (lv_at hl 4 rfl) ?_
          refine lv_goto (tgt := 77) hx hb d_M_feed_60 (by decide) ?_
          exact jn77_9 v2 _ _ _ (vx_p q34_4 (vx_p q45_11 (vx_n q56_12 rfl))) hS hV hM0 (lv_sub hl [0, 1, 2, 3, 4, 5, 6] rfl)
      · skip
        have q45_11 : ¬ (8 ≤ i2) := fun z => q45_11 ((nI_leI (a := 8) (b := i2) (by omega) (by omega)).mpr z)
        refine lv_iload_n hx hb d_M_feed_48 rfl (lv_at hl 3 rfl) ?_
        refine lv_goto (tgt := 77) hx hb d_M_feed_49 (by decide) ?_
        exact jn77_9 v1 _ _ _ (vx_p q34_4 (vx_n q45_11 rfl)) hS hV hM0 (lv_sub hl [0, 1, 2, 3, 4, 5, 6] rfl)
    · skip
      have q34_4 : ¬ (4 ≤ i2) := fun z => q34_4 ((nI_leI (a := 4) (b := i2) (by omega) (by omega)).mpr z)
      refine lv_iload_n hx hb d_M_feed_37 rfl (lv_at hl 2 rfl) ?_
      refine lv_goto (tgt := 77) hx hb d_M_feed_38 (by decide) ?_
      exact jn77_9 v0 _ _ _ (vx_n q34_4 rfl) hS hV hM0 (lv_sub hl [0, 1, 2, 3, 4, 5, 6] rfl)
  · intro H locs ls hP
    obtain ⟨hS, hV, hM0, hl⟩ := hP
    refine lv_iload hx hb d_M_feed_24 (lv_at hl 0 rfl) ?_
    refine lv_bipush (v := nI 20) hx hb d_M_feed_26 (by decide +kernel) ?_
    refine lv_icmp_ge (tgt := 110) hx hb d_M_feed_28 (by decide) (fun _ => ?_) (fun q => absurd (nI_le (by omega) (by omega)) q)
    refine lv_aload_n hx hb d_M_feed_110 rfl (lv_at hl 1 rfl) ?_
    refine lv_dup hx hb d_M_feed_111 rfl ?_
    refine sx_get EE hM0 rfl i_M 5 (by decide) rfl fl_M_315 rfl d_M_feed_112 ?_
    refine W.eq (g2 := F0 m 115 ls [.int (nI (tp)), .ref o]) rfl ?_
    refine lv_bipush (v := nI 20) hx hb d_M_feed_115 (by decide +kernel) ?_
    refine lv_iadd hx hb d_M_feed_117 ?_
    refine sx_ti (y := nI (tp + 20)) (nI_add _ _) ?_
    have h0_ := hM0
    refine sx_put EE hM0 rfl i_M t_M tok_M n_M 5 (by decide) rfl fl_M_315 (ty := .int) (by decide +kernel) rfl rfl (Nat.le_of_ble_eq_true rfl) eM hS d_M_feed_118 (fun H locs hM0 hJ_ hs_ hS => ?_)
    have hM0 : va_P D classes [(o, .inr (0, mo_fs r (mi (nI 0) (nI (tp + 20)) (nI ms) (nI rs) (nI kc))))] H := hM0
    have hV := (vx_obj hG hK.1 h0_ hM0 hs_).trans hV
    refine lv_aload_n hx hb d_M_feed_121 rfl (lv_at hl 1 rfl) ?_
    refine sx_get EE hM0 rfl i_M 5 (by decide) rfl fl_M_315 rfl d_M_feed_122 ?_
    refine W.eq (g2 := F0 m 125 ls [.int (nI (tp + 20))]) rfl ?_
    have hp : LF_M_feed_a X r v0 v1 v2 v3 v4 tp ms rs kc = (R4, (nI (tp + 20))) := (by subst eR4; exact rfl)
    exact hret _ _ _ _ _ _ (congrArg Prod.fst hp :) (congrArg Prod.snd hp :) hM0 hS hV d_M_feed_125
def LF_M_feed_b (X : vM) (r : Nat → Nat) (v0 : Int32) (v1 : Int32) (v2 : Int32) (v3 : Int32) (v4 : Int32) (tp : Nat) (ms : Nat) (rs : Nat) (kc : Nat) : vM × Int32 := (let X2 : vM := (LF_M_fail X r (nI 1) tp ms rs kc).1; (X2, (nI 0)))
abbrev rm_M_feed_b : Room := { frames := 1, cells := 0, slots := 0, locals := 21 }
set_option maxHeartbeats 4000000 in
set_option maxRecDepth 100000 in
theorem v_M_feed_b {l : Launch} {D : va_G} {g : ClassId → FieldType → Prop} {E : Nat → Prop} {H0 : Heap} {X : vM} {o : Nat} {r : Nat → Nat} {th : Int32} {tp : Nat} {ms : Nat} {rs : Nat} {kc : Nat} {v0 : Int32} {v1 : Int32} {v2 : Int32} {v3 : Int32} {v4 : Int32} (hM0 : va_P D classes [(o, .inr (0, mo_fs r (mi th (nI tp) (nI ms) (nI rs) (nI kc))))] H0) (eM : E o) (hA : ∀ q ∈ mo_arr, sx_A g q.2.1 H0 (r q.1) q.2.2) (hW : ∀ q ∈ mo_arr, E (r q.1))  (h_tp : tp ≤ 65536) (h_ms : ms ≤ 65536) (h_rs : rs ≤ 64) (h_kc : kc ≤ 100) (hw : 65516 < tp) (hV : mm g H0 = X) : Met l y_M_feed (.code y_M_feed b_M_feed 8 (some .int) :: G_) rm_M_feed_b (sx_Pc [.ref o, .int v0, .int v1, .int v2, .int v3, .int v4] H0 D g) (vx_QiP g E H0 (LF_M_feed_b X r v0 v1 v2 v3 v4 tp ms rs kc).1 (LF_M_feed_b X r v0 v1 v2 v3 v4 tp ms rs kc).2 (fun H => va_P D classes [(o, .inr (0, mo_fs r (mi (nI 1) (nI tp) (nI ms) (nI rs) (nI kc))))] H)) 0 0 E := by
  refine vx_miP (own := R_M) (by decide) rfl rfl rfl (Nat.le_of_ble_eq_true rfl) ?_
  intro p e s m args below meth c Q ls EE hl hret
  obtain ⟨hx, hb, hml, hown, hts, hG, hK⟩ := id EE
  have hS : sx_S g E E H0 H0 [] := sx_S.rf
  have hl : lv_has ls 8 [(0, .ref o), (1, .int v0), (2, .int v1), (3, .int v2), (4, .int v3), (5, .int v4)] := hl
  refine lv_aload_n hx hb d_M_feed_0 rfl (lv_at hl 0 rfl) ?_
  refine lv_iconst (v := nI 0) hx hb d_M_feed_1 (by decide +kernel) ?_
  have h0_ := hM0
  refine sx_put EE hM0 rfl i_M t_M tok_M n_M 0 (by decide) rfl fl_M_211 (ty := .int) (by decide +kernel) rfl rfl (Nat.le_of_ble_eq_true rfl) eM hS d_M_feed_2 (fun H locs hM0 hJ_ hs_ hS => ?_)
  have hM0 : va_P D classes [(o, .inr (0, mo_fs r (mi (nI 0) (nI tp) (nI ms) (nI rs) (nI kc))))] H := hM0
  have hV := (vx_obj hG hK.1 h0_ hM0 hs_).trans hV
  refine lv_aload_n hx hb d_M_feed_5 rfl (lv_at hl 0 rfl) ?_
  refine sx_get EE hM0 rfl i_M 5 (by decide) rfl fl_M_315 rfl d_M_feed_6 ?_
  refine W.eq (g2 := F0 m 9 ls [.int (nI (tp))]) rfl ?_
  refine lv_ldcw (v := (nI 65516)) hx hb hown (hts (.constant R_M 318 (nI 65516)) (by decide +kernel)) d_M_feed_9 ?_
  refine lv_icmp_le (tgt := 21) hx hb d_M_feed_12 (by decide) (fun q12_0 => absurd (show tp ≤ 65516 by have q12_0 : tp ≤ 65516 := (nI_leI (a := tp) (b := 65516) (by omega) (by omega)).mp q12_0; exact q12_0) (by omega)) (fun _ => ?_)
  refine lv_aload_n hx hb d_M_feed_15 rfl (lv_at hl 0 rfl) ?_
  refine lv_iconst (v := nI 1) hx hb d_M_feed_16 (by decide +kernel) ?_
  refine vx_giP (sx_runV (As := [.int (nI (1))]) (rest := []) EE hM0 rfl rfl (v_M_fail (X := X) hM0 eM (fun q hq => hS.1.2.2.1 _ _ _ (hA q hq)) hW (h_tp := by omega) (h_ms := by omega) (h_rs := by omega) (h_kc := by omega) hV) w_M_319 rfl ⟨rfl, rfl⟩ ⟨Nat.le_of_ble_eq_true rfl, Nat.le_of_ble_eq_true rfl⟩ ⟨Nat.zero_le _, Nat.zero_le _⟩ hl.1 rfl (Nat.le_of_ble_eq_true rfl) d_M_feed_17) (fun z_ h_ => h_) hS (fun H locs X2 eX2 hM0 hS hV hJ_ => ?_)
  have hM0 : va_P D classes [(o, .inr (0, mo_fs r (mi (nI 1) (nI tp) (nI ms) (nI rs) (nI kc))))] H := hM0
  have hp : LF_M_feed_b X r v0 v1 v2 v3 v4 tp ms rs kc = (X2, (nI 0)) := (by subst eX2; exact rfl)
  exact hret _ _ _ _ _ _ (congrArg Prod.fst hp :) (congrArg Prod.snd hp :) hM0 hS hV d_M_feed_20
def LF_M_end_a (X : vM) (r : Nat → Nat) (v0 : Nat) (tp : Nat) (ms : Nat) (rs : Nat) (kc : Nat) : vM × Int32 := (X, (nI v0))
abbrev rm_M_end_a : Room := { frames := 0, cells := 0, slots := 0, locals := 0 }
set_option maxHeartbeats 4000000 in
set_option maxRecDepth 100000 in
theorem v_M_end_a {l : Launch} {D : va_G} {g : ClassId → FieldType → Prop} {E : Nat → Prop} {H0 : Heap} {X : vM} {o : Nat} {r : Nat → Nat} {th : Int32} {tp : Nat} {ms : Nat} {rs : Nat} {kc : Nat} {v0 : Nat} (hM0 : va_P D classes [(o, .inr (0, mo_fs r (mi th (nI tp) (nI ms) (nI rs) (nI kc))))] H0) (eM : E o) (hA : ∀ q ∈ mo_arr, sx_A g q.2.1 H0 (r q.1) q.2.2) (hW : ∀ q ∈ mo_arr, E (r q.1))  (h_tp : tp ≤ 65536) (h_ms : ms ≤ 65536) (h_rs : rs ≤ 64) (h_kc : kc ≤ 100) (hw : v0 ≤ tp) (hV : mm g H0 = X) : Met l y_M_end (.code y_M_end b_M_end 2 (some .int) :: G_) rm_M_end_a (sx_Pc [.ref o, .int (nI v0)] H0 D g) (vx_QiP g E H0 (LF_M_end_a X r v0 tp ms rs kc).1 (LF_M_end_a X r v0 tp ms rs kc).2 (fun H => va_P D classes [(o, .inr (0, mo_fs r (mi (nI 0) (nI v0) (nI ms) (nI rs) (nI kc))))] H)) 0 0 E := by
  refine vx_miP (own := R_M) (by decide) rfl rfl rfl (Nat.le_of_ble_eq_true rfl) ?_
  intro p e s m args below meth c Q ls EE hl hret
  obtain ⟨hx, hb, hml, hown, hts, hG, hK⟩ := id EE
  have hS : sx_S g E E H0 H0 [] := sx_S.rf
  have hl : lv_has ls 2 [(0, .ref o), (1, .int (nI (v0)))] := hl
  refine lv_aload_n hx hb d_M_end_0 rfl (lv_at hl 0 rfl) ?_
  refine lv_iconst (v := nI 0) hx hb d_M_end_1 (by decide +kernel) ?_
  have h0_ := hM0
  refine sx_put EE hM0 rfl i_M t_M tok_M n_M 0 (by decide) rfl fl_M_211 (ty := .int) (by decide +kernel) rfl rfl (Nat.le_of_ble_eq_true rfl) eM hS d_M_end_2 (fun H locs hM0 hJ_ hs_ hS => ?_)
  have hM0 : va_P D classes [(o, .inr (0, mo_fs r (mi (nI 0) (nI tp) (nI ms) (nI rs) (nI kc))))] H := hM0
  have hV := (vx_obj hG hK.1 h0_ hM0 hs_).trans hV
  refine lv_iload_n hx hb d_M_end_5 rfl (lv_at hl 1 rfl) ?_
  refine lv_if_lt (tgt := 17) hx hb d_M_end_6 (by decide) (fun q6_0 => absurd (show v0 < 0 by have q6_0 : v0 < 0 := (nI_ltI (a := v0) (b := 0) (by omega) (by omega)).mp q6_0; exact q6_0) (by omega)) (fun _ => ?_)
  refine lv_iload_n hx hb d_M_end_9 rfl (lv_at hl 1 rfl) ?_
  refine lv_aload_n hx hb d_M_end_10 rfl (lv_at hl 0 rfl) ?_
  refine sx_get EE hM0 rfl i_M 5 (by decide) rfl fl_M_315 rfl d_M_end_11 ?_
  refine W.eq (g2 := F0 m 14 ls [.int (nI (tp)), .int (nI (v0))]) rfl ?_
  refine lv_icmp_le (tgt := 23) hx hb d_M_end_14 (by decide) (fun _ => ?_) (fun q14_1 => absurd (show v0 ≤ tp by omega) (by have q14_1 : ¬ (v0 ≤ tp) := fun z => q14_1 ((nI_leI (a := v0) (b := tp) (by omega) (by omega)).mpr z); exact q14_1))
  refine lv_aload_n hx hb d_M_end_23 rfl (lv_at hl 0 rfl) ?_
  refine lv_iload_n hx hb d_M_end_24 rfl (lv_at hl 1 rfl) ?_
  have h0_ := hM0
  refine sx_put EE hM0 rfl i_M t_M tok_M n_M 5 (by decide) rfl fl_M_315 (ty := .int) (by decide +kernel) rfl rfl (Nat.le_of_ble_eq_true rfl) eM hS d_M_end_25 (fun H locs hM0 hJ_ hs_ hS => ?_)
  have hM0 : va_P D classes [(o, .inr (0, mo_fs r (mi (nI 0) (nI v0) (nI ms) (nI rs) (nI kc))))] H := hM0
  have hV := (vx_obj hG hK.1 h0_ hM0 hs_).trans hV
  refine lv_iload_n hx hb d_M_end_28 rfl (lv_at hl 1 rfl) ?_
  have hp : LF_M_end_a X r v0 tp ms rs kc = (X, (nI v0)) := rfl
  exact hret _ _ _ _ _ _ (congrArg Prod.fst hp :) (congrArg Prod.snd hp :) hM0 hS hV d_M_end_29
def LF_M_end_b (X : vM) (r : Nat → Nat) (v0 : Int32) (tp : Nat) (ms : Nat) (rs : Nat) (kc : Nat) : vM × Int32 := (let X1 : vM := (LF_M_fail X r (nI 1) tp ms rs kc).1; (X1, (nI 0)))
abbrev rm_M_end_b : Room := { frames := 1, cells := 0, slots := 0, locals := 21 }
set_option maxHeartbeats 4000000 in
set_option maxRecDepth 100000 in
theorem v_M_end_b {l : Launch} {D : va_G} {g : ClassId → FieldType → Prop} {E : Nat → Prop} {H0 : Heap} {X : vM} {o : Nat} {r : Nat → Nat} {th : Int32} {tp : Nat} {ms : Nat} {rs : Nat} {kc : Nat} {v0 : Int32} (hM0 : va_P D classes [(o, .inr (0, mo_fs r (mi th (nI tp) (nI ms) (nI rs) (nI kc))))] H0) (eM : E o) (hA : ∀ q ∈ mo_arr, sx_A g q.2.1 H0 (r q.1) q.2.2) (hW : ∀ q ∈ mo_arr, E (r q.1))  (h_tp : tp ≤ 65536) (h_ms : ms ≤ 65536) (h_rs : rs ≤ 64) (h_kc : kc ≤ 100) (hw : v0 < 0) (hV : mm g H0 = X) : Met l y_M_end (.code y_M_end b_M_end 2 (some .int) :: G_) rm_M_end_b (sx_Pc [.ref o, .int v0] H0 D g) (vx_QiP g E H0 (LF_M_end_b X r v0 tp ms rs kc).1 (LF_M_end_b X r v0 tp ms rs kc).2 (fun H => va_P D classes [(o, .inr (0, mo_fs r (mi (nI 1) (nI tp) (nI ms) (nI rs) (nI kc))))] H)) 0 0 E := by
  refine vx_miP (own := R_M) (by decide) rfl rfl rfl (Nat.le_of_ble_eq_true rfl) ?_
  intro p e s m args below meth c Q ls EE hl hret
  obtain ⟨hx, hb, hml, hown, hts, hG, hK⟩ := id EE
  have hS : sx_S g E E H0 H0 [] := sx_S.rf
  have hl : lv_has ls 2 [(0, .ref o), (1, .int v0)] := hl
  refine lv_aload_n hx hb d_M_end_0 rfl (lv_at hl 0 rfl) ?_
  refine lv_iconst (v := nI 0) hx hb d_M_end_1 (by decide +kernel) ?_
  have h0_ := hM0
  refine sx_put EE hM0 rfl i_M t_M tok_M n_M 0 (by decide) rfl fl_M_211 (ty := .int) (by decide +kernel) rfl rfl (Nat.le_of_ble_eq_true rfl) eM hS d_M_end_2 (fun H locs hM0 hJ_ hs_ hS => ?_)
  have hM0 : va_P D classes [(o, .inr (0, mo_fs r (mi (nI 0) (nI tp) (nI ms) (nI rs) (nI kc))))] H := hM0
  have hV := (vx_obj hG hK.1 h0_ hM0 hs_).trans hV
  refine lv_iload_n hx hb d_M_end_5 rfl (lv_at hl 1 rfl) ?_
  refine lv_if_lt (tgt := 17) hx hb d_M_end_6 (by decide) (fun _ => ?_) (fun q => absurd hw q)
  refine lv_aload_n hx hb d_M_end_17 rfl (lv_at hl 0 rfl) ?_
  refine lv_iconst (v := nI 1) hx hb d_M_end_18 (by decide +kernel) ?_
  refine vx_giP (sx_runV (As := [.int (nI (1))]) (rest := []) EE hM0 rfl rfl (v_M_fail (X := X) hM0 eM (fun q hq => hS.1.2.2.1 _ _ _ (hA q hq)) hW (h_tp := by omega) (h_ms := by omega) (h_rs := by omega) (h_kc := by omega) hV) w_M_319 rfl ⟨rfl, rfl⟩ ⟨Nat.le_of_ble_eq_true rfl, Nat.le_of_ble_eq_true rfl⟩ ⟨Nat.zero_le _, Nat.zero_le _⟩ hl.1 rfl (Nat.le_of_ble_eq_true rfl) d_M_end_19) (fun z_ h_ => h_) hS (fun H locs X1 eX1 hM0 hS hV hJ_ => ?_)
  have hM0 : va_P D classes [(o, .inr (0, mo_fs r (mi (nI 1) (nI tp) (nI ms) (nI rs) (nI kc))))] H := hM0
  have hp : LF_M_end_b X r v0 tp ms rs kc = (X1, (nI 0)) := (by subst eX1; exact rfl)
  exact hret _ _ _ _ _ _ (congrArg Prod.fst hp :) (congrArg Prod.snd hp :) hM0 hS hV d_M_end_22
def LF_M_end_c (X : vM) (r : Nat → Nat) (v0 : Int32) (tp : Nat) (ms : Nat) (rs : Nat) (kc : Nat) : vM × Int32 := (let X1 : vM := (LF_M_fail X r (nI 1) tp ms rs kc).1; (X1, (nI 0)))
abbrev rm_M_end_c : Room := { frames := 1, cells := 0, slots := 0, locals := 21 }
set_option maxHeartbeats 4000000 in
set_option maxRecDepth 100000 in
theorem v_M_end_c {l : Launch} {D : va_G} {g : ClassId → FieldType → Prop} {E : Nat → Prop} {H0 : Heap} {X : vM} {o : Nat} {r : Nat → Nat} {th : Int32} {tp : Nat} {ms : Nat} {rs : Nat} {kc : Nat} {v0 : Int32} (hM0 : va_P D classes [(o, .inr (0, mo_fs r (mi th (nI tp) (nI ms) (nI rs) (nI kc))))] H0) (eM : E o) (hA : ∀ q ∈ mo_arr, sx_A g q.2.1 H0 (r q.1) q.2.2) (hW : ∀ q ∈ mo_arr, E (r q.1))  (h_tp : tp ≤ 65536) (h_ms : ms ≤ 65536) (h_rs : rs ≤ 64) (h_kc : kc ≤ 100) (hw : ¬ v0 < 0) (hw2 : ¬ v0 ≤ nI tp) (hV : mm g H0 = X) : Met l y_M_end (.code y_M_end b_M_end 2 (some .int) :: G_) rm_M_end_c (sx_Pc [.ref o, .int v0] H0 D g) (vx_QiP g E H0 (LF_M_end_c X r v0 tp ms rs kc).1 (LF_M_end_c X r v0 tp ms rs kc).2 (fun H => va_P D classes [(o, .inr (0, mo_fs r (mi (nI 1) (nI tp) (nI ms) (nI rs) (nI kc))))] H)) 0 0 E := by
  refine vx_miP (own := R_M) (by decide) rfl rfl rfl (Nat.le_of_ble_eq_true rfl) ?_
  intro p e s m args below meth c Q ls EE hl hret
  obtain ⟨hx, hb, hml, hown, hts, hG, hK⟩ := id EE
  have hS : sx_S g E E H0 H0 [] := sx_S.rf
  have hl : lv_has ls 2 [(0, .ref o), (1, .int v0)] := hl
  refine lv_aload_n hx hb d_M_end_0 rfl (lv_at hl 0 rfl) ?_
  refine lv_iconst (v := nI 0) hx hb d_M_end_1 (by decide +kernel) ?_
  have h0_ := hM0
  refine sx_put EE hM0 rfl i_M t_M tok_M n_M 0 (by decide) rfl fl_M_211 (ty := .int) (by decide +kernel) rfl rfl (Nat.le_of_ble_eq_true rfl) eM hS d_M_end_2 (fun H locs hM0 hJ_ hs_ hS => ?_)
  have hM0 : va_P D classes [(o, .inr (0, mo_fs r (mi (nI 0) (nI tp) (nI ms) (nI rs) (nI kc))))] H := hM0
  have hV := (vx_obj hG hK.1 h0_ hM0 hs_).trans hV
  refine lv_iload_n hx hb d_M_end_5 rfl (lv_at hl 1 rfl) ?_
  refine lv_if_lt (tgt := 17) hx hb d_M_end_6 (by decide) (fun q => absurd q hw) (fun _ => ?_)
  refine lv_iload_n hx hb d_M_end_9 rfl (lv_at hl 1 rfl) ?_
  refine lv_aload_n hx hb d_M_end_10 rfl (lv_at hl 0 rfl) ?_
  refine sx_get EE hM0 rfl i_M 5 (by decide) rfl fl_M_315 rfl d_M_end_11 ?_
  refine W.eq (g2 := F0 m 14 ls [.int (nI (tp)), .int v0]) rfl ?_
  refine lv_icmp_le (tgt := 23) hx hb d_M_end_14 (by decide) (fun q => absurd q hw2) (fun _ => ?_)
  refine lv_aload_n hx hb d_M_end_17 rfl (lv_at hl 0 rfl) ?_
  refine lv_iconst (v := nI 1) hx hb d_M_end_18 (by decide +kernel) ?_
  refine vx_giP (sx_runV (As := [.int (nI (1))]) (rest := []) EE hM0 rfl rfl (v_M_fail (X := X) hM0 eM (fun q hq => hS.1.2.2.1 _ _ _ (hA q hq)) hW (h_tp := by omega) (h_ms := by omega) (h_rs := by omega) (h_kc := by omega) hV) w_M_319 rfl ⟨rfl, rfl⟩ ⟨Nat.le_of_ble_eq_true rfl, Nat.le_of_ble_eq_true rfl⟩ ⟨Nat.zero_le _, Nat.zero_le _⟩ hl.1 rfl (Nat.le_of_ble_eq_true rfl) d_M_end_19) (fun z_ h_ => h_) hS (fun H locs X1 eX1 hM0 hS hV hJ_ => ?_)
  have hM0 : va_P D classes [(o, .inr (0, mo_fs r (mi (nI 1) (nI tp) (nI ms) (nI rs) (nI kc))))] H := hM0
  have hp : LF_M_end_c X r v0 tp ms rs kc = (X1, (nI 0)) := (by subst eX1; exact rfl)
  exact hret _ _ _ _ _ _ (congrArg Prod.fst hp :) (congrArg Prod.snd hp :) hM0 hS hV d_M_end_22
def LL_M_key_37 (r : Nat → Nat) (kc : Nat) : Nat → vM → vM := fun i_0 s_1 => (let X_2 : vM := stI s_1 (r 4) ((32 * kc) + i_0) ((s_1.2 (r 1) i_0).toInt8.toInt32); X_2)
def LF_M_key_a (X : vM) (r : Nat → Nat) (ms : Nat) (rs : Nat) (kc : Nat) : vM × Int32 := (let R5 : vM := lpU 1 (LL_M_key_37 r kc) 32 0 X; (R5, (nI ((kc + 1) - 1))))
abbrev rm_M_key_a : Room := { frames := 0, cells := 0, slots := 0, locals := 0 }
set_option maxHeartbeats 4000000 in
set_option maxRecDepth 100000 in
theorem v_M_key_a {l : Launch} {D : va_G} {g : ClassId → FieldType → Prop} {E : Nat → Prop} {H0 : Heap} {X : vM} {o : Nat} {r : Nat → Nat} {th : Int32} {ms : Nat} {rs : Nat} {kc : Nat} (hM0 : va_P D classes [(o, .inr (0, mo_fs r (mi th (nI 32) (nI ms) (nI rs) (nI kc))))] H0) (eM : E o) (hA : ∀ q ∈ mo_arr, sx_A g q.2.1 H0 (r q.1) q.2.2) (hW : ∀ q ∈ mo_arr, E (r q.1))  (h_ms : ms ≤ 65536) (h_rs : rs ≤ 64) (h_kc : kc ≤ 100) (hw : kc < 100) (hV : mm g H0 = X) : Met l y_M_key (.code y_M_key b_M_key 2 (some .int) :: G_) rm_M_key_a (sx_Pc [.ref o] H0 D g) (vx_QiP g E H0 (LF_M_key_a X r ms rs kc).1 (LF_M_key_a X r ms rs kc).2 (fun H => va_P D classes [(o, .inr (0, mo_fs r (mi (nI 0) (nI 0) (nI ms) (nI rs) (nI (kc + 1)))))] H)) 0 0 E := by
  refine vx_miP (own := R_M) (by decide) rfl rfl rfl (Nat.le_of_ble_eq_true rfl) ?_
  intro p e s m args below meth c Q ls EE hl hret
  obtain ⟨hx, hb, hml, hown, hts, hG, hK⟩ := id EE
  have hS : sx_S g E E H0 H0 [] := sx_S.rf
  have hl : lv_has ls 2 [(0, .ref o)] := hl
  refine lv_aload_n hx hb d_M_key_0 rfl (lv_at hl 0 rfl) ?_
  refine lv_iconst (v := nI 0) hx hb d_M_key_1 (by decide +kernel) ?_
  have h0_ := hM0
  refine sx_put EE hM0 rfl i_M t_M tok_M n_M 0 (by decide) rfl fl_M_211 (ty := .int) (by decide +kernel) rfl rfl (Nat.le_of_ble_eq_true rfl) eM hS d_M_key_2 (fun H locs hM0 hJ_ hs_ hS => ?_)
  have hM0 : va_P D classes [(o, .inr (0, mo_fs r (mi (nI 0) (nI 32) (nI ms) (nI rs) (nI kc))))] H := hM0
  have hV := (vx_obj hG hK.1 h0_ hM0 hs_).trans hV
  refine lv_aload_n hx hb d_M_key_5 rfl (lv_at hl 0 rfl) ?_
  refine sx_get EE hM0 rfl i_M 5 (by decide) rfl fl_M_315 rfl d_M_key_6 ?_
  refine W.eq (g2 := F0 m 9 ls [.int (nI (32))]) rfl ?_
  refine lv_bipush (v := nI 32) hx hb d_M_key_9 (by decide +kernel) ?_
  refine lv_icmp_eq (tgt := 20) hx hb d_M_key_11 (by decide) (fun _ => ?_) (fun q11_0 => absurd (show 32 = 32 by decide) (by have q11_0 : ¬ (32 = 32) := fun z => q11_0 ((nI_eq (a := 32) (b := 32) (by omega) (by omega)).mpr z); exact q11_0))
  refine lv_aload_n hx hb d_M_key_20 rfl (lv_at hl 0 rfl) ?_
  refine sx_get EE hM0 rfl i_M 8 (by decide) rfl fl_M_322 rfl d_M_key_21 ?_
  refine W.eq (g2 := F0 m 24 ls [.int (nI (kc))]) rfl ?_
  refine lv_bipush (v := nI 100) hx hb d_M_key_24 (by decide +kernel) ?_
  refine lv_icmp_ne (tgt := 35) hx hb d_M_key_26 (by decide) (fun _ => ?_) (fun q26_1 => absurd (show kc = 100 by have q26_1 : kc = 100 := (nI_eq (a := kc) (b := 100) (by omega) (by omega)).mp q26_1; exact q26_1) (by omega))
  refine lv_iconst (v := nI 0) hx hb d_M_key_35 (by decide +kernel) ?_
  refine lv_istore_n (lv' := [(1, .int (nI (0))), (0, .ref o)]) hx hb d_M_key_36 rfl hl (by decide) rfl (fun ls hl => ?_)
  obtain ⟨R5, eR5⟩ : ∃ t : vM, lpU 1 (LL_M_key_37 r kc) 32 0 X = t := ⟨_, rfl⟩
  refine lpU_go (σ := vM) (P := fun i3 s4 H locs ls => sx_S g E E H0 H locs ∧ mm g H = s4 ∧ va_P D classes [(o, .inr (0, mo_fs r (mi (nI 0) (nI 32) (nI ms) (nI rs) (nI kc))))] H ∧ lv_has ls 2 [(1, .int (nI (i3))), (0, .ref o)]) (Wd := fun H locs ls => W p l e rm_M_key_a s m args below meth c H locs 0 0 Q (F0 m 37 ls [])) (N := 32) (d := 1) (by decide) ?_ ?_ 32 0 _ (by omega) eR5 _ _ _ ⟨hS, hV, hM0, lv_sub hl [0, 1] rfl⟩
  · intro i3 s4 H locs ls hii3 hP ihi3
    obtain ⟨hS, hV, hM0, hl⟩ := hP
    refine lv_iload_n hx hb d_M_key_37 rfl (lv_at hl 0 rfl) ?_
    refine lv_bipush (v := nI 32) hx hb d_M_key_38 (by decide +kernel) ?_
    refine lv_icmp_ge (tgt := 69) hx hb d_M_key_40 (by decide) (fun q => absurd q (nI_ge (by omega) (by omega))) (fun _ => ?_)
    refine lv_aload_n hx hb d_M_key_43 rfl (lv_at hl 1 rfl) ?_
    refine sx_get EE hM0 rfl i_M 4 (by decide) rfl fl_M_20 rfl d_M_key_44 ?_
    refine W.eq (g2 := F0 m 47 ls [.ref (r 4)]) rfl ?_
    refine lv_bipush (v := nI 32) hx hb d_M_key_47 (by decide +kernel) ?_
    refine lv_aload_n hx hb d_M_key_49 rfl (lv_at hl 1 rfl) ?_
    refine sx_get EE hM0 rfl i_M 8 (by decide) rfl fl_M_322 rfl d_M_key_50 ?_
    refine W.eq (g2 := F0 m 53 ls [.int (nI (kc)), .int (nI (32)), .ref (r 4)]) rfl ?_
    refine lv_imul hx hb d_M_key_53 ?_
    refine sx_ti (y := nI (32 * kc)) (pk_mul _ _) ?_
    refine lv_iload_n hx hb d_M_key_54 rfl (lv_at hl 0 rfl) ?_
    refine lv_iadd hx hb d_M_key_55 ?_
    refine sx_ti (y := nI ((32 * kc) + i3)) (nI_add _ _) ?_
    refine lv_aload_n hx hb d_M_key_56 rfl (lv_at hl 1 rfl) ?_
    refine sx_get EE hM0 rfl i_M 1 (by decide) rfl fl_M_8 rfl d_M_key_57 ?_
    refine W.eq (g2 := F0 m 60 ls [.ref (r 1), .int (nI ((32 * kc) + i3)), .ref (r 4)]) rfl ?_
    refine lv_iload_n hx hb d_M_key_60 rfl (lv_at hl 0 rfl) ?_
    refine vx_bald hx hb hG hS hV (moA_1 hA) (by omega) (by decide) d_M_key_61 ?_
    refine vx_bastJ hx hb hG hK.1 hS hV (moA_4 hA) (moW_4 hW) (by omega) (by decide) d_M_key_62 (fun H locs X6 eX6 hS hV hO => ?_)
    have hM0 := hO _ _ hM0
    refine lv_iinc (v := nI (i3 + 1)) (lv' := [(1, .int (nI (i3 + 1))), (0, .ref o)]) hx hb d_M_key_63 hl (k := 0) rfl (sx_inc _ _) (by decide) rfl (fun ls hl => ?_)
    refine lv_goto (tgt := 37) hx hb d_M_key_66 (by decide) ?_
    exact ihi3 X6 _ _ _ (by subst eX6; exact rfl) ⟨hS, hV, hM0, lv_sub hl [0, 1] rfl⟩
  · intro H locs ls hP
    obtain ⟨hS, hV, hM0, hl⟩ := hP
    refine lv_iload_n hx hb d_M_key_37 rfl (lv_at hl 0 rfl) ?_
    refine lv_bipush (v := nI 32) hx hb d_M_key_38 (by decide +kernel) ?_
    refine lv_icmp_ge (tgt := 69) hx hb d_M_key_40 (by decide) (fun _ => ?_) (fun q => absurd (nI_le (by omega) (by omega)) q)
    refine lv_aload_n hx hb d_M_key_69 rfl (lv_at hl 1 rfl) ?_
    refine lv_iconst (v := nI 0) hx hb d_M_key_70 (by decide +kernel) ?_
    have h0_ := hM0
    refine sx_put EE hM0 rfl i_M t_M tok_M n_M 5 (by decide) rfl fl_M_315 (ty := .int) (by decide +kernel) rfl rfl (Nat.le_of_ble_eq_true rfl) eM hS d_M_key_71 (fun H locs hM0 hJ_ hs_ hS => ?_)
    have hM0 : va_P D classes [(o, .inr (0, mo_fs r (mi (nI 0) (nI 0) (nI ms) (nI rs) (nI kc))))] H := hM0
    have hV := (vx_obj hG hK.1 h0_ hM0 hs_).trans hV
    refine lv_aload_n hx hb d_M_key_74 rfl (lv_at hl 1 rfl) ?_
    refine lv_dup hx hb d_M_key_75 rfl ?_
    refine sx_get EE hM0 rfl i_M 8 (by decide) rfl fl_M_322 rfl d_M_key_76 ?_
    refine W.eq (g2 := F0 m 79 ls [.int (nI (kc)), .ref o]) rfl ?_
    refine lv_iconst (v := nI 1) hx hb d_M_key_79 (by decide +kernel) ?_
    refine lv_iadd hx hb d_M_key_80 ?_
    refine sx_ti (y := nI (kc + 1)) (nI_add _ _) ?_
    have h0_ := hM0
    refine sx_put EE hM0 rfl i_M t_M tok_M n_M 8 (by decide) rfl fl_M_322 (ty := .int) (by decide +kernel) rfl rfl (Nat.le_of_ble_eq_true rfl) eM hS d_M_key_81 (fun H locs hM0 hJ_ hs_ hS => ?_)
    have hM0 : va_P D classes [(o, .inr (0, mo_fs r (mi (nI 0) (nI 0) (nI ms) (nI rs) (nI (kc + 1)))))] H := hM0
    have hV := (vx_obj hG hK.1 h0_ hM0 hs_).trans hV
    refine lv_aload_n hx hb d_M_key_84 rfl (lv_at hl 1 rfl) ?_
    refine sx_get EE hM0 rfl i_M 8 (by decide) rfl fl_M_322 rfl d_M_key_85 ?_
    refine W.eq (g2 := F0 m 88 ls [.int (nI (kc + 1))]) rfl ?_
    refine lv_iconst (v := nI 1) hx hb d_M_key_88 (by decide +kernel) ?_
    refine lv_isub hx hb d_M_key_89 ?_
    refine sx_ti (y := nI ((kc + 1) - 1)) (pk_sub (by omega)) ?_
    have hp : LF_M_key_a X r ms rs kc = (R5, (nI ((kc + 1) - 1))) := (by subst eR5; exact rfl)
    exact hret _ _ _ _ _ _ (congrArg Prod.fst hp :) (congrArg Prod.snd hp :) hM0 hS hV d_M_key_90
def LF_M_key_b (X : vM) (r : Nat → Nat) (tp : Nat) (ms : Nat) (rs : Nat) (kc : Nat) : vM × Int32 := (let X2 : vM := (LF_M_fail X r (nI 1) tp ms rs kc).1; (X2, (nI 0)))
abbrev rm_M_key_b : Room := { frames := 1, cells := 0, slots := 0, locals := 21 }
set_option maxHeartbeats 4000000 in
set_option maxRecDepth 100000 in
theorem v_M_key_b {l : Launch} {D : va_G} {g : ClassId → FieldType → Prop} {E : Nat → Prop} {H0 : Heap} {X : vM} {o : Nat} {r : Nat → Nat} {th : Int32} {tp : Nat} {ms : Nat} {rs : Nat} {kc : Nat} (hM0 : va_P D classes [(o, .inr (0, mo_fs r (mi th (nI tp) (nI ms) (nI rs) (nI kc))))] H0) (eM : E o) (hA : ∀ q ∈ mo_arr, sx_A g q.2.1 H0 (r q.1) q.2.2) (hW : ∀ q ∈ mo_arr, E (r q.1))  (h_tp : tp ≤ 65536) (h_ms : ms ≤ 65536) (h_rs : rs ≤ 64) (h_kc : kc ≤ 100) (hw : tp ≠ 32) (hV : mm g H0 = X) : Met l y_M_key (.code y_M_key b_M_key 2 (some .int) :: G_) rm_M_key_b (sx_Pc [.ref o] H0 D g) (vx_QiP g E H0 (LF_M_key_b X r tp ms rs kc).1 (LF_M_key_b X r tp ms rs kc).2 (fun H => va_P D classes [(o, .inr (0, mo_fs r (mi (nI 1) (nI tp) (nI ms) (nI rs) (nI kc))))] H)) 0 0 E := by
  refine vx_miP (own := R_M) (by decide) rfl rfl rfl (Nat.le_of_ble_eq_true rfl) ?_
  intro p e s m args below meth c Q ls EE hl hret
  obtain ⟨hx, hb, hml, hown, hts, hG, hK⟩ := id EE
  have hS : sx_S g E E H0 H0 [] := sx_S.rf
  have hl : lv_has ls 2 [(0, .ref o)] := hl
  refine lv_aload_n hx hb d_M_key_0 rfl (lv_at hl 0 rfl) ?_
  refine lv_iconst (v := nI 0) hx hb d_M_key_1 (by decide +kernel) ?_
  have h0_ := hM0
  refine sx_put EE hM0 rfl i_M t_M tok_M n_M 0 (by decide) rfl fl_M_211 (ty := .int) (by decide +kernel) rfl rfl (Nat.le_of_ble_eq_true rfl) eM hS d_M_key_2 (fun H locs hM0 hJ_ hs_ hS => ?_)
  have hM0 : va_P D classes [(o, .inr (0, mo_fs r (mi (nI 0) (nI tp) (nI ms) (nI rs) (nI kc))))] H := hM0
  have hV := (vx_obj hG hK.1 h0_ hM0 hs_).trans hV
  refine lv_aload_n hx hb d_M_key_5 rfl (lv_at hl 0 rfl) ?_
  refine sx_get EE hM0 rfl i_M 5 (by decide) rfl fl_M_315 rfl d_M_key_6 ?_
  refine W.eq (g2 := F0 m 9 ls [.int (nI (tp))]) rfl ?_
  refine lv_bipush (v := nI 32) hx hb d_M_key_9 (by decide +kernel) ?_
  refine lv_icmp_eq (tgt := 20) hx hb d_M_key_11 (by decide) (fun q11_0 => absurd (show tp = 32 by have q11_0 : tp = 32 := (nI_eq (a := tp) (b := 32) (by omega) (by omega)).mp q11_0; exact q11_0) (by omega)) (fun _ => ?_)
  refine lv_aload_n hx hb d_M_key_14 rfl (lv_at hl 0 rfl) ?_
  refine lv_iconst (v := nI 1) hx hb d_M_key_15 (by decide +kernel) ?_
  refine vx_giP (sx_runV (As := [.int (nI (1))]) (rest := []) EE hM0 rfl rfl (v_M_fail (X := X) hM0 eM (fun q hq => hS.1.2.2.1 _ _ _ (hA q hq)) hW (h_tp := by omega) (h_ms := by omega) (h_rs := by omega) (h_kc := by omega) hV) w_M_319 rfl ⟨rfl, rfl⟩ ⟨Nat.le_of_ble_eq_true rfl, Nat.le_of_ble_eq_true rfl⟩ ⟨Nat.zero_le _, Nat.zero_le _⟩ hl.1 rfl (Nat.le_of_ble_eq_true rfl) d_M_key_16) (fun z_ h_ => h_) hS (fun H locs X2 eX2 hM0 hS hV hJ_ => ?_)
  have hM0 : va_P D classes [(o, .inr (0, mo_fs r (mi (nI 1) (nI tp) (nI ms) (nI rs) (nI kc))))] H := hM0
  have hp : LF_M_key_b X r tp ms rs kc = (X2, (nI 0)) := (by subst eX2; exact rfl)
  exact hret _ _ _ _ _ _ (congrArg Prod.fst hp :) (congrArg Prod.snd hp :) hM0 hS hV d_M_key_19
def LF_M_key_c (X : vM) (r : Nat → Nat) (ms : Nat) (rs : Nat) : vM × Int32 := (let X3 : vM := (LF_M_fail X r (nI 2) 32 ms rs 100).1; (X3, (nI 0)))
abbrev rm_M_key_c : Room := { frames := 1, cells := 0, slots := 0, locals := 21 }
set_option maxHeartbeats 4000000 in
set_option maxRecDepth 100000 in
theorem v_M_key_c {l : Launch} {D : va_G} {g : ClassId → FieldType → Prop} {E : Nat → Prop} {H0 : Heap} {X : vM} {o : Nat} {r : Nat → Nat} {th : Int32} {ms : Nat} {rs : Nat} (hM0 : va_P D classes [(o, .inr (0, mo_fs r (mi th (nI 32) (nI ms) (nI rs) (nI 100))))] H0) (eM : E o) (hA : ∀ q ∈ mo_arr, sx_A g q.2.1 H0 (r q.1) q.2.2) (hW : ∀ q ∈ mo_arr, E (r q.1))  (h_ms : ms ≤ 65536) (h_rs : rs ≤ 64) (hV : mm g H0 = X) : Met l y_M_key (.code y_M_key b_M_key 2 (some .int) :: G_) rm_M_key_c (sx_Pc [.ref o] H0 D g) (vx_QiP g E H0 (LF_M_key_c X r ms rs).1 (LF_M_key_c X r ms rs).2 (fun H => va_P D classes [(o, .inr (0, mo_fs r (mi (nI 2) (nI 32) (nI ms) (nI rs) (nI 100))))] H)) 0 0 E := by
  refine vx_miP (own := R_M) (by decide) rfl rfl rfl (Nat.le_of_ble_eq_true rfl) ?_
  intro p e s m args below meth c Q ls EE hl hret
  obtain ⟨hx, hb, hml, hown, hts, hG, hK⟩ := id EE
  have hS : sx_S g E E H0 H0 [] := sx_S.rf
  have hl : lv_has ls 2 [(0, .ref o)] := hl
  refine lv_aload_n hx hb d_M_key_0 rfl (lv_at hl 0 rfl) ?_
  refine lv_iconst (v := nI 0) hx hb d_M_key_1 (by decide +kernel) ?_
  have h0_ := hM0
  refine sx_put EE hM0 rfl i_M t_M tok_M n_M 0 (by decide) rfl fl_M_211 (ty := .int) (by decide +kernel) rfl rfl (Nat.le_of_ble_eq_true rfl) eM hS d_M_key_2 (fun H locs hM0 hJ_ hs_ hS => ?_)
  have hM0 : va_P D classes [(o, .inr (0, mo_fs r (mi (nI 0) (nI 32) (nI ms) (nI rs) (nI 100))))] H := hM0
  have hV := (vx_obj hG hK.1 h0_ hM0 hs_).trans hV
  refine lv_aload_n hx hb d_M_key_5 rfl (lv_at hl 0 rfl) ?_
  refine sx_get EE hM0 rfl i_M 5 (by decide) rfl fl_M_315 rfl d_M_key_6 ?_
  refine W.eq (g2 := F0 m 9 ls [.int (nI (32))]) rfl ?_
  refine lv_bipush (v := nI 32) hx hb d_M_key_9 (by decide +kernel) ?_
  refine lv_icmp_eq (tgt := 20) hx hb d_M_key_11 (by decide) (fun _ => ?_) (fun q11_0 => absurd (show 32 = 32 by decide) (by have q11_0 : ¬ (32 = 32) := fun z => q11_0 ((nI_eq (a := 32) (b := 32) (by omega) (by omega)).mpr z); exact q11_0))
  refine lv_aload_n hx hb d_M_key_20 rfl (lv_at hl 0 rfl) ?_
  refine sx_get EE hM0 rfl i_M 8 (by decide) rfl fl_M_322 rfl d_M_key_21 ?_
  refine W.eq (g2 := F0 m 24 ls [.int (nI (100))]) rfl ?_
  refine lv_bipush (v := nI 100) hx hb d_M_key_24 (by decide +kernel) ?_
  refine lv_icmp_ne (tgt := 35) hx hb d_M_key_26 (by decide) (fun q26_1 => absurd (show 100 = 100 by decide) (by have q26_1 : ¬ (100 = 100) := fun z => q26_1 ((nI_eq (a := 100) (b := 100) (by omega) (by omega)).mpr z); exact q26_1)) (fun _ => ?_)
  refine lv_aload_n hx hb d_M_key_29 rfl (lv_at hl 0 rfl) ?_
  refine lv_iconst (v := nI 2) hx hb d_M_key_30 (by decide +kernel) ?_
  refine vx_giP (sx_runV (As := [.int (nI (2))]) (rest := []) EE hM0 rfl rfl (v_M_fail (X := X) hM0 eM (fun q hq => hS.1.2.2.1 _ _ _ (hA q hq)) hW (h_tp := by omega) (h_ms := by omega) (h_rs := by omega) (h_kc := by omega) hV) w_M_319 rfl ⟨rfl, rfl⟩ ⟨Nat.le_of_ble_eq_true rfl, Nat.le_of_ble_eq_true rfl⟩ ⟨Nat.zero_le _, Nat.zero_le _⟩ hl.1 rfl (Nat.le_of_ble_eq_true rfl) d_M_key_31) (fun z_ h_ => h_) hS (fun H locs X3 eX3 hM0 hS hV hJ_ => ?_)
  have hM0 : va_P D classes [(o, .inr (0, mo_fs r (mi (nI 2) (nI 32) (nI ms) (nI rs) (nI 100))))] H := hM0
  have hp : LF_M_key_c X r ms rs = (X3, (nI 0)) := (by subst eX3; exact rfl)
  exact hret _ _ _ _ _ _ (congrArg Prod.fst hp :) (congrArg Prod.snd hp :) hM0 hS hV d_M_key_34
def LL_M_open_78 (r : Nat → Nat) : Nat → vM → vM := fun i_0 s_1 => (let J_2 : Int32 := if i_0 = 0 then (nI 9) else (nI 0); (let X_3 : vM := stI s_1 (r 35) i_0 (J_2.toInt8.toInt32.toInt8.toInt32); X_3))
def LF_M_open_a (X : vM) (r : Nat → Nat) (v0 : Nat) (tp : Nat) (ms : Nat) (rs : Nat) (kc : Nat) : vM := (let X1 : vM := (LF_M_none X r (nI v0) tp ms rs kc).1; let X7 : vM := (LF_M_clamped X1 r (r 31) (r 4) (32 * v0)); let R10 : vM := lpU 1 (LL_M_open_78 r) 32 0 X7; (let X15 : vM := (LF_M_ladder R10 r); let X16 : vM := (LF_M_tell X15 r (r 35) 0 32 tp ms rs kc); X16))
abbrev rm_M_open_a : Room := { frames := 5, cells := 0, slots := 0, locals := 131 }
set_option maxHeartbeats 4000000 in
set_option maxRecDepth 100000 in
theorem v_M_open_a {l : Launch} {D : va_G} {g : ClassId → FieldType → Prop} {E : Nat → Prop} {H0 : Heap} {X : vM} {o : Nat} {r : Nat → Nat} {th : Int32} {tp : Nat} {ms : Nat} {rs : Nat} {kc : Nat} {v0 : Nat} (hM0 : va_P D classes [(o, .inr (0, mo_fs r (mi th (nI tp) (nI ms) (nI rs) (nI kc))))] H0) (eM : E o) (hA : ∀ q ∈ mo_arr, sx_A g q.2.1 H0 (r q.1) q.2.2) (hW : ∀ q ∈ mo_arr, E (r q.1))  (h_tp : tp ≤ 65536) (h_ms : ms ≤ 65536) (h_rs : rs ≤ 64) (h_kc : kc ≤ 100) (hw : v0 < kc) (hV : mm g H0 = X) : Met l y_M_open (.code y_M_open b_M_open 4 none :: G_) rm_M_open_a (sx_Pc [.ref o, .int (nI v0), .int (nI 0)] H0 D g) (vx_QvP g E H0 (LF_M_open_a X r v0 tp ms rs kc) (fun H => va_P D classes [(o, .inr (0, mo_fs r (mi (nI 0) (nI tp) (nI ms) (nI 32) (nI kc))))] H)) 0 0 E := by
  refine vx_mvP (own := R_M) (by decide) rfl rfl rfl (Nat.le_of_ble_eq_true rfl) ?_
  intro p e s m args below meth c Q ls EE hl hret
  obtain ⟨hx, hb, hml, hown, hts, hG, hK⟩ := id EE
  have hS : sx_S g E E H0 H0 [] := sx_S.rf
  have hl : lv_has ls 4 [(0, .ref o), (1, .int (nI (v0))), (2, .int (nI (0)))] := hl
  refine lv_aload_n hx hb d_M_open_0 rfl (lv_at hl 0 rfl) ?_
  refine lv_aload_n hx hb d_M_open_1 rfl (lv_at hl 0 rfl) ?_
  refine lv_iload_n hx hb d_M_open_2 rfl (lv_at hl 1 rfl) ?_
  refine vx_giP (sx_runV (As := [.int (nI (v0))]) (rest := [.ref o]) EE hM0 rfl rfl (v_M_none (X := X) hM0 eM (fun q hq => hS.1.2.2.1 _ _ _ (hA q hq)) hW (h_tp := by omega) (h_ms := by omega) (h_rs := by omega) (h_kc := by omega) hV) w_M_328 rfl ⟨rfl, rfl⟩ ⟨Nat.le_of_ble_eq_true rfl, Nat.le_of_ble_eq_true rfl⟩ ⟨Nat.zero_le _, Nat.zero_le _⟩ hl.1 rfl (Nat.le_of_ble_eq_true rfl) d_M_open_3) (fun z_ h_ => h_) hS (fun H locs X1 eX1 hM0 hS hV hJ_ => ?_)
  refine sx_ti (y := nI 0) (by rw [show (LF_M_none _ r (nI v0) tp ms rs kc).2 = false from (mn_f (by omega) (by omega))]; rfl) ?_
  have hM0 : va_P D classes [(o, .inr (0, mo_fs r (mi th (nI tp) (nI ms) (nI rs) (nI kc))))] H := hM0
  refine lv_if_eq (tgt := 13) hx hb d_M_open_6 (by decide) (fun _ => ?_) (fun q6_1 => absurd (show 0 = 0 by decide) (by have q6_1 : ¬ (0 = 0) := fun z => q6_1 ((nI_eq (a := 0) (b := 0) (by omega) (by omega)).mpr z); exact q6_1))
  refine lv_iload_n hx hb d_M_open_13 rfl (lv_at hl 2 rfl) ?_
  refine lv_if_lt (tgt := 22) hx hb d_M_open_14 (by decide) (fun q14_2 => absurd (show 0 < 0 by have q14_2 : 0 < 0 := (nI_ltI (a := 0) (b := 0) (by omega) (by omega)).mp q14_2; exact q14_2) (by decide)) (fun _ => ?_)
  refine lv_iload_n hx hb d_M_open_17 rfl (lv_at hl 2 rfl) ?_
  refine lv_iconst (v := nI 1) hx hb d_M_open_18 (by decide +kernel) ?_
  refine lv_icmp_le (tgt := 26) hx hb d_M_open_19 (by decide) (fun _ => ?_) (fun q19_3 => absurd (show 0 ≤ 1 by decide) (by have q19_3 : ¬ (0 ≤ 1) := fun z => q19_3 ((nI_leI (a := 0) (b := 1) (by omega) (by omega)).mpr z); exact q19_3))
  refine lv_iconst (v := nI 0) hx hb d_M_open_26 (by decide +kernel) ?_
  have h0_ := hM0
  refine sx_put EE hM0 rfl i_M t_M tok_M n_M 0 (by decide) rfl fl_M_211 (ty := .int) (by decide +kernel) rfl rfl (Nat.le_of_ble_eq_true rfl) eM hS d_M_open_27 (fun H locs hM0 hJ_ hs_ hS => ?_)
  have hM0 : va_P D classes [(o, .inr (0, mo_fs r (mi (nI 0) (nI tp) (nI ms) (nI rs) (nI kc))))] H := hM0
  have hV := (vx_obj hG hK.1 h0_ hM0 hs_).trans hV
  refine lv_aload_n hx hb d_M_open_30 rfl (lv_at hl 0 rfl) ?_
  refine sx_get EE hM0 rfl i_M 0 (by decide) rfl fl_M_211 rfl d_M_open_31 ?_
  refine W.eq (g2 := F0 m 34 ls [.int (nI (0))]) rfl ?_
  refine lv_if_le (tgt := 38) hx hb d_M_open_34 (by decide) (fun _ => ?_) (fun q34_4 => absurd (show 0 ≤ 0 by decide) (by have q34_4 : ¬ (0 ≤ 0) := fun z => q34_4 ((nI_leI (a := 0) (b := 0) (by omega) (by omega)).mpr z); exact q34_4))
  refine lv_iload_n hx hb d_M_open_38 rfl (lv_at hl 2 rfl) ?_
  refine lv_iconst (v := nI 1) hx hb d_M_open_39 (by decide +kernel) ?_
  refine lv_icmp_ne (tgt := 60) hx hb d_M_open_40 (by decide) (fun _ => ?_) (fun q40_5 => absurd (show 0 = 1 by have q40_5 : 0 = 1 := (nI_eq (a := 0) (b := 1) (by omega) (by omega)).mp q40_5; exact q40_5) (by decide))
  refine lv_aload_n hx hb d_M_open_60 rfl (lv_at hl 0 rfl) ?_
  refine lv_aload_n hx hb d_M_open_61 rfl (lv_at hl 0 rfl) ?_
  refine sx_get EE hM0 rfl i_M 31 (by decide) rfl fl_M_91 rfl d_M_open_62 ?_
  refine W.eq (g2 := F0 m 65 ls [.ref (r 31), .ref o]) rfl ?_
  refine lv_aload_n hx hb d_M_open_65 rfl (lv_at hl 0 rfl) ?_
  refine sx_get EE hM0 rfl i_M 4 (by decide) rfl fl_M_20 rfl d_M_open_66 ?_
  refine W.eq (g2 := F0 m 69 ls [.ref (r 4), .ref (r 31), .ref o]) rfl ?_
  refine lv_bipush (v := nI 32) hx hb d_M_open_69 (by decide +kernel) ?_
  refine lv_iload_n hx hb d_M_open_71 rfl (lv_at hl 1 rfl) ?_
  refine lv_imul hx hb d_M_open_72 ?_
  refine sx_ti (y := nI (32 * v0)) (pk_mul _ _) ?_
  have hA_ : ∀ q ∈ mo_arr, sx_A g q.2.1 H (r q.1) q.2.2 := fun q hq => hS.1.2.2.1 _ _ _ (hA q hq)
  refine vx_gvJ (sx_runV (As := [.ref (r 31), .ref (r 4), .int (nI (32 * v0))]) (rest := []) EE hM0 rfl rfl (v_M_clamped (E := cutE E o) (X := X1) ⟨hM0, hA_⟩ (fun z_ => z_.2 rfl) (mo_cut hG hK.1 hM0 hA_ hW) (hS.a (moA_31 hA)) ⟨(moW_31 hW), vx_ne hG hK.1 hM0 (hS.a (moA_31 hA))⟩ (hS.a (moA_4 hA)) (by omega) (by omega) hV) w_M_298 rfl ⟨rfl, rfl⟩ ⟨Nat.le_of_ble_eq_true rfl, Nat.le_of_ble_eq_true rfl⟩ ⟨Nat.zero_le _, Nat.zero_le _⟩ hl.1 rfl (Nat.le_of_ble_eq_true rfl) d_M_open_73) (fun z_ h_ => h_.1) hS (fun H locs X7 eX7 hS hV hJ_ => ?_)
  have hM0 := hJ_.ob (fun z_ => z_.2 rfl) hM0
  refine lv_iconst (v := nI 0) hx hb d_M_open_76 (by decide +kernel) ?_
  refine lv_istore_n (lv' := [(3, .int (nI (0))), (0, .ref o), (1, .int (nI (v0))), (2, .int (nI (0)))]) hx hb d_M_open_77 rfl hl (by decide) rfl (fun ls hl => ?_)
  obtain ⟨R10, eR10⟩ : ∃ t : vM, lpU 1 (LL_M_open_78 r) 32 0 X7 = t := ⟨_, rfl⟩
  refine lpU_go (σ := vM) (P := fun i8 s9 H locs ls => sx_S g E E H0 H locs ∧ mm g H = s9 ∧ va_P D classes [(o, .inr (0, mo_fs r (mi (nI 0) (nI tp) (nI ms) (nI rs) (nI kc))))] H ∧ lv_has ls 4 [(3, .int (nI (i8))), (0, .ref o)]) (Wd := fun H locs ls => W p l e rm_M_open_a s m args below meth c H locs 0 0 Q (F0 m 78 ls [])) (N := 32) (d := 1) (by decide) ?_ ?_ 32 0 _ (by omega) eR10 _ _ _ ⟨hS, hV, hM0, lv_sub hl [0, 1] rfl⟩
  · intro i8 s9 H locs ls hii8 hP ihi8
    obtain ⟨hS, hV, hM0, hl⟩ := hP
    refine lv_iload_n hx hb d_M_open_78 rfl (lv_at hl 0 rfl) ?_
    refine lv_bipush (v := nI 32) hx hb d_M_open_79 (by decide +kernel) ?_
    refine lv_icmp_ge (tgt := 107) hx hb d_M_open_81 (by decide) (fun q => absurd q (nI_ge (by omega) (by omega))) (fun _ => ?_)
    refine lv_aload_n hx hb d_M_open_84 rfl (lv_at hl 1 rfl) ?_
    refine sx_get EE hM0 rfl i_M 35 (by decide) rfl fl_M_103 rfl d_M_open_85 ?_
    refine W.eq (g2 := F0 m 88 ls [.ref (r 35)]) rfl ?_
    refine lv_iload_n hx hb d_M_open_88 rfl (lv_at hl 0 rfl) ?_
    refine lv_iload_n hx hb d_M_open_89 rfl (lv_at hl 0 rfl) ?_
    have jn99_12 : ∀ (J12 : Int32) (H : Heap) (locs : List Loc) (ls : Array Slot), (if i8 = 0 then (nI 9) else (nI 0)) = J12 → sx_S g E E H0 H locs → mm g H = s9 → va_P D classes [(o, .inr (0, mo_fs r (mi (nI 0) (nI tp) (nI ms) (nI rs) (nI kc))))] H → lv_has ls 4 [(3, .int (nI (i8))), (0, .ref o)] → W p l e rm_M_open_a s m args below meth c H locs 0 0 Q (F0 m 99 ls [.int J12, .int (nI (i8)), .ref (r 35)]) := by
      intro J12 H locs ls eJ12 hS hV hM0 hl
      refine lv_i2b hx hb d_M_open_99 rfl ?_
      refine vx_bastJ hx hb hG hK.1 hS hV (moA_35 hA) (moW_35 hW) (by omega) (by decide) d_M_open_100 (fun H locs X14 eX14 hS hV hO => ?_)
      have hM0 := hO _ _ hM0
      refine lv_iinc (v := nI (i8 + 1)) (lv' := [(3, .int (nI (i8 + 1))), (0, .ref o)]) hx hb d_M_open_101 hl (k := 0) rfl (sx_inc _ _) (by decide) rfl (fun ls hl => ?_)
      refine lv_goto (tgt := 78) hx hb d_M_open_104 (by decide) ?_
      exact ihi8 X14 _ _ _ (by subst eJ12 eX14; exact rfl) ⟨hS, hV, hM0, lv_sub hl [0, 1] rfl⟩
    refine lv_if_ne (tgt := 98) hx hb d_M_open_90 (by decide) (fun q90_10 => ?_) (fun q90_10 => ?_)
    · skip
      have q90_10 : ¬ (i8 = 0) := fun z => q90_10 ((nI_eq (a := i8) (b := 0) (by omega) (by omega)).mpr z)
      refine lv_iconst (v := nI 0) hx hb d_M_open_98 (by decide +kernel) ?_
      exact jn99_12 (nI 0) _ _ _ (vx_n q90_10 rfl) hS hV hM0 (lv_sub hl [0, 1] rfl)
    · skip
      have q90_10 : i8 = 0 := (nI_eq (a := i8) (b := 0) (by omega) (by omega)).mp q90_10
      refine lv_bipush (v := nI 9) hx hb d_M_open_93 (by decide +kernel) ?_
      refine lv_goto (tgt := 99) hx hb d_M_open_95 (by decide) ?_
      exact jn99_12 (nI 9) _ _ _ (vx_p q90_10 rfl) hS hV hM0 (lv_sub hl [0, 1] rfl)
  · intro H locs ls hP
    obtain ⟨hS, hV, hM0, hl⟩ := hP
    refine lv_iload_n hx hb d_M_open_78 rfl (lv_at hl 0 rfl) ?_
    refine lv_bipush (v := nI 32) hx hb d_M_open_79 (by decide +kernel) ?_
    refine lv_icmp_ge (tgt := 107) hx hb d_M_open_81 (by decide) (fun _ => ?_) (fun q => absurd (nI_le (by omega) (by omega)) q)
    refine lv_aload_n hx hb d_M_open_107 rfl (lv_at hl 1 rfl) ?_
    have hA_ : ∀ q ∈ mo_arr, sx_A g q.2.1 H (r q.1) q.2.2 := fun q hq => hS.1.2.2.1 _ _ _ (hA q hq)
    refine vx_gvJ (sx_runV (As := []) (rest := []) EE hM0 rfl rfl (v_M_ladder (E := cutE E o) (X := R10) ⟨hM0, hA_⟩ (fun z_ => z_.2 rfl) (mo_cut hG hK.1 hM0 hA_ hW) hV) w_M_340 rfl ⟨rfl, rfl⟩ ⟨Nat.le_of_ble_eq_true rfl, Nat.le_of_ble_eq_true rfl⟩ ⟨Nat.zero_le _, Nat.zero_le _⟩ hl.1 rfl (Nat.le_of_ble_eq_true rfl) d_M_open_108) (fun z_ h_ => h_.1) hS (fun H locs X15 eX15 hS hV hJ_ => ?_)
    have hM0 := hJ_.ob (fun z_ => z_.2 rfl) hM0
    refine lv_aload_n hx hb d_M_open_111 rfl (lv_at hl 1 rfl) ?_
    refine lv_aload_n hx hb d_M_open_112 rfl (lv_at hl 1 rfl) ?_
    refine sx_get EE hM0 rfl i_M 35 (by decide) rfl fl_M_103 rfl d_M_open_113 ?_
    refine W.eq (g2 := F0 m 116 ls [.ref (r 35), .ref o]) rfl ?_
    refine lv_iconst (v := nI 0) hx hb d_M_open_116 (by decide +kernel) ?_
    refine lv_bipush (v := nI 32) hx hb d_M_open_117 (by decide +kernel) ?_
    refine vx_gvP (sx_runV (As := [.ref (r 35), .int (nI (0)), .int (nI (32))]) (rest := []) EE hM0 rfl rfl (v_M_tell (X := X15) hM0 eM (fun q hq => hS.1.2.2.1 _ _ _ (hA q hq)) hW (hS.a (moA_35 hA)) (h_tp := by omega) (h_ms := by omega) (h_rs := by omega) (h_kc := by omega) (by omega) (by omega) hV) w_M_336 rfl ⟨rfl, rfl⟩ ⟨Nat.le_of_ble_eq_true rfl, Nat.le_of_ble_eq_true rfl⟩ ⟨Nat.zero_le _, Nat.zero_le _⟩ hl.1 rfl (Nat.le_of_ble_eq_true rfl) d_M_open_119) (fun z_ h_ => h_) hS (fun H locs X16 eX16 hM0 hS hV hJ_ => ?_)
    have hM0 : va_P D classes [(o, .inr (0, mo_fs r (mi (nI 0) (nI tp) (nI ms) (nI 32) (nI kc))))] H := hM0
    exact hret _ _ _ _ _ (by subst eX1 eX7 eR10 eX15 eX16; exact rfl) hM0 hS hV d_M_open_122
def LF_M_open_b (X : vM) (r : Nat → Nat) (v0 : Nat) (tp : Nat) (ms : Nat) (rs : Nat) (kc : Nat) : vM := (let X1 : vM := (LF_M_none X r (nI v0) tp ms rs kc).1; let X7 : vM := (LF_M_opened X1 r v0); let X8 : vM := (LF_M_tell X7 r (r 36) 0 32 tp ms rs kc); X8)
abbrev rm_M_open_b : Room := { frames := 7, cells := 0, slots := 0, locals := 174 }
set_option maxHeartbeats 4000000 in
set_option maxRecDepth 100000 in
theorem v_M_open_b {l : Launch} {D : va_G} {g : ClassId → FieldType → Prop} {E : Nat → Prop} {H0 : Heap} {X : vM} {o : Nat} {r : Nat → Nat} {th : Int32} {tp : Nat} {ms : Nat} {rs : Nat} {kc : Nat} {v0 : Nat} (hM0 : va_P D classes [(o, .inr (0, mo_fs r (mi th (nI tp) (nI ms) (nI rs) (nI kc))))] H0) (eM : E o) (hA : ∀ q ∈ mo_arr, sx_A g q.2.1 H0 (r q.1) q.2.2) (hW : ∀ q ∈ mo_arr, E (r q.1))  (h_tp : tp ≤ 65536) (h_ms : ms ≤ 65536) (h_rs : rs ≤ 64) (h_kc : kc ≤ 100) (hw : v0 < kc) (hV : mm g H0 = X) : Met l y_M_open (.code y_M_open b_M_open 4 none :: G_) rm_M_open_b (sx_Pc [.ref o, .int (nI v0), .int (nI 1)] H0 D g) (vx_QvP g E H0 (LF_M_open_b X r v0 tp ms rs kc) (fun H => va_P D classes [(o, .inr (0, mo_fs r (mi (nI 0) (nI tp) (nI ms) (nI 32) (nI kc))))] H)) 0 0 E := by
  refine vx_mvP (own := R_M) (by decide) rfl rfl rfl (Nat.le_of_ble_eq_true rfl) ?_
  intro p e s m args below meth c Q ls EE hl hret
  obtain ⟨hx, hb, hml, hown, hts, hG, hK⟩ := id EE
  have hS : sx_S g E E H0 H0 [] := sx_S.rf
  have hl : lv_has ls 4 [(0, .ref o), (1, .int (nI (v0))), (2, .int (nI (1)))] := hl
  refine lv_aload_n hx hb d_M_open_0 rfl (lv_at hl 0 rfl) ?_
  refine lv_aload_n hx hb d_M_open_1 rfl (lv_at hl 0 rfl) ?_
  refine lv_iload_n hx hb d_M_open_2 rfl (lv_at hl 1 rfl) ?_
  refine vx_giP (sx_runV (As := [.int (nI (v0))]) (rest := [.ref o]) EE hM0 rfl rfl (v_M_none (X := X) hM0 eM (fun q hq => hS.1.2.2.1 _ _ _ (hA q hq)) hW (h_tp := by omega) (h_ms := by omega) (h_rs := by omega) (h_kc := by omega) hV) w_M_328 rfl ⟨rfl, rfl⟩ ⟨Nat.le_of_ble_eq_true rfl, Nat.le_of_ble_eq_true rfl⟩ ⟨Nat.zero_le _, Nat.zero_le _⟩ hl.1 rfl (Nat.le_of_ble_eq_true rfl) d_M_open_3) (fun z_ h_ => h_) hS (fun H locs X1 eX1 hM0 hS hV hJ_ => ?_)
  refine sx_ti (y := nI 0) (by rw [show (LF_M_none _ r (nI v0) tp ms rs kc).2 = false from (mn_f (by omega) (by omega))]; rfl) ?_
  have hM0 : va_P D classes [(o, .inr (0, mo_fs r (mi th (nI tp) (nI ms) (nI rs) (nI kc))))] H := hM0
  refine lv_if_eq (tgt := 13) hx hb d_M_open_6 (by decide) (fun _ => ?_) (fun q6_1 => absurd (show 0 = 0 by decide) (by have q6_1 : ¬ (0 = 0) := fun z => q6_1 ((nI_eq (a := 0) (b := 0) (by omega) (by omega)).mpr z); exact q6_1))
  refine lv_iload_n hx hb d_M_open_13 rfl (lv_at hl 2 rfl) ?_
  refine lv_if_lt (tgt := 22) hx hb d_M_open_14 (by decide) (fun q14_2 => absurd (show 1 < 0 by have q14_2 : 1 < 0 := (nI_ltI (a := 1) (b := 0) (by omega) (by omega)).mp q14_2; exact q14_2) (by decide)) (fun _ => ?_)
  refine lv_iload_n hx hb d_M_open_17 rfl (lv_at hl 2 rfl) ?_
  refine lv_iconst (v := nI 1) hx hb d_M_open_18 (by decide +kernel) ?_
  refine lv_icmp_le (tgt := 26) hx hb d_M_open_19 (by decide) (fun _ => ?_) (fun q19_3 => absurd (show 1 ≤ 1 by decide) (by have q19_3 : ¬ (1 ≤ 1) := fun z => q19_3 ((nI_leI (a := 1) (b := 1) (by omega) (by omega)).mpr z); exact q19_3))
  refine lv_iconst (v := nI 0) hx hb d_M_open_26 (by decide +kernel) ?_
  have h0_ := hM0
  refine sx_put EE hM0 rfl i_M t_M tok_M n_M 0 (by decide) rfl fl_M_211 (ty := .int) (by decide +kernel) rfl rfl (Nat.le_of_ble_eq_true rfl) eM hS d_M_open_27 (fun H locs hM0 hJ_ hs_ hS => ?_)
  have hM0 : va_P D classes [(o, .inr (0, mo_fs r (mi (nI 0) (nI tp) (nI ms) (nI rs) (nI kc))))] H := hM0
  have hV := (vx_obj hG hK.1 h0_ hM0 hs_).trans hV
  refine lv_aload_n hx hb d_M_open_30 rfl (lv_at hl 0 rfl) ?_
  refine sx_get EE hM0 rfl i_M 0 (by decide) rfl fl_M_211 rfl d_M_open_31 ?_
  refine W.eq (g2 := F0 m 34 ls [.int (nI (0))]) rfl ?_
  refine lv_if_le (tgt := 38) hx hb d_M_open_34 (by decide) (fun _ => ?_) (fun q34_4 => absurd (show 0 ≤ 0 by decide) (by have q34_4 : ¬ (0 ≤ 0) := fun z => q34_4 ((nI_leI (a := 0) (b := 0) (by omega) (by omega)).mpr z); exact q34_4))
  refine lv_iload_n hx hb d_M_open_38 rfl (lv_at hl 2 rfl) ?_
  refine lv_iconst (v := nI 1) hx hb d_M_open_39 (by decide +kernel) ?_
  refine lv_icmp_ne (tgt := 60) hx hb d_M_open_40 (by decide) (fun q40_5 => absurd (show 1 = 1 by decide) (by have q40_5 : ¬ (1 = 1) := fun z => q40_5 ((nI_eq (a := 1) (b := 1) (by omega) (by omega)).mpr z); exact q40_5)) (fun _ => ?_)
  refine lv_aload_n hx hb d_M_open_43 rfl (lv_at hl 0 rfl) ?_
  refine lv_iload_n hx hb d_M_open_44 rfl (lv_at hl 1 rfl) ?_
  have hA_ : ∀ q ∈ mo_arr, sx_A g q.2.1 H (r q.1) q.2.2 := fun q hq => hS.1.2.2.1 _ _ _ (hA q hq)
  refine vx_gvJ (sx_runV (As := [.int (nI (v0))]) (rest := []) EE hM0 rfl rfl (v_M_opened (E := cutE E o) (X := X1) ⟨hM0, hA_⟩ (fun z_ => z_.2 rfl) (mo_cut hG hK.1 hM0 hA_ hW) (by omega) hV) w_M_332 rfl ⟨rfl, rfl⟩ ⟨Nat.le_of_ble_eq_true rfl, Nat.le_of_ble_eq_true rfl⟩ ⟨Nat.zero_le _, Nat.zero_le _⟩ hl.1 rfl (Nat.le_of_ble_eq_true rfl) d_M_open_45) (fun z_ h_ => h_.1) hS (fun H locs X7 eX7 hS hV hJ_ => ?_)
  have hM0 := hJ_.ob (fun z_ => z_.2 rfl) hM0
  refine lv_aload_n hx hb d_M_open_48 rfl (lv_at hl 0 rfl) ?_
  refine lv_aload_n hx hb d_M_open_49 rfl (lv_at hl 0 rfl) ?_
  refine sx_get EE hM0 rfl i_M 36 (by decide) rfl fl_M_106 rfl d_M_open_50 ?_
  refine W.eq (g2 := F0 m 53 ls [.ref (r 36), .ref o]) rfl ?_
  refine lv_iconst (v := nI 0) hx hb d_M_open_53 (by decide +kernel) ?_
  refine lv_bipush (v := nI 32) hx hb d_M_open_54 (by decide +kernel) ?_
  refine vx_gvP (sx_runV (As := [.ref (r 36), .int (nI (0)), .int (nI (32))]) (rest := []) EE hM0 rfl rfl (v_M_tell (X := X7) hM0 eM (fun q hq => hS.1.2.2.1 _ _ _ (hA q hq)) hW (hS.a (moA_36 hA)) (h_tp := by omega) (h_ms := by omega) (h_rs := by omega) (h_kc := by omega) (by omega) (by omega) hV) w_M_336 rfl ⟨rfl, rfl⟩ ⟨Nat.le_of_ble_eq_true rfl, Nat.le_of_ble_eq_true rfl⟩ ⟨Nat.zero_le _, Nat.zero_le _⟩ hl.1 rfl (Nat.le_of_ble_eq_true rfl) d_M_open_56) (fun z_ h_ => h_) hS (fun H locs X8 eX8 hM0 hS hV hJ_ => ?_)
  have hM0 : va_P D classes [(o, .inr (0, mo_fs r (mi (nI 0) (nI tp) (nI ms) (nI 32) (nI kc))))] H := hM0
  exact hret _ _ _ _ _ (by subst eX1 eX7 eX8; exact rfl) hM0 hS hV d_M_open_59
def LF_M_open_c (X : vM) (r : Nat → Nat) (v0 : Int32) (v1 : Int32) (tp : Nat) (ms : Nat) (rs : Nat) (kc : Nat) : vM := (let X1 : vM := (LF_M_none X r v0 tp ms rs kc).1; X1)
abbrev rm_M_open_c : Room := { frames := 1, cells := 0, slots := 0, locals := 21 }
set_option maxHeartbeats 4000000 in
set_option maxRecDepth 100000 in
theorem v_M_open_c {l : Launch} {D : va_G} {g : ClassId → FieldType → Prop} {E : Nat → Prop} {H0 : Heap} {X : vM} {o : Nat} {r : Nat → Nat} {th : Int32} {tp : Nat} {ms : Nat} {rs : Nat} {kc : Nat} {v0 : Int32} {v1 : Int32} (hM0 : va_P D classes [(o, .inr (0, mo_fs r (mi th (nI tp) (nI ms) (nI rs) (nI kc))))] H0) (eM : E o) (hA : ∀ q ∈ mo_arr, sx_A g q.2.1 H0 (r q.1) q.2.2) (hW : ∀ q ∈ mo_arr, E (r q.1))  (h_tp : tp ≤ 65536) (h_ms : ms ≤ 65536) (h_rs : rs ≤ 64) (h_kc : kc ≤ 100) (hn : (LF_M_none X r v0 tp ms rs kc).2 = true) (hV : mm g H0 = X) : Met l y_M_open (.code y_M_open b_M_open 4 none :: G_) rm_M_open_c (sx_Pc [.ref o, .int v0, .int v1] H0 D g) (vx_QvP g E H0 (LF_M_open_c X r v0 v1 tp ms rs kc) (fun H => va_P D classes [(o, .inr (0, mo_fs r (mi (nI 1) (nI tp) (nI ms) (nI rs) (nI kc))))] H)) 0 0 E := by
  refine vx_mvP (own := R_M) (by decide) rfl rfl rfl (Nat.le_of_ble_eq_true rfl) ?_
  intro p e s m args below meth c Q ls EE hl hret
  obtain ⟨hx, hb, hml, hown, hts, hG, hK⟩ := id EE
  have hS : sx_S g E E H0 H0 [] := sx_S.rf
  have hl : lv_has ls 4 [(0, .ref o), (1, .int v0), (2, .int v1)] := hl
  refine lv_aload_n hx hb d_M_open_0 rfl (lv_at hl 0 rfl) ?_
  refine lv_aload_n hx hb d_M_open_1 rfl (lv_at hl 0 rfl) ?_
  refine lv_iload_n hx hb d_M_open_2 rfl (lv_at hl 1 rfl) ?_
  refine vx_giP (sx_runV (As := [.int v0]) (rest := [.ref o]) EE hM0 rfl rfl (v_M_none (X := X) hM0 eM (fun q hq => hS.1.2.2.1 _ _ _ (hA q hq)) hW (h_tp := by omega) (h_ms := by omega) (h_rs := by omega) (h_kc := by omega) hV) w_M_328 rfl ⟨rfl, rfl⟩ ⟨Nat.le_of_ble_eq_true rfl, Nat.le_of_ble_eq_true rfl⟩ ⟨Nat.zero_le _, Nat.zero_le _⟩ hl.1 rfl (Nat.le_of_ble_eq_true rfl) d_M_open_3) (fun z_ h_ => h_) hS (fun H locs X1 eX1 hM0 hS hV hJ_ => ?_)
  refine sx_ti (y := nI 1) (by rw [show (LF_M_none _ r v0 tp ms rs kc).2 = true from hn]; rfl) ?_
  have hM0 : va_P D classes [(o, .inr (0, mo_fs r (mi th (nI tp) (nI ms) (nI rs) (nI kc))))] H := hM0
  refine lv_if_eq (tgt := 13) hx hb d_M_open_6 (by decide) (fun q6_1 => absurd (show 1 = 0 by have q6_1 : 1 = 0 := (nI_eq (a := 1) (b := 0) (by omega) (by omega)).mp q6_1; exact q6_1) (by decide)) (fun _ => ?_)
  refine lv_iconst (v := nI 1) hx hb d_M_open_9 (by decide +kernel) ?_
  refine lv_goto (tgt := 27) hx hb d_M_open_10 (by decide) ?_
  have h0_ := hM0
  refine sx_put EE hM0 rfl i_M t_M tok_M n_M 0 (by decide) rfl fl_M_211 (ty := .int) (by decide +kernel) rfl rfl (Nat.le_of_ble_eq_true rfl) eM hS d_M_open_27 (fun H locs hM0 hJ_ hs_ hS => ?_)
  have hM0 : va_P D classes [(o, .inr (0, mo_fs r (mi (nI 1) (nI tp) (nI ms) (nI rs) (nI kc))))] H := hM0
  have hV := (vx_obj hG hK.1 h0_ hM0 hs_).trans hV
  refine lv_aload_n hx hb d_M_open_30 rfl (lv_at hl 0 rfl) ?_
  refine sx_get EE hM0 rfl i_M 0 (by decide) rfl fl_M_211 rfl d_M_open_31 ?_
  refine W.eq (g2 := F0 m 34 ls [.int (nI (1))]) rfl ?_
  refine lv_if_le (tgt := 38) hx hb d_M_open_34 (by decide) (fun q34_2 => absurd (show 1 ≤ 0 by have q34_2 : 1 ≤ 0 := (nI_leI (a := 1) (b := 0) (by omega) (by omega)).mp q34_2; exact q34_2) (by decide)) (fun _ => ?_)
  exact hret _ _ _ _ _ (by subst eX1; exact rfl) hM0 hS hV d_M_open_37
def LF_M_open_d (X : vM) (r : Nat → Nat) (v0 : Nat) (v1 : Int32) (tp : Nat) (ms : Nat) (rs : Nat) (kc : Nat) : vM := (let X1 : vM := (LF_M_none X r (nI v0) tp ms rs kc).1; X1)
abbrev rm_M_open_d : Room := { frames := 1, cells := 0, slots := 0, locals := 21 }
set_option maxHeartbeats 4000000 in
set_option maxRecDepth 100000 in
theorem v_M_open_d {l : Launch} {D : va_G} {g : ClassId → FieldType → Prop} {E : Nat → Prop} {H0 : Heap} {X : vM} {o : Nat} {r : Nat → Nat} {th : Int32} {tp : Nat} {ms : Nat} {rs : Nat} {kc : Nat} {v0 : Nat} {v1 : Int32} (hM0 : va_P D classes [(o, .inr (0, mo_fs r (mi th (nI tp) (nI ms) (nI rs) (nI kc))))] H0) (eM : E o) (hA : ∀ q ∈ mo_arr, sx_A g q.2.1 H0 (r q.1) q.2.2) (hW : ∀ q ∈ mo_arr, E (r q.1))  (h_tp : tp ≤ 65536) (h_ms : ms ≤ 65536) (h_rs : rs ≤ 64) (h_kc : kc ≤ 100) (hw : v0 < kc) (hw2 : v1 < 0) (hV : mm g H0 = X) : Met l y_M_open (.code y_M_open b_M_open 4 none :: G_) rm_M_open_d (sx_Pc [.ref o, .int (nI v0), .int v1] H0 D g) (vx_QvP g E H0 (LF_M_open_d X r v0 v1 tp ms rs kc) (fun H => va_P D classes [(o, .inr (0, mo_fs r (mi (nI 2) (nI tp) (nI ms) (nI rs) (nI kc))))] H)) 0 0 E := by
  refine vx_mvP (own := R_M) (by decide) rfl rfl rfl (Nat.le_of_ble_eq_true rfl) ?_
  intro p e s m args below meth c Q ls EE hl hret
  obtain ⟨hx, hb, hml, hown, hts, hG, hK⟩ := id EE
  have hS : sx_S g E E H0 H0 [] := sx_S.rf
  have hl : lv_has ls 4 [(0, .ref o), (1, .int (nI (v0))), (2, .int v1)] := hl
  refine lv_aload_n hx hb d_M_open_0 rfl (lv_at hl 0 rfl) ?_
  refine lv_aload_n hx hb d_M_open_1 rfl (lv_at hl 0 rfl) ?_
  refine lv_iload_n hx hb d_M_open_2 rfl (lv_at hl 1 rfl) ?_
  refine vx_giP (sx_runV (As := [.int (nI (v0))]) (rest := [.ref o]) EE hM0 rfl rfl (v_M_none (X := X) hM0 eM (fun q hq => hS.1.2.2.1 _ _ _ (hA q hq)) hW (h_tp := by omega) (h_ms := by omega) (h_rs := by omega) (h_kc := by omega) hV) w_M_328 rfl ⟨rfl, rfl⟩ ⟨Nat.le_of_ble_eq_true rfl, Nat.le_of_ble_eq_true rfl⟩ ⟨Nat.zero_le _, Nat.zero_le _⟩ hl.1 rfl (Nat.le_of_ble_eq_true rfl) d_M_open_3) (fun z_ h_ => h_) hS (fun H locs X1 eX1 hM0 hS hV hJ_ => ?_)
  refine sx_ti (y := nI 0) (by rw [show (LF_M_none _ r (nI v0) tp ms rs kc).2 = false from (mn_f (by omega) (by omega))]; rfl) ?_
  have hM0 : va_P D classes [(o, .inr (0, mo_fs r (mi th (nI tp) (nI ms) (nI rs) (nI kc))))] H := hM0
  refine lv_if_eq (tgt := 13) hx hb d_M_open_6 (by decide) (fun _ => ?_) (fun q6_1 => absurd (show 0 = 0 by decide) (by have q6_1 : ¬ (0 = 0) := fun z => q6_1 ((nI_eq (a := 0) (b := 0) (by omega) (by omega)).mpr z); exact q6_1))
  refine lv_iload_n hx hb d_M_open_13 rfl (lv_at hl 2 rfl) ?_
  refine lv_if_lt (tgt := 22) hx hb d_M_open_14 (by decide) (fun _ => ?_) (fun q => absurd hw2 q)
  refine lv_iconst (v := nI 2) hx hb d_M_open_22 (by decide +kernel) ?_
  refine lv_goto (tgt := 27) hx hb d_M_open_23 (by decide) ?_
  have h0_ := hM0
  refine sx_put EE hM0 rfl i_M t_M tok_M n_M 0 (by decide) rfl fl_M_211 (ty := .int) (by decide +kernel) rfl rfl (Nat.le_of_ble_eq_true rfl) eM hS d_M_open_27 (fun H locs hM0 hJ_ hs_ hS => ?_)
  have hM0 : va_P D classes [(o, .inr (0, mo_fs r (mi (nI 2) (nI tp) (nI ms) (nI rs) (nI kc))))] H := hM0
  have hV := (vx_obj hG hK.1 h0_ hM0 hs_).trans hV
  refine lv_aload_n hx hb d_M_open_30 rfl (lv_at hl 0 rfl) ?_
  refine sx_get EE hM0 rfl i_M 0 (by decide) rfl fl_M_211 rfl d_M_open_31 ?_
  refine W.eq (g2 := F0 m 34 ls [.int (nI (2))]) rfl ?_
  refine lv_if_le (tgt := 38) hx hb d_M_open_34 (by decide) (fun q34_2 => absurd (show 2 ≤ 0 by have q34_2 : 2 ≤ 0 := (nI_leI (a := 2) (b := 0) (by omega) (by omega)).mp q34_2; exact q34_2) (by decide)) (fun _ => ?_)
  exact hret _ _ _ _ _ (by subst eX1; exact rfl) hM0 hS hV d_M_open_37
def LF_M_open_e (X : vM) (r : Nat → Nat) (v0 : Nat) (v1 : Int32) (tp : Nat) (ms : Nat) (rs : Nat) (kc : Nat) : vM := (let X1 : vM := (LF_M_none X r (nI v0) tp ms rs kc).1; X1)
abbrev rm_M_open_e : Room := { frames := 1, cells := 0, slots := 0, locals := 21 }
set_option maxHeartbeats 4000000 in
set_option maxRecDepth 100000 in
theorem v_M_open_e {l : Launch} {D : va_G} {g : ClassId → FieldType → Prop} {E : Nat → Prop} {H0 : Heap} {X : vM} {o : Nat} {r : Nat → Nat} {th : Int32} {tp : Nat} {ms : Nat} {rs : Nat} {kc : Nat} {v0 : Nat} {v1 : Int32} (hM0 : va_P D classes [(o, .inr (0, mo_fs r (mi th (nI tp) (nI ms) (nI rs) (nI kc))))] H0) (eM : E o) (hA : ∀ q ∈ mo_arr, sx_A g q.2.1 H0 (r q.1) q.2.2) (hW : ∀ q ∈ mo_arr, E (r q.1))  (h_tp : tp ≤ 65536) (h_ms : ms ≤ 65536) (h_rs : rs ≤ 64) (h_kc : kc ≤ 100) (hw : v0 < kc) (hw2 : ¬ v1 < 0) (hw3 : ¬ v1 ≤ nI 1) (hV : mm g H0 = X) : Met l y_M_open (.code y_M_open b_M_open 4 none :: G_) rm_M_open_e (sx_Pc [.ref o, .int (nI v0), .int v1] H0 D g) (vx_QvP g E H0 (LF_M_open_e X r v0 v1 tp ms rs kc) (fun H => va_P D classes [(o, .inr (0, mo_fs r (mi (nI 2) (nI tp) (nI ms) (nI rs) (nI kc))))] H)) 0 0 E := by
  refine vx_mvP (own := R_M) (by decide) rfl rfl rfl (Nat.le_of_ble_eq_true rfl) ?_
  intro p e s m args below meth c Q ls EE hl hret
  obtain ⟨hx, hb, hml, hown, hts, hG, hK⟩ := id EE
  have hS : sx_S g E E H0 H0 [] := sx_S.rf
  have hl : lv_has ls 4 [(0, .ref o), (1, .int (nI (v0))), (2, .int v1)] := hl
  refine lv_aload_n hx hb d_M_open_0 rfl (lv_at hl 0 rfl) ?_
  refine lv_aload_n hx hb d_M_open_1 rfl (lv_at hl 0 rfl) ?_
  refine lv_iload_n hx hb d_M_open_2 rfl (lv_at hl 1 rfl) ?_
  refine vx_giP (sx_runV (As := [.int (nI (v0))]) (rest := [.ref o]) EE hM0 rfl rfl (v_M_none (X := X) hM0 eM (fun q hq => hS.1.2.2.1 _ _ _ (hA q hq)) hW (h_tp := by omega) (h_ms := by omega) (h_rs := by omega) (h_kc := by omega) hV) w_M_328 rfl ⟨rfl, rfl⟩ ⟨Nat.le_of_ble_eq_true rfl, Nat.le_of_ble_eq_true rfl⟩ ⟨Nat.zero_le _, Nat.zero_le _⟩ hl.1 rfl (Nat.le_of_ble_eq_true rfl) d_M_open_3) (fun z_ h_ => h_) hS (fun H locs X1 eX1 hM0 hS hV hJ_ => ?_)
  refine sx_ti (y := nI 0) (by rw [show (LF_M_none _ r (nI v0) tp ms rs kc).2 = false from (mn_f (by omega) (by omega))]; rfl) ?_
  have hM0 : va_P D classes [(o, .inr (0, mo_fs r (mi th (nI tp) (nI ms) (nI rs) (nI kc))))] H := hM0
  refine lv_if_eq (tgt := 13) hx hb d_M_open_6 (by decide) (fun _ => ?_) (fun q6_1 => absurd (show 0 = 0 by decide) (by have q6_1 : ¬ (0 = 0) := fun z => q6_1 ((nI_eq (a := 0) (b := 0) (by omega) (by omega)).mpr z); exact q6_1))
  refine lv_iload_n hx hb d_M_open_13 rfl (lv_at hl 2 rfl) ?_
  refine lv_if_lt (tgt := 22) hx hb d_M_open_14 (by decide) (fun q => absurd q hw2) (fun _ => ?_)
  refine lv_iload_n hx hb d_M_open_17 rfl (lv_at hl 2 rfl) ?_
  refine lv_iconst (v := nI 1) hx hb d_M_open_18 (by decide +kernel) ?_
  refine lv_icmp_le (tgt := 26) hx hb d_M_open_19 (by decide) (fun q => absurd q hw3) (fun _ => ?_)
  refine lv_iconst (v := nI 2) hx hb d_M_open_22 (by decide +kernel) ?_
  refine lv_goto (tgt := 27) hx hb d_M_open_23 (by decide) ?_
  have h0_ := hM0
  refine sx_put EE hM0 rfl i_M t_M tok_M n_M 0 (by decide) rfl fl_M_211 (ty := .int) (by decide +kernel) rfl rfl (Nat.le_of_ble_eq_true rfl) eM hS d_M_open_27 (fun H locs hM0 hJ_ hs_ hS => ?_)
  have hM0 : va_P D classes [(o, .inr (0, mo_fs r (mi (nI 2) (nI tp) (nI ms) (nI rs) (nI kc))))] H := hM0
  have hV := (vx_obj hG hK.1 h0_ hM0 hs_).trans hV
  refine lv_aload_n hx hb d_M_open_30 rfl (lv_at hl 0 rfl) ?_
  refine sx_get EE hM0 rfl i_M 0 (by decide) rfl fl_M_211 rfl d_M_open_31 ?_
  refine W.eq (g2 := F0 m 34 ls [.int (nI (2))]) rfl ?_
  refine lv_if_le (tgt := 38) hx hb d_M_open_34 (by decide) (fun q34_2 => absurd (show 2 ≤ 0 by have q34_2 : 2 ≤ 0 := (nI_leI (a := 2) (b := 0) (by omega) (by omega)).mp q34_2; exact q34_2) (by decide)) (fun _ => ?_)
  exact hret _ _ _ _ _ (by subst eX1; exact rfl) hM0 hS hV d_M_open_37
