/-! the objects of the class, as one table -/
def kc_ob (kq : Nat → Nat → Nat) : List (Nat × Nat × List Value) := [(kq 0 99, 2, [.ref (kq 0 0), .ref (kq 0 1), .ref (kq 0 2), .ref (kq 0 3), .ref (kq 0 4), .ref (kq 0 5), .ref (kq 0 6)]), (kq 1 99, 3, [.ref (kq 0 99), .ref (kq 1 1), .ref (kq 1 2), .ref (kq 1 3), .ref (kq 1 4), .ref (kq 1 5), .ref (kq 1 6), .ref (kq 1 7), .ref (kq 1 8), .ref (kq 1 9), .ref (kq 1 10), .ref (kq 1 11)]), (kq 2 99, 6, [.ref (kq 0 99), .ref (kq 3 99), .ref (kq 4 99), .ref (kq 2 3), .ref (kq 2 4), .ref (kq 2 5), .ref (kq 2 6), .ref (kq 2 7), .ref (kq 2 8), .ref (kq 2 9), .ref (kq 2 10), .ref (kq 2 11), .ref (kq 2 12), .ref (kq 2 13), .ref (kq 2 14)]), (kq 3 99, 4, [.ref (kq 3 0), .ref (kq 3 1), .ref (kq 3 2), .ref (kq 3 3)]), (kq 4 99, 4, [.ref (kq 4 0), .ref (kq 4 1), .ref (kq 4 2), .ref (kq 4 3)]), (kq 6 99, 8, [.ref (kq 6 0)]), (kq 7 99, 11, [.ref (kq 2 99), .ref (kq 5 99), .ref (kq 6 99), .ref (kq 7 3), .ref (kq 7 4), .ref (kq 7 5), .ref (kq 7 6), .ref (kq 7 7), .ref (kq 7 8)])]
def kc_arr (kq : Nat → Nat → Nat) : List (Nat × FieldType × Nat) := [(kq 0 0, .long, 10), (kq 0 1, .long, 10), (kq 0 2, .long, 10), (kq 0 3, .long, 10), (kq 0 4, .long, 10), (kq 0 5, .long, 10), (kq 0 6, .long, 10), (kq 1 1, .byte, 32), (kq 1 2, .byte, 32), (kq 1 3, .long, 10), (kq 1 4, .long, 10), (kq 1 5, .long, 10), (kq 1 6, .long, 10), (kq 1 7, .long, 10), (kq 1 8, .long, 10), (kq 1 9, .long, 10), (kq 1 10, .long, 10), (kq 1 11, .long, 10), (kq 2 5, .byte, 32), (kq 2 6, .byte, 32), (kq 2 7, .long, 10), (kq 2 8, .long, 10), (kq 2 9, .long, 10), (kq 2 10, .long, 10), (kq 2 11, .long, 10), (kq 2 12, .long, 10), (kq 2 13, .long, 10), (kq 2 14, .long, 10), (kq 3 0, .long, 10), (kq 3 1, .long, 10), (kq 3 2, .long, 10), (kq 3 3, .long, 10), (kq 4 0, .long, 10), (kq 4 1, .long, 10), (kq 4 2, .long, 10), (kq 4 3, .long, 10), (kq 5 0, .long, 8), (kq 5 1, .long, 80), (kq 5 2, .byte, 128), (kq 6 0, .long, 64), (kq 7 3, .byte, 64), (kq 7 4, .byte, 32), (kq 7 5, .byte, 32), (kq 7 6, .byte, 32), (kq 7 7, .byte, 32), (kq 7 8, .byte, 32)]
def kc_ (D : va_G) (g : ClassId → FieldType → Prop) (E : Nat → Prop) (H : Heap) (kq : Nat → Nat → Nat) (ts : Nat → Nat) : Prop := (∀ x ∈ kc_ob kq, va_P D classes [(x.1, .inr (x.2.1, x.2.2))] H ∧ ¬ E x.1) ∧ (∀ y ∈ kc_arr kq, sx_A g y.2.1 H y.1 y.2.2 ∧ sx_L H y.1 y.2.2 ∧ E y.1) ∧ rb_ D g E H (kq 2 3) (fun j => kq (16 + j)) ∧ rb_ D g E H (kq 2 4) (fun j => kq (32 + j)) ∧ st_H D g E H ts
section KC
variable {D : va_G} {g : ClassId → FieldType → Prop} {E : Nat → Prop} {H H0 : Heap} {kq : Nat → Nat → Nat} {ts : Nat → Nat}
theorem kc_.kept (h : kc_ D g E H0 kq ts) (hJ : sx_J g E H0 H) : kc_ D g E H kq ts := ⟨fun x hx => ⟨hJ.ob (h.1 x hx).2 (h.1 x hx).1, (h.1 x hx).2⟩, fun y hy => ⟨hJ.2.2.1 _ _ _ (h.2.1 y hy).1, hJ.2.2.2 _ _ (h.2.1 y hy).2.1, (h.2.1 y hy).2.2⟩, h.2.2.1.kept hJ, h.2.2.2.1.kept hJ, h.2.2.2.2.kept hJ⟩
theorem kc_o0 (h : kc_ D g E H kq ts) : va_P D classes [(kq 0 99, .inr (2, [.ref (kq 0 0), .ref (kq 0 1), .ref (kq 0 2), .ref (kq 0 3), .ref (kq 0 4), .ref (kq 0 5), .ref (kq 0 6)]))] H := (h.1 (kq 0 99, 2, [.ref (kq 0 0), .ref (kq 0 1), .ref (kq 0 2), .ref (kq 0 3), .ref (kq 0 4), .ref (kq 0 5), .ref (kq 0 6)]) (List.mem_of_getElem? (i := 0) rfl)).1
theorem kc_n0 (h : kc_ D g E H kq ts) : ¬ E (kq 0 99) := (h.1 (kq 0 99, 2, [.ref (kq 0 0), .ref (kq 0 1), .ref (kq 0 2), .ref (kq 0 3), .ref (kq 0 4), .ref (kq 0 5), .ref (kq 0 6)]) (List.mem_of_getElem? (i := 0) rfl)).2
theorem kc_o1 (h : kc_ D g E H kq ts) : va_P D classes [(kq 1 99, .inr (3, [.ref (kq 0 99), .ref (kq 1 1), .ref (kq 1 2), .ref (kq 1 3), .ref (kq 1 4), .ref (kq 1 5), .ref (kq 1 6), .ref (kq 1 7), .ref (kq 1 8), .ref (kq 1 9), .ref (kq 1 10), .ref (kq 1 11)]))] H := (h.1 (kq 1 99, 3, [.ref (kq 0 99), .ref (kq 1 1), .ref (kq 1 2), .ref (kq 1 3), .ref (kq 1 4), .ref (kq 1 5), .ref (kq 1 6), .ref (kq 1 7), .ref (kq 1 8), .ref (kq 1 9), .ref (kq 1 10), .ref (kq 1 11)]) (List.mem_of_getElem? (i := 1) rfl)).1
theorem kc_n1 (h : kc_ D g E H kq ts) : ¬ E (kq 1 99) := (h.1 (kq 1 99, 3, [.ref (kq 0 99), .ref (kq 1 1), .ref (kq 1 2), .ref (kq 1 3), .ref (kq 1 4), .ref (kq 1 5), .ref (kq 1 6), .ref (kq 1 7), .ref (kq 1 8), .ref (kq 1 9), .ref (kq 1 10), .ref (kq 1 11)]) (List.mem_of_getElem? (i := 1) rfl)).2
theorem kc_o2 (h : kc_ D g E H kq ts) : va_P D classes [(kq 2 99, .inr (6, [.ref (kq 0 99), .ref (kq 3 99), .ref (kq 4 99), .ref (kq 2 3), .ref (kq 2 4), .ref (kq 2 5), .ref (kq 2 6), .ref (kq 2 7), .ref (kq 2 8), .ref (kq 2 9), .ref (kq 2 10), .ref (kq 2 11), .ref (kq 2 12), .ref (kq 2 13), .ref (kq 2 14)]))] H := (h.1 (kq 2 99, 6, [.ref (kq 0 99), .ref (kq 3 99), .ref (kq 4 99), .ref (kq 2 3), .ref (kq 2 4), .ref (kq 2 5), .ref (kq 2 6), .ref (kq 2 7), .ref (kq 2 8), .ref (kq 2 9), .ref (kq 2 10), .ref (kq 2 11), .ref (kq 2 12), .ref (kq 2 13), .ref (kq 2 14)]) (List.mem_of_getElem? (i := 2) rfl)).1
theorem kc_n2 (h : kc_ D g E H kq ts) : ¬ E (kq 2 99) := (h.1 (kq 2 99, 6, [.ref (kq 0 99), .ref (kq 3 99), .ref (kq 4 99), .ref (kq 2 3), .ref (kq 2 4), .ref (kq 2 5), .ref (kq 2 6), .ref (kq 2 7), .ref (kq 2 8), .ref (kq 2 9), .ref (kq 2 10), .ref (kq 2 11), .ref (kq 2 12), .ref (kq 2 13), .ref (kq 2 14)]) (List.mem_of_getElem? (i := 2) rfl)).2
theorem kc_o3 (h : kc_ D g E H kq ts) : va_P D classes [(kq 3 99, .inr (4, [.ref (kq 3 0), .ref (kq 3 1), .ref (kq 3 2), .ref (kq 3 3)]))] H := (h.1 (kq 3 99, 4, [.ref (kq 3 0), .ref (kq 3 1), .ref (kq 3 2), .ref (kq 3 3)]) (List.mem_of_getElem? (i := 3) rfl)).1
theorem kc_n3 (h : kc_ D g E H kq ts) : ¬ E (kq 3 99) := (h.1 (kq 3 99, 4, [.ref (kq 3 0), .ref (kq 3 1), .ref (kq 3 2), .ref (kq 3 3)]) (List.mem_of_getElem? (i := 3) rfl)).2
theorem kc_o4 (h : kc_ D g E H kq ts) : va_P D classes [(kq 4 99, .inr (4, [.ref (kq 4 0), .ref (kq 4 1), .ref (kq 4 2), .ref (kq 4 3)]))] H := (h.1 (kq 4 99, 4, [.ref (kq 4 0), .ref (kq 4 1), .ref (kq 4 2), .ref (kq 4 3)]) (List.mem_of_getElem? (i := 4) rfl)).1
theorem kc_n4 (h : kc_ D g E H kq ts) : ¬ E (kq 4 99) := (h.1 (kq 4 99, 4, [.ref (kq 4 0), .ref (kq 4 1), .ref (kq 4 2), .ref (kq 4 3)]) (List.mem_of_getElem? (i := 4) rfl)).2
theorem kc_o6 (h : kc_ D g E H kq ts) : va_P D classes [(kq 6 99, .inr (8, [.ref (kq 6 0)]))] H := (h.1 (kq 6 99, 8, [.ref (kq 6 0)]) (List.mem_of_getElem? (i := 5) rfl)).1
theorem kc_n6 (h : kc_ D g E H kq ts) : ¬ E (kq 6 99) := (h.1 (kq 6 99, 8, [.ref (kq 6 0)]) (List.mem_of_getElem? (i := 5) rfl)).2
theorem kc_o7 (h : kc_ D g E H kq ts) : va_P D classes [(kq 7 99, .inr (11, [.ref (kq 2 99), .ref (kq 5 99), .ref (kq 6 99), .ref (kq 7 3), .ref (kq 7 4), .ref (kq 7 5), .ref (kq 7 6), .ref (kq 7 7), .ref (kq 7 8)]))] H := (h.1 (kq 7 99, 11, [.ref (kq 2 99), .ref (kq 5 99), .ref (kq 6 99), .ref (kq 7 3), .ref (kq 7 4), .ref (kq 7 5), .ref (kq 7 6), .ref (kq 7 7), .ref (kq 7 8)]) (List.mem_of_getElem? (i := 6) rfl)).1
theorem kc_n7 (h : kc_ D g E H kq ts) : ¬ E (kq 7 99) := (h.1 (kq 7 99, 11, [.ref (kq 2 99), .ref (kq 5 99), .ref (kq 6 99), .ref (kq 7 3), .ref (kq 7 4), .ref (kq 7 5), .ref (kq 7 6), .ref (kq 7 7), .ref (kq 7 8)]) (List.mem_of_getElem? (i := 6) rfl)).2
theorem kc_a0_0 (h : kc_ D g E H kq ts) : sx_A g .long H (kq 0 0) 10 := (h.2.1 (kq 0 0, .long, 10) (List.mem_of_getElem? (i := 0) rfl)).1
theorem kc_l0_0 (h : kc_ D g E H kq ts) : sx_L H (kq 0 0) 10 := (h.2.1 (kq 0 0, .long, 10) (List.mem_of_getElem? (i := 0) rfl)).2.1
theorem kc_e0_0 (h : kc_ D g E H kq ts) : E (kq 0 0) := (h.2.1 (kq 0 0, .long, 10) (List.mem_of_getElem? (i := 0) rfl)).2.2
theorem kc_a0_1 (h : kc_ D g E H kq ts) : sx_A g .long H (kq 0 1) 10 := (h.2.1 (kq 0 1, .long, 10) (List.mem_of_getElem? (i := 1) rfl)).1
theorem kc_l0_1 (h : kc_ D g E H kq ts) : sx_L H (kq 0 1) 10 := (h.2.1 (kq 0 1, .long, 10) (List.mem_of_getElem? (i := 1) rfl)).2.1
theorem kc_e0_1 (h : kc_ D g E H kq ts) : E (kq 0 1) := (h.2.1 (kq 0 1, .long, 10) (List.mem_of_getElem? (i := 1) rfl)).2.2
theorem kc_a0_2 (h : kc_ D g E H kq ts) : sx_A g .long H (kq 0 2) 10 := (h.2.1 (kq 0 2, .long, 10) (List.mem_of_getElem? (i := 2) rfl)).1
theorem kc_l0_2 (h : kc_ D g E H kq ts) : sx_L H (kq 0 2) 10 := (h.2.1 (kq 0 2, .long, 10) (List.mem_of_getElem? (i := 2) rfl)).2.1
theorem kc_e0_2 (h : kc_ D g E H kq ts) : E (kq 0 2) := (h.2.1 (kq 0 2, .long, 10) (List.mem_of_getElem? (i := 2) rfl)).2.2
theorem kc_a0_3 (h : kc_ D g E H kq ts) : sx_A g .long H (kq 0 3) 10 := (h.2.1 (kq 0 3, .long, 10) (List.mem_of_getElem? (i := 3) rfl)).1
theorem kc_l0_3 (h : kc_ D g E H kq ts) : sx_L H (kq 0 3) 10 := (h.2.1 (kq 0 3, .long, 10) (List.mem_of_getElem? (i := 3) rfl)).2.1
theorem kc_e0_3 (h : kc_ D g E H kq ts) : E (kq 0 3) := (h.2.1 (kq 0 3, .long, 10) (List.mem_of_getElem? (i := 3) rfl)).2.2
theorem kc_a0_4 (h : kc_ D g E H kq ts) : sx_A g .long H (kq 0 4) 10 := (h.2.1 (kq 0 4, .long, 10) (List.mem_of_getElem? (i := 4) rfl)).1
theorem kc_l0_4 (h : kc_ D g E H kq ts) : sx_L H (kq 0 4) 10 := (h.2.1 (kq 0 4, .long, 10) (List.mem_of_getElem? (i := 4) rfl)).2.1
theorem kc_e0_4 (h : kc_ D g E H kq ts) : E (kq 0 4) := (h.2.1 (kq 0 4, .long, 10) (List.mem_of_getElem? (i := 4) rfl)).2.2
theorem kc_a0_5 (h : kc_ D g E H kq ts) : sx_A g .long H (kq 0 5) 10 := (h.2.1 (kq 0 5, .long, 10) (List.mem_of_getElem? (i := 5) rfl)).1
theorem kc_l0_5 (h : kc_ D g E H kq ts) : sx_L H (kq 0 5) 10 := (h.2.1 (kq 0 5, .long, 10) (List.mem_of_getElem? (i := 5) rfl)).2.1
theorem kc_e0_5 (h : kc_ D g E H kq ts) : E (kq 0 5) := (h.2.1 (kq 0 5, .long, 10) (List.mem_of_getElem? (i := 5) rfl)).2.2
theorem kc_a0_6 (h : kc_ D g E H kq ts) : sx_A g .long H (kq 0 6) 10 := (h.2.1 (kq 0 6, .long, 10) (List.mem_of_getElem? (i := 6) rfl)).1
theorem kc_l0_6 (h : kc_ D g E H kq ts) : sx_L H (kq 0 6) 10 := (h.2.1 (kq 0 6, .long, 10) (List.mem_of_getElem? (i := 6) rfl)).2.1
theorem kc_e0_6 (h : kc_ D g E H kq ts) : E (kq 0 6) := (h.2.1 (kq 0 6, .long, 10) (List.mem_of_getElem? (i := 6) rfl)).2.2
theorem kc_a1_1 (h : kc_ D g E H kq ts) : sx_A g .byte H (kq 1 1) 32 := (h.2.1 (kq 1 1, .byte, 32) (List.mem_of_getElem? (i := 7) rfl)).1
theorem kc_l1_1 (h : kc_ D g E H kq ts) : sx_L H (kq 1 1) 32 := (h.2.1 (kq 1 1, .byte, 32) (List.mem_of_getElem? (i := 7) rfl)).2.1
theorem kc_e1_1 (h : kc_ D g E H kq ts) : E (kq 1 1) := (h.2.1 (kq 1 1, .byte, 32) (List.mem_of_getElem? (i := 7) rfl)).2.2
theorem kc_a1_2 (h : kc_ D g E H kq ts) : sx_A g .byte H (kq 1 2) 32 := (h.2.1 (kq 1 2, .byte, 32) (List.mem_of_getElem? (i := 8) rfl)).1
theorem kc_l1_2 (h : kc_ D g E H kq ts) : sx_L H (kq 1 2) 32 := (h.2.1 (kq 1 2, .byte, 32) (List.mem_of_getElem? (i := 8) rfl)).2.1
theorem kc_e1_2 (h : kc_ D g E H kq ts) : E (kq 1 2) := (h.2.1 (kq 1 2, .byte, 32) (List.mem_of_getElem? (i := 8) rfl)).2.2
theorem kc_a1_3 (h : kc_ D g E H kq ts) : sx_A g .long H (kq 1 3) 10 := (h.2.1 (kq 1 3, .long, 10) (List.mem_of_getElem? (i := 9) rfl)).1
theorem kc_l1_3 (h : kc_ D g E H kq ts) : sx_L H (kq 1 3) 10 := (h.2.1 (kq 1 3, .long, 10) (List.mem_of_getElem? (i := 9) rfl)).2.1
theorem kc_e1_3 (h : kc_ D g E H kq ts) : E (kq 1 3) := (h.2.1 (kq 1 3, .long, 10) (List.mem_of_getElem? (i := 9) rfl)).2.2
theorem kc_a1_4 (h : kc_ D g E H kq ts) : sx_A g .long H (kq 1 4) 10 := (h.2.1 (kq 1 4, .long, 10) (List.mem_of_getElem? (i := 10) rfl)).1
theorem kc_l1_4 (h : kc_ D g E H kq ts) : sx_L H (kq 1 4) 10 := (h.2.1 (kq 1 4, .long, 10) (List.mem_of_getElem? (i := 10) rfl)).2.1
theorem kc_e1_4 (h : kc_ D g E H kq ts) : E (kq 1 4) := (h.2.1 (kq 1 4, .long, 10) (List.mem_of_getElem? (i := 10) rfl)).2.2
theorem kc_a1_5 (h : kc_ D g E H kq ts) : sx_A g .long H (kq 1 5) 10 := (h.2.1 (kq 1 5, .long, 10) (List.mem_of_getElem? (i := 11) rfl)).1
theorem kc_l1_5 (h : kc_ D g E H kq ts) : sx_L H (kq 1 5) 10 := (h.2.1 (kq 1 5, .long, 10) (List.mem_of_getElem? (i := 11) rfl)).2.1
theorem kc_e1_5 (h : kc_ D g E H kq ts) : E (kq 1 5) := (h.2.1 (kq 1 5, .long, 10) (List.mem_of_getElem? (i := 11) rfl)).2.2
theorem kc_a1_6 (h : kc_ D g E H kq ts) : sx_A g .long H (kq 1 6) 10 := (h.2.1 (kq 1 6, .long, 10) (List.mem_of_getElem? (i := 12) rfl)).1
theorem kc_l1_6 (h : kc_ D g E H kq ts) : sx_L H (kq 1 6) 10 := (h.2.1 (kq 1 6, .long, 10) (List.mem_of_getElem? (i := 12) rfl)).2.1
theorem kc_e1_6 (h : kc_ D g E H kq ts) : E (kq 1 6) := (h.2.1 (kq 1 6, .long, 10) (List.mem_of_getElem? (i := 12) rfl)).2.2
theorem kc_a1_7 (h : kc_ D g E H kq ts) : sx_A g .long H (kq 1 7) 10 := (h.2.1 (kq 1 7, .long, 10) (List.mem_of_getElem? (i := 13) rfl)).1
theorem kc_l1_7 (h : kc_ D g E H kq ts) : sx_L H (kq 1 7) 10 := (h.2.1 (kq 1 7, .long, 10) (List.mem_of_getElem? (i := 13) rfl)).2.1
theorem kc_e1_7 (h : kc_ D g E H kq ts) : E (kq 1 7) := (h.2.1 (kq 1 7, .long, 10) (List.mem_of_getElem? (i := 13) rfl)).2.2
theorem kc_a1_8 (h : kc_ D g E H kq ts) : sx_A g .long H (kq 1 8) 10 := (h.2.1 (kq 1 8, .long, 10) (List.mem_of_getElem? (i := 14) rfl)).1
theorem kc_l1_8 (h : kc_ D g E H kq ts) : sx_L H (kq 1 8) 10 := (h.2.1 (kq 1 8, .long, 10) (List.mem_of_getElem? (i := 14) rfl)).2.1
theorem kc_e1_8 (h : kc_ D g E H kq ts) : E (kq 1 8) := (h.2.1 (kq 1 8, .long, 10) (List.mem_of_getElem? (i := 14) rfl)).2.2
theorem kc_a1_9 (h : kc_ D g E H kq ts) : sx_A g .long H (kq 1 9) 10 := (h.2.1 (kq 1 9, .long, 10) (List.mem_of_getElem? (i := 15) rfl)).1
theorem kc_l1_9 (h : kc_ D g E H kq ts) : sx_L H (kq 1 9) 10 := (h.2.1 (kq 1 9, .long, 10) (List.mem_of_getElem? (i := 15) rfl)).2.1
theorem kc_e1_9 (h : kc_ D g E H kq ts) : E (kq 1 9) := (h.2.1 (kq 1 9, .long, 10) (List.mem_of_getElem? (i := 15) rfl)).2.2
theorem kc_a1_10 (h : kc_ D g E H kq ts) : sx_A g .long H (kq 1 10) 10 := (h.2.1 (kq 1 10, .long, 10) (List.mem_of_getElem? (i := 16) rfl)).1
theorem kc_l1_10 (h : kc_ D g E H kq ts) : sx_L H (kq 1 10) 10 := (h.2.1 (kq 1 10, .long, 10) (List.mem_of_getElem? (i := 16) rfl)).2.1
theorem kc_e1_10 (h : kc_ D g E H kq ts) : E (kq 1 10) := (h.2.1 (kq 1 10, .long, 10) (List.mem_of_getElem? (i := 16) rfl)).2.2
theorem kc_a1_11 (h : kc_ D g E H kq ts) : sx_A g .long H (kq 1 11) 10 := (h.2.1 (kq 1 11, .long, 10) (List.mem_of_getElem? (i := 17) rfl)).1
theorem kc_l1_11 (h : kc_ D g E H kq ts) : sx_L H (kq 1 11) 10 := (h.2.1 (kq 1 11, .long, 10) (List.mem_of_getElem? (i := 17) rfl)).2.1
theorem kc_e1_11 (h : kc_ D g E H kq ts) : E (kq 1 11) := (h.2.1 (kq 1 11, .long, 10) (List.mem_of_getElem? (i := 17) rfl)).2.2
theorem kc_a2_5 (h : kc_ D g E H kq ts) : sx_A g .byte H (kq 2 5) 32 := (h.2.1 (kq 2 5, .byte, 32) (List.mem_of_getElem? (i := 18) rfl)).1
theorem kc_l2_5 (h : kc_ D g E H kq ts) : sx_L H (kq 2 5) 32 := (h.2.1 (kq 2 5, .byte, 32) (List.mem_of_getElem? (i := 18) rfl)).2.1
theorem kc_e2_5 (h : kc_ D g E H kq ts) : E (kq 2 5) := (h.2.1 (kq 2 5, .byte, 32) (List.mem_of_getElem? (i := 18) rfl)).2.2
theorem kc_a2_6 (h : kc_ D g E H kq ts) : sx_A g .byte H (kq 2 6) 32 := (h.2.1 (kq 2 6, .byte, 32) (List.mem_of_getElem? (i := 19) rfl)).1
theorem kc_l2_6 (h : kc_ D g E H kq ts) : sx_L H (kq 2 6) 32 := (h.2.1 (kq 2 6, .byte, 32) (List.mem_of_getElem? (i := 19) rfl)).2.1
theorem kc_e2_6 (h : kc_ D g E H kq ts) : E (kq 2 6) := (h.2.1 (kq 2 6, .byte, 32) (List.mem_of_getElem? (i := 19) rfl)).2.2
theorem kc_a2_7 (h : kc_ D g E H kq ts) : sx_A g .long H (kq 2 7) 10 := (h.2.1 (kq 2 7, .long, 10) (List.mem_of_getElem? (i := 20) rfl)).1
theorem kc_l2_7 (h : kc_ D g E H kq ts) : sx_L H (kq 2 7) 10 := (h.2.1 (kq 2 7, .long, 10) (List.mem_of_getElem? (i := 20) rfl)).2.1
theorem kc_e2_7 (h : kc_ D g E H kq ts) : E (kq 2 7) := (h.2.1 (kq 2 7, .long, 10) (List.mem_of_getElem? (i := 20) rfl)).2.2
theorem kc_a2_8 (h : kc_ D g E H kq ts) : sx_A g .long H (kq 2 8) 10 := (h.2.1 (kq 2 8, .long, 10) (List.mem_of_getElem? (i := 21) rfl)).1
theorem kc_l2_8 (h : kc_ D g E H kq ts) : sx_L H (kq 2 8) 10 := (h.2.1 (kq 2 8, .long, 10) (List.mem_of_getElem? (i := 21) rfl)).2.1
theorem kc_e2_8 (h : kc_ D g E H kq ts) : E (kq 2 8) := (h.2.1 (kq 2 8, .long, 10) (List.mem_of_getElem? (i := 21) rfl)).2.2
theorem kc_a2_9 (h : kc_ D g E H kq ts) : sx_A g .long H (kq 2 9) 10 := (h.2.1 (kq 2 9, .long, 10) (List.mem_of_getElem? (i := 22) rfl)).1
theorem kc_l2_9 (h : kc_ D g E H kq ts) : sx_L H (kq 2 9) 10 := (h.2.1 (kq 2 9, .long, 10) (List.mem_of_getElem? (i := 22) rfl)).2.1
theorem kc_e2_9 (h : kc_ D g E H kq ts) : E (kq 2 9) := (h.2.1 (kq 2 9, .long, 10) (List.mem_of_getElem? (i := 22) rfl)).2.2
theorem kc_a2_10 (h : kc_ D g E H kq ts) : sx_A g .long H (kq 2 10) 10 := (h.2.1 (kq 2 10, .long, 10) (List.mem_of_getElem? (i := 23) rfl)).1
theorem kc_l2_10 (h : kc_ D g E H kq ts) : sx_L H (kq 2 10) 10 := (h.2.1 (kq 2 10, .long, 10) (List.mem_of_getElem? (i := 23) rfl)).2.1
theorem kc_e2_10 (h : kc_ D g E H kq ts) : E (kq 2 10) := (h.2.1 (kq 2 10, .long, 10) (List.mem_of_getElem? (i := 23) rfl)).2.2
theorem kc_a2_11 (h : kc_ D g E H kq ts) : sx_A g .long H (kq 2 11) 10 := (h.2.1 (kq 2 11, .long, 10) (List.mem_of_getElem? (i := 24) rfl)).1
theorem kc_l2_11 (h : kc_ D g E H kq ts) : sx_L H (kq 2 11) 10 := (h.2.1 (kq 2 11, .long, 10) (List.mem_of_getElem? (i := 24) rfl)).2.1
theorem kc_e2_11 (h : kc_ D g E H kq ts) : E (kq 2 11) := (h.2.1 (kq 2 11, .long, 10) (List.mem_of_getElem? (i := 24) rfl)).2.2
theorem kc_a2_12 (h : kc_ D g E H kq ts) : sx_A g .long H (kq 2 12) 10 := (h.2.1 (kq 2 12, .long, 10) (List.mem_of_getElem? (i := 25) rfl)).1
theorem kc_l2_12 (h : kc_ D g E H kq ts) : sx_L H (kq 2 12) 10 := (h.2.1 (kq 2 12, .long, 10) (List.mem_of_getElem? (i := 25) rfl)).2.1
theorem kc_e2_12 (h : kc_ D g E H kq ts) : E (kq 2 12) := (h.2.1 (kq 2 12, .long, 10) (List.mem_of_getElem? (i := 25) rfl)).2.2
theorem kc_a2_13 (h : kc_ D g E H kq ts) : sx_A g .long H (kq 2 13) 10 := (h.2.1 (kq 2 13, .long, 10) (List.mem_of_getElem? (i := 26) rfl)).1
theorem kc_l2_13 (h : kc_ D g E H kq ts) : sx_L H (kq 2 13) 10 := (h.2.1 (kq 2 13, .long, 10) (List.mem_of_getElem? (i := 26) rfl)).2.1
theorem kc_e2_13 (h : kc_ D g E H kq ts) : E (kq 2 13) := (h.2.1 (kq 2 13, .long, 10) (List.mem_of_getElem? (i := 26) rfl)).2.2
theorem kc_a2_14 (h : kc_ D g E H kq ts) : sx_A g .long H (kq 2 14) 10 := (h.2.1 (kq 2 14, .long, 10) (List.mem_of_getElem? (i := 27) rfl)).1
theorem kc_l2_14 (h : kc_ D g E H kq ts) : sx_L H (kq 2 14) 10 := (h.2.1 (kq 2 14, .long, 10) (List.mem_of_getElem? (i := 27) rfl)).2.1
theorem kc_e2_14 (h : kc_ D g E H kq ts) : E (kq 2 14) := (h.2.1 (kq 2 14, .long, 10) (List.mem_of_getElem? (i := 27) rfl)).2.2
theorem kc_a3_0 (h : kc_ D g E H kq ts) : sx_A g .long H (kq 3 0) 10 := (h.2.1 (kq 3 0, .long, 10) (List.mem_of_getElem? (i := 28) rfl)).1
theorem kc_l3_0 (h : kc_ D g E H kq ts) : sx_L H (kq 3 0) 10 := (h.2.1 (kq 3 0, .long, 10) (List.mem_of_getElem? (i := 28) rfl)).2.1
theorem kc_e3_0 (h : kc_ D g E H kq ts) : E (kq 3 0) := (h.2.1 (kq 3 0, .long, 10) (List.mem_of_getElem? (i := 28) rfl)).2.2
theorem kc_a3_1 (h : kc_ D g E H kq ts) : sx_A g .long H (kq 3 1) 10 := (h.2.1 (kq 3 1, .long, 10) (List.mem_of_getElem? (i := 29) rfl)).1
theorem kc_l3_1 (h : kc_ D g E H kq ts) : sx_L H (kq 3 1) 10 := (h.2.1 (kq 3 1, .long, 10) (List.mem_of_getElem? (i := 29) rfl)).2.1
theorem kc_e3_1 (h : kc_ D g E H kq ts) : E (kq 3 1) := (h.2.1 (kq 3 1, .long, 10) (List.mem_of_getElem? (i := 29) rfl)).2.2
theorem kc_a3_2 (h : kc_ D g E H kq ts) : sx_A g .long H (kq 3 2) 10 := (h.2.1 (kq 3 2, .long, 10) (List.mem_of_getElem? (i := 30) rfl)).1
theorem kc_l3_2 (h : kc_ D g E H kq ts) : sx_L H (kq 3 2) 10 := (h.2.1 (kq 3 2, .long, 10) (List.mem_of_getElem? (i := 30) rfl)).2.1
theorem kc_e3_2 (h : kc_ D g E H kq ts) : E (kq 3 2) := (h.2.1 (kq 3 2, .long, 10) (List.mem_of_getElem? (i := 30) rfl)).2.2
theorem kc_a3_3 (h : kc_ D g E H kq ts) : sx_A g .long H (kq 3 3) 10 := (h.2.1 (kq 3 3, .long, 10) (List.mem_of_getElem? (i := 31) rfl)).1
theorem kc_l3_3 (h : kc_ D g E H kq ts) : sx_L H (kq 3 3) 10 := (h.2.1 (kq 3 3, .long, 10) (List.mem_of_getElem? (i := 31) rfl)).2.1
theorem kc_e3_3 (h : kc_ D g E H kq ts) : E (kq 3 3) := (h.2.1 (kq 3 3, .long, 10) (List.mem_of_getElem? (i := 31) rfl)).2.2
theorem kc_a4_0 (h : kc_ D g E H kq ts) : sx_A g .long H (kq 4 0) 10 := (h.2.1 (kq 4 0, .long, 10) (List.mem_of_getElem? (i := 32) rfl)).1
theorem kc_l4_0 (h : kc_ D g E H kq ts) : sx_L H (kq 4 0) 10 := (h.2.1 (kq 4 0, .long, 10) (List.mem_of_getElem? (i := 32) rfl)).2.1
theorem kc_e4_0 (h : kc_ D g E H kq ts) : E (kq 4 0) := (h.2.1 (kq 4 0, .long, 10) (List.mem_of_getElem? (i := 32) rfl)).2.2
theorem kc_a4_1 (h : kc_ D g E H kq ts) : sx_A g .long H (kq 4 1) 10 := (h.2.1 (kq 4 1, .long, 10) (List.mem_of_getElem? (i := 33) rfl)).1
theorem kc_l4_1 (h : kc_ D g E H kq ts) : sx_L H (kq 4 1) 10 := (h.2.1 (kq 4 1, .long, 10) (List.mem_of_getElem? (i := 33) rfl)).2.1
theorem kc_e4_1 (h : kc_ D g E H kq ts) : E (kq 4 1) := (h.2.1 (kq 4 1, .long, 10) (List.mem_of_getElem? (i := 33) rfl)).2.2
theorem kc_a4_2 (h : kc_ D g E H kq ts) : sx_A g .long H (kq 4 2) 10 := (h.2.1 (kq 4 2, .long, 10) (List.mem_of_getElem? (i := 34) rfl)).1
theorem kc_l4_2 (h : kc_ D g E H kq ts) : sx_L H (kq 4 2) 10 := (h.2.1 (kq 4 2, .long, 10) (List.mem_of_getElem? (i := 34) rfl)).2.1
theorem kc_e4_2 (h : kc_ D g E H kq ts) : E (kq 4 2) := (h.2.1 (kq 4 2, .long, 10) (List.mem_of_getElem? (i := 34) rfl)).2.2
theorem kc_a4_3 (h : kc_ D g E H kq ts) : sx_A g .long H (kq 4 3) 10 := (h.2.1 (kq 4 3, .long, 10) (List.mem_of_getElem? (i := 35) rfl)).1
theorem kc_l4_3 (h : kc_ D g E H kq ts) : sx_L H (kq 4 3) 10 := (h.2.1 (kq 4 3, .long, 10) (List.mem_of_getElem? (i := 35) rfl)).2.1
theorem kc_e4_3 (h : kc_ D g E H kq ts) : E (kq 4 3) := (h.2.1 (kq 4 3, .long, 10) (List.mem_of_getElem? (i := 35) rfl)).2.2
theorem kc_a5_0 (h : kc_ D g E H kq ts) : sx_A g .long H (kq 5 0) 8 := (h.2.1 (kq 5 0, .long, 8) (List.mem_of_getElem? (i := 36) rfl)).1
theorem kc_l5_0 (h : kc_ D g E H kq ts) : sx_L H (kq 5 0) 8 := (h.2.1 (kq 5 0, .long, 8) (List.mem_of_getElem? (i := 36) rfl)).2.1
theorem kc_e5_0 (h : kc_ D g E H kq ts) : E (kq 5 0) := (h.2.1 (kq 5 0, .long, 8) (List.mem_of_getElem? (i := 36) rfl)).2.2
theorem kc_a5_1 (h : kc_ D g E H kq ts) : sx_A g .long H (kq 5 1) 80 := (h.2.1 (kq 5 1, .long, 80) (List.mem_of_getElem? (i := 37) rfl)).1
theorem kc_l5_1 (h : kc_ D g E H kq ts) : sx_L H (kq 5 1) 80 := (h.2.1 (kq 5 1, .long, 80) (List.mem_of_getElem? (i := 37) rfl)).2.1
theorem kc_e5_1 (h : kc_ D g E H kq ts) : E (kq 5 1) := (h.2.1 (kq 5 1, .long, 80) (List.mem_of_getElem? (i := 37) rfl)).2.2
theorem kc_a5_2 (h : kc_ D g E H kq ts) : sx_A g .byte H (kq 5 2) 128 := (h.2.1 (kq 5 2, .byte, 128) (List.mem_of_getElem? (i := 38) rfl)).1
theorem kc_l5_2 (h : kc_ D g E H kq ts) : sx_L H (kq 5 2) 128 := (h.2.1 (kq 5 2, .byte, 128) (List.mem_of_getElem? (i := 38) rfl)).2.1
theorem kc_e5_2 (h : kc_ D g E H kq ts) : E (kq 5 2) := (h.2.1 (kq 5 2, .byte, 128) (List.mem_of_getElem? (i := 38) rfl)).2.2
theorem kc_a6_0 (h : kc_ D g E H kq ts) : sx_A g .long H (kq 6 0) 64 := (h.2.1 (kq 6 0, .long, 64) (List.mem_of_getElem? (i := 39) rfl)).1
theorem kc_l6_0 (h : kc_ D g E H kq ts) : sx_L H (kq 6 0) 64 := (h.2.1 (kq 6 0, .long, 64) (List.mem_of_getElem? (i := 39) rfl)).2.1
theorem kc_e6_0 (h : kc_ D g E H kq ts) : E (kq 6 0) := (h.2.1 (kq 6 0, .long, 64) (List.mem_of_getElem? (i := 39) rfl)).2.2
theorem kc_a7_3 (h : kc_ D g E H kq ts) : sx_A g .byte H (kq 7 3) 64 := (h.2.1 (kq 7 3, .byte, 64) (List.mem_of_getElem? (i := 40) rfl)).1
theorem kc_l7_3 (h : kc_ D g E H kq ts) : sx_L H (kq 7 3) 64 := (h.2.1 (kq 7 3, .byte, 64) (List.mem_of_getElem? (i := 40) rfl)).2.1
theorem kc_e7_3 (h : kc_ D g E H kq ts) : E (kq 7 3) := (h.2.1 (kq 7 3, .byte, 64) (List.mem_of_getElem? (i := 40) rfl)).2.2
theorem kc_a7_4 (h : kc_ D g E H kq ts) : sx_A g .byte H (kq 7 4) 32 := (h.2.1 (kq 7 4, .byte, 32) (List.mem_of_getElem? (i := 41) rfl)).1
theorem kc_l7_4 (h : kc_ D g E H kq ts) : sx_L H (kq 7 4) 32 := (h.2.1 (kq 7 4, .byte, 32) (List.mem_of_getElem? (i := 41) rfl)).2.1
theorem kc_e7_4 (h : kc_ D g E H kq ts) : E (kq 7 4) := (h.2.1 (kq 7 4, .byte, 32) (List.mem_of_getElem? (i := 41) rfl)).2.2
theorem kc_a7_5 (h : kc_ D g E H kq ts) : sx_A g .byte H (kq 7 5) 32 := (h.2.1 (kq 7 5, .byte, 32) (List.mem_of_getElem? (i := 42) rfl)).1
theorem kc_l7_5 (h : kc_ D g E H kq ts) : sx_L H (kq 7 5) 32 := (h.2.1 (kq 7 5, .byte, 32) (List.mem_of_getElem? (i := 42) rfl)).2.1
theorem kc_e7_5 (h : kc_ D g E H kq ts) : E (kq 7 5) := (h.2.1 (kq 7 5, .byte, 32) (List.mem_of_getElem? (i := 42) rfl)).2.2
theorem kc_a7_6 (h : kc_ D g E H kq ts) : sx_A g .byte H (kq 7 6) 32 := (h.2.1 (kq 7 6, .byte, 32) (List.mem_of_getElem? (i := 43) rfl)).1
theorem kc_l7_6 (h : kc_ D g E H kq ts) : sx_L H (kq 7 6) 32 := (h.2.1 (kq 7 6, .byte, 32) (List.mem_of_getElem? (i := 43) rfl)).2.1
theorem kc_e7_6 (h : kc_ D g E H kq ts) : E (kq 7 6) := (h.2.1 (kq 7 6, .byte, 32) (List.mem_of_getElem? (i := 43) rfl)).2.2
theorem kc_a7_7 (h : kc_ D g E H kq ts) : sx_A g .byte H (kq 7 7) 32 := (h.2.1 (kq 7 7, .byte, 32) (List.mem_of_getElem? (i := 44) rfl)).1
theorem kc_l7_7 (h : kc_ D g E H kq ts) : sx_L H (kq 7 7) 32 := (h.2.1 (kq 7 7, .byte, 32) (List.mem_of_getElem? (i := 44) rfl)).2.1
theorem kc_e7_7 (h : kc_ D g E H kq ts) : E (kq 7 7) := (h.2.1 (kq 7 7, .byte, 32) (List.mem_of_getElem? (i := 44) rfl)).2.2
theorem kc_a7_8 (h : kc_ D g E H kq ts) : sx_A g .byte H (kq 7 8) 32 := (h.2.1 (kq 7 8, .byte, 32) (List.mem_of_getElem? (i := 45) rfl)).1
theorem kc_l7_8 (h : kc_ D g E H kq ts) : sx_L H (kq 7 8) 32 := (h.2.1 (kq 7 8, .byte, 32) (List.mem_of_getElem? (i := 45) rfl)).2.1
theorem kc_e7_8 (h : kc_ D g E H kq ts) : E (kq 7 8) := (h.2.1 (kq 7 8, .byte, 32) (List.mem_of_getElem? (i := 45) rfl)).2.2
def edr (kq : Nat → Nat → Nat) : Nat → Nat := fun k => match k with
  | 0 => kq 0 99
  | 1 => kq 3 99
  | 2 => kq 4 99
  | k + 3 => kq 2 (k + 3)
theorem kc_ed (h : kc_ D g E H kq ts) : ed_ D g H (kq 2 99) (edr kq) := by
  refine ⟨kc_o2 h, fun k h1 h2 => ?_⟩
  rcases (show k = 7 ∨ k = 8 ∨ k = 9 ∨ k = 10 ∨ k = 11 ∨ k = 12 ∨ k = 13 ∨ k = 14 by omega) with rfl | rfl | rfl | rfl | rfl | rfl | rfl | rfl
  · exact kc_a2_7 h
  · exact kc_a2_8 h
  · exact kc_a2_9 h
  · exact kc_a2_10 h
  · exact kc_a2_11 h
  · exact kc_a2_12 h
  · exact kc_a2_13 h
  · exact kc_a2_14 h
theorem kc_edw (h : kc_ D g E H kq ts) : ∀ k, 7 ≤ k → k < 15 → E (edr kq k) := by
  intro k h1 h2
  rcases (show k = 7 ∨ k = 8 ∨ k = 9 ∨ k = 10 ∨ k = 11 ∨ k = 12 ∨ k = 13 ∨ k = 14 by omega) with rfl | rfl | rfl | rfl | rfl | rfl | rfl | rfl
  · exact kc_e2_7 h
  · exact kc_e2_8 h
  · exact kc_e2_9 h
  · exact kc_e2_10 h
  · exact kc_e2_11 h
  · exact kc_e2_12 h
  · exact kc_e2_13 h
  · exact kc_e2_14 h
theorem kc_p3 (h : kc_ D g E H kq ts) : o4_ D g H 4 (kq 3 99) (kq 3) := by
  refine ⟨kc_o3 h, fun k h1 => ?_⟩
  rcases (show k = 0 ∨ k = 1 ∨ k = 2 ∨ k = 3 by omega) with rfl | rfl | rfl | rfl
  · exact ⟨kc_a3_0 h, kc_l3_0 h⟩
  · exact ⟨kc_a3_1 h, kc_l3_1 h⟩
  · exact ⟨kc_a3_2 h, kc_l3_2 h⟩
  · exact ⟨kc_a3_3 h, kc_l3_3 h⟩
theorem kc_w3 (h : kc_ D g E H kq ts) : ∀ k, k < 4 → E (kq 3 k) := by
  refine fun k h1 => ?_
  rcases (show k = 0 ∨ k = 1 ∨ k = 2 ∨ k = 3 by omega) with rfl | rfl | rfl | rfl
  · exact kc_e3_0 h
  · exact kc_e3_1 h
  · exact kc_e3_2 h
  · exact kc_e3_3 h
theorem kc_p4 (h : kc_ D g E H kq ts) : o4_ D g H 4 (kq 4 99) (kq 4) := by
  refine ⟨kc_o4 h, fun k h1 => ?_⟩
  rcases (show k = 0 ∨ k = 1 ∨ k = 2 ∨ k = 3 by omega) with rfl | rfl | rfl | rfl
  · exact ⟨kc_a4_0 h, kc_l4_0 h⟩
  · exact ⟨kc_a4_1 h, kc_l4_1 h⟩
  · exact ⟨kc_a4_2 h, kc_l4_2 h⟩
  · exact ⟨kc_a4_3 h, kc_l4_3 h⟩
theorem kc_w4 (h : kc_ D g E H kq ts) : ∀ k, k < 4 → E (kq 4 k) := by
  refine fun k h1 => ?_
  rcases (show k = 0 ∨ k = 1 ∨ k = 2 ∨ k = 3 by omega) with rfl | rfl | rfl | rfl
  · exact kc_e4_0 h
  · exact kc_e4_1 h
  · exact kc_e4_2 h
  · exact kc_e4_3 h
end KC
/-- the words of a call, its code by its place -/
theorem sx_wc {ws : List Cond} {y : MethodName} {b : ByteArray} {n : Nat} {r : Option FieldType} (h : ∀ w ∈ ws, w ∈ lw_tbl ∧ sx_okw w = true) (hc : Cond.code y b n r ∈ lw_tbl) : ∀ w ∈ ws ++ [Cond.code y b n r], w ∈ lw_tbl ∧ sx_okw w = true := fun w hw => by
  rcases List.mem_append.mp hw with hw | hw
  · exact h w hw
  · rw [List.mem_singleton.mp hw]; exact ⟨hc, rfl⟩
