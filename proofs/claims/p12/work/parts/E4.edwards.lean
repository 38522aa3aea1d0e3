def edE (b z : Nat) : Prop := (b + 6 ≤ z ∧ z ≤ b + 9) ∨ (b + 14 ≤ z ∧ z ≤ b + 21) ∨ ∃ j, j < 16 ∧ b + 22 + 10 * j + 1 ≤ z ∧ z ≤ b + 22 + 10 * j + 4
theorem edE_lo {b z : Nat} (h : edE b z) : b + 6 ≤ z := by
  rcases h with h | h | ⟨j, h⟩ <;> omega
theorem edE_n {b z : Nat} (h1 : z < b + 6 ∨ (b + 10 ≤ z ∧ z ≤ b + 13)) : ¬ edE b z := by
  rintro (h | h | ⟨j, h⟩) <;> omega
theorem edE_o {b j d : Nat} (hd : d = 0 ∨ (5 ≤ d ∧ d ≤ 9)) : ¬ edE b (b + 22 + 10 * j + d) := by
  rintro (h | h | ⟨i, h⟩) <;> omega
theorem edE_nO {b o : Nat} (ho : o < b) : ¬ edE b o := edE_n (Or.inl (by omega))
theorem edE_0 {b : Nat} : ¬ edE b (b + 0) := edE_n (Or.inl (by omega))
theorem edE_5 {b : Nat} : ¬ edE b (b + 5) := edE_n (Or.inl (by omega))
theorem edE_10 {b : Nat} : ¬ edE b (b + 10) := edE_n (Or.inr (by omega))
theorem edE_11 {b : Nat} : ¬ edE b (b + 11) := edE_n (Or.inr (by omega))
theorem edE_en {E : Nat → Prop} {b : Nat} (hEn : ∀ q, b ≤ q → E q) : ∀ z, edE b z → E z := fun z h => hEn z (by have := edE_lo h; omega)
theorem ed_182 {H1 H2 : Heap} {b : Nat} (h : H1.size = b + 22 + 10 * 16) (hz : H1.size ≤ H2.size) : b + 182 ≤ H2.size := by omega
theorem edE_a {b j k : Nat} (hj : j < 16) (hk : k < 4) : edE b (b + 22 + 10 * j + 1 + k) := Or.inr (Or.inr ⟨j, hj, by omega, by omega⟩)
/-- where the arrays of the curve's object lie -/
def edQ (kq : Nat → Nat → Nat) (b a0 : Nat) : Prop := kq 0 99 = a0 ∧ kq 3 99 = b + 0 ∧ kq 4 99 = b + 5 ∧ (∀ k, 3 ≤ k → k < 15 → kq 2 k = b + 7 + k) ∧ (∀ k, k < 4 → kq 4 k = b + 6 + k) ∧ ∀ j, j < 16 → kq (16 + j) 99 = b + 22 + 10 * j ∧ ∀ k, k < 4 → kq (16 + j) k = b + 22 + 10 * j + 1 + k
def edF (b d i : Nat) : Nat → Value := fun j => if j < i then .ref (b + 22 + 10 * j + d) else .null
theorem edF_nr (b d i : Nat) : ∀ j, edF b d i j = .null ∨ ∃ r, edF b d i j = .ref r := fun j => by
  by_cases h : j < i
  · exact Or.inr ⟨_, if_pos h⟩
  · exact Or.inl (if_neg h)
theorem edF_up (b d i : Nat) : updV (edF b d i) i (.ref (b + 22 + 10 * i + d)) = edF b d (i + 1) := funext fun j => by
  by_cases h : j = i
  · subst h
    simp [updV, edF]
  · by_cases h2 : j < i
    · simp [updV, edF, h, h2, Nat.lt_succ_of_lt h2]
    · have h3 : ¬ j < i + 1 := by omega
      simp [updV, edF, h, h2, h3]
theorem edF_0 (b d : Nat) : edF b d 0 = fun _ => .null := rfl
theorem o4_rev {D : va_G} {g : ClassId → FieldType → Prop} {H : Heap} {ci o : Nat} {r : Nat → Nat} (h : va_P D classes [(o, .inr (ci, [.ref (r 0), .ref (r 1), .ref (r 2), .ref (r 3)]))] H) (hA : sx_AR g H [(r 3, .long, 10), (r 2, .long, 10), (r 1, .long, 10), (r 0, .long, 10)]) : o4_ D g H ci o r := ⟨h, fun k hk => by
  rcases (show k = 0 ∨ k = 1 ∨ k = 2 ∨ k = 3 by omega) with rfl | rfl | rfl | rfl
  · exact hA (r 0, .long, 10) (List.mem_of_getElem? (i := 3) rfl)
  · exact hA (r 1, .long, 10) (List.mem_of_getElem? (i := 2) rfl)
  · exact hA (r 2, .long, 10) (List.mem_of_getElem? (i := 1) rfl)
  · exact hA (r 3, .long, 10) (List.mem_of_getElem? (i := 0) rfl)⟩
theorem o4_.ext {D : va_G} {g : ClassId → FieldType → Prop} {H : Heap} {ci o o' : Nat} {r r' : Nat → Nat} (h : o4_ D g H ci o r) (eo : o' = o) (e : ∀ k, k < 4 → r' k = r k) : o4_ D g H ci o' r' := by
  subst eo
  refine ⟨?_, fun k hk => by rw [e k hk]; exact h.2 k hk⟩
  rw [e 0 (by decide), e 1 (by decide), e 2 (by decide), e 3 (by decide)]
  exact h.1
theorem rx_.ext {g : ClassId → FieldType → Prop} {C : String} {H : Heap} {a n : Nat} {w w' : Nat → Nat} (h : rx_ g C H a n w) (e : ∀ j, j < n → w' j = w j) : rx_ g C H a n w' := by
  obtain ⟨cell, h1, h2, h3, h4, h5, h6⟩ := h
  exact ⟨cell, h1, h2, h3, h4, h5, fun j hj => by rw [e j hj]; exact h6 j hj⟩

def edI (s : State) (D : va_G) (g : ClassId → FieldType → Prop) (b o a0 : Nat) (X : vM) (i : Nat) (H : Heap) : Prop := H.size = b + 22 + 10 * i ∧ va_P D classes [(o, .inr (6, [.ref a0, .ref (b + 0), .ref (b + 5), .ref (b + 10), .ref (b + 11), .ref (b + 12), .ref (b + 13), .ref (b + 14), .ref (b + 15), .ref (b + 16), .ref (b + 17), .ref (b + 18), .ref (b + 19), .ref (b + 20), .ref (b + 21)]))] H ∧ obs_ D H b [((b + 5), 4, [.ref (b + 6), .ref (b + 7), .ref (b + 8), .ref (b + 9)]), ((b + 0), 4, [.ref (b + 1), .ref (b + 2), .ref (b + 3), .ref (b + 4)])] ∧ sx_AR g H [((b + 21), .long, 10), ((b + 20), .long, 10), ((b + 19), .long, 10), ((b + 18), .long, 10), ((b + 17), .long, 10), ((b + 16), .long, 10), ((b + 15), .long, 10), ((b + 14), .long, 10), ((b + 13), .byte, 32), ((b + 12), .byte, 32), ((b + 9), .long, 10), ((b + 8), .long, 10), ((b + 7), .long, 10), ((b + 6), .long, 10), ((b + 4), .long, 10), ((b + 3), .long, 10), ((b + 2), .long, 10), ((b + 1), .long, 10)] ∧ mm g H = X ∧ rf_ s R_Ad H (b + 10) 16 (edF b 0 i) ∧ rf_ s R_Ad H (b + 11) 16 (edF b 5 i) ∧ ∀ j, j < i → o4_ D g H 5 (b + 22 + 10 * j) (fun k => b + 22 + 10 * j + 1 + k) ∧ o4_ D g H 5 (b + 22 + 10 * j + 5) (fun k => b + 22 + 10 * j + 5 + 1 + k)
def up_Ed (D : va_G) (g : ClassId → FieldType → Prop) (b o a0 : Nat) (X : vM) (ts : Nat → Nat) (kq : Nat → Nat → Nat) (H : Heap) : Prop := b + 182 ≤ H.size ∧ va_P D classes [(o, .inr (6, [.ref a0, .ref (b + 0), .ref (b + 5), .ref (b + 10), .ref (b + 11), .ref (b + 12), .ref (b + 13), .ref (b + 14), .ref (b + 15), .ref (b + 16), .ref (b + 17), .ref (b + 18), .ref (b + 19), .ref (b + 20), .ref (b + 21)]))] H ∧ obs_ D H b [((b + 5), 4, [.ref (b + 6), .ref (b + 7), .ref (b + 8), .ref (b + 9)]), ((b + 0), 4, [.ref (b + 1), .ref (b + 2), .ref (b + 3), .ref (b + 4)])] ∧ sx_AR g H [((b + 21), .long, 10), ((b + 20), .long, 10), ((b + 19), .long, 10), ((b + 18), .long, 10), ((b + 17), .long, 10), ((b + 16), .long, 10), ((b + 15), .long, 10), ((b + 14), .long, 10), ((b + 13), .byte, 32), ((b + 12), .byte, 32), ((b + 9), .long, 10), ((b + 8), .long, 10), ((b + 7), .long, 10), ((b + 6), .long, 10), ((b + 4), .long, 10), ((b + 3), .long, 10), ((b + 2), .long, 10), ((b + 1), .long, 10)] ∧ mm g H = LF_Ed_fillMultiples (LF_Pt_setAffine X (kq 4) (ts 1) (ts 2)) (edr kq) (fun j => kq (16 + j)) (kq 4) ts ∧ rx_ g R_Ad H (b + 10) 16 (fun j => b + 22 + 10 * j) ∧ rx_ g R_Ad H (b + 11) 16 (fun j => b + 22 + 10 * j + 5) ∧ ∀ j, j < 16 → o4_ D g H 5 (b + 22 + 10 * j) (fun k => b + 22 + 10 * j + 1 + k) ∧ o4_ D g H 5 (b + 22 + 10 * j + 5) (fun k => b + 22 + 10 * j + 5 + 1 + k)
abbrev rm_Ed_init : Room := { frames := 5, cells := 182, slots := 1672, locals := 165 }
set_option maxHeartbeats 4000000 in
set_option maxRecDepth 100000 in
theorem u_Ed_tail {l : Launch} {D : va_G} {g : ClassId → FieldType → Prop} {E : Nat → Prop} {H : Heap} {b o a0 : Nat} {X : vM} {ts : Nat → Nat} {kq : Nat → Nat → Nat} (q : edQ kq b a0) (ho : o < b) (hEn : ∀ q, b ≤ q → E q) (hO : va_P D classes [(o, .inr (6, [.ref a0, .ref (b + 0), .ref (b + 5), .ref (b + 10), .ref (b + 11), .ref (b + 12), .ref (b + 13), .ref (b + 14), .ref (b + 15), .ref (b + 16), .ref (b + 17), .ref (b + 18), .ref (b + 19), .ref (b + 20), .ref (b + 21)]))] H) (hB : obs_ D H b [((b + 5), 4, [.ref (b + 6), .ref (b + 7), .ref (b + 8), .ref (b + 9)]), ((b + 0), 4, [.ref (b + 1), .ref (b + 2), .ref (b + 3), .ref (b + 4)])]) (hA : sx_AR g H [((b + 21), .long, 10), ((b + 20), .long, 10), ((b + 19), .long, 10), ((b + 18), .long, 10), ((b + 17), .long, 10), ((b + 16), .long, 10), ((b + 15), .long, 10), ((b + 14), .long, 10), ((b + 13), .byte, 32), ((b + 12), .byte, 32), ((b + 9), .long, 10), ((b + 8), .long, 10), ((b + 7), .long, 10), ((b + 6), .long, 10), ((b + 4), .long, 10), ((b + 3), .long, 10), ((b + 2), .long, 10), ((b + 1), .long, 10)]) (y3 : rx_ g R_Ad H (b + 10) 16 (fun j => b + 22 + 10 * j)) (h4 : ∀ j, j < 16 → o4_ D g H 5 (b + 22 + 10 * j) (fun k => b + 22 + 10 * j + 1 + k)) (hst : st_H D g E H ts) (hV : mm g H = X) {p : Program} {e : Env} {s : State} {m : MethodId} {args : Array Value} {below : List Frame} {meth : Method} {c : Code} {Q : State → Prop} {ls : Array Slot} {locs : List Loc} (EE : sx_E p s m args c b_Ed_init 3 R_Ed D g) (hl : lv_has ls 3 [(0, .ref o)]) (hlo : ∀ q ∈ locs, E q.base) (hret : ∀ (H1 : Heap) (locs : List Loc) (ls : Array Slot) (pc : Nat), sx_J g (edE b) H H1 → (∀ q ∈ locs, E q.base) → mm g H1 = LF_Ed_fillMultiples (LF_Pt_setAffine X (kq 4) (ts 1) (ts 2)) (edr kq) (fun j => kq (16 + j)) (kq 4) ts → decode b_Ed_init pc = .ok (.return_, 1) → W p l e rm_Ed_init s m args below meth c H1 locs 182 1672 Q (F0 m pc ls [])) : W p l e rm_Ed_init s m args below meth c H locs 182 1672 Q (F0 m 169 ls []) := by
  obtain ⟨hx, hb, hml, hown, hts, hG, hK⟩ := id EE
  obtain ⟨q0, q1, q2, qa, qf, qw⟩ := q
  have hS : sx_S g (edE b) E H H locs := ⟨sx_J.rf, fun z h => hEn _ (by have := edE_lo h; omega), hlo⟩
  have hz : st_H D g (edE b) H ts := hst.mono (fun z h => hEn _ (by have := edE_lo h; omega))
  have hE : ¬ edE b o := edE_n (Or.inl (by omega))
  have n2 : ¬ edE b (b + 5) := edE_n (Or.inl (by omega))
  have e3 : edr kq 3 = b + 10 := qa 3 (by decide) (by decide)
  have e4 : edr kq 4 = b + 11 := qa 4 (by decide) (by decide)
  have e5 : edr kq 5 = b + 12 := qa 5 (by decide) (by decide)
  have e6 : edr kq 6 = b + 13 := qa 6 (by decide) (by decide)
  have e7 : edr kq 7 = b + 14 := qa 7 (by decide) (by decide)
  have e8 : edr kq 8 = b + 15 := qa 8 (by decide) (by decide)
  have e9 : edr kq 9 = b + 16 := qa 9 (by decide) (by decide)
  have e10 : edr kq 10 = b + 17 := qa 10 (by decide) (by decide)
  have e11 : edr kq 11 = b + 18 := qa 11 (by decide) (by decide)
  have e12 : edr kq 12 = b + 19 := qa 12 (by decide) (by decide)
  have e13 : edr kq 13 = b + 20 := qa 13 (by decide) (by decide)
  have e14 : edr kq 14 = b + 21 := qa 14 (by decide) (by decide)
  have hM : ed_ D g H o (edr kq) := by
    refine ⟨?_, fun k h1 h2 => ?_⟩
    · rw [show edr kq 0 = a0 from q0, show edr kq 1 = b + 0 from q1, show edr kq 2 = b + 5 from q2, e3, e4, e5, e6, e7, e8, e9, e10, e11, e12, e13, e14]
      exact hO
    · rcases (show k = 7 ∨ k = 8 ∨ k = 9 ∨ k = 10 ∨ k = 11 ∨ k = 12 ∨ k = 13 ∨ k = 14 by omega) with rfl | rfl | rfl | rfl | rfl | rfl | rfl | rfl
      · rw [e7]; exact (hA (b + 14, .long, 10) (List.mem_of_getElem? (i := 7) rfl)).1
      · rw [e8]; exact (hA (b + 15, .long, 10) (List.mem_of_getElem? (i := 6) rfl)).1
      · rw [e9]; exact (hA (b + 16, .long, 10) (List.mem_of_getElem? (i := 5) rfl)).1
      · rw [e10]; exact (hA (b + 17, .long, 10) (List.mem_of_getElem? (i := 4) rfl)).1
      · rw [e11]; exact (hA (b + 18, .long, 10) (List.mem_of_getElem? (i := 3) rfl)).1
      · rw [e12]; exact (hA (b + 19, .long, 10) (List.mem_of_getElem? (i := 2) rfl)).1
      · rw [e13]; exact (hA (b + 20, .long, 10) (List.mem_of_getElem? (i := 1) rfl)).1
      · rw [e14]; exact (hA (b + 21, .long, 10) (List.mem_of_getElem? (i := 0) rfl)).1
  have hW : ∀ k, 7 ≤ k → k < 15 → edE b (edr kq k) := by
    intro k h1 h2
    rcases (show k = 7 ∨ k = 8 ∨ k = 9 ∨ k = 10 ∨ k = 11 ∨ k = 12 ∨ k = 13 ∨ k = 14 by omega) with rfl | rfl | rfl | rfl | rfl | rfl | rfl | rfl
    · rw [e7]; exact Or.inr (Or.inl (by omega))
    · rw [e8]; exact Or.inr (Or.inl (by omega))
    · rw [e9]; exact Or.inr (Or.inl (by omega))
    · rw [e10]; exact Or.inr (Or.inl (by omega))
    · rw [e11]; exact Or.inr (Or.inl (by omega))
    · rw [e12]; exact Or.inr (Or.inl (by omega))
    · rw [e13]; exact Or.inr (Or.inl (by omega))
    · rw [e14]; exact Or.inr (Or.inl (by omega))
  have hF0 : o4_ D g H 4 (b + 5) (fun k => b + 6 + k) := o4_rev (hB (b + 5, 4, [.ref (b + 6), .ref (b + 7), .ref (b + 8), .ref (b + 9)]) (List.mem_of_getElem? (i := 0) rfl)).2 (fun x hx => hA x (by
    simp only [List.mem_cons, List.not_mem_nil, or_false] at hx
    rcases hx with rfl | rfl | rfl | rfl
    · exact List.mem_of_getElem? (i := 10) rfl
    · exact List.mem_of_getElem? (i := 11) rfl
    · exact List.mem_of_getElem? (i := 12) rfl
    · exact List.mem_of_getElem? (i := 13) rfl))
  have hF : o4_ D g H 4 (b + 5) (kq 4) := hF0.ext rfl (fun k hk => qf k hk)
  have w2 : ∀ k, k < 4 → edE b (kq 4 k) := fun k hk => by rw [qf k hk]; exact Or.inl (by omega)
  have hR : rb_ D g (edE b) H (b + 10) (fun j => kq (16 + j)) := (y3.ext (fun j hj => (qw j hj).1)).rb (edE_n (Or.inr (by omega))) (fun j hj => ⟨(h4 j hj).ext (qw j hj).1 (qw j hj).2, by rw [(qw j hj).1]; exact edE_o (d := 0) (Or.inl rfl), fun k hk => by rw [(qw j hj).2 k hk]; exact edE_a hj hk⟩)
  refine lv_aload_n hx hb d_Ed_init_169 rfl (lv_at hl 0 rfl) ?_
  refine sx_get (v := .ref (b + 5)) EE (hS.1.ob hE hO) rfl i_Ed 2 (by decide) rfl fl_Ed_18 rfl d_Ed_init_170 ?_
  obtain ⟨z0_, ⟨cz_, z1_, z2_, z3_⟩, z4_⟩ := (hz.kept hS.1) 1 (by decide)
  refine sx_gets EE (hK.2.2.1 1 (by decide)) z1_ z2_ z3_ fl_Ed_69 d_Ed_init_173 ?_
  obtain ⟨z0_, ⟨cz_, z1_, z2_, z3_⟩, z4_⟩ := (hz.kept hS.1) 2 (by decide)
  refine sx_gets EE (hK.2.2.1 2 (by decide)) z1_ z2_ z3_ fl_Ed_72 d_Ed_init_176 ?_
  refine vx_gv (sx_runV (As := [.ref (ts 1), .ref (ts 2)]) (rest := []) EE (hS.1.ob n2 hF.1) rfl rfl (v_Pt_setAffine (X := X) (hF.kept hS.1 n2) n2 w2 (hS.a (st_a1 hz)) (hS.a (st_a2 hz)) hV) w_Ed_75 rfl ⟨rfl, rfl⟩ ⟨Nat.le_of_ble_eq_true rfl, Nat.le_of_ble_eq_true rfl⟩ ⟨Nat.le_of_ble_eq_true rfl, Nat.le_of_ble_eq_true rfl⟩ hl.1 rfl (Nat.le_of_ble_eq_true rfl) d_Ed_init_179) hS (fun H locs X1 eX1 hS hV => ?_)
  refine lv_aload_n hx hb d_Ed_init_182 rfl (lv_at hl 0 rfl) ?_
  refine lv_aload_n hx hb d_Ed_init_183 rfl (lv_at hl 0 rfl) ?_
  refine sx_get (v := .ref (b + 10)) EE (hS.1.ob hE hO) rfl i_Ed 3 (by decide) rfl fl_Ed_23 rfl d_Ed_init_184 ?_
  refine lv_aload_n hx hb d_Ed_init_187 rfl (lv_at hl 0 rfl) ?_
  refine sx_get (v := .ref (b + 5)) EE (hS.1.ob hE hO) rfl i_Ed 2 (by decide) rfl fl_Ed_18 rfl d_Ed_init_188 ?_
  refine vx_gv (sx_runV (As := [.ref (b + 10), .ref (b + 5)]) (rest := []) EE (hS.1.ob hE hO) rfl rfl (v_Ed_fillMultiples (X := X1) (hM.kept hS.1 hE) hE hW (hR.kept hS.1) (hF.kept hS.1 n2) n2 w2 (hz.kept hS.1) hV) w_Ed_79 rfl ⟨rfl, rfl⟩ ⟨Nat.le_of_ble_eq_true rfl, Nat.le_of_ble_eq_true rfl⟩ ⟨Nat.le_of_ble_eq_true rfl, Nat.le_of_ble_eq_true rfl⟩ hl.1 rfl (Nat.le_of_ble_eq_true rfl) d_Ed_init_191) hS (fun H locs X2 eX2 hS hV => ?_)
  subst eX1 eX2
  exact hret _ _ _ _ hS.1 hS.2.2 hV d_Ed_init_194
set_option maxHeartbeats 4000000 in
set_option maxRecDepth 100000 in
theorem u_Ed_loop {l : Launch} {D : va_G} {g : ClassId → FieldType → Prop} {E : Nat → Prop} {H0 : Heap} {b o a0 : Nat} {X : vM} (ho : o < b) (hEn : ∀ q, b ≤ q → E q) {p : Program} {e : Env} {s : State} {m : MethodId} {args : Array Value} {below : List Frame} {meth : Method} {c : Code} {Q : State → Prop} (EE : sx_E p s m args c b_Ed_init 3 R_Ed D g) (hret : ∀ (H : Heap) (locs : List Loc) (ls : Array Slot), edI s D g b o a0 X 16 H → sx_J g E H0 H → (∀ q ∈ locs, E q.base) → lv_has ls 3 [(0, .ref o)] → W p l e rm_Ed_init s m args below meth c H locs 182 1672 Q (F0 m 169 ls [])) : ∀ (k i : Nat) (H : Heap) (locs : List Loc) (ls : Array Slot), i + k = 16 → edI s D g b o a0 X i H → sx_J g E H0 H → (∀ q ∈ locs, E q.base) → lv_has ls 3 [(2, .int (nI i)), (0, .ref o)] → W p l e rm_Ed_init s m args below meth c H locs (22 + 10 * i) (264 + 88 * i) Q (F0 m 131 ls []) := by
  obtain ⟨hx, hb, hml, hown, hts, hG, hK⟩ := id EE
  intro k
  induction k with
  | zero =>
    intro i H locs ls hi hI hJ hlo hl
    obtain rfl : i = 16 := by omega
    refine lv_iload_n hx hb d_Ed_init_131 rfl (lv_at hl 0 rfl) ?_
    refine lv_bipush (v := nI 16) hx hb d_Ed_init_132 (by decide +kernel) ?_
    refine lv_icmp_ge (tgt := 169) hx hb d_Ed_init_134 (by decide) (fun _ => ?_) (fun q => absurd (nI_le (by omega) (by omega)) q)
    exact hret H locs ls hI hJ hlo (lv_sub hl [1] rfl)
  | succ k ih =>
    intro i H locs ls hi hI hJ hlo hl
    obtain ⟨hsz, hO, hB, hA, hV, y3, y4, h4⟩ := hI
    refine lv_iload_n hx hb d_Ed_init_131 rfl (lv_at hl 0 rfl) ?_
    refine lv_bipush (v := nI 16) hx hb d_Ed_init_132 (by decide +kernel) ?_
    refine lv_icmp_ge (tgt := 169) hx hb d_Ed_init_134 (by decide) (fun q => absurd q (nI_ge (by omega) (by omega))) (fun _ => ?_)
    refine lv_aload_n hx hb d_Ed_init_137 rfl (lv_at hl 1 rfl) ?_
    refine sx_get (v := .ref (b + 10)) EE hO rfl i_Ed 3 (by decide) rfl fl_Ed_23 rfl d_Ed_init_138 ?_
    refine lv_iload_n hx hb d_Ed_init_141 rfl (lv_at hl 0 rfl) ?_
    refine sx_newo (ci := 5) (fs := [.null, .null, .null, .null]) (cells' := 22 + 10 * i + 1) (slots' := 264 + 88 * i + 4) EE rfl i_Ad t_Ad tok_Ad nw_Ed_21 (by decide) (by omega) (by omega) (by show _ ≤ 182; omega) (by show _ ≤ 1672; omega) d_Ed_init_142 (fun q Hn0 e0 hN s0 k1 => ?_)
    obtain rfl : q = b + 22 + 10 * i := by omega
    have hV := mm_newo hG hK.1 k1 hN e0 s0 hV
    refine lv_dup hx hb d_Ed_init_145 rfl ?_
    refine sx_gI (E' := (fun z => z = b + 22 + 10 * i ∨ b + 22 + 10 * i + 1 ≤ z)) (P := up_Ad D g (b + 22 + 10 * i + 1) (b + 22 + 10 * i) X) (F := E) (mc := 4) (ms := 40) (cells' := 22 + 10 * i + 5) (slots' := 264 + 88 * i + 44) (sx_runIN (As := []) (rest := [.ref (b + 22 + 10 * i), .int (nI i), .ref (b + 10)]) EE (u_Ad_init (E := (fun z => z = b + 22 + 10 * i ∨ b + 22 + 10 * i + 1 ≤ z)) (b := b + 22 + 10 * i + 1) (X := X) (Or.inl rfl) (fun z h => Or.inr h) hN s0 hV) il_Ed_68 iw_Ed_68 rfl rfl ⟨rfl, rfl⟩ ⟨Nat.le_of_ble_eq_true rfl, Nat.le_of_ble_eq_true rfl⟩ ⟨by show 22 + 10 * i + 1 + 4 ≤ 182; omega, by show 264 + 88 * i + 4 + 40 ≤ 1672; omega⟩ hl.1 rfl (Nat.le_of_ble_eq_true rfl) d_Ed_init_146) (fun z h => hEn _ (by rcases h with h | h <;> omega)) hlo (by omega) (by omega) (fun Hc0 locs hJc hPc hlo => ?_)
    obtain ⟨hz2, hN2, -, hA2, hV⟩ := hPc
    have hk := sx_J.news e0 k1 (by omega) hJc (fun z h => by rcases h with h | h; exact Or.inl h; exact Or.inr (by omega))
    have hJ1 : sx_J g E H Hc0 := (sx_J.grow (by omega) k1).tr (hJc.mono (fun z h => hEn _ (by rcases h with h | h <;> omega)))
    have hJ := hJ.tr hJ1
    have hO := hO.grown hk
    have hB := hB.grown hk
    have hA := hA.kept hJ1
    have y3 := y3.grown hk
    have y4 := y4.grown hk
    have h4 := fun j hj => And.intro ((h4 j hj).1.grown hJ1.1 hk) ((h4 j hj).2.grown hJ1.1 hk)
    have hb4 : o4_ D g Hc0 5 (b + 22 + 10 * i) (fun k => b + 22 + 10 * i + 1 + k) := o4_rev hN2 hA2
    have hsz : Hc0.size = b + 22 + 10 * i + 5 := by omega
    refine sx_aast (ci := 5) EE y3 rfl hb4.1 (by omega) (by decide) (hEn _ (by omega)) ⟨hJ, fun _ h => h, hlo⟩ d_Ed_init_149 (fun Hs0 locs y_ hJ2 hs hS2 => ?_)
    have y_ : rf_ s R_Ad Hs0 (b + 10) 16 (edF b 0 (i + 1)) := by rw [← edF_up]; exact y_
    have hV := (y3.mm (g := g) y_ (edF_nr _ _ _) (edF_nr _ _ _) hs).trans hV
    have y3 := y_
    have y4 := y4.kept (hs _ (by omega))
    have hJ := hS2.1
    have hlo := hS2.2.2
    have hsz := (sz_one hJ2.1 hs (by omega)).trans hsz
    have hO := hO.one hs (by omega)
    have hB : obs_ D Hs0 b [((b + 5), 4, [.ref (b + 6), .ref (b + 7), .ref (b + 8), .ref (b + 9)]), ((b + 0), 4, [.ref (b + 1), .ref (b + 2), .ref (b + 3), .ref (b + 4)])] := fun x hx => ⟨(hB x hx).1, (hB x hx).2.one hs (by
        simp only [List.mem_cons, List.not_mem_nil, or_false] at hx
        rcases hx with rfl | rfl
        · show b + _ ≠ _; omega
        · show b + _ ≠ _; omega)⟩
    have hA := hA.kept hJ2
    have h4 := fun j hj => And.intro ((h4 j hj).1.put hJ2 hs (by omega)) ((h4 j hj).2.put hJ2 hs (by omega))
    have hb4 := hb4.put hJ2 hs (by omega)
    refine lv_aload_n hx hb d_Ed_init_150 rfl (lv_at hl 1 rfl) ?_
    refine sx_get (v := .ref (b + 11)) EE hO rfl i_Ed 4 (by decide) rfl fl_Ed_27 rfl d_Ed_init_151 ?_
    refine lv_iload_n hx hb d_Ed_init_154 rfl (lv_at hl 0 rfl) ?_
    refine sx_newo (ci := 5) (fs := [.null, .null, .null, .null]) (cells' := 22 + 10 * i + 6) (slots' := 264 + 88 * i + 48) EE rfl i_Ad t_Ad tok_Ad nw_Ed_21 (by decide) (by omega) (by omega) (by show _ ≤ 182; omega) (by show _ ≤ 1672; omega) d_Ed_init_155 (fun q Hn1 e0 hN s0 k1 => ?_)
    obtain rfl : q = b + 22 + 10 * i + 5 := by omega
    have hV := mm_newo hG hK.1 k1 hN e0 s0 hV
    refine lv_dup hx hb d_Ed_init_158 rfl ?_
    refine sx_gI (E' := (fun z => z = b + 22 + 10 * i + 5 ∨ b + 22 + 10 * i + 5 + 1 ≤ z)) (P := up_Ad D g (b + 22 + 10 * i + 5 + 1) (b + 22 + 10 * i + 5) X) (F := E) (mc := 4) (ms := 40) (cells' := 22 + 10 * i + 10) (slots' := 264 + 88 * i + 88) (sx_runIN (As := []) (rest := [.ref (b + 22 + 10 * i + 5), .int (nI i), .ref (b + 11)]) EE (u_Ad_init (E := (fun z => z = b + 22 + 10 * i + 5 ∨ b + 22 + 10 * i + 5 + 1 ≤ z)) (b := b + 22 + 10 * i + 5 + 1) (X := X) (Or.inl rfl) (fun z h => Or.inr h) hN s0 hV) il_Ed_68 iw_Ed_68 rfl rfl ⟨rfl, rfl⟩ ⟨Nat.le_of_ble_eq_true rfl, Nat.le_of_ble_eq_true rfl⟩ ⟨by show 22 + 10 * i + 6 + 4 ≤ 182; omega, by show 264 + 88 * i + 48 + 40 ≤ 1672; omega⟩ hl.1 rfl (Nat.le_of_ble_eq_true rfl) d_Ed_init_159) (fun z h => hEn _ (by rcases h with h | h <;> omega)) hlo (by omega) (by omega) (fun Hc1 locs hJc hPc hlo => ?_)
    obtain ⟨hz2, hN2, -, hA2, hV⟩ := hPc
    have hk := sx_J.news e0 k1 (by omega) hJc (fun z h => by rcases h with h | h; exact Or.inl h; exact Or.inr (by omega))
    have hJ1 : sx_J g E Hs0 Hc1 := (sx_J.grow (by omega) k1).tr (hJc.mono (fun z h => hEn _ (by rcases h with h | h <;> omega)))
    have hJ := hJ.tr hJ1
    have hO := hO.grown hk
    have hB := hB.grown hk
    have hA := hA.kept hJ1
    have y3 := y3.grown hk
    have y4 := y4.grown hk
    have h4 := fun j hj => And.intro ((h4 j hj).1.grown hJ1.1 hk) ((h4 j hj).2.grown hJ1.1 hk)
    have hb4 := hb4.grown hJ1.1 hk
    have hb5 : o4_ D g Hc1 5 (b + 22 + 10 * i + 5) (fun k => b + 22 + 10 * i + 5 + 1 + k) := o4_rev hN2 hA2
    have hsz : Hc1.size = b + 22 + 10 * i + 10 := by omega
    refine sx_aast (ci := 5) EE y4 rfl hb5.1 (by omega) (by decide) (hEn _ (by omega)) ⟨hJ, fun _ h => h, hlo⟩ d_Ed_init_162 (fun Hs1 locs y_ hJ2 hs hS2 => ?_)
    have y_ : rf_ s R_Ad Hs1 (b + 11) 16 (edF b 5 (i + 1)) := by rw [← edF_up]; exact y_
    have hV := (y4.mm (g := g) y_ (edF_nr _ _ _) (edF_nr _ _ _) hs).trans hV
    have y4 := y_
    have y3 := y3.kept (hs _ (by omega))
    have hJ := hS2.1
    have hlo := hS2.2.2
    have hsz := (sz_one hJ2.1 hs (by omega)).trans hsz
    have hO := hO.one hs (by omega)
    have hB : obs_ D Hs1 b [((b + 5), 4, [.ref (b + 6), .ref (b + 7), .ref (b + 8), .ref (b + 9)]), ((b + 0), 4, [.ref (b + 1), .ref (b + 2), .ref (b + 3), .ref (b + 4)])] := fun x hx => ⟨(hB x hx).1, (hB x hx).2.one hs (by
        simp only [List.mem_cons, List.not_mem_nil, or_false] at hx
        rcases hx with rfl | rfl
        · show b + _ ≠ _; omega
        · show b + _ ≠ _; omega)⟩
    have hA := hA.kept hJ2
    have h4 := fun j hj => And.intro ((h4 j hj).1.put hJ2 hs (by omega)) ((h4 j hj).2.put hJ2 hs (by omega))
    have hb4 := hb4.put hJ2 hs (by omega)
    have hb5 := hb5.put hJ2 hs (by omega)
    refine lv_iinc (v := nI (i + 1)) (lv' := [(2, .int (nI (i + 1))), (0, .ref o)]) hx hb d_Ed_init_163 hl (k := 0) rfl (sx_inc _ _) (by decide) rfl (fun ls hl => ?_)
    refine lv_goto (tgt := 131) hx hb d_Ed_init_166 (by decide) ?_
    refine W.widen (k := 22 + 10 * (i + 1)) (n := 264 + 88 * (i + 1)) (by omega) (by omega) ?_
    refine ih (i + 1) _ _ ls (by omega) ⟨by omega, hO, hB, hA, hV, y3, y4, fun j hj => ?_⟩ hJ hlo hl
    by_cases e : j = i
    · subst e; exact ⟨hb4, hb5⟩
    · exact h4 j (by omega)
set_option maxHeartbeats 4000000 in
set_option maxRecDepth 100000 in
theorem u_Ed_init {l : Launch} {D : va_G} {g : ClassId → FieldType → Prop} {E : Nat → Prop} {H0 : Heap} {o b a0 : Nat} {X : vM} {ts : Nat → Nat} {kq : Nat → Nat → Nat} (hEo : E o) (hEn : ∀ q, b ≤ q → E q) (hO : va_P D classes [(o, .inr (6, [.null, .null, .null, .null, .null, .null, .null, .null, .null, .null, .null, .null, .null, .null, .null]))] H0) (hsz : H0.size = b) (hV : mm g H0 = X) (hst : st_H D g E H0 ts) (hq : edQ kq b a0) : Met l y_Ed_init (.code y_Ed_init b_Ed_init 3 none :: G_) rm_Ed_init (sx_Pc [.ref o, .ref a0] H0 D g) (va_Qv (fun _ : Unit => True) (fun _ t => sx_J g E H0 t.heap ∧ up_Ed D g b o a0 X ts kq t.heap) E) 182 1672 E := by
  refine sx_mva (own := R_Ed) (P := up_Ed D g b o a0 X ts kq) (by decide) rfl (Nat.le_of_ble_eq_true rfl) ?_
  intro p e s m args below meth c Q ls EE hin hl hret
  obtain ⟨hx, hb, hml, hown, hts, hG, hK⟩ := id EE
  have hS : sx_S g E E H0 H0 [] := sx_S.rf
  have hA : sx_AR g H0 [] := sx_AR.nil
  have hB : obs_ D H0 b [] := obs_.nil
  have ho : o < b := hsz ▸ (hO 0 _ rfl).lt
  have hsz0 := hsz
  have hsz : H0.size = b + 0 := hsz
  have hle : ∀ k, b ≤ b + k := fun k => Nat.le_add_right b k
  have hl : lv_has ls 3 [(0, .ref o), (1, .ref a0)] := hl
  refine lv_aload_n hx hb d_Ed_init_0 rfl (lv_at hl 0 rfl) ?_
  refine W.objInit hx hb hown (hts (.methodLink R_Ed 3 objectInit) (by decide +kernel)) (hts (.instanceMethod objectInit) (by decide +kernel)) (hts (.code objectInit ⟨#[0xb1]⟩ 1 none) (by decide +kernel)) rfl (by rw [hml]; exact hl.1) rfl d_Ed_init_1 (Nat.le_of_ble_eq_true rfl) (Nat.le_of_ble_eq_true rfl) ?_
  refine W.eq (g2 := F0 m 4 ls []) rfl ?_
  refine lv_aload_n hx hb d_Ed_init_4 rfl (lv_at hl 0 rfl) ?_
  refine sx_newo (ci := 4) (fs := [.null, .null, .null, .null]) (cells' := 1) (slots' := 4) EE rfl i_Pt t_Pt tok_Pt nw_Ed_9 (by decide) rfl rfl (Nat.le_of_ble_eq_true rfl) (Nat.le_of_ble_eq_true rfl) d_Ed_init_5 (fun q H5 e0 hN s0 k1 => ?_)
  have e_ : b = q := hsz.symm.trans e0
  subst e_
  have hV := mm_newo hG hK.1 k1 hN e0 s0 hV
  refine lv_dup hx hb d_Ed_init_8 rfl ?_
  refine sx_gI (E' := (fun z => z = b + 0 ∨ b + 1 ≤ z)) (P := up_Pt D g (b + 1) (b + 0) X) (F := E) (mc := 4) (ms := 40) (cells' := 5) (slots' := 44) (sx_runIN (As := []) (rest := [.ref (b + 0), .ref o]) EE (u_Pt_init (E := (fun z => z = b + 0 ∨ b + 1 ≤ z)) (b := b + 1) (X := X) (Or.inl rfl) (fun z h => Or.inr h) hN s0 hV) il_Ed_11 iw_Ed_11 rfl rfl ⟨rfl, rfl⟩ ⟨Nat.le_of_ble_eq_true rfl, Nat.le_of_ble_eq_true rfl⟩ ⟨Nat.le_of_ble_eq_true rfl, Nat.le_of_ble_eq_true rfl⟩ hl.1 rfl (Nat.le_of_ble_eq_true rfl) d_Ed_init_9) (nE_en hEn (hle 0)) hS.2.2 rfl rfl (fun H9 locs hJc hPc hlo => ?_)
  have hk := sx_J.news e0 k1 (le_1 e0 s0) hJc (nE_to s0)
  have hJ : sx_J g E H0 H9 := (sx_J.grow (le_1 e0 s0) k1).tr (hJc.mono (nE_en hEn (hle 0)))
  have hS : sx_S g E E H0 H9 locs := ⟨hS.1.tr hJ, fun _ h => h, hlo⟩
  have hA := hA.kept hJ
  have hO := hO.grown hk
  have hB := hB.grown hk
  obtain ⟨hsz_, hN_, hB_, hA_, hV⟩ := hPc
  have hsz : H9.size = b + 5 := hsz_
  have hB : obs_ D H9 b [((b + 0), 4, [.ref (b + 1), .ref (b + 2), .ref (b + 3), .ref (b + 4)])] := (hB.app hB_ (hle 1)).cons hN_ (hle 0)
  have hA : sx_AR g H9 [((b + 4), .long, 10), ((b + 3), .long, 10), ((b + 2), .long, 10), ((b + 1), .long, 10)] := hA.app hA_
  have hV : mm g H9 = X := hV
  have hO0 := hO
  refine sx_putF EE hin hO rfl i_Ed t_Ed tok_Ed n_Ed 1 (by decide) rfl fl_Ed_12 (ty := t_Ed 1) (by decide +kernel) rfl rfl (Nat.le_of_ble_eq_true rfl) hEo hS d_Ed_init_12 (fun H12 locs hO hJ hs hS => ?_)
  have hO : va_P D classes [(o, .inr (6, [.null, .ref (b + 0), .null, .null, .null, .null, .null, .null, .null, .null, .null, .null, .null, .null, .null]))] H12 := hO
  have hV := (vx_obj hG hK.1 hO0 hO hs).trans hV
  have hA := hA.kept hJ
  have hB := hB.one hs ho
  have hsz := (sz_one hJ.1 hs (lt_sz ho hsz)).trans hsz
  refine lv_aload_n hx hb d_Ed_init_15 rfl (lv_at hl 0 rfl) ?_
  refine sx_newo (ci := 4) (fs := [.null, .null, .null, .null]) (cells' := 6) (slots' := 48) EE rfl i_Pt t_Pt tok_Pt nw_Ed_9 (by decide) rfl rfl (Nat.le_of_ble_eq_true rfl) (Nat.le_of_ble_eq_true rfl) d_Ed_init_16 (fun q H16 e0 hN s0 k1 => ?_)
  have e_ : q = b + 5 := e0.symm.trans hsz
  subst e_
  have hV := mm_newo hG hK.1 k1 hN e0 s0 hV
  refine lv_dup hx hb d_Ed_init_19 rfl ?_
  refine sx_gI (E' := (fun z => z = b + 5 ∨ b + 6 ≤ z)) (P := up_Pt D g (b + 6) (b + 5) X) (F := E) (mc := 4) (ms := 40) (cells' := 10) (slots' := 88) (sx_runIN (As := []) (rest := [.ref (b + 5), .ref o]) EE (u_Pt_init (E := (fun z => z = b + 5 ∨ b + 6 ≤ z)) (b := b + 6) (X := X) (Or.inl rfl) (fun z h => Or.inr h) hN s0 hV) il_Ed_11 iw_Ed_11 rfl rfl ⟨rfl, rfl⟩ ⟨Nat.le_of_ble_eq_true rfl, Nat.le_of_ble_eq_true rfl⟩ ⟨Nat.le_of_ble_eq_true rfl, Nat.le_of_ble_eq_true rfl⟩ hl.1 rfl (Nat.le_of_ble_eq_true rfl) d_Ed_init_20) (nE_en hEn (hle 5)) hS.2.2 rfl rfl (fun H20 locs hJc hPc hlo => ?_)
  have hk := sx_J.news e0 k1 (le_1 e0 s0) hJc (nE_to s0)
  have hJ : sx_J g E H12 H20 := (sx_J.grow (le_1 e0 s0) k1).tr (hJc.mono (nE_en hEn (hle 5)))
  have hS : sx_S g E E H0 H20 locs := ⟨hS.1.tr hJ, fun _ h => h, hlo⟩
  have hA := hA.kept hJ
  have hO := hO.grown hk
  have hB := hB.grown hk
  obtain ⟨hsz_, hN_, hB_, hA_, hV⟩ := hPc
  have hsz : H20.size = b + 10 := hsz_
  have hB : obs_ D H20 b [((b + 5), 4, [.ref (b + 6), .ref (b + 7), .ref (b + 8), .ref (b + 9)]), ((b + 0), 4, [.ref (b + 1), .ref (b + 2), .ref (b + 3), .ref (b + 4)])] := (hB.app hB_ (hle 6)).cons hN_ (hle 5)
  have hA : sx_AR g H20 [((b + 9), .long, 10), ((b + 8), .long, 10), ((b + 7), .long, 10), ((b + 6), .long, 10), ((b + 4), .long, 10), ((b + 3), .long, 10), ((b + 2), .long, 10), ((b + 1), .long, 10)] := hA.app hA_
  have hV : mm g H20 = X := hV
  have hO0 := hO
  refine sx_putF EE hin hO rfl i_Ed t_Ed tok_Ed n_Ed 2 (by decide) rfl fl_Ed_18 (ty := t_Ed 2) (by decide +kernel) rfl rfl (Nat.le_of_ble_eq_true rfl) hEo hS d_Ed_init_23 (fun H23 locs hO hJ hs hS => ?_)
  have hO : va_P D classes [(o, .inr (6, [.null, .ref (b + 0), .ref (b + 5), .null, .null, .null, .null, .null, .null, .null, .null, .null, .null, .null, .null]))] H23 := hO
  have hV := (vx_obj hG hK.1 hO0 hO hs).trans hV
  have hA := hA.kept hJ
  have hB := hB.one hs ho
  have hsz := (sz_one hJ.1 hs (lt_sz ho hsz)).trans hsz
  refine lv_aload_n hx hb d_Ed_init_26 rfl (lv_at hl 0 rfl) ?_
  refine lv_bipush (v := nI 16) hx hb d_Ed_init_27 (by decide +kernel) ?_
  refine vx_newr (C := R_Ad) (cells' := 11) (slots' := 104) EE (by decide +kernel) hK.2.2.2.1 (by decide) (by decide) rfl rfl (Nat.le_of_ble_eq_true rfl) (Nat.le_of_ble_eq_true rfl) hS hV d_Ed_init_29 (fun q H29 eq hz y_ hJ hk hS hV => ?_)
  have e_ : q = b + 10 := eq.symm.trans hsz
  subst e_
  have hsz : H29.size = b + 11 := hz
  have hA := hA.kept hJ
  have hO := hO.grown hk
  have hB := hB.grown hk
  have yB := y_.rf
  have hO0 := hO
  refine sx_putF EE hin hO rfl i_Ed t_Ed tok_Ed n_Ed 3 (by decide) rfl fl_Ed_23 (ty := t_Ed 3) (by decide +kernel) rfl rfl (Nat.le_of_ble_eq_true rfl) hEo hS d_Ed_init_32 (fun H32 locs hO hJ hs hS => ?_)
  have hO : va_P D classes [(o, .inr (6, [.null, .ref (b + 0), .ref (b + 5), .ref (b + 10), .null, .null, .null, .null, .null, .null, .null, .null, .null, .null, .null]))] H32 := hO
  have hV := (vx_obj hG hK.1 hO0 hO hs).trans hV
  have hA := hA.kept hJ
  have hB := hB.one hs ho
  have hsz := (sz_one hJ.1 hs (lt_sz ho hsz)).trans hsz
  have yB := yB.kept (hs _ (ne_o ho (Nat.le_add_right _ _)))
  refine lv_aload_n hx hb d_Ed_init_35 rfl (lv_at hl 0 rfl) ?_
  refine lv_bipush (v := nI 16) hx hb d_Ed_init_36 (by decide +kernel) ?_
  refine vx_newr (C := R_Ad) (cells' := 12) (slots' := 120) EE (by decide +kernel) hK.2.2.2.1 (by decide) (by decide) rfl rfl (Nat.le_of_ble_eq_true rfl) (Nat.le_of_ble_eq_true rfl) hS hV d_Ed_init_38 (fun q H38 eq hz y_ hJ hk hS hV => ?_)
  have e_ : q = b + 11 := eq.symm.trans hsz
  subst e_
  have hsz : H38.size = b + 12 := hz
  have hA := hA.kept hJ
  have hO := hO.grown hk
  have hB := hB.grown hk
  have yB := yB.grown hk
  have yO := y_.rf
  have hO0 := hO
  refine sx_putF EE hin hO rfl i_Ed t_Ed tok_Ed n_Ed 4 (by decide) rfl fl_Ed_27 (ty := t_Ed 4) (by decide +kernel) rfl rfl (Nat.le_of_ble_eq_true rfl) hEo hS d_Ed_init_41 (fun H41 locs hO hJ hs hS => ?_)
  have hO : va_P D classes [(o, .inr (6, [.null, .ref (b + 0), .ref (b + 5), .ref (b + 10), .ref (b + 11), .null, .null, .null, .null, .null, .null, .null, .null, .null, .null]))] H41 := hO
  have hV := (vx_obj hG hK.1 hO0 hO hs).trans hV
  have hA := hA.kept hJ
  have hB := hB.one hs ho
  have hsz := (sz_one hJ.1 hs (lt_sz ho hsz)).trans hsz
  have yB := yB.kept (hs _ (ne_o ho (Nat.le_add_right _ _)))
  have yO := yO.kept (hs _ (ne_o ho (Nat.le_add_right _ _)))
  refine lv_aload_n hx hb d_Ed_init_44 rfl (lv_at hl 0 rfl) ?_
  refine lv_bipush (v := nI 32) hx hb d_Ed_init_45 (by decide +kernel) ?_
  refine vx_newa (cells' := 13) (slots' := 152) hx hb hG hts rfl (Or.inr (Or.inl rfl)) (by decide +kernel) (by decide) (by decide) rfl rfl (Nat.le_of_ble_eq_true rfl) (Nat.le_of_ble_eq_true rfl) hS hV d_Ed_init_47 (fun q H47 eq hz a_ l_ hJ hk hS hV => ?_)
  have e_ : q = b + 12 := eq.symm.trans hsz
  subst e_
  have hsz : H47.size = b + 13 := hz
  have hA := hA.kept hJ
  have hO := hO.grown hk
  have hB := hB.grown hk
  have yB := yB.grown hk
  have yO := yO.grown hk
  have hA := hA.cons a_ l_
  have hO0 := hO
  refine sx_putF EE hin hO rfl i_Ed t_Ed tok_Ed n_Ed 5 (by decide) rfl fl_Ed_30 (ty := t_Ed 5) (by decide +kernel) rfl rfl (Nat.le_of_ble_eq_true rfl) hEo hS d_Ed_init_49 (fun H49 locs hO hJ hs hS => ?_)
  have hO : va_P D classes [(o, .inr (6, [.null, .ref (b + 0), .ref (b + 5), .ref (b + 10), .ref (b + 11), .ref (b + 12), .null, .null, .null, .null, .null, .null, .null, .null, .null]))] H49 := hO
  have hV := (vx_obj hG hK.1 hO0 hO hs).trans hV
  have hA := hA.kept hJ
  have hB := hB.one hs ho
  have hsz := (sz_one hJ.1 hs (lt_sz ho hsz)).trans hsz
  have yB := yB.kept (hs _ (ne_o ho (Nat.le_add_right _ _)))
  have yO := yO.kept (hs _ (ne_o ho (Nat.le_add_right _ _)))
  refine lv_aload_n hx hb d_Ed_init_52 rfl (lv_at hl 0 rfl) ?_
  refine lv_bipush (v := nI 32) hx hb d_Ed_init_53 (by decide +kernel) ?_
  refine vx_newa (cells' := 14) (slots' := 184) hx hb hG hts rfl (Or.inr (Or.inl rfl)) (by decide +kernel) (by decide) (by decide) rfl rfl (Nat.le_of_ble_eq_true rfl) (Nat.le_of_ble_eq_true rfl) hS hV d_Ed_init_55 (fun q H55 eq hz a_ l_ hJ hk hS hV => ?_)
  have e_ : q = b + 13 := eq.symm.trans hsz
  subst e_
  have hsz : H55.size = b + 14 := hz
  have hA := hA.kept hJ
  have hO := hO.grown hk
  have hB := hB.grown hk
  have yB := yB.grown hk
  have yO := yO.grown hk
  have hA := hA.cons a_ l_
  have hO0 := hO
  refine sx_putF EE hin hO rfl i_Ed t_Ed tok_Ed n_Ed 6 (by decide) rfl fl_Ed_34 (ty := t_Ed 6) (by decide +kernel) rfl rfl (Nat.le_of_ble_eq_true rfl) hEo hS d_Ed_init_57 (fun H57 locs hO hJ hs hS => ?_)
  have hO : va_P D classes [(o, .inr (6, [.null, .ref (b + 0), .ref (b + 5), .ref (b + 10), .ref (b + 11), .ref (b + 12), .ref (b + 13), .null, .null, .null, .null, .null, .null, .null, .null]))] H57 := hO
  have hV := (vx_obj hG hK.1 hO0 hO hs).trans hV
  have hA := hA.kept hJ
  have hB := hB.one hs ho
  have hsz := (sz_one hJ.1 hs (lt_sz ho hsz)).trans hsz
  have yB := yB.kept (hs _ (ne_o ho (Nat.le_add_right _ _)))
  have yO := yO.kept (hs _ (ne_o ho (Nat.le_add_right _ _)))
  refine lv_aload_n hx hb d_Ed_init_60 rfl (lv_at hl 0 rfl) ?_
  refine lv_bipush (v := nI 10) hx hb d_Ed_init_61 (by decide +kernel) ?_
  refine vx_newa (cells' := 15) (slots' := 194) hx hb hG hts rfl (Or.inl rfl) (by decide +kernel) (by decide) (by decide) rfl rfl (Nat.le_of_ble_eq_true rfl) (Nat.le_of_ble_eq_true rfl) hS hV d_Ed_init_63 (fun q H63 eq hz a_ l_ hJ hk hS hV => ?_)
  have e_ : q = b + 14 := eq.symm.trans hsz
  subst e_
  have hsz : H63.size = b + 15 := hz
  have hA := hA.kept hJ
  have hO := hO.grown hk
  have hB := hB.grown hk
  have yB := yB.grown hk
  have yO := yO.grown hk
  have hA := hA.cons a_ l_
  have hO0 := hO
  refine sx_putF EE hin hO rfl i_Ed t_Ed tok_Ed n_Ed 7 (by decide) rfl fl_Ed_39 (ty := t_Ed 7) (by decide +kernel) rfl rfl (Nat.le_of_ble_eq_true rfl) hEo hS d_Ed_init_65 (fun H65 locs hO hJ hs hS => ?_)
  have hO : va_P D classes [(o, .inr (6, [.null, .ref (b + 0), .ref (b + 5), .ref (b + 10), .ref (b + 11), .ref (b + 12), .ref (b + 13), .ref (b + 14), .null, .null, .null, .null, .null, .null, .null]))] H65 := hO
  have hV := (vx_obj hG hK.1 hO0 hO hs).trans hV
  have hA := hA.kept hJ
  have hB := hB.one hs ho
  have hsz := (sz_one hJ.1 hs (lt_sz ho hsz)).trans hsz
  have yB := yB.kept (hs _ (ne_o ho (Nat.le_add_right _ _)))
  have yO := yO.kept (hs _ (ne_o ho (Nat.le_add_right _ _)))
  refine lv_aload_n hx hb d_Ed_init_68 rfl (lv_at hl 0 rfl) ?_
  refine lv_bipush (v := nI 10) hx hb d_Ed_init_69 (by decide +kernel) ?_
  refine vx_newa (cells' := 16) (slots' := 204) hx hb hG hts rfl (Or.inl rfl) (by decide +kernel) (by decide) (by decide) rfl rfl (Nat.le_of_ble_eq_true rfl) (Nat.le_of_ble_eq_true rfl) hS hV d_Ed_init_71 (fun q H71 eq hz a_ l_ hJ hk hS hV => ?_)
  have e_ : q = b + 15 := eq.symm.trans hsz
  subst e_
  have hsz : H71.size = b + 16 := hz
  have hA := hA.kept hJ
  have hO := hO.grown hk
  have hB := hB.grown hk
  have yB := yB.grown hk
  have yO := yO.grown hk
  have hA := hA.cons a_ l_
  have hO0 := hO
  refine sx_putF EE hin hO rfl i_Ed t_Ed tok_Ed n_Ed 8 (by decide) rfl fl_Ed_43 (ty := t_Ed 8) (by decide +kernel) rfl rfl (Nat.le_of_ble_eq_true rfl) hEo hS d_Ed_init_73 (fun H73 locs hO hJ hs hS => ?_)
  have hO : va_P D classes [(o, .inr (6, [.null, .ref (b + 0), .ref (b + 5), .ref (b + 10), .ref (b + 11), .ref (b + 12), .ref (b + 13), .ref (b + 14), .ref (b + 15), .null, .null, .null, .null, .null, .null]))] H73 := hO
  have hV := (vx_obj hG hK.1 hO0 hO hs).trans hV
  have hA := hA.kept hJ
  have hB := hB.one hs ho
  have hsz := (sz_one hJ.1 hs (lt_sz ho hsz)).trans hsz
  have yB := yB.kept (hs _ (ne_o ho (Nat.le_add_right _ _)))
  have yO := yO.kept (hs _ (ne_o ho (Nat.le_add_right _ _)))
  refine lv_aload_n hx hb d_Ed_init_76 rfl (lv_at hl 0 rfl) ?_
  refine lv_bipush (v := nI 10) hx hb d_Ed_init_77 (by decide +kernel) ?_
  refine vx_newa (cells' := 17) (slots' := 214) hx hb hG hts rfl (Or.inl rfl) (by decide +kernel) (by decide) (by decide) rfl rfl (Nat.le_of_ble_eq_true rfl) (Nat.le_of_ble_eq_true rfl) hS hV d_Ed_init_79 (fun q H79 eq hz a_ l_ hJ hk hS hV => ?_)
  have e_ : q = b + 16 := eq.symm.trans hsz
  subst e_
  have hsz : H79.size = b + 17 := hz
  have hA := hA.kept hJ
  have hO := hO.grown hk
  have hB := hB.grown hk
  have yB := yB.grown hk
  have yO := yO.grown hk
  have hA := hA.cons a_ l_
  have hO0 := hO
  refine sx_putF EE hin hO rfl i_Ed t_Ed tok_Ed n_Ed 9 (by decide) rfl fl_Ed_46 (ty := t_Ed 9) (by decide +kernel) rfl rfl (Nat.le_of_ble_eq_true rfl) hEo hS d_Ed_init_81 (fun H81 locs hO hJ hs hS => ?_)
  have hO : va_P D classes [(o, .inr (6, [.null, .ref (b + 0), .ref (b + 5), .ref (b + 10), .ref (b + 11), .ref (b + 12), .ref (b + 13), .ref (b + 14), .ref (b + 15), .ref (b + 16), .null, .null, .null, .null, .null]))] H81 := hO
  have hV := (vx_obj hG hK.1 hO0 hO hs).trans hV
  have hA := hA.kept hJ
  have hB := hB.one hs ho
  have hsz := (sz_one hJ.1 hs (lt_sz ho hsz)).trans hsz
  have yB := yB.kept (hs _ (ne_o ho (Nat.le_add_right _ _)))
  have yO := yO.kept (hs _ (ne_o ho (Nat.le_add_right _ _)))
  refine lv_aload_n hx hb d_Ed_init_84 rfl (lv_at hl 0 rfl) ?_
  refine lv_bipush (v := nI 10) hx hb d_Ed_init_85 (by decide +kernel) ?_
  refine vx_newa (cells' := 18) (slots' := 224) hx hb hG hts rfl (Or.inl rfl) (by decide +kernel) (by decide) (by decide) rfl rfl (Nat.le_of_ble_eq_true rfl) (Nat.le_of_ble_eq_true rfl) hS hV d_Ed_init_87 (fun q H87 eq hz a_ l_ hJ hk hS hV => ?_)
  have e_ : q = b + 17 := eq.symm.trans hsz
  subst e_
  have hsz : H87.size = b + 18 := hz
  have hA := hA.kept hJ
  have hO := hO.grown hk
  have hB := hB.grown hk
  have yB := yB.grown hk
  have yO := yO.grown hk
  have hA := hA.cons a_ l_
  have hO0 := hO
  refine sx_putF EE hin hO rfl i_Ed t_Ed tok_Ed n_Ed 10 (by decide) rfl fl_Ed_49 (ty := t_Ed 10) (by decide +kernel) rfl rfl (Nat.le_of_ble_eq_true rfl) hEo hS d_Ed_init_89 (fun H89 locs hO hJ hs hS => ?_)
  have hO : va_P D classes [(o, .inr (6, [.null, .ref (b + 0), .ref (b + 5), .ref (b + 10), .ref (b + 11), .ref (b + 12), .ref (b + 13), .ref (b + 14), .ref (b + 15), .ref (b + 16), .ref (b + 17), .null, .null, .null, .null]))] H89 := hO
  have hV := (vx_obj hG hK.1 hO0 hO hs).trans hV
  have hA := hA.kept hJ
  have hB := hB.one hs ho
  have hsz := (sz_one hJ.1 hs (lt_sz ho hsz)).trans hsz
  have yB := yB.kept (hs _ (ne_o ho (Nat.le_add_right _ _)))
  have yO := yO.kept (hs _ (ne_o ho (Nat.le_add_right _ _)))
  refine lv_aload_n hx hb d_Ed_init_92 rfl (lv_at hl 0 rfl) ?_
  refine lv_bipush (v := nI 10) hx hb d_Ed_init_93 (by decide +kernel) ?_
  refine vx_newa (cells' := 19) (slots' := 234) hx hb hG hts rfl (Or.inl rfl) (by decide +kernel) (by decide) (by decide) rfl rfl (Nat.le_of_ble_eq_true rfl) (Nat.le_of_ble_eq_true rfl) hS hV d_Ed_init_95 (fun q H95 eq hz a_ l_ hJ hk hS hV => ?_)
  have e_ : q = b + 18 := eq.symm.trans hsz
  subst e_
  have hsz : H95.size = b + 19 := hz
  have hA := hA.kept hJ
  have hO := hO.grown hk
  have hB := hB.grown hk
  have yB := yB.grown hk
  have yO := yO.grown hk
  have hA := hA.cons a_ l_
  have hO0 := hO
  refine sx_putF EE hin hO rfl i_Ed t_Ed tok_Ed n_Ed 11 (by decide) rfl fl_Ed_52 (ty := t_Ed 11) (by decide +kernel) rfl rfl (Nat.le_of_ble_eq_true rfl) hEo hS d_Ed_init_97 (fun H97 locs hO hJ hs hS => ?_)
  have hO : va_P D classes [(o, .inr (6, [.null, .ref (b + 0), .ref (b + 5), .ref (b + 10), .ref (b + 11), .ref (b + 12), .ref (b + 13), .ref (b + 14), .ref (b + 15), .ref (b + 16), .ref (b + 17), .ref (b + 18), .null, .null, .null]))] H97 := hO
  have hV := (vx_obj hG hK.1 hO0 hO hs).trans hV
  have hA := hA.kept hJ
  have hB := hB.one hs ho
  have hsz := (sz_one hJ.1 hs (lt_sz ho hsz)).trans hsz
  have yB := yB.kept (hs _ (ne_o ho (Nat.le_add_right _ _)))
  have yO := yO.kept (hs _ (ne_o ho (Nat.le_add_right _ _)))
  refine lv_aload_n hx hb d_Ed_init_100 rfl (lv_at hl 0 rfl) ?_
  refine lv_bipush (v := nI 10) hx hb d_Ed_init_101 (by decide +kernel) ?_
  refine vx_newa (cells' := 20) (slots' := 244) hx hb hG hts rfl (Or.inl rfl) (by decide +kernel) (by decide) (by decide) rfl rfl (Nat.le_of_ble_eq_true rfl) (Nat.le_of_ble_eq_true rfl) hS hV d_Ed_init_103 (fun q H103 eq hz a_ l_ hJ hk hS hV => ?_)
  have e_ : q = b + 19 := eq.symm.trans hsz
  subst e_
  have hsz : H103.size = b + 20 := hz
  have hA := hA.kept hJ
  have hO := hO.grown hk
  have hB := hB.grown hk
  have yB := yB.grown hk
  have yO := yO.grown hk
  have hA := hA.cons a_ l_
  have hO0 := hO
  refine sx_putF EE hin hO rfl i_Ed t_Ed tok_Ed n_Ed 12 (by decide) rfl fl_Ed_55 (ty := t_Ed 12) (by decide +kernel) rfl rfl (Nat.le_of_ble_eq_true rfl) hEo hS d_Ed_init_105 (fun H105 locs hO hJ hs hS => ?_)
  have hO : va_P D classes [(o, .inr (6, [.null, .ref (b + 0), .ref (b + 5), .ref (b + 10), .ref (b + 11), .ref (b + 12), .ref (b + 13), .ref (b + 14), .ref (b + 15), .ref (b + 16), .ref (b + 17), .ref (b + 18), .ref (b + 19), .null, .null]))] H105 := hO
  have hV := (vx_obj hG hK.1 hO0 hO hs).trans hV
  have hA := hA.kept hJ
  have hB := hB.one hs ho
  have hsz := (sz_one hJ.1 hs (lt_sz ho hsz)).trans hsz
  have yB := yB.kept (hs _ (ne_o ho (Nat.le_add_right _ _)))
  have yO := yO.kept (hs _ (ne_o ho (Nat.le_add_right _ _)))
  refine lv_aload_n hx hb d_Ed_init_108 rfl (lv_at hl 0 rfl) ?_
  refine lv_bipush (v := nI 10) hx hb d_Ed_init_109 (by decide +kernel) ?_
  refine vx_newa (cells' := 21) (slots' := 254) hx hb hG hts rfl (Or.inl rfl) (by decide +kernel) (by decide) (by decide) rfl rfl (Nat.le_of_ble_eq_true rfl) (Nat.le_of_ble_eq_true rfl) hS hV d_Ed_init_111 (fun q H111 eq hz a_ l_ hJ hk hS hV => ?_)
  have e_ : q = b + 20 := eq.symm.trans hsz
  subst e_
  have hsz : H111.size = b + 21 := hz
  have hA := hA.kept hJ
  have hO := hO.grown hk
  have hB := hB.grown hk
  have yB := yB.grown hk
  have yO := yO.grown hk
  have hA := hA.cons a_ l_
  have hO0 := hO
  refine sx_putF EE hin hO rfl i_Ed t_Ed tok_Ed n_Ed 13 (by decide) rfl fl_Ed_58 (ty := t_Ed 13) (by decide +kernel) rfl rfl (Nat.le_of_ble_eq_true rfl) hEo hS d_Ed_init_113 (fun H113 locs hO hJ hs hS => ?_)
  have hO : va_P D classes [(o, .inr (6, [.null, .ref (b + 0), .ref (b + 5), .ref (b + 10), .ref (b + 11), .ref (b + 12), .ref (b + 13), .ref (b + 14), .ref (b + 15), .ref (b + 16), .ref (b + 17), .ref (b + 18), .ref (b + 19), .ref (b + 20), .null]))] H113 := hO
  have hV := (vx_obj hG hK.1 hO0 hO hs).trans hV
  have hA := hA.kept hJ
  have hB := hB.one hs ho
  have hsz := (sz_one hJ.1 hs (lt_sz ho hsz)).trans hsz
  have yB := yB.kept (hs _ (ne_o ho (Nat.le_add_right _ _)))
  have yO := yO.kept (hs _ (ne_o ho (Nat.le_add_right _ _)))
  refine lv_aload_n hx hb d_Ed_init_116 rfl (lv_at hl 0 rfl) ?_
  refine lv_bipush (v := nI 10) hx hb d_Ed_init_117 (by decide +kernel) ?_
  refine vx_newa (cells' := 22) (slots' := 264) hx hb hG hts rfl (Or.inl rfl) (by decide +kernel) (by decide) (by decide) rfl rfl (Nat.le_of_ble_eq_true rfl) (Nat.le_of_ble_eq_true rfl) hS hV d_Ed_init_119 (fun q H119 eq hz a_ l_ hJ hk hS hV => ?_)
  have e_ : q = b + 21 := eq.symm.trans hsz
  subst e_
  have hsz : H119.size = b + 22 := hz
  have hA := hA.kept hJ
  have hO := hO.grown hk
  have hB := hB.grown hk
  have yB := yB.grown hk
  have yO := yO.grown hk
  have hA := hA.cons a_ l_
  have hO0 := hO
  refine sx_putF EE hin hO rfl i_Ed t_Ed tok_Ed n_Ed 14 (by decide) rfl fl_Ed_61 (ty := t_Ed 14) (by decide +kernel) rfl rfl (Nat.le_of_ble_eq_true rfl) hEo hS d_Ed_init_121 (fun H121 locs hO hJ hs hS => ?_)
  have hO : va_P D classes [(o, .inr (6, [.null, .ref (b + 0), .ref (b + 5), .ref (b + 10), .ref (b + 11), .ref (b + 12), .ref (b + 13), .ref (b + 14), .ref (b + 15), .ref (b + 16), .ref (b + 17), .ref (b + 18), .ref (b + 19), .ref (b + 20), .ref (b + 21)]))] H121 := hO
  have hV := (vx_obj hG hK.1 hO0 hO hs).trans hV
  have hA := hA.kept hJ
  have hB := hB.one hs ho
  have hsz := (sz_one hJ.1 hs (lt_sz ho hsz)).trans hsz
  have yB := yB.kept (hs _ (ne_o ho (Nat.le_add_right _ _)))
  have yO := yO.kept (hs _ (ne_o ho (Nat.le_add_right _ _)))
  refine lv_aload_n hx hb d_Ed_init_124 rfl (lv_at hl 0 rfl) ?_
  refine lv_aload_n hx hb d_Ed_init_125 rfl (lv_at hl 1 rfl) ?_
  have hO0 := hO
  refine sx_putF EE hin hO rfl i_Ed t_Ed tok_Ed n_Ed 0 (by decide) rfl fl_Ed_64 (ty := t_Ed 0) (by decide +kernel) rfl rfl (Nat.le_of_ble_eq_true rfl) hEo hS d_Ed_init_126 (fun H126 locs hO hJ hs hS => ?_)
  have hO : va_P D classes [(o, .inr (6, [.ref a0, .ref (b + 0), .ref (b + 5), .ref (b + 10), .ref (b + 11), .ref (b + 12), .ref (b + 13), .ref (b + 14), .ref (b + 15), .ref (b + 16), .ref (b + 17), .ref (b + 18), .ref (b + 19), .ref (b + 20), .ref (b + 21)]))] H126 := hO
  have hV := (vx_obj hG hK.1 hO0 hO hs).trans hV
  have hA := hA.kept hJ
  have hB := hB.one hs ho
  have hsz := (sz_one hJ.1 hs (lt_sz ho hsz)).trans hsz
  have yB := yB.kept (hs _ (ne_o ho (Nat.le_add_right _ _)))
  have yO := yO.kept (hs _ (ne_o ho (Nat.le_add_right _ _)))
  refine lv_iconst (v := nI 0) hx hb d_Ed_init_129 (by decide +kernel) ?_
  refine lv_istore_n (lv' := [(2, .int (nI 0)), (0, .ref o), (1, .ref a0)]) hx hb d_Ed_init_130 rfl hl (by decide) rfl (fun ls hl => ?_)
  refine u_Ed_loop (H0 := H0) (X := X) (a0 := a0) ho hEn EE (fun H1 locs1 ls1 hI hJ1 hlo1 hl1 => ?_) 16 0 _ _ ls rfl ⟨hsz, hO, hB, hA, hV, yB, yO, fun j hj => absurd hj (Nat.not_lt_zero j)⟩ hS.1 hS.2.2 (lv_sub hl [0, 1] rfl)
  obtain ⟨hsz1, hO1, hB1, hA1, hV1, y3, y4, h4⟩ := hI
  have y3 : rx_ g R_Ad H1 (b + 10) 16 (fun j => b + 22 + 10 * j) := y3.rx hG (fun j hj => if_pos hj)
  have y4 : rx_ g R_Ad H1 (b + 11) 16 (fun j => b + 22 + 10 * j + 5) := y4.rx hG (fun j hj => if_pos hj)
  refine u_Ed_tail (kq := kq) hq ho hEn hO1 hB1 hA1 y3 (fun j hj => (h4 j hj).1) (hst.kept hJ1) hV1 EE hl1 hlo1 (fun H2 locs2 ls2 pc hJ2 hlo2 hV2 hd => ?_)
  refine hret H2 locs2 ls2 pc ⟨ed_182 hsz1 hJ2.1, hJ2.ob (edE_nO ho) hO1, hB1.j hJ2 (fun x hx => ?_), hA1.kept hJ2, hV2, y3.kept (hJ2.2.1 _ y3.lt edE_10), y4.kept (hJ2.2.1 _ y4.lt edE_11), fun j hj => ⟨(h4 j hj).1.kept hJ2 (edE_o (d := 0) (Or.inl rfl)), (h4 j hj).2.kept hJ2 (edE_o (d := 5) (Or.inr (by decide)))⟩⟩ (hJ1.tr (hJ2.mono (edE_en hEn))) hlo2 hd
  simp only [List.mem_cons, List.not_mem_nil, or_false] at hx
  rcases hx with rfl | rfl
  · exact edE_5
  · exact edE_0
