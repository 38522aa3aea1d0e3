/-! THE START: what the Statement gives, in our words -/
def subL : List Cond → List Cond → Bool
  | [], _ => true
  | _ :: _, [] => false
  | a :: l, b :: m => if a = b then subL l m else subL (a :: l) m
theorem subL_in : ∀ (m l : List Cond), subL l m = true → ∀ w ∈ l, w ∈ m
  | _, [], _, w, hw => absurd hw List.not_mem_nil
  | [], _ :: _, h, _, _ => by cases h
  | b :: m, a :: l, h, w, hw => by
    unfold subL at h
    by_cases e : a = b
    · rw [if_pos e] at h
      rcases List.mem_cons.mp hw with h1 | h1
      · rw [h1, e]; exact List.mem_cons_self
      · exact List.mem_cons_of_mem _ (subL_in m l h w h1)
    · rw [if_neg e] at h
      exact List.mem_cons_of_mem _ (subL_in m (a :: l) h w hw)
def lsT (k : Nat) : Term := .static (st_c k) (st_n k) (st_d k)
def lsV (k j : Nat) : Value := if k = 5 then .int (st_w 5 j) else .long (st_v k j)
def lsE (k j : Nat) : Term := if k = 5 then .int (st_w 5 j) else .long (st_v k j)
def lsc (k : Nat) : List Cond := .arrayOf (lsT k) (st_t k) :: .eq (.length (lsT k)) (.int (Int32.ofNat (st_l k))) :: (List.range (st_l k)).map (fun j => .eq (.elem (lsT k) (.int (Int32.ofNat j))) (lsE k j))
set_option maxRecDepth 100000 in
theorem ls_i0 : subL (lsc 0) (flatC (Jvm.Cond.and given_1 narrow_1)) = true := by decide +kernel
set_option maxRecDepth 100000 in
theorem ls_i1 : subL (lsc 1) (flatC (Jvm.Cond.and given_1 narrow_1)) = true := by decide +kernel
set_option maxRecDepth 100000 in
theorem ls_i2 : subL (lsc 2) (flatC (Jvm.Cond.and given_1 narrow_1)) = true := by decide +kernel
set_option maxRecDepth 100000 in
theorem ls_i3 : subL (lsc 3) (flatC (Jvm.Cond.and given_1 narrow_1)) = true := by decide +kernel
set_option maxRecDepth 100000 in
theorem ls_i4 : subL (lsc 4) (flatC (Jvm.Cond.and given_1 narrow_1)) = true := by decide +kernel
set_option maxRecDepth 100000 in
theorem ls_i5 : subL (lsc 5) (flatC (Jvm.Cond.and given_1 narrow_1)) = true := by decide +kernel
set_option maxRecDepth 100000 in
theorem ls_i6 : subL (lsc 6) (flatC (Jvm.Cond.and given_1 narrow_1)) = true := by decide +kernel
set_option maxRecDepth 100000 in
theorem ls_i7 : subL (lsc 7) (flatC (Jvm.Cond.and given_1 narrow_1)) = true := by decide +kernel
set_option maxRecDepth 100000 in
theorem ls_i8 : subL (lsc 8) (flatC (Jvm.Cond.and given_1 narrow_1)) = true := by decide +kernel
theorem ls_in : ∀ k, k < 9 → ∀ w ∈ lsc k, w ∈ flatC (Jvm.Cond.and given_1 narrow_1) := fun k hk => by
  rcases (show k = 0 ∨ k = 1 ∨ k = 2 ∨ k = 3 ∨ k = 4 ∨ k = 5 ∨ k = 6 ∨ k = 7 ∨ k = 8 by omega) with rfl | rfl | rfl | rfl | rfl | rfl | rfl | rfl | rfl
  · exact subL_in _ _ ls_i0
  · exact subL_in _ _ ls_i1
  · exact subL_in _ _ ls_i2
  · exact subL_in _ _ ls_i3
  · exact subL_in _ _ ls_i4
  · exact subL_in _ _ ls_i5
  · exact subL_in _ _ ls_i6
  · exact subL_in _ _ ls_i7
  · exact subL_in _ _ ls_i8
theorem ls_ev {args : Array Value} {s : State} {k j : Nat} {t : Term} (h : (Cond.eq t (lsE k j)).before args s = true) : t.eval args s none [] s = some (lsV k j) := by
  unfold lsE at h
  unfold lsV
  by_cases e : k = 5
  · rw [if_pos e] at h ⊢; exact va_eqt h
  · rw [if_neg e] at h ⊢; exact va_eqtl h
theorem st_l31 : ∀ k, k < 9 → st_l k < 2 ^ 31 := by decide +kernel
theorem ls_arr {args : Array Value} {s : State} {k : Nat} (hk : k < 9) (hs : ∀ w ∈ lsc k, w.before args s = true) : ∃ t : Nat, (lsT k).eval args s none [] s = some (.ref t) ∧ va_T (st_t k) t (st_l k) (lsV k) (fun q => s.heap.size ≤ q) s s.heap :=
  va_Tof (st_l31 k hk) (hs _ List.mem_cons_self) (va_eqt (hs _ (List.mem_cons_of_mem _ List.mem_cons_self))) (fun j hj => ls_ev (hs _ (List.mem_cons_of_mem _ (List.mem_cons_of_mem _ (List.mem_map.mpr ⟨j, List.mem_range.mpr hj, rfl⟩))))) (fun a h => Nat.not_le.mpr h)
def ls_g (s : State) : ClassId → FieldType → Prop := fun c t => ∃ k : Class, s.vm.classes[c]? = some k ∧ ∃ comp, k.kind = .array comp t
theorem st_v5 (j : Nat) : st_v 5 j = 0 := rfl
theorem st_wn {k : Nat} (h : k ≠ 5) (j : Nat) : st_w k j = 0 := if_neg h
theorem st_tn : ∀ k, k < 9 → k ≠ 5 → st_t k = .long := by decide +kernel
/-- a table: where it lies, what it holds -/
theorem ls_one {args : Array Value} {s : State} {k cE : Nat} {kE : Class} (hk : k < 9) (hs : ∀ w ∈ lsc k, w.before args s = true) (hc : s.vm.findClass (st_c k) = some cE) (hkE : s.vm.classes[cE]? = some kE) (hl : (Cond.laysStatic (st_c k) (st_n k) (st_d k)).before args s = true) (hini : (Cond.initialized (st_c k)).before args s = true) : ∃ (t a sl : Nat), kE.statics = some a ∧ st_f (st_c k) (st_n k) (st_d k) a sl s ∧ a < s.heap.size ∧ (∃ cell : Cell, s.heap[a]? = some cell ∧ cell.vm.isStatics = true ∧ cell.slots[sl]? = some (.ref t)) ∧ sx_A (ls_g s) (st_t k) s.heap t (st_l k) ∧ t < s.heap.size ∧ ∀ j, j < st_l k → mml (ls_g s) s.heap t j = st_v k j ∧ mmi (ls_g s) s.heap t j = st_w k j := by
  obtain ⟨t, hv, cell, g1, g2, g3, g4, -, g6, -⟩ := ls_arr hk hs
  obtain ⟨c, kf, i, f, a, cl, h1, h2, h3, h4, h5, h6, h7, h8, h9⟩ := Cond.laysStatic_spec hl
  obtain ⟨-, a', cell', ha', hcell', -, hslot⟩ := Term.static_spec h2 hv
  cases h4.symm.trans ha'
  cases h5.symm.trans hcell'
  cases h1.symm.trans hc
  have hk2 := (State.fieldFound?_spec h2).1
  cases hk2.symm.trans hkE
  have hg : ∃ t, ls_g s cell.cls t := ⟨_, g2.2⟩
  refine ⟨t, a, f.slot, h4, ⟨_, _, _, _, h2, h3, Cond.initialized_spec h1 hk2 hini, h4, rfl⟩, (Array.getElem?_eq_some_iff.mp h5).1, ⟨cl, h5, h6, hslot⟩, ⟨cell, g1, g2.2, g2.1, g3, g4, fun j hj => ⟨_, g6 j hj, ?_⟩⟩, (Array.getElem?_eq_some_iff.mp g1).1, fun j hj => ?_⟩
  · unfold lsV
    by_cases e : k = 5
    · subst e
      exact ⟨_, rfl⟩
    · rw [if_neg e, st_tn k hk e]
      exact ⟨_, rfl⟩
  · rw [mml_arr g1 hg, mmi_arr g1 hg, g6 j hj]
    unfold lsV
    by_cases e : k = 5
    · subst e
      exact ⟨rfl, rfl⟩
    · rw [if_neg e, st_wn e]
      exact ⟨rfl, rfl⟩
def ls_w : List Cond := [.isRef (.static Bundle.tN "UNASSIGNED_STACK" Bundle.steD), .isRef (.static Bundle.tN "SUPPRESSED_SENTINEL" Bundle.listD)]
set_option maxRecDepth 100000 in
theorem ls_inw : ∀ w ∈ ls_w, w ∈ flatC (Jvm.Cond.and given_1 narrow_1) := by decide +kernel
def ls_nc : List Cond := [.not (.castable X_S X_A), .not (.castable X_A X_N), .not (.castable X_S X_I)]
set_option maxRecDepth 100000 in
theorem ls_inc : ∀ w ∈ ls_nc, w ∈ flatC (Jvm.Cond.and given_1 narrow_1) := by decide +kernel
theorem nc_of {args : Array Value} {s : State} {a b : String} (h : (Cond.not (.castable a b)).before args s = true) : ∃ c t : ClassId, s.vm.findClass a = some c ∧ s.vm.findClass b = some t ∧ s.vm.assignable c t = false := by
  simp only [Cond.before, Cond.holds, Cond.value] at h
  cases h1 : s.vm.findClass a with
  | none => simp [h1] at h
  | some c =>
    cases h2 : s.vm.findClass b with
    | none => simp [h1, h2] at h
    | some t => exact ⟨c, t, rfl, rfl, by simpa [h1, h2] using h⟩
theorem ls_ws : ∀ w ∈ tx_ws, w ∈ lw_tbl ∨ w ∈ ls_w := by decide +kernel
theorem ls_txt : ∀ q ∈ tx_txt, Cond.stringRef "CurveKeys" q.1 q.2 ∈ lw_tbl := by decide +kernel
theorem ls_nw : (lw_tbl.filter sx_nw).all Cond.onTables = true := by decide +kernel
theorem ls_K {args : Array Value} {s : State} (hts : ∀ w ∈ lw_tbl, w.before args s = true) (hs : ∀ w ∈ flatC (Jvm.Cond.and given_1 narrow_1), w.before args s = true) : tx_K s := by
  have key : ∀ w, (w ∈ lw_tbl ∨ w ∈ ls_w) → w.before args s = true := fun w h => h.elim (hts w) (fun h => hs w (ls_inw w h))
  refine ⟨fun w hw A => tx_heap (u := s) (List.all_eq_true.mp tx_oks w hw) rfl (fun _ _ => rfl) (A := args) (key w (ls_ws w hw)), fun q hq => ?_, fun q hq => ?_⟩
  · have h1 := hts _ (ls_txt q hq)
    have hcur : ∃ cur, s.vm.findClass "CurveKeys" = some cur := by
      have h2 := h1
      simp only [Cond.before, Cond.holds, Cond.value] at h2
      cases hc : s.vm.findClass "CurveKeys" with
      | none => simp [hc] at h2
      | some cur => exact ⟨cur, rfl⟩
    obtain ⟨cur, hcur⟩ := hcur
    obtain ⟨k, cf, i, a, -, -, -, -, -, h3⟩ := Cond.stringRef_spec hcur h1
    exact ⟨a, vk_R.of h1 h3⟩
  · simp only [tx_nc, List.mem_cons, List.not_mem_nil, or_false] at hq
    rcases hq with rfl | rfl | rfl
    · exact nc_of (hs (.not (.castable X_S X_A)) (ls_inc _ (by simp [ls_nc])))
    · exact nc_of (hs (.not (.castable X_A X_N)) (ls_inc _ (by simp [ls_nc])))
    · exact nc_of (hs (.not (.castable X_S X_I)) (ls_inc _ (by simp [ls_nc])))
theorem ls_lay : ∀ k, k < 9 → Cond.laysStatic (st_c k) (st_n k) (st_d k) ∈ lw_tbl ∧ Cond.initialized (st_c k) ∈ lw_tbl := by decide +kernel
set_option maxHeartbeats 4000000 in
theorem ls_start {args : Array Value} {s : State} (hts : ∀ w ∈ lw_tbl, w.before args s = true) (hgv : (Jvm.Cond.and given_1 narrow_1).before args s = true) : ∃ (D : va_G) (ts : Nat → Nat), sx_U D (ls_g s) s ∧ tx_K s ∧ st_H D (ls_g s) (fun q => s.heap.size ≤ q) s.heap ts := by
  have hs := flat_of_before _ hgv
  have hG : ∀ w ∈ G_, w.before args s = true := fun w h => hts w (List.mem_filter.mp h).1
  obtain ⟨c0, i0, k0⟩ := u_known (C := R_M) (T := F_M) (N := 53) (n := 53) hG i_M (hts (.instantiable R_M 53) (by decide +kernel))
  obtain ⟨c1, i1, k1⟩ := u_known (C := R_K) (T := F_K) (N := 12) (n := 12) hG i_K (hts (.instantiable R_K 12) (by decide +kernel))
  obtain ⟨c2, i2, k2⟩ := u_known (C := R_F) (T := F_F) (N := 7) (n := 7) hG i_F (hts (.instantiable R_F 7) (by decide +kernel))
  obtain ⟨c3, i3, k3⟩ := u_known (C := R_La) (T := F_La) (N := 12) (n := 12) hG i_La (hts (.instantiable R_La 12) (by decide +kernel))
  obtain ⟨c4, i4, k4⟩ := u_known (C := R_Pt) (T := F_Pt) (N := 4) (n := 4) hG i_Pt (hts (.instantiable R_Pt 4) (by decide +kernel))
  obtain ⟨c5, i5, k5⟩ := u_known (C := R_Ad) (T := F_Ad) (N := 4) (n := 4) hG i_Ad (hts (.instantiable R_Ad 4) (by decide +kernel))
  obtain ⟨c6, i6, k6⟩ := u_known (C := R_Ed) (T := F_Ed) (N := 15) (n := 15) hG i_Ed (hts (.instantiable R_Ed 15) (by decide +kernel))
  obtain ⟨c7, i7, k7⟩ := u_known (C := R_Ha) (T := F_Ha) (N := 5) (n := 5) hG i_Ha (hts (.instantiable R_Ha 5) (by decide +kernel))
  obtain ⟨c8, i8, k8⟩ := u_known (C := R_Or) (T := F_Or) (N := 1) (n := 1) hG i_Or (hts (.instantiable R_Or 1) (by decide +kernel))
  obtain ⟨c9, i9, k9⟩ := u_known (C := R_Ro) (T := F_Ro) (N := 2) (n := 2) hG i_Ro (hts (.instantiable R_Ro 2) (by decide +kernel))
  obtain ⟨c10, i10, k10⟩ := u_known (C := R_Ke) (T := F_Ke) (N := 5) (n := 5) hG i_Ke (hts (.instantiable R_Ke 5) (by decide +kernel))
  obtain ⟨c11, i11, k11⟩ := u_known (C := R_Si) (T := F_Si) (N := 9) (n := 9) hG i_Si (hts (.instantiable R_Si 9) (by decide +kernel))
  obtain ⟨ccEd, kkEd, hcEd, hkEd, -⟩ := Cond.instantiable_spec (hts (.instantiable R_Ed 15) (by decide +kernel))
  obtain ⟨t0, a0, s0, p0, q0, la0, z0, A0, lt0, v0⟩ := ls_one (k := 0) (by decide) (fun w h => hs w (ls_in 0 (by decide) w h)) hcEd hkEd (hts _ (ls_lay 0 (by decide)).1) (hts _ (ls_lay 0 (by decide)).2)
  obtain ⟨t1, a1, s1, p1, q1, la1, z1, A1, lt1, v1⟩ := ls_one (k := 1) (by decide) (fun w h => hs w (ls_in 1 (by decide) w h)) hcEd hkEd (hts _ (ls_lay 1 (by decide)).1) (hts _ (ls_lay 1 (by decide)).2)
  obtain ⟨t2, a2, s2, p2, q2, la2, z2, A2, lt2, v2⟩ := ls_one (k := 2) (by decide) (fun w h => hs w (ls_in 2 (by decide) w h)) hcEd hkEd (hts _ (ls_lay 2 (by decide)).1) (hts _ (ls_lay 2 (by decide)).2)
  obtain ⟨t3, a3, s3, p3, q3, la3, z3, A3, lt3, v3⟩ := ls_one (k := 3) (by decide) (fun w h => hs w (ls_in 3 (by decide) w h)) hcEd hkEd (hts _ (ls_lay 3 (by decide)).1) (hts _ (ls_lay 3 (by decide)).2)
  obtain ⟨t4, a4, s4, p4, q4, la4, z4, A4, lt4, v4⟩ := ls_one (k := 4) (by decide) (fun w h => hs w (ls_in 4 (by decide) w h)) hcEd hkEd (hts _ (ls_lay 4 (by decide)).1) (hts _ (ls_lay 4 (by decide)).2)
  cases p0.symm.trans p1
  cases p0.symm.trans p2
  cases p0.symm.trans p3
  cases p0.symm.trans p4
  obtain ⟨ccF, kkF, hcF, hkF, -⟩ := Cond.instantiable_spec (hts (.instantiable R_F 7) (by decide +kernel))
  obtain ⟨t5, a5, s5, p5, q5, la5, z5, A5, lt5, v5⟩ := ls_one (k := 5) (by decide) (fun w h => hs w (ls_in 5 (by decide) w h)) hcF hkF (hts _ (ls_lay 5 (by decide)).1) (hts _ (ls_lay 5 (by decide)).2)
  obtain ⟨ccHa, kkHa, hcHa, hkHa, -⟩ := Cond.instantiable_spec (hts (.instantiable R_Ha 5) (by decide +kernel))
  obtain ⟨t6, a6, s6, p6, q6, la6, z6, A6, lt6, v6⟩ := ls_one (k := 6) (by decide) (fun w h => hs w (ls_in 6 (by decide) w h)) hcHa hkHa (hts _ (ls_lay 6 (by decide)).1) (hts _ (ls_lay 6 (by decide)).2)
  obtain ⟨t7, a7, s7, p7, q7, la7, z7, A7, lt7, v7⟩ := ls_one (k := 7) (by decide) (fun w h => hs w (ls_in 7 (by decide) w h)) hcHa hkHa (hts _ (ls_lay 7 (by decide)).1) (hts _ (ls_lay 7 (by decide)).2)
  cases p6.symm.trans p7
  obtain ⟨ccOr, kkOr, hcOr, hkOr, -⟩ := Cond.instantiable_spec (hts (.instantiable R_Or 1) (by decide +kernel))
  obtain ⟨t8, a8, s8, p8, q8, la8, z8, A8, lt8, v8⟩ := ls_one (k := 8) (by decide) (fun w h => hs w (ls_in 8 (by decide) w h)) hcOr hkOr (hts _ (ls_lay 8 (by decide)).1) (hts _ (ls_lay 8 (by decide)).2)
  obtain ⟨-, cKA, -, -, -, -, -, hKA⟩ := Cond.arrayOver_spec (hts (.arrayOver (.object "CurveKeys$Key")) (by decide +kernel))
  refine ⟨(fun k => match k with | 0 => c0 | 1 => c1 | 2 => c2 | 3 => c3 | 4 => c4 | 5 => c5 | 6 => c6 | 7 => c7 | 8 => c8 | 9 => c9 | 10 => c10 | _ => c11, fun k => match k with | 0 => i0 | 1 => i1 | 2 => i2 | 3 => i3 | 4 => i4 | 5 => i5 | 6 => i6 | 7 => i7 | 8 => i8 | 9 => i9 | 10 => i10 | 11 => i11 | 1000 => (fun j => match j with | 0 => a0 | 1 => s0 | 2 => s1 | 3 => s2 | 4 => s3 | _ => s4) | 1001 => (fun j => match j with | 0 => a5 | _ => s5) | 1002 => (fun j => match j with | 0 => a6 | 1 => s6 | _ => s7) | 1003 => (fun j => match j with | 0 => a8 | _ => s8) | 2000 => (fun _ => cKA) | _ => i11), fun j => match j with | 0 => t0 | 1 => t1 | 2 => t2 | 3 => t3 | 4 => t4 | 5 => t5 | 6 => t6 | 7 => t7 | _ => t8, ⟨fun _ _ => Iff.rfl, ⟨?_, fun k q h => by simp at h⟩, ?_, ?_, va_AO.of (hts (.arrayOver (.object "CurveKeys$Addend")) (by decide +kernel)), va_AO.of (hts (.arrayOver (.object "CurveKeys$Key")) (by decide +kernel)), hKA⟩, ls_K hts hs, ?_⟩
  · intro k q hq
    match k, hq with
    | 0, hq => cases hq; exact k0
    | 1, hq => cases hq; exact k1
    | 2, hq => cases hq; exact k2
    | 3, hq => cases hq; exact k3
    | 4, hq => cases hq; exact k4
    | 5, hq => cases hq; exact k5
    | 6, hq => cases hq; exact k6
    | 7, hq => cases hq; exact k7
    | 8, hq => cases hq; exact k8
    | 9, hq => cases hq; exact k9
    | 10, hq => cases hq; exact k10
    | 11, hq => cases hq; exact k11
    | k + 12, hq => simp [classes] at hq
  · intro w hw hn
    exact va_Nw.of (List.all_eq_true.mp ls_nw w (List.mem_filter.mpr ⟨hw, hn⟩)) (hts w hw)
  · intro k hk
    rcases (show k = 0 ∨ k = 1 ∨ k = 2 ∨ k = 3 ∨ k = 4 ∨ k = 5 ∨ k = 6 ∨ k = 7 ∨ k = 8 by omega) with rfl | rfl | rfl | rfl | rfl | rfl | rfl | rfl | rfl
    · exact q0
    · exact q1
    · exact q2
    · exact q3
    · exact q4
    · exact q5
    · exact q6
    · exact q7
    · exact q8
  · intro k hk
    rcases (show k = 0 ∨ k = 1 ∨ k = 2 ∨ k = 3 ∨ k = 4 ∨ k = 5 ∨ k = 6 ∨ k = 7 ∨ k = 8 by omega) with rfl | rfl | rfl | rfl | rfl | rfl | rfl | rfl | rfl
    · exact ⟨Nat.not_le.mpr la0, z0, A0, Nat.not_le.mpr lt0, v0⟩
    · exact ⟨Nat.not_le.mpr la0, z1, A1, Nat.not_le.mpr lt1, v1⟩
    · exact ⟨Nat.not_le.mpr la0, z2, A2, Nat.not_le.mpr lt2, v2⟩
    · exact ⟨Nat.not_le.mpr la0, z3, A3, Nat.not_le.mpr lt3, v3⟩
    · exact ⟨Nat.not_le.mpr la0, z4, A4, Nat.not_le.mpr lt4, v4⟩
    · exact ⟨Nat.not_le.mpr la5, z5, A5, Nat.not_le.mpr lt5, v5⟩
    · exact ⟨Nat.not_le.mpr la6, z6, A6, Nat.not_le.mpr lt6, v6⟩
    · exact ⟨Nat.not_le.mpr la6, z7, A7, Nat.not_le.mpr lt7, v7⟩
    · exact ⟨Nat.not_le.mpr la8, z8, A8, Nat.not_le.mpr lt8, v8⟩
