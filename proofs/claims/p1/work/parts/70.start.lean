/-! THE START: what the Statement gives, in our words -/
def ls_c (n : String) (v : List Int64) : List Cond := .arrayOf (.static R_Ed n "[J") .long :: .eq (.length (.static R_Ed n "[J")) (.int (Int32.ofNat 10)) :: (List.range 10).map (fun j => .eq (.elem (.static R_Ed n "[J") (.int (Int32.ofNat j))) (.long (v.getD j 0)))
def ls_v1 : List Int64 := [45281625, 27714825, 36363642, 13898781, 229458, 15978800, 54557047, 27058993, 29715967, 9444199]
def ls_v2 : List Int64 := [52811034, 25909283, 16144682, 17082669, 27570973, 30858332, 40966398, 8378388, 20764389, 8758491]
def ls_v3 : List Int64 := [40265304, 26843545, 13421772, 20132659, 26843545, 6710886, 53687091, 13421772, 40265318, 26843545]
def ls_w : List Cond := [.isRef (.static Bundle.tN "UNASSIGNED_STACK" Bundle.steD), .isRef (.static Bundle.tN "SUPPRESSED_SENTINEL" Bundle.listD)]
set_option maxRecDepth 100000 in
theorem ls_in1 : ∀ w ∈ ls_c "TWICE_CURVE_D" ls_v1, w ∈ flatC (Jvm.Cond.and given_1 narrow_1) := by decide +kernel
set_option maxRecDepth 100000 in
theorem ls_in2 : ∀ w ∈ ls_c "BASE_X" ls_v2, w ∈ flatC (Jvm.Cond.and given_1 narrow_1) := by decide +kernel
set_option maxRecDepth 100000 in
theorem ls_in3 : ∀ w ∈ ls_c "BASE_Y" ls_v3, w ∈ flatC (Jvm.Cond.and given_1 narrow_1) := by decide +kernel
set_option maxRecDepth 100000 in
theorem ls_inw : ∀ w ∈ ls_w, w ∈ flatC (Jvm.Cond.and given_1 narrow_1) := by decide +kernel
theorem ls_arr {args : Array Value} {s : State} {n : String} {v : List Int64} (hs : ∀ w ∈ ls_c n v, w.before args s = true) : ∃ t : Nat, (Term.static R_Ed n "[J").eval args s none [] s = some (.ref t) ∧ va_T .long t 10 (fun j => .long (v.getD j 0)) (fun q => s.heap.size ≤ q) s s.heap :=
  va_Tof (by decide) (hs _ List.mem_cons_self) (va_eqt (hs _ (List.mem_cons_of_mem _ List.mem_cons_self))) (fun j hj => va_eqtl (hs _ (List.mem_cons_of_mem _ (List.mem_cons_of_mem _ (List.mem_map.mpr ⟨j, List.mem_range.mpr hj, rfl⟩))))) (fun a h => Nat.not_le.mpr h)
def ls_g (s : State) : ClassId → FieldType → Prop := fun c t => ∃ k : Class, s.vm.classes[c]? = some k ∧ ∃ comp, k.kind = .array comp t
theorem ls_A {s : State} {t : Nat} {f : Nat → Value} {v : List Int64} {A : Nat → Prop} (h : va_T .long t 10 (fun j => .long (v.getD j 0)) A s s.heap) : sx_A (ls_g s) .long s.heap t 10 := by
  obtain ⟨cell, h1, h2, h3, h4, -, h6, -⟩ := h
  exact ⟨cell, h1, h2.2, h2.1, h3, h4, fun j hj => ⟨_, h6 j hj, _, rfl⟩⟩
/-- a static field of Edwards: its class's cell and its slot -/
theorem ls_st {args : Array Value} {s : State} {n : String} {t cE : Nat} {kE : Class} (hc : s.vm.findClass R_Ed = some cE) (hk : s.vm.classes[cE]? = some kE) (hl : (Cond.laysStatic R_Ed n "[J").before args s = true) (hini : (Cond.initialized R_Ed).before args s = true) (hv : (Term.static R_Ed n "[J").eval args s none [] s = some (.ref t)) : ∃ (a sl : Nat) (cell : Cell), kE.statics = some a ∧ st_f R_Ed n "[J" a sl s ∧ s.heap[a]? = some cell ∧ cell.vm.isStatics = true ∧ cell.slots[sl]? = some (.ref t) := by
  obtain ⟨c, k, i, f, a, cell, h1, h2, h3, h4, h5, h6, h7, h8, h9⟩ := Cond.laysStatic_spec hl
  obtain ⟨-, a', cell', ha', hcell', -, hslot⟩ := Term.static_spec h2 hv
  cases h4.symm.trans ha'
  cases h5.symm.trans hcell'
  cases h1.symm.trans hc
  have hk2 := (State.fieldFound?_spec h2).1
  cases hk2.symm.trans hk
  exact ⟨a, f.slot, cell, h4, ⟨_, _, _, _, h2, h3, Cond.initialized_spec h1 hk2 hini, h4, rfl⟩, h5, h6, hslot⟩
theorem ls_wA : ∀ w ∈ tx_wA, w ∈ lw_tbl ∨ w ∈ ls_w := by decide +kernel
theorem ls_wI : ∀ w ∈ tx_wI, w ∈ lw_tbl ∨ w ∈ ls_w := by decide +kernel
theorem ls_wN : ∀ w ∈ tx_wN, w ∈ lw_tbl ∨ w ∈ ls_w := by decide +kernel
theorem ls_txt : ∀ q ∈ tx_txt, Cond.stringRef "CurveKeys" q.1 q.2 ∈ lw_tbl := by decide +kernel
theorem ls_nw : (lw_tbl.filter sx_nw).all Cond.onTables = true := by decide +kernel
theorem ls_K {args : Array Value} {s : State} (hts : ∀ w ∈ lw_tbl, w.before args s = true) (hlw : ∀ w ∈ ls_w, w.before args s = true) : tx_K s := by
  have key : ∀ w, (w ∈ lw_tbl ∨ w ∈ ls_w) → w.before args s = true := fun w h => h.elim (hts w) (hlw w)
  refine ⟨fun w hw A => tx_heap (u := s) (List.all_eq_true.mp tx_oks w hw) rfl (fun _ _ => rfl) (A := args) ?_, fun q hq => ?_⟩
  · rcases List.mem_append.mp hw with h | h
    · exact key w (ls_wA w h)
    · rcases List.mem_append.mp h with h | h
      · exact key w (ls_wI w h)
      · exact key w (ls_wN w h)
  · have h1 := hts _ (ls_txt q hq)
    have hcur : ∃ cur, s.vm.findClass "CurveKeys" = some cur := by
      have h2 := h1
      simp only [Cond.before, Cond.holds, Cond.value] at h2
      cases hc : s.vm.findClass "CurveKeys" with
      | none => simp [hc] at h2
      | some cur => exact ⟨cur, rfl⟩
    obtain ⟨cur, hcur⟩ := hcur
    obtain ⟨k, cf, i, a, -, -, -, -, -, h3⟩ := Cond.stringRef_spec hcur h1
    exact ⟨a, vk_R.of h1 h3⟩
set_option maxHeartbeats 4000000 in
theorem ls_start {args : Array Value} {s : State} (hts : ∀ w ∈ lw_tbl, w.before args s = true) (hgv : (Jvm.Cond.and given_1 narrow_1).before args s = true) : ∃ (D : va_G) (ts : Nat → Nat), sx_U D (ls_g s) s ∧ tx_K s ∧ st_H D (ls_g s) (fun q => s.heap.size ≤ q) s.heap ts := by
  have hs := flat_of_before _ hgv
  have hG : ∀ w ∈ G_, w.before args s = true := fun w h => hts w (List.mem_filter.mp h).1
  obtain ⟨c0, i0, k0⟩ := u_known (C := R_M) (T := F_M) (N := 53) (n := 53) hG i_M (hts (.instantiable R_M 53) (by decide +kernel))
  obtain ⟨c1, i1, k1⟩ := u_known (C := R_K) (T := F_K) (N := 12) (n := 12) hG i_K (hts (.instantiable R_K 12) (by decide +kernel))
  obtain ⟨c2, i2, k2⟩ := u_known (C := R_F) (T := F_F) (N := 7) (n := 7) hG i_F (hts (.instantiable R_F 7) (by decide +kernel))
  obtain ⟨c3, i3, k3⟩ := u_known (C := R_La) (T := F_La) (N := 12) (n := 12) hG i_La (hts (.instantiable R_La 12) (by decide +kernel))
  obtain ⟨c4, i4, k4⟩ := u_known (C := R_Pt) (T := F_Pt) (N := 4) (n := 4) hG i_Pt (hts (.instantiable R_Pt 4) (by decide +kernel))
  obtain ⟨c5, i5, k5⟩ := u_known (C := R_Ad) (T := F_Ad) (N := 4) (n := 4) hG i_Ad (hts (.instantiable R_Ad 4) (by decide +kernel))
  obtain ⟨c6, i6, k6⟩ := u_known (C := R_Ed) (T := F_Ed) (N := 15) (n := 15) hG i_Ed (hts (.instantiable R_Ed 15) (by decide +kernel))
  obtain ⟨c7, i7, k7⟩ := u_known (C := R_Ha) (T := F_Ha) (N := 5) (n := 5) hG i_Ha (hts (.instantiable R_Ha 5) (by decide +kernel))
  obtain ⟨c8, i8, k8⟩ := u_known (C := R_Or) (T := F_Or) (N := 1) (n := 1) hG i_Or (hts (.instantiable R_Or 1) (by decide +kernel))
  obtain ⟨c9, i9, k9⟩ := u_known (C := R_Ro) (T := F_Ro) (N := 2) (n := 2) hG i_Ro (hts (.instantiable R_Ro 2) (by decide +kernel))
  obtain ⟨c10, i10, k10⟩ := u_known (C := R_Ke) (T := F_Ke) (N := 5) (n := 5) hG i_Ke (hts (.instantiable R_Ke 5) (by decide +kernel))
  obtain ⟨c11, i11, k11⟩ := u_known (C := R_Si) (T := F_Si) (N := 9) (n := 9) hG i_Si (hts (.instantiable R_Si 9) (by decide +kernel))
  obtain ⟨t1, ev1, hT1⟩ := ls_arr (args := args) (s := s) (n := "TWICE_CURVE_D") (v := ls_v1) (fun w h => hs w (ls_in1 w h))
  obtain ⟨t2, ev2, hT2⟩ := ls_arr (args := args) (s := s) (n := "BASE_X") (v := ls_v2) (fun w h => hs w (ls_in2 w h))
  obtain ⟨t3, ev3, hT3⟩ := ls_arr (args := args) (s := s) (n := "BASE_Y") (v := ls_v3) (fun w h => hs w (ls_in3 w h))
  obtain ⟨cE, kE, hcE, hkE, -⟩ := Cond.instantiable_spec (hts (.instantiable R_Ed 15) (by decide +kernel))
  obtain ⟨a1, s1, e1, p1, q1, r1, u1, v1⟩ := ls_st hcE hkE (hts (.laysStatic R_Ed "TWICE_CURVE_D" "[J") (by decide +kernel)) (hts (.initialized R_Ed) (by decide +kernel)) ev1
  obtain ⟨a2, s2, e2, p2, q2, r2, u2, v2⟩ := ls_st hcE hkE (hts (.laysStatic R_Ed "BASE_X" "[J") (by decide +kernel)) (hts (.initialized R_Ed) (by decide +kernel)) ev2
  obtain ⟨a3, s3, e3, p3, q3, r3, u3, v3⟩ := ls_st hcE hkE (hts (.laysStatic R_Ed "BASE_Y" "[J") (by decide +kernel)) (hts (.initialized R_Ed) (by decide +kernel)) ev3
  cases p1.symm.trans p2
  cases p1.symm.trans p3
  cases r1.symm.trans r2
  cases r1.symm.trans r3
  refine ⟨(fun k => match k with | 0 => c0 | 1 => c1 | 2 => c2 | 3 => c3 | 4 => c4 | 5 => c5 | 6 => c6 | 7 => c7 | 8 => c8 | 9 => c9 | 10 => c10 | _ => c11, fun k => match k with | 0 => i0 | 1 => i1 | 2 => i2 | 3 => i3 | 4 => i4 | 5 => i5 | 6 => i6 | 7 => i7 | 8 => i8 | 9 => i9 | 10 => i10 | 11 => i11 | 1000 => (fun j => match j with | 0 => a1 | 1 => s1 | 2 => s2 | _ => s3) | _ => i11), fun j => match j with | 1 => t1 | 2 => t2 | _ => t3, ⟨fun _ _ => Iff.rfl, ⟨?_, fun k q h => by simp at h⟩, ?_, q1, q2, q3, va_AO.of (hts (.arrayOver (.object "CurveKeys$Addend")) (by decide +kernel)), va_AO.of (hts (.arrayOver (.object "CurveKeys$Key")) (by decide +kernel))⟩, ls_K hts (fun w h => hs w (ls_inw w h)), Nat.not_le.mpr (Array.getElem?_eq_some_iff.mp r1).1, ⟨e1, r1, u1, v1, v2, v3⟩, ls_A (f := fun _ => .null) hT1, ls_A (f := fun _ => .null) hT2, ls_A (f := fun _ => .null) hT3⟩
  · intro k q hq
    match k, hq with
    | 0, hq => cases hq; exact k0
    | 1, hq => cases hq; exact k1
    | 2, hq => cases hq; exact k2
    | 3, hq => cases hq; exact k3
    | 4, hq => cases hq; exact k4
    | 5, hq => cases hq; exact k5
    | 6, hq => cases hq; exact k6
    | 7, hq => cases hq; exact k7
    | 8, hq => cases hq; exact k8
    | 9, hq => cases hq; exact k9
    | 10, hq => cases hq; exact k10
    | 11, hq => cases hq; exact k11
    | k + 12, hq => simp [classes] at hq
  · intro w hw hn
    exact va_Nw.of (List.all_eq_true.mp ls_nw w (List.mem_filter.mpr ⟨hw, hn⟩)) (hts w hw)
