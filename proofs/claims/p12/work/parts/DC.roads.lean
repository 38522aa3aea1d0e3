/-! one call of the law, for the parts that compare message's answers alone -/
def JU (l : Launch) (D : va_G) (g : ClassId → FieldType → Prop) (kq : Nat → Nat → Nat) (ts : Nat → Nat) (x kA re ve ou o a0 a1 a3 cap : Nat) (r : Nat → Nat) (H : Heap) (yL : MethodName) (bL : ByteArray) (mL : Nat) (hh : List (Nat × Nat × Nat × Nat)) (vs : List Value) (yM : MethodName) (bM : ByteArray) (mM : Nat) (rt : Option FieldType) (us : List Value) : Prop :=
  ∃ k : Nat, CStep l D g yL bL mL hh vs H ou a0 a1 a3 k cap (fun c H1 => ∃ V : Int32, DStep l D g yM bM mM rt us H1 V (mE o r) (fun H2 => RelE D g kq ts x kA re ve ou o a0 a1 a3 c r H2))
def JV (l : Launch) (D : va_G) (g : ClassId → FieldType → Prop) (kq : Nat → Nat → Nat) (ts : Nat → Nat) (x kA re ve ou o a0 a1 a3 cap : Nat) (r : Nat → Nat) (H : Heap) (yL : MethodName) (bL : ByteArray) (mL : Nat) (hh : List (Nat × Nat × Nat × Nat)) (vs : List Value) (yM : MethodName) (bM : ByteArray) (mM : Nat) (us : List Value) : Prop :=
  ∃ k : Nat, CStep l D g yL bL mL hh vs H ou a0 a1 a3 k cap (fun c H1 => DStepV l D g yM bM mM us H1 (mE o r) (fun H2 => RelE D g kq ts x kA re ve ou o a0 a1 a3 c r H2))
section JNU
variable {l : Launch} {D : va_G} {g : ClassId → FieldType → Prop} {kq : Nat → Nat → Nat} {ts : Nat → Nat} {x kA re ve ou o a0 a1 a3 cap : Nat} {r : Nat → Nat} {th : Int32} {tl ml rl kc : Nat} {tp ms rs : Nat → Int32} {ks : Nat → Nat → Int32} {H H1 : Heap}
theorem Jnt.u {C : Prop} {yL : MethodName} {bL : ByteArray} {mL : Nat} {hh : List (Nat × Nat × Nat × Nat)} {vs : List Value} {yM : MethodName} {bM : ByteArray} {mM : Nat} {rt : Option FieldType} {us : List Value} (h : Jnt C l D g kq ts x kA re ve ou o a0 a1 a3 cap r H yL bL mL hh vs yM bM mM rt us) : JU l D g kq ts x kA re ve ou o a0 a1 a3 cap r H yL bL mL hh vs yM bM mM rt us := by
  obtain ⟨k, V, h⟩ := h
  refine ⟨k, h.to (fun c H1 hR _ => ?_)⟩
  obtain ⟨w, _, _, hd⟩ := hR
  refine ⟨V, hd.to (fun H2 h2 _ => ?_)⟩
  obtain ⟨⟨tl, ml, rl, kc, tp, ms, rs, ks, h3⟩, _⟩ := h2
  exact ⟨_, tl, ml, rl, kc, tp, ms, rs, ks, h3⟩
theorem JntB.u {yL : MethodName} {bL : ByteArray} {mL : Nat} {hh : List (Nat × Nat × Nat × Nat)} {vs : List Value} {yM : MethodName} {bM : ByteArray} {mM : Nat} {rt : Option FieldType} {us : List Value} (h : JntB l D g kq ts x kA re ve ou o a0 a1 a3 cap r H yL bL mL hh vs yM bM mM rt us) : JU l D g kq ts x kA re ve ou o a0 a1 a3 cap r H yL bL mL hh vs yM bM mM rt us := by
  obtain ⟨k, V, _, h⟩ := h
  exact Jnt.u (C := True) ⟨k, V, h⟩
theorem JntV.u {yL : MethodName} {bL : ByteArray} {mL : Nat} {hh : List (Nat × Nat × Nat × Nat)} {vs : List Value} {yM : MethodName} {bM : ByteArray} {mM : Nat} {us : List Value} (h : JntV l D g kq ts x kA re ve ou o a0 a1 a3 cap r H yL bL mL hh vs yM bM mM us) : JV l D g kq ts x kA re ve ou o a0 a1 a3 cap r H yL bL mL hh vs yM bM mM us := by
  obtain ⟨k, h⟩ := h
  refine ⟨k, h.to (fun c H1 hd _ => hd.to (fun H2 h2 _ => ?_))⟩
  obtain ⟨tl, ml, rl, kc, tp, ms, rs, ks, h3⟩ := h2
  exact ⟨_, tl, ml, rl, kc, tp, ms, rs, ks, h3⟩
theorem j_verify (htr : l.stackTraces = false) (hx : Cxt D kq ts ou o a0 a1 a3 r) (hR : Rel D g kq ts x kA re ve ou o a0 a1 a3 cap r th tl ml rl kc tp ms rs ks H) : JU l D g kq ts x kA re ve ou o a0 a1 a3 cap r H y_L_verify b_L_verify 3 hh_L_verify [.ref x, .ref ou] y_M_verify b_M_verify 2 (some .int) [.ref o] := by
  obtain ⟨hk, hm, ok, w0, hl⟩ := hR
  obtain ⟨o1, o2, o3, o4, o5, o6, o7, o8⟩ := id ok
  by_cases ht : tl = 96
  · refine ⟨0, (s_verify_a hk hx.1 ok hl hx.2.2.2.1 hx.2.2.2.2.1 ht).to (fun c H1 hR hE => ?_)⟩
    obtain ⟨h1, w, h2⟩ := hR
    refine ⟨_, (n_verify_a (ms_c hx hm hE) ok hx.2.1 ht).to (fun H2 h4 hJ => ?_)⟩
    exact ⟨_, 0, ml, rl, kc, tp, ms, rs, ks, ks_m hx h1 hJ, h4, ⟨by omega, o2, o3, o4, fun j hj => absurd hj (Nat.not_lt_zero j), o6, o7, o8⟩, w, h2.j hJ hx.2.2.2.2.2⟩
  · exact (jn (C := False) hx hm ok (csx (s_verify_x htr hk hx.1 ok hl hx.2.2.2.1 ht) (fun h => h.elim)) (fun H1 h => n_verify_b h ok hx.2.1 ht)).u
/-- the answers of message are compared -/
theorem j_message (hx : Cxt D kq ts ou o a0 a1 a3 r) (hR : Rel D g kq ts x kA re ve ou o a0 a1 a3 cap r th tl ml rl kc tp ms rs ks H) : ∃ V : Int32, DStep l D g y_K_message b_K_message 2 (some .int) [.ref x] H V (CZ a0 a1 a3) (fun H1 => DStep l D g y_M_message b_M_message 2 (some .int) [.ref o] H1 V (mE o r) (fun H2 => RelE D g kq ts x kA re ve ou o a0 a1 a3 cap r H2)) := by
  obtain ⟨hk, hm, ok, w0, hl⟩ := hR
  obtain ⟨o1, o2, o3, o4, o5, o6, o7, o8⟩ := id ok
  refine ⟨nI tl, (s_message hk hx.1).to (fun H1 h1 hJ1 => ?_)⟩
  refine (n_message (ms_c hx hm ⟨_, fun z h => Or.inl h, hJ1⟩) ok hx.2.1).to (fun H2 h4 hJ => ?_)
  exact ⟨_, 0, tl, rl, kc, tp, tp, rs, ks, ks_m hx h1 hJ, h4, ⟨by omega, o1, o3, o4, fun j hj => absurd hj (Nat.not_lt_zero j), o5, o7, o8⟩, w0, (hl.j hJ1 hx.2.2.2.1).j hJ hx.2.2.2.2.2⟩
theorem j_count (hx : Cxt D kq ts ou o a0 a1 a3 r) (hR : Rel D g kq ts x kA re ve ou o a0 a1 a3 cap r th tl ml rl kc tp ms rs ks H) (u : Int32) : ∃ V : Int32, DStep l D g y_K_count b_K_count 2 (some .int) [.ref x, .int u] H V (CZ a0 a1 a3) (fun H1 => ∃ V' : Int32, DStep l D g y_M_count b_M_count 2 (some .int) [.ref o, .int u] H1 V' (mE o r) (fun H2 => RelE D g kq ts x kA re ve ou o a0 a1 a3 cap r H2)) := by
  obtain ⟨hk, hm, ok, w0, hl⟩ := hR
  obtain ⟨V, hs⟩ := s_count (l := l) hk hx.1 u
  refine ⟨V, hs.to (fun H1 h1 hJ1 => ?_)⟩
  obtain ⟨V', hn⟩ := n_count (l := l) (ms_c hx hm ⟨_, fun z h => Or.inl h, hJ1⟩) ok hx.2.1 u
  refine ⟨V', hn.to (fun H2 h4 hJ => ?_)⟩
  exact ⟨_, tl, ml, rl, kc, tp, ms, rs, ks, ks_m hx h1 hJ, h4, ok, w0, (hl.j hJ1 hx.2.2.2.1).j hJ hx.2.2.2.2.2⟩
end JNU
