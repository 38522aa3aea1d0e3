/-! frames of the class's arrays, of both kinds -/
def kin (q : Nat × Nat) : Bool := Nat.blt q.1 48 && Nat.blt q.2 16 && ((q.1 == 0 && Nat.blt q.2 7) || (q.1 == 1 && Nat.ble 1 q.2 && Nat.blt q.2 12) || (q.1 == 2 && Nat.ble 5 q.2 && Nat.blt q.2 15) || ((q.1 == 3 || q.1 == 4) && Nat.blt q.2 4) || (q.1 == 5 && Nat.blt q.2 3) || (q.1 == 6 && q.2 == 0) || (q.1 == 7 && Nat.ble 3 q.2 && Nat.blt q.2 9) || (Nat.ble 16 q.1 && Nat.blt q.2 4))
theorem kin_0 : ∀ c, c < 48 → ∀ k, k < 16 → (!kin (c, k) || kc_ix.contains (c, k)) = true := by decide +kernel
theorem kin_ix {q : Nat × Nat} (h : kin q = true) : q ∈ kc_ix := by
  obtain ⟨c, k⟩ := q
  have h' := h
  unfold kin at h'
  rw [Bool.and_eq_true, Bool.and_eq_true] at h'
  have e := kin_0 c (by simpa using h'.1.1) k (by simpa using h'.1.2)
  rw [h] at e
  simpa using e
def kne (a b : Nat × Nat) : Bool := kin a && kin b && !(a.1 == b.1 && a.2 == b.2)
theorem KInj.ne {kq : Nat → Nat → Nat} (hI : KInj kq) {a b : Nat × Nat} (h : kne a b = true) : kq a.1 a.2 ≠ kq b.1 b.2 := fun e => by
  unfold kne at h
  rw [Bool.and_eq_true, Bool.and_eq_true] at h
  have := hI a (kin_ix h.1.1) b (kin_ix h.1.2) e
  rw [this] at h
  simp at h
def knl (a : Nat × Nat) (l : List (Nat × Nat)) : Bool := l.all (fun q => kne a q)
theorem KInj.ni {kq : Nat → Nat → Nat} (hI : KInj kq) {a : Nat × Nat} {l : List (Nat × Nat)} (h : knl a l = true) : kq a.1 a.2 ∉ l.map (fun q => kq q.1 q.2) := fun hm => by
  obtain ⟨q, hq, e⟩ := List.mem_map.mp hm
  exact hI.ne (List.all_eq_true.mp h q hq) e.symm
/-- an array that is none of the class's inner ones -/
def Out (kq : Nat → Nat → Nat) (a : Nat) : Prop := ∀ q ∈ kc_ix, a ≠ kq q.1 q.2
theorem Out.ni {kq : Nat → Nat → Nat} {a : Nat} (h : Out kq a) {l : List (Nat × Nat)} (hl : l.all kin = true) : a ∉ l.map (fun q => kq q.1 q.2) := fun hm => by
  obtain ⟨q, hq, e⟩ := List.mem_map.mp hm
  exact h q (kin_ix (List.all_eq_true.mp hl q hq)) e.symm
/-- Y is X but for the arrays of S -/
def onW (S : List Nat) (X Y : vM) : Prop := ∀ b, b ∉ S → Y.1 b = X.1 b ∧ Y.2 b = X.2 b
theorem onW.rf {S : List Nat} {X : vM} : onW S X X := fun _ _ => ⟨rfl, rfl⟩
theorem onW.tr {S : List Nat} {X Y Z : vM} (h : onW S X Y) (k : onW S Y Z) : onW S X Z := fun b hb => ⟨(k b hb).1.trans (h b hb).1, (k b hb).2.trans (h b hb).2⟩
theorem onW.mono {S T : List Nat} {X Y : vM} (h : onW S X Y) (hs : ∀ x ∈ S, x ∈ T) : onW T X Y := fun b hb => h b (fun z => hb (hs b z))
theorem onW.of {S : List Nat} {X Y : vM} (h : onL S X Y) : onW S X Y := fun b hb => ⟨h.2 b hb, congrFun h.1 b⟩
def onK (kq : Nat → Nat → Nat) (l : List (Nat × Nat)) (X Y : vM) : Prop := onW (l.map (fun q => kq q.1 q.2)) X Y
theorem onK.rf {kq : Nat → Nat → Nat} {l : List (Nat × Nat)} {X : vM} : onK kq l X X := onW.rf
theorem onK.tr {kq : Nat → Nat → Nat} {l : List (Nat × Nat)} {X Y Z : vM} (h : onK kq l X Y) (k : onK kq l Y Z) : onK kq l X Z := onW.tr h k
theorem onK.of {kq : Nat → Nat → Nat} {l : List (Nat × Nat)} {X Y : vM} (h : onL (l.map (fun q => kq q.1 q.2)) X Y) : onK kq l X Y := onW.of h
def ksub (l m : List (Nat × Nat)) : Bool := l.all (fun q => m.any (fun p => p.1 == q.1 && p.2 == q.2))
theorem onK.mono {kq : Nat → Nat → Nat} {l m : List (Nat × Nat)} {X Y : vM} (h : onK kq l X Y) (hs : ksub l m = true) : onK kq m X Y := onW.mono h (fun x hx => by
  obtain ⟨q, hq, e⟩ := List.mem_map.mp hx
  obtain ⟨p, hp, hpe⟩ := List.any_eq_true.mp (List.all_eq_true.mp hs q hq)
  rw [Bool.and_eq_true] at hpe
  refine List.mem_map.mpr ⟨p, hp, ?_⟩
  rw [← e, eq_of_beq hpe.1, eq_of_beq hpe.2])
theorem onK.ad {kq : Nat → Nat → Nat} {l m : List (Nat × Nat)} {X Y Z : vM} (h : onK kq m X Y) (k : onK kq l Y Z) (hs : ksub l m = true) : onK kq m X Z := h.tr (k.mono hs)
theorem onK.at {kq : Nat → Nat → Nat} {l : List (Nat × Nat)} {X Y : vM} (hI : KInj kq) (h : onK kq l X Y) (c k : Nat) (hc : knl (c, k) l = true) : Y.1 (kq c k) = X.1 (kq c k) ∧ Y.2 (kq c k) = X.2 (kq c k) := h _ (hI.ni hc)
theorem onK.ou {kq : Nat → Nat → Nat} {l : List (Nat × Nat)} {X Y : vM} {a : Nat} (h : onK kq l X Y) (ho : Out kq a) (hc : l.all kin = true) : Y.1 a = X.1 a ∧ Y.2 a = X.2 a := h _ (ho.ni hc)
theorem Fe.mv {X Y : vM} {b : Nat} {n : Int} {v : Fp} (k : Fe X b n v) (e : Y.1 b = X.1 b) : Fe Y b n v := by
  obtain ⟨Z, h1, h2⟩ := k
  exact ⟨Z, fun i hi => (congrFun e i).trans (h1 i hi), h2⟩
theorem Fe.k {kq : Nat → Nat → Nat} {l : List (Nat × Nat)} {X Y : vM} {c k : Nat} {n : Int} {v : Fp} (h : Fe X (kq c k) n v) (hI : KInj kq) (o : onK kq l X Y) (hc : knl (c, k) l = true) : Fe Y (kq c k) n v := h.mv (o.at hI c k hc).1
theorem Fe.o {kq : Nat → Nat → Nat} {l : List (Nat × Nat)} {X Y : vM} {a : Nat} {n : Int} {v : Fp} (h : Fe X a n v) (ho : Out kq a) (o : onK kq l X Y) (hc : l.all kin = true) : Fe Y a n v := h.mv (o.ou ho hc).1
/-! bytes -/
theorem by8_256 (z : Int) : by8 z = by8 (z % 256) := by8_mod (by omega)
theorem by8_n (z : Int) : ∃ n : Nat, n < 256 ∧ z % 256 = (n : Int) ∧ by8 z = by8 (n : Int) := by
  obtain ⟨n, hn⟩ : ∃ n : Nat, z % 256 = (n : Int) := ⟨(z % 256).toNat, by omega⟩
  exact ⟨n, by omega, hn, by rw [by8_256, hn]⟩
theorem ub_by8n : ∀ n : Nat, n < 256 → ub (by8 (n : Int)) = n := by decide +kernel
theorem ub_by8 (z : Int) : ((ub (by8 z) : Nat) : Int) = z % 256 := by
  obtain ⟨n, h1, h2, h3⟩ := by8_n z
  rw [h3, ub_by8n n h1, h2]
theorem by8_inj {m n : Int} (h : by8 m = by8 n) : m % 256 = n % 256 := by rw [← ub_by8, ← ub_by8, h]
/-- a value that a byte can have -/
def isB (x : Int32) : Prop := x = by8 (ub x : Int)
theorem isB_by8 (z : Int) : isB (by8 z) := by
  unfold isB
  rw [ub_by8, ← by8_256]
theorem isB_inj {x y : Int32} (hx : isB x) (hy : isB y) (h : ub x = ub y) : x = y := by
  unfold isB at hx hy
  rw [hx, hy, h]
theorem leN_by8 (N : Nat) : ∀ n, leN (fun j => by8 ((N : Int) / 256 ^ j)) n = N % 256 ^ n
  | 0 => (Nat.mod_one N).symm
  | n + 1 => by
    have e : ((ub (by8 ((N : Int) / 256 ^ n)) : Nat) : Int) = ((N / 256 ^ n % 256 : Nat) : Int) := by
      rw [ub_by8, Int.natCast_emod, Int.natCast_ediv, Int.natCast_pow]
      rfl
    show leN (fun j => by8 ((N : Int) / 256 ^ j)) n + ub (by8 ((N : Int) / 256 ^ n)) * 256 ^ n = _
    rw [leN_by8 N n, Int.ofNat_inj.mp e, Nat.mod_pow_succ, Nat.mul_comm]
theorem leN_inj {f g : Nat → Int32} : ∀ n, leN f n = leN g n → ∀ j, j < n → ub (f j) = ub (g j)
  | 0, _, j, hj => absurd hj (Nat.not_lt_zero j)
  | n + 1, h, j, hj => by
    have h' : leN f n + ub (f n) * 256 ^ n = leN g n + ub (g n) * 256 ^ n := h
    have hf := leN_lt f n
    have hg := leN_lt g n
    have e1 : ub (f n) = ub (g n) := by
      have h2 : (leN f n + ub (f n) * 256 ^ n) / 256 ^ n = (leN g n + ub (g n) * 256 ^ n) / 256 ^ n := by rw [h']
      have hp : 0 < 256 ^ n := Nat.pow_pos (by decide)
      rwa [Nat.add_mul_div_right _ _ hp, Nat.add_mul_div_right _ _ hp, Nat.div_eq_of_lt hf, Nat.div_eq_of_lt hg, Nat.zero_add, Nat.zero_add] at h2
    by_cases hn : j = n
    · rw [hn]; exact e1
    · rw [e1] at h'
      exact leN_inj n (Nat.add_right_cancel h') j (by omega)
theorem lp_or (f : Nat → Int32) : ∀ (n i : Nat) (s : Int32), (lpU 1 (fun i s => s ||| f i) n i s = 0) ↔ (s = 0 ∧ ∀ j, j < n → f (i + j) = 0)
  | 0, i, s => ⟨fun h => ⟨h, fun j hj => absurd hj (Nat.not_lt_zero j)⟩, fun h => h.1⟩
  | n + 1, i, s => by
    show lpU 1 (fun i s => s ||| f i) n (i + 1) (s ||| f i) = 0 ↔ _
    rw [lp_or f n (i + 1) (s ||| f i), Int32.or_eq_zero_iff]
    constructor
    · rintro ⟨⟨h1, h2⟩, h3⟩
      refine ⟨h1, fun j hj => ?_⟩
      by_cases h0 : j = 0
      · rw [h0]; exact h2
      · have := h3 (j - 1) (by omega)
        rwa [show i + 1 + (j - 1) = i + j by omega] at this
    · rintro ⟨h1, h2⟩
      refine ⟨⟨h1, h2 0 (by omega)⟩, fun j hj => ?_⟩
      have := h2 (j + 1) (by omega)
      rwa [show i + (j + 1) = i + 1 + j by omega] at this
theorem k_zero {X : vM} {a V : Nat} (hb : ∀ j, j < 32 → X.2 a j = by8 ((V : Int) / 256 ^ j)) (hV : V < 256 ^ 32) : LF_K_isZeroStart X a = decide (V = 0) := by
  have h := lp_or (fun j => X.2 a j) 32 0 (nI 0)
  have e : LF_K_isZeroStart X a = decide (lpU 1 (fun i s => s ||| X.2 a i) 32 0 (nI 0) = 0) := by
    show (if lpU 1 (fun i s => s ||| X.2 a i) 32 0 (nI 0) = 0 then true else false) = _
    by_cases hc : lpU 1 (fun i s => s ||| X.2 a i) 32 0 (nI 0) = 0
    · rw [if_pos hc, decide_eq_true hc]
    · rw [if_neg hc, decide_eq_false hc]
  rw [e]
  refine decide_eq_decide.mpr (h.trans ?_)
  constructor
  · rintro ⟨-, h2⟩
    have q := leN_ext (f := fun j => by8 ((V : Int) / 256 ^ j)) (g := fun _ => (0 : Int32)) 32 (fun j hj => by
      rw [← hb j hj]
      have := h2 j hj
      rwa [Nat.zero_add] at this)
    rw [leN_by8, Nat.mod_eq_of_lt hV] at q
    rw [q]
    decide
  · rintro rfl
    refine ⟨rfl, fun j hj => ?_⟩
    rw [Nat.zero_add, hb j hj, Int.natCast_zero, Int.zero_ediv]
    rfl
theorem k_same {X : vM} {a b : Nat} (ha : ∀ j, j < 32 → isB (X.2 a j)) (hb : ∀ j, j < 32 → isB (X.2 b j)) : LF_K_isSameStart X a b = decide (leN (X.2 a) 32 = leN (X.2 b) 32) := by
  have h := lp_or (fun j => X.2 a j ^^^ X.2 b j) 32 0 (nI 0)
  have e : LF_K_isSameStart X a b = decide (lpU 1 (fun i s => s ||| (X.2 a i ^^^ X.2 b i)) 32 0 (nI 0) = 0) := by
    show (if lpU 1 (fun i s => s ||| (X.2 a i ^^^ X.2 b i)) 32 0 (nI 0) = 0 then true else false) = _
    by_cases hc : lpU 1 (fun i s => s ||| (X.2 a i ^^^ X.2 b i)) 32 0 (nI 0) = 0
    · rw [if_pos hc, decide_eq_true hc]
    · rw [if_neg hc, decide_eq_false hc]
  rw [e]
  refine decide_eq_decide.mpr (h.trans ?_)
  constructor
  · rintro ⟨-, h2⟩
    refine leN_ext 32 (fun j hj => ?_)
    have := h2 j hj
    rw [Nat.zero_add] at this
    exact Int32.xor_eq_zero_iff.mp this
  · intro q
    refine ⟨rfl, fun j hj => ?_⟩
    rw [Nat.zero_add]
    exact Int32.xor_eq_zero_iff.mpr (isB_inj (ha j hj) (hb j hj) (leN_inj 32 q j hj))
/-! a number and a bit above it -/
theorem or_top : ∀ a : Nat, a < 128 → ∀ s : Nat, s < 2 → ((by8 (a : Int) ||| by8 ((128 * s : Nat) : Int)).toInt8.toInt32).toInt8.toInt32 = by8 ((a + 128 * s : Nat) : Int) := by decide +kernel
theorem an_top : ∀ n : Nat, n < 256 → ((by8 (n : Int)) &&& nI 128).toInt8.toInt32 = by8 ((128 * (n / 128) : Nat) : Int) := by decide +kernel
theorem sh_top : ∀ n : Nat, n < 256 → ((by8 (n : Int)) <<< ((nI 7) &&& 31)).toInt8.toInt32 = by8 ((128 * (n % 2) : Nat) : Int) := by decide +kernel
theorem an_one : ∀ n : Nat, n < 256 → (by8 (n : Int)) &&& nI 1 = nI (n % 2) := by decide +kernel
theorem tp_j : ∀ j : Nat, j < 31 → (57896044618658097711785492504343953926634992332820282019728792003956564819968 : Int) = (2 : Int) ^ (247 - 8 * j) * 256 * 256 ^ j := by decide +kernel
theorem tp_by {V s j : Nat} (hj : j < 31) : by8 ((V : Int) / 256 ^ j) = by8 (((V + 57896044618658097711785492504343953926634992332820282019728792003956564819968 * s : Nat) : Int) / 256 ^ j) := by
  refine wr_by (T := (s : Int)) (c := 2 ^ (247 - 8 * j)) ?_ (Int.pow_pos (by decide))
  rw [← tp_j j hj, Int.natCast_add, Int.natCast_mul, Int.mul_comm]
  rfl
theorem tp_31 {V s : Nat} (hV : V < 57896044618658097711785492504343953926634992332820282019728792003956564819968) : ((V + 57896044618658097711785492504343953926634992332820282019728792003956564819968 * s : Nat) : Int) / 256 ^ 31 = ((V / 256 ^ 31 + 128 * s : Nat) : Int) := by
  rw [show (256 : Int) ^ 31 = ((256 ^ 31 : Nat) : Int) from by decide, ← Int.natCast_ediv]
  congr 1
  rw [show 57896044618658097711785492504343953926634992332820282019728792003956564819968 * s = 256 ^ 31 * (128 * s) from by rw [← Nat.mul_assoc], Nat.add_mul_div_left _ _ (Nat.pow_pos (by decide))]
theorem tp_lt {V : Nat} (hV : V < 57896044618658097711785492504343953926634992332820282019728792003956564819968) : V / 256 ^ 31 < 128 := Nat.div_lt_of_lt_mul (Nat.lt_of_lt_of_eq hV (by decide))
theorem le_top (f : Nat → Int32) : leN f 32 / 57896044618658097711785492504343953926634992332820282019728792003956564819968 = ub (f 31) / 128 := by
  have h := leN_lt f 31
  show (leN f 31 + ub (f 31) * 256 ^ 31) / 57896044618658097711785492504343953926634992332820282019728792003956564819968 = _
  generalize leN f 31 = L at *
  generalize ub (f 31) = U at *
  rw [show (256 : Nat) ^ 31 = 452312848583266388373324160190187140051835877600158453279131187530910662656 from by decide] at *
  omega
/-- writing into an array of the class, or into another -/
theorem fe_wr {X : vM} {kq : Nat → Nat → Nat} {ts : Nat → Nat} {to f : Nat} {n : Int} {v : Fp} (hf : Fe X f n v) (hn : n ≤ 16) : onW [kq 0 6, to] X (LF_F_write X kq ts to f) ∧ (LF_F_write X kq ts to f).1 to = (if to = kq 0 6 then (LF_F_write X kq ts to f).1 to else X.1 to) ∧ ∀ j, j < 32 → (LF_F_write X kq ts to f).2 to j = by8 ((v.val : Int) / 256 ^ j) := by
  obtain ⟨t, e⟩ := fe_write (kq := kq) (ts := ts) (to := to) hf hn
  rw [e]
  refine ⟨fun b hb => ⟨funext fun k => ?_, funext fun k => ?_⟩, ?_, fun j hj => if_pos ⟨rfl, hj⟩⟩
  · exact svL_ne X (kq 0 6) 10 t (fun z => hb (by rw [z]; exact List.mem_cons_self)) k
  · exact if_neg (fun z => hb (by rw [z.1]; exact List.mem_cons_of_mem _ List.mem_cons_self))
  · by_cases h : to = kq 0 6
    · rw [if_pos h]
    · rw [if_neg h]
      exact funext fun k => svL_ne X (kq 0 6) 10 t h k
theorem st_onI {X : vM} {a j : Nat} {v : Int32} {S : List Nat} (hs : a ∈ S) : onW S X (stI X a j v) := fun b hb => ⟨rfl, funext fun k => if_neg (fun z => hb (by rw [z.1]; exact hs))⟩
theorem pv_lt (v : Fp) : v.val < 57896044618658097711785492504343953926634992332820282019728792003956564819968 := Nat.lt_trans v.isLt (by decide)
theorem pv_lt2 (v : Fp) : v.val < 256 ^ 32 := Nat.lt_trans v.isLt (by decide)
theorem top_by {Y : vM} {to V s : Nat} {x : Int32} (hV : V < 57896044618658097711785492504343953926634992332820282019728792003956564819968) (hs : s < 2) (w : ∀ j, j < 32 → Y.2 to j = by8 ((V : Int) / 256 ^ j)) (hx : x = by8 ((128 * s : Nat) : Int)) : ∀ j, j < 32 → (stI Y to 31 ((((Y.2 to 31) ||| x).toInt8.toInt32).toInt8.toInt32)).2 to j = by8 (((V + 57896044618658097711785492504343953926634992332820282019728792003956564819968 * s : Nat) : Int) / 256 ^ j) := fun j hj => by
  by_cases h31 : j = 31
  · subst h31
    show (if to = to ∧ 31 = 31 then (((Y.2 to 31) ||| x).toInt8.toInt32).toInt8.toInt32 else Y.2 to 31) = _
    have h0 := tp_31 (V := V) (s := 0) hV
    simp only [Nat.mul_zero, Nat.add_zero] at h0
    rw [if_pos ⟨rfl, rfl⟩, w 31 hj, hx, tp_31 hV, h0]
    exact or_top _ (tp_lt hV) _ hs
  · show (if to = to ∧ j = 31 then (((Y.2 to 31) ||| x).toInt8.toInt32).toInt8.toInt32 else Y.2 to j) = _
    rw [if_neg (fun z => h31 z.2), w j hj]
    exact tp_by (by omega)
theorem bl_iff {M y q p : Nat} (hp : 0 < p) (hy : y = M % q % p) : M = y + q * (M / q) ↔ M % q < p := by
  have h := Nat.div_add_mod M q
  generalize q * (M / q) = t at *
  generalize M % q = u at *
  constructor
  · intro e
    have e2 : u = y := by omega
    rw [e2, hy]
    exact Nat.mod_lt _ hp
  · intro e
    rw [Nat.mod_eq_of_lt e] at hy
    omega
theorem iF_vn (N : Nat) : (iF (N : Int)).val = N % pP := by
  have := iF_val (N : Int)
  rw [← Int.natCast_emod] at this
  exact Int.ofNat_inj.mp this
theorem le_tp {V s : Nat} (hV : V < 57896044618658097711785492504343953926634992332820282019728792003956564819968) (hs : s < 2) : V + 57896044618658097711785492504343953926634992332820282019728792003956564819968 * s < 256 ^ 32 := by
  rw [show (256 : Nat) ^ 32 = 2 * 57896044618658097711785492504343953926634992332820282019728792003956564819968 from by decide]
  omega
theorem c_below {X : vM} {kq : Nat → Nat → Nat} {ts : Nat → Nat} {a0 : Nat} {n : Int} (hI : KInj kq) (ho : Out kq a0) (hb : ∀ j, j < 32 → isB (X.2 a0 j)) (hg : Fe X (kq 2 13) n (iF ((leN (X.2 a0) 32 % 57896044618658097711785492504343953926634992332820282019728792003956564819968 : Nat) : Int))) (hn : n ≤ 16) : onK kq [(0, 6), (2, 6)] X (LF_Ed_isBelowPrime X kq ts a0).1 ∧ (LF_Ed_isBelowPrime X kq ts a0).2 = decide (leN (X.2 a0) 32 % 57896044618658097711785492504343953926634992332820282019728792003956564819968 < pP) := by
  obtain ⟨w1, -, w3⟩ := fe_wr (kq := kq) (ts := ts) (to := kq 2 6) hg hn
  have hv := iF_vn (leN (X.2 a0) 32 % 57896044618658097711785492504343953926634992332820282019728792003956564819968)
  have hlt := pv_lt (iF ((leN (X.2 a0) 32 % 57896044618658097711785492504343953926634992332820282019728792003956564819968 : Nat) : Int))
  generalize (iF ((leN (X.2 a0) 32 % 57896044618658097711785492504343953926634992332820282019728792003956564819968 : Nat) : Int)).val = y at w3 hv hlt
  obtain ⟨X1, e1⟩ : ∃ Y, LF_F_write X kq ts (kq 2 6) (kq 2 13) = Y := ⟨_, rfl⟩
  rw [e1] at w1 w3
  have w1' : onK kq [(0, 6), (2, 6)] X X1 := w1
  have ha1 := (w1'.ou ho rfl).2
  obtain ⟨X2, e2⟩ : ∃ Y, stI X1 (kq 2 6) 31 ((((X1.2 (kq 2 6) 31) ||| (((X1.2 a0 31) &&& (nI 128)).toInt8.toInt32)).toInt8.toInt32).toInt8.toInt32) = Y := ⟨_, rfl⟩
  have o2 : onK kq [(0, 6), (2, 6)] X1 X2 := by
    rw [← e2]
    exact st_onI (List.mem_cons_of_mem _ List.mem_cons_self)
  have oo := w1'.tr o2
  have e : LF_Ed_isBelowPrime X kq ts a0 = (X2, LF_K_isSameStart X2 a0 (kq 2 6)) := by
    unfold LF_Ed_isBelowPrime
    simp only []
    rw [e1, e2]
  rw [e]
  refine ⟨oo, ?_⟩
  have ha2 := (oo.ou ho rfl).2
  have hs : ub (X.2 a0 31) / 128 = leN (X.2 a0) 32 / 57896044618658097711785492504343953926634992332820282019728792003956564819968 := (le_top (X.2 a0)).symm
  have hs2 : leN (X.2 a0) 32 / 57896044618658097711785492504343953926634992332820282019728792003956564819968 < 2 := by rw [← hs]; have := ub_lt (X.2 a0 31); omega
  have hx : ((X1.2 a0 31) &&& (nI 128)).toInt8.toInt32 = by8 ((128 * (leN (X.2 a0) 32 / 57896044618658097711785492504343953926634992332820282019728792003956564819968) : Nat) : Int) := by
    have h31 : X.2 a0 31 = by8 (ub (X.2 a0 31) : Int) := hb 31 (by decide)
    rw [ha1, h31, an_top _ (ub_lt _), hs]
  have f2 := top_by hlt hs2 w3 hx
  rw [e2] at f2
  rw [k_same (fun j hj => by rw [ha2]; exact hb j hj) (fun j hj => by rw [f2 j hj]; exact isB_by8 _), leN_ext 32 f2, leN_by8, Nat.mod_eq_of_lt (le_tp hlt hs2), ha2]
  exact decide_eq_decide.mpr (bl_iff (by decide) hv)
/-! a root, as the class takes it -/
theorem rg_v {R : Type} [Lean.Grind.CommRing R] (y d i : R) (h : y * y * d + 1 = 0) (hi : i * i = -1) : d * (y * y) = i * i := by grind
theorem rg_cm {R : Type} [Lean.Grind.CommRing R] (a b : R) : a * b = b * a := by grind
theorem rg_1v {R : Type} [Lean.Grind.CommRing R] (v : R) : 1 * v * v * v * v = v * v * v * v := by grind
theorem rg_1m {R : Type} [Lean.Grind.CommRing R] (v : R) : 1 * v = v := by grind
theorem fp_v (y : Fp) : y * y * eD + 1 ≠ 0 := fun h => by
  by_cases hy : y = 0
  · subst hy
    exact absurd h (by rw [show (0 : Fp) * 0 * eD + 1 = 1 from by decide +kernel]; decide)
  · have e := rg_v y eD eI h eI_sq
    exact eD_nsq hy e
theorem fp_fer {v : Fp} (h : v ≠ 0) : fpw v (pP - 1) = 1 := by
  have e := fpi_mul h
  unfold fpi at e
  rw [show pP - 1 = (pP - 2) + 1 from by decide, fpw_add, fpw_1, rg_cm]
  exact e
theorem rg_x1 {R : Type} [Lean.Grind.CommRing R] (u v i : R) (h : v * i = 1) : v * v * v * (v * v * v) * v * u = (v * v * v * v * (v * v * v * v)) * (u * i) := by grind
theorem rg_x2 {R : Type} [Lean.Grind.CommRing R] (u v i a b q : R) (h : v * i = 1) (h2 : v * v * v * v * a = q) : u * (v * v * v) * (a * b) = q * (b * (u * i)) := by grind
theorem fpw_4 (v : Fp) : fpw v 4 = v * v * v * v := by
  show 1 * v * v * v * v = _
  rw [rg_1v]
theorem fpw_8 (v : Fp) : fpw v 8 = v * v * v * v * (v * v * v * v) := by
  rw [show 8 = 4 + 4 from rfl, fpw_add, fpw_4]
theorem rt_class (u : Fp) {v : Fp} (h : v ≠ 0) : u * (v * v * v) * fpw (v * v * v * (v * v * v) * v * u) 7237005577332262213973186563042994240829374041602535252466099000494570602493 = rtT (u * fpi v) := by
  have hi := fpi_mul h
  have hf := fp_fer h
  rw [rg_x1 u v (fpi v) hi, ← fpw_8, fpw_mulb, ← fpw_mul]
  have h4 : v * v * v * v * fpw v (8 * 7237005577332262213973186563042994240829374041602535252466099000494570602493) = 1 := by
    rw [← fpw_4, ← fpw_add, ← hf]
    rfl
  unfold rtT
  rw [show (7237005577332262213973186563042994240829374041602535252466099000494570602494 : Nat) = 7237005577332262213973186563042994240829374041602535252466099000494570602493 + 1 from rfl, fpw_add, fpw_1]
  generalize fpw v (8 * 7237005577332262213973186563042994240829374041602535252466099000494570602493) = A at *
  generalize fpw (u * fpi v) 7237005577332262213973186563042994240829374041602535252466099000494570602493 = B at *
  have e := rg_x2 u v (fpi v) A B 1 hi h4
  rw [e, rg_1m]
theorem rg_s1 {R : Type} [Lean.Grind.CommRing R] (x u v i : R) (h : v * i = 1) (e : x * x * v - u = 0) : x * x = u * i := by grind
theorem rg_s2 {R : Type} [Lean.Grind.CommRing R] (x u v i : R) (h : v * i = 1) (e : x * x = u * i) : x * x * v - u = 0 := by grind
theorem rg_s3 {R : Type} [Lean.Grind.CommRing R] (x u v i j : R) (h : v * i = 1) (hj : j * j = -1) (e : x * x * v + u = 0) : x * j * (x * j) = u * i := by grind
theorem rg_s4 {R : Type} [Lean.Grind.CommRing R] (x u v i j : R) (h : v * i = 1) (hj : j * j = -1) (e : x * j * (x * j) = u * i) : x * x * v + u = 0 := by grind
theorem rt_1 (x u : Fp) {v : Fp} (h : v ≠ 0) : x * x * v - u = 0 ↔ x * x = u * fpi v := ⟨rg_s1 x u v _ (fpi_mul h), rg_s2 x u v _ (fpi_mul h)⟩
theorem rt_2 (x u : Fp) {v : Fp} (h : v ≠ 0) : x * x * v + u = 0 ↔ x * eI * (x * eI) = u * fpi v := ⟨rg_s3 x u v _ eI (fpi_mul h) eI_sq, rg_s4 x u v _ eI (fpi_mul h) eI_sq⟩
theorem c_mult {X : vM} {kq : Nat → Nat → Nat} {ts : Nat → Nat} {a0 : Nat} {n : Int} {v : Fp} (h : Fe X a0 n v) (hn : n ≤ 16) : onK kq [(0, 6), (2, 6)] X (LF_Ed_isMultipleOfPrime X kq ts a0).1 ∧ (LF_Ed_isMultipleOfPrime X kq ts a0).2 = decide (v = 0) := by
  obtain ⟨w1, -, w3⟩ := fe_wr (kq := kq) (ts := ts) (to := kq 2 6) h hn
  refine ⟨w1, ?_⟩
  show LF_K_isZeroStart (LF_F_write X kq ts (kq 2 6) a0) (kq 2 6) = _
  rw [k_zero w3 (pv_lt2 v)]
  refine decide_eq_decide.mpr ⟨fun e => Fin.ext e, fun e => by rw [e]; rfl⟩
theorem c_ratio {X : vM} {kq : Nat → Nat → Nat} {ts : Nat → Nat} {y : Fp} (hI : KInj kq) (o3 : Out kq (ts 3)) (h3 : Fe X (ts 3) 2 eD) (hg : Fe X (kq 2 13) 2 y) : onK kq [(2, 7), (2, 8), (2, 9), (2, 10)] X (LF_Ed_setRatio X kq ts) ∧ Fe (LF_Ed_setRatio X kq ts) (kq 2 7) 2 (y * y - 1) ∧ Fe (LF_Ed_setRatio X kq ts) (kq 2 8) 2 (y * y * eD + 1) ∧ Fe (LF_Ed_setRatio X kq ts) (kq 2 9) 1 (((y * y * eD + 1) * (y * y * eD + 1)) * (y * y * eD + 1)) ∧ Fe (LF_Ed_setRatio X kq ts) (kq 2 10) 1 ((((((y * y * eD + 1) * (y * y * eD + 1)) * (y * y * eD + 1)) * (((y * y * eD + 1) * (y * y * eD + 1)) * (y * y * eD + 1))) * (y * y * eD + 1)) * (y * y - 1)) ∧ Fe (LF_Ed_setRatio X kq ts) (kq 2 13) 2 y := by
  have R1 := fe_set (X := X) (h := kq 2 10) 1 (by decide)
  rw [show Int64.ofInt 1 = (1 : Int64) from rfl] at R1
  obtain ⟨X1, eX1⟩ : ∃ Y, LF_F_set X (kq 2 10) (1 : Int64) = Y := ⟨_, rfl⟩
  rw [eX1] at R1
  have F1 : onK kq [(2, 10)] X X1 := onK.of (R1.on List.mem_cons_self)
  have hg := hg.k hI F1 rfl
  have h3 := h3.o o3 F1 rfl
  have g1 := R1.2
  have g1 := g1.ev (show iF 1 = 1 by decide +kernel)
  have R2 := fe_square (h := kq 2 9) hg (by decide)
  obtain ⟨X2, eX2⟩ : ∃ Y, LF_F_square X1 (kq 2 9) (kq 2 13) = Y := ⟨_, rfl⟩
  rw [eX2] at R2
  have F2 : onK kq [(2, 9)] X1 X2 := onK.of (R2.on List.mem_cons_self)
  have hg := hg.k hI F2 rfl
  have h3 := h3.o o3 F2 rfl
  have g1 := g1.k hI F2 rfl
  have g2 := R2.2
  have R3 := fe_times (h := kq 2 8) g2 h3 (by decide)
  obtain ⟨X3, eX3⟩ : ∃ Y, LF_F_times X2 (kq 2 8) (kq 2 9) (ts 3) = Y := ⟨_, rfl⟩
  rw [eX3] at R3
  have F3 : onK kq [(2, 8)] X2 X3 := onK.of (R3.on List.mem_cons_self)
  have hg := hg.k hI F3 rfl
  have g1 := g1.k hI F3 rfl
  have g2 := g2.k hI F3 rfl
  have g3 := R3.2
  have R4 := fe_sub (h := kq 2 7) g2 g1
  obtain ⟨X4, eX4⟩ : ∃ Y, LF_F_subtract X3 (kq 2 7) (kq 2 9) (kq 2 10) = Y := ⟨_, rfl⟩
  rw [eX4] at R4
  have F4 : onK kq [(2, 7)] X3 X4 := onK.of (R4.on List.mem_cons_self)
  have hg := hg.k hI F4 rfl
  have g1 := g1.k hI F4 rfl
  have g3 := g3.k hI F4 rfl
  have g4 := R4.2
  have R5 := fe_add (h := kq 2 8) g3 g1
  obtain ⟨X5, eX5⟩ : ∃ Y, LF_F_add X4 (kq 2 8) (kq 2 8) (kq 2 10) = Y := ⟨_, rfl⟩
  rw [eX5] at R5
  have F5 : onK kq [(2, 8)] X4 X5 := onK.of (R5.on List.mem_cons_self)
  have hg := hg.k hI F5 rfl
  have g4 := g4.k hI F5 rfl
  have g5 := R5.2
  have R6 := fe_square (h := kq 2 9) g5 (by decide)
  obtain ⟨X6, eX6⟩ : ∃ Y, LF_F_square X5 (kq 2 9) (kq 2 8) = Y := ⟨_, rfl⟩
  rw [eX6] at R6
  have F6 : onK kq [(2, 9)] X5 X6 := onK.of (R6.on List.mem_cons_self)
  have hg := hg.k hI F6 rfl
  have g5 := g5.k hI F6 rfl
  have g4 := g4.k hI F6 rfl
  have g6 := R6.2
  have R7 := fe_times (h := kq 2 9) g6 g5 (by decide)
  obtain ⟨X7, eX7⟩ : ∃ Y, LF_F_times X6 (kq 2 9) (kq 2 9) (kq 2 8) = Y := ⟨_, rfl⟩
  rw [eX7] at R7
  have F7 : onK kq [(2, 9)] X6 X7 := onK.of (R7.on List.mem_cons_self)
  have hg := hg.k hI F7 rfl
  have g5 := g5.k hI F7 rfl
  have g4 := g4.k hI F7 rfl
  have g7 := R7.2
  have R8 := fe_square (h := kq 2 10) g7 (by decide)
  obtain ⟨X8, eX8⟩ : ∃ Y, LF_F_square X7 (kq 2 10) (kq 2 9) = Y := ⟨_, rfl⟩
  rw [eX8] at R8
  have F8 : onK kq [(2, 10)] X7 X8 := onK.of (R8.on List.mem_cons_self)
  have hg := hg.k hI F8 rfl
  have g5 := g5.k hI F8 rfl
  have g4 := g4.k hI F8 rfl
  have g7 := g7.k hI F8 rfl
  have g8 := R8.2
  have R9 := fe_times (h := kq 2 10) g8 g5 (by decide)
  obtain ⟨X9, eX9⟩ : ∃ Y, LF_F_times X8 (kq 2 10) (kq 2 10) (kq 2 8) = Y := ⟨_, rfl⟩
  rw [eX9] at R9
  have F9 : onK kq [(2, 10)] X8 X9 := onK.of (R9.on List.mem_cons_self)
  have hg := hg.k hI F9 rfl
  have g5 := g5.k hI F9 rfl
  have g4 := g4.k hI F9 rfl
  have g7 := g7.k hI F9 rfl
  have g9 := R9.2
  have R10 := fe_times (h := kq 2 10) g9 g4 (by decide)
  obtain ⟨X10, eX10⟩ : ∃ Y, LF_F_times X9 (kq 2 10) (kq 2 10) (kq 2 7) = Y := ⟨_, rfl⟩
  rw [eX10] at R10
  have F10 : onK kq [(2, 10)] X9 X10 := onK.of (R10.on List.mem_cons_self)
  have hg := hg.k hI F10 rfl
  have g5 := g5.k hI F10 rfl
  have g4 := g4.k hI F10 rfl
  have g7 := g7.k hI F10 rfl
  have g10 := R10.2
  have hX : LF_Ed_setRatio X kq ts = X10 := by
    unfold LF_Ed_setRatio
    simp only []
    rw [eX1, eX2, eX3, eX4, eX5, eX6, eX7, eX8, eX9, eX10]
  rw [hX]
  exact ⟨(((((((((((onK.rf (l := [(2, 7), (2, 8), (2, 9), (2, 10)])).ad F1 rfl).ad F2 rfl).ad F3 rfl).ad F4 rfl).ad F5 rfl).ad F6 rfl).ad F7 rfl).ad F8 rfl).ad F9 rfl).ad F10 rfl), g4, g5, g7, g10, hg⟩
theorem c_mend {X : vM} {kq : Nat → Nat → Nat} {ts : Nat → Nat} {x u v y : Fp} (hI : KInj kq) (o4 : Out kq (ts 4)) (h4 : Fe X (ts 4) 2 eI) (hnz : v ≠ 0) (hh : Fe X (kq 2 14) 1 x) (hv : Fe X (kq 2 8) 2 v) (hu : Fe X (kq 2 7) 2 u) (hg : Fe X (kq 2 13) 2 y) : onK kq [(0, 6), (2, 6), (2, 9), (2, 10), (2, 14)] X (LF_Ed_mendRoot X kq ts).1 ∧ (LF_Ed_mendRoot X kq ts).2 = decide ((if x * x = u * fpi v then x else x * eI) * (if x * x = u * fpi v then x else x * eI) = u * fpi v) ∧ Fe (LF_Ed_mendRoot X kq ts).1 (kq 2 14) 1 (if x * x = u * fpi v then x else x * eI) ∧ Fe (LF_Ed_mendRoot X kq ts).1 (kq 2 13) 2 y := by
  have R1 := fe_square (h := kq 2 9) hh (by decide)
  obtain ⟨X1, eX1⟩ : ∃ Y, LF_F_square X (kq 2 9) (kq 2 14) = Y := ⟨_, rfl⟩
  rw [eX1] at R1
  have F1 : onK kq [(2, 9)] X X1 := onK.of (R1.on List.mem_cons_self)
  have hh := hh.k hI F1 rfl
  have hv := hv.k hI F1 rfl
  have hu := hu.k hI F1 rfl
  have hg := hg.k hI F1 rfl
  have g1 := R1.2
  have R2 := fe_times (h := kq 2 9) g1 hv (by decide)
  obtain ⟨X2, eX2⟩ : ∃ Y, LF_F_times X1 (kq 2 9) (kq 2 9) (kq 2 8) = Y := ⟨_, rfl⟩
  rw [eX2] at R2
  have F2 : onK kq [(2, 9)] X1 X2 := onK.of (R2.on List.mem_cons_self)
  have hh := hh.k hI F2 rfl
  have hv := hv.k hI F2 rfl
  have hu := hu.k hI F2 rfl
  have hg := hg.k hI F2 rfl
  have g2 := R2.2
  have R3 := fe_sub (h := kq 2 10) g2 hu
  obtain ⟨X3, eX3⟩ : ∃ Y, LF_F_subtract X2 (kq 2 10) (kq 2 9) (kq 2 7) = Y := ⟨_, rfl⟩
  rw [eX3] at R3
  have F3 : onK kq [(2, 10)] X2 X3 := onK.of (R3.on List.mem_cons_self)
  have hh := hh.k hI F3 rfl
  have hv := hv.k hI F3 rfl
  have hu := hu.k hI F3 rfl
  have hg := hg.k hI F3 rfl
  have g2 := g2.k hI F3 rfl
  have g3 := R3.2
  have h4 := h4.o o4 ((((onK.rf (l := [(2, 9), (2, 10)])).ad F1 rfl).ad F2 rfl).ad F3 rfl) rfl
  have hd := g3
  have hc := g2
  obtain ⟨m1, m2⟩ := c_mult (kq := kq) (ts := ts) hd (by decide)
  obtain ⟨Xm, em⟩ : ∃ Y, (LF_Ed_isMultipleOfPrime X3 kq ts (kq 2 10)).1 = Y := ⟨_, rfl⟩
  rw [em] at m1
  have hc := hc.k hI m1 rfl
  have hh := hh.k hI m1 rfl
  have hu := hu.k hI m1 rfl
  have hg := hg.k hI m1 rfl
  have h4 := h4.o o4 m1 rfl
  have om : onK kq [(0, 6), (2, 6), (2, 9), (2, 10), (2, 14)] X Xm := ((((onK.rf (l := [(0, 6), (2, 6), (2, 9), (2, 10), (2, 14)])).ad F1 rfl).ad F2 rfl).ad F3 rfl).ad m1 rfl
  by_cases hq : x * x = u * fpi v
  · have eq : LF_Ed_mendRoot X kq ts = (Xm, true) := by
      unfold LF_Ed_mendRoot
      simp only []
      rw [eX1, eX2, eX3, em, m2, if_pos (decide_eq_true ((rt_1 x u hnz).mpr hq))]
    rw [eq]
    simp only [if_pos hq]
    exact ⟨om, (decide_eq_true hq).symm, hh, hg⟩
  · have tR1 := fe_add (h := kq 2 10) hc hu
    obtain ⟨tX1, etX1⟩ : ∃ Y, LF_F_add Xm (kq 2 10) (kq 2 9) (kq 2 7) = Y := ⟨_, rfl⟩
    rw [etX1] at tR1
    have tF1 : onK kq [(2, 10)] Xm tX1 := onK.of (tR1.on List.mem_cons_self)
    have hh := hh.k hI tF1 rfl
    have h4 := h4.o o4 tF1 rfl
    have hg := hg.k hI tF1 rfl
    have tg1 := tR1.2
    have tR2 := fe_times (h := kq 2 14) hh h4 (by decide)
    obtain ⟨tX2, etX2⟩ : ∃ Y, LF_F_times tX1 (kq 2 14) (kq 2 14) (ts 4) = Y := ⟨_, rfl⟩
    rw [etX2] at tR2
    have tF2 : onK kq [(2, 14)] tX1 tX2 := onK.of (tR2.on List.mem_cons_self)
    have hg := hg.k hI tF2 rfl
    have tg1 := tg1.k hI tF2 rfl
    have tg2 := tR2.2
    obtain ⟨n1, n2⟩ := c_mult (kq := kq) (ts := ts) tg1 (by decide)
    obtain ⟨Xn, en⟩ : ∃ Y, (LF_Ed_isMultipleOfPrime tX2 kq ts (kq 2 10)).1 = Y := ⟨_, rfl⟩
    rw [en] at n1
    have eq : LF_Ed_mendRoot X kq ts = (Xn, decide (x * x * v + u = 0)) := by
      unfold LF_Ed_mendRoot
      simp only []
      rw [eX1, eX2, eX3, em, m2, if_neg (fun z => hq ((rt_1 x u hnz).mp (of_decide_eq_true z))), etX1, etX2, en, n2]
    rw [eq]
    simp only [if_neg hq]
    exact ⟨(om.tr (((onK.rf (l := [(0, 6), (2, 6), (2, 9), (2, 10), (2, 14)])).ad tF1 rfl).ad tF2 rfl)).ad n1 rfl, decide_eq_decide.mpr (rt_2 x u hnz), tg2.k hI n1 rfl, hg.k hI n1 rfl⟩
theorem fp_nI {s : Nat} {x : Fp} (hs : s < 2) : (nI ((x.val % 256) % 2) = nI s) ↔ x.val % 2 = s := by
  rw [show x.val % 256 % 2 = x.val % 2 by omega]
  have : x.val % 2 < 2 := Nat.mod_lt _ (by decide)
  generalize x.val % 2 = t at *
  rcases (show s = 0 ∨ s = 1 by omega) with rfl | rfl <;> rcases (show t = 0 ∨ t = 1 by omega) with rfl | rfl <;> decide +kernel
theorem c_sign {X : vM} {kq : Nat → Nat → Nat} {ts : Nat → Nat} {x y : Fp} {s : Nat} (hI : KInj kq) (hs : s < 2) (hh : Fe X (kq 2 14) 1 x) (hg : Fe X (kq 2 13) 2 y) : onK kq [(0, 6), (2, 6), (2, 14)] X (LF_Ed_takeSign X kq ts (nI s)).1 ∧ (LF_Ed_takeSign X kq ts (nI s)).2 = (!(decide (x = 0) && decide (s = 1))) ∧ ((LF_Ed_takeSign X kq ts (nI s)).2 = true → Fe (LF_Ed_takeSign X kq ts (nI s)).1 (kq 2 14) 1 (if x.val % 2 = s then x else -x)) ∧ Fe (LF_Ed_takeSign X kq ts (nI s)).1 (kq 2 13) 2 y := by
  obtain ⟨w1, -, w3⟩ := fe_wr (kq := kq) (ts := ts) (to := kq 2 6) hh (by decide)
  obtain ⟨X1, e1⟩ : ∃ Y, LF_F_write X kq ts (kq 2 6) (kq 2 14) = Y := ⟨_, rfl⟩
  rw [e1] at w1 w3
  have o1 : onK kq [(0, 6), (2, 6)] X X1 := w1
  have hz : LF_K_isZeroStart X1 (kq 2 6) = decide (x = 0) := by
    rw [k_zero w3 (pv_lt2 x)]
    exact decide_eq_decide.mpr ⟨fun e => Fin.ext e, fun e => by rw [e]; rfl⟩
  have hp : ((X1.2 (kq 2 6) 0) &&& (nI 1)) = nI ((x.val % 256) % 2) := by
    rw [w3 0 (by decide), show (256 : Int) ^ 0 = 1 from rfl, Int.ediv_one, by8_256, show (x.val : Int) % 256 = ((x.val % 256 : Nat) : Int) from rfl]
    exact an_one _ (Nat.mod_lt _ (by decide))
  have h1 := hh.k hI o1 rfl
  have g1 := hg.k hI o1 rfl
  obtain ⟨J, eJ⟩ : ∃ Y, (if ((X1.2 (kq 2 6) 0) &&& (nI 1)) = nI s then X1 else LF_F_negate X1 (kq 2 14) (kq 2 14)) = Y := ⟨_, rfl⟩
  have hJ : onK kq [(2, 14)] X1 J ∧ Fe J (kq 2 14) 1 (if x.val % 2 = s then x else -x) ∧ Fe J (kq 2 13) 2 y := by
    rw [← eJ, hp]
    by_cases hc : x.val % 2 = s
    · rw [if_pos ((fp_nI hs).mpr hc), if_pos hc]
      exact ⟨onK.rf, h1, g1⟩
    · rw [if_neg (fun z => hc ((fp_nI hs).mp z)), if_neg hc]
      have R := fe_neg (h := kq 2 14) h1
      have oR : onK kq [(2, 14)] X1 (LF_F_negate X1 (kq 2 14) (kq 2 14)) := onK.of (R.on List.mem_cons_self)
      exact ⟨oR, R.2, g1.k hI oR rfl⟩
  have e : LF_Ed_takeSign X kq ts (nI s) = if nI s = nI 1 then (if decide (x = 0) = true then (X1, false) else (J, true)) else (J, true) := by
    unfold LF_Ed_takeSign
    simp only []
    rw [e1, hz, eJ]
  rw [e]
  have oJ : onK kq [(0, 6), (2, 6), (2, 14)] X J := (o1.mono (m := [(0, 6), (2, 6), (2, 14)]) rfl).ad hJ.1 rfl
  by_cases h1s : s = 1
  · rw [if_pos ((i3_1 hs).mpr h1s)]
    by_cases h0 : x = 0
    · rw [if_pos (decide_eq_true h0), decide_eq_true h0, decide_eq_true h1s]
      exact ⟨o1.mono rfl, rfl, fun z => absurd (show false = true from z) (by decide), g1⟩
    · rw [if_neg (fun z => h0 (of_decide_eq_true z)), decide_eq_false h0]
      exact ⟨oJ, rfl, fun _ => hJ.2.1, hJ.2.2⟩
  · rw [if_neg (fun z => h1s ((i3_1 hs).mp z)), decide_eq_false h1s, Bool.and_false]
    exact ⟨oJ, rfl, fun _ => hJ.2.1, hJ.2.2⟩
theorem c_aff {X : vM} {kq : Nat → Nat → Nat} {x y : Fp} (hI : KInj kq) (hh : Fe X (kq 2 14) 1 x) (hg : Fe X (kq 2 13) 2 y) : onK kq [(4, 0), (4, 1), (4, 2), (4, 3)] X (LF_Pt_setAffine X (kq 4) (kq 2 14) (kq 2 13)) ∧ Fe (LF_Pt_setAffine X (kq 4) (kq 2 14) (kq 2 13)) (kq 4 0) 1 x ∧ Fe (LF_Pt_setAffine X (kq 4) (kq 2 14) (kq 2 13)) (kq 4 1) 2 y ∧ Fe (LF_Pt_setAffine X (kq 4) (kq 2 14) (kq 2 13)) (kq 4 2) 1 1 ∧ Fe (LF_Pt_setAffine X (kq 4) (kq 2 14) (kq 2 13)) (kq 4 3) 1 (x * y) := by
  have R1 := fe_copy (h := kq 4 0) hh
  obtain ⟨X1, eX1⟩ : ∃ Y, LF_F_copy X (kq 4 0) (kq 2 14) = Y := ⟨_, rfl⟩
  rw [eX1] at R1
  have F1 : onK kq [(4, 0)] X X1 := onK.of (R1.on List.mem_cons_self)
  have hh := hh.k hI F1 rfl
  have hg := hg.k hI F1 rfl
  have g1 := R1.2
  have R2 := fe_copy (h := kq 4 1) hg
  obtain ⟨X2, eX2⟩ : ∃ Y, LF_F_copy X1 (kq 4 1) (kq 2 13) = Y := ⟨_, rfl⟩
  rw [eX2] at R2
  have F2 : onK kq [(4, 1)] X1 X2 := onK.of (R2.on List.mem_cons_self)
  have hh := hh.k hI F2 rfl
  have hg := hg.k hI F2 rfl
  have g1 := g1.k hI F2 rfl
  have g2 := R2.2
  have R3 := fe_set (X := X2) (h := kq 4 2) 1 (by decide)
  rw [show Int64.ofInt 1 = (1 : Int64) from rfl] at R3
  obtain ⟨X3, eX3⟩ : ∃ Y, LF_F_set X2 (kq 4 2) (1 : Int64) = Y := ⟨_, rfl⟩
  rw [eX3] at R3
  have F3 : onK kq [(4, 2)] X2 X3 := onK.of (R3.on List.mem_cons_self)
  have hh := hh.k hI F3 rfl
  have hg := hg.k hI F3 rfl
  have g1 := g1.k hI F3 rfl
  have g2 := g2.k hI F3 rfl
  have g3 := R3.2
  have g3 := g3.ev (show iF 1 = 1 by decide +kernel)
  have R4 := fe_times (h := kq 4 3) hh hg (by decide)
  obtain ⟨X4, eX4⟩ : ∃ Y, LF_F_times X3 (kq 4 3) (kq 2 14) (kq 2 13) = Y := ⟨_, rfl⟩
  rw [eX4] at R4
  have F4 : onK kq [(4, 3)] X3 X4 := onK.of (R4.on List.mem_cons_self)
  have g1 := g1.k hI F4 rfl
  have g2 := g2.k hI F4 rfl
  have g3 := g3.k hI F4 rfl
  have g4 := R4.2
  have hX : LF_Pt_setAffine X (kq 4) (kq 2 14) (kq 2 13) = X4 := by
    unfold LF_Pt_setAffine
    simp only []
    rw [eX1, eX2, eX3, eX4]
  rw [hX]
  exact ⟨(((((onK.rf (l := [(4, 0), (4, 1), (4, 2), (4, 3)])).ad F1 rfl).ad F2 rfl).ad F3 rfl).ad F4 rfl), g1, g2, g3, g4⟩
def fiW : List (Nat × Nat) := [(0, 0), (0, 1), (0, 2), (0, 3), (0, 4), (0, 5), (0, 6), (2, 6), (2, 7), (2, 8), (2, 9), (2, 10), (2, 11), (2, 13), (2, 14), (4, 0), (4, 1), (4, 2), (4, 3)]
theorem f_class {X : vM} {kq : Nat → Nat → Nat} {ts : Nat → Nat} {a0 : Nat} (hI : KInj kq) (o3 : Out kq (ts 3)) (o4 : Out kq (ts 4)) (h3 : Fe X (ts 3) 2 eD) (h4 : Fe X (ts 4) 2 eI) (ho : Out kq a0) (hb : ∀ j, j < 32 → isB (X.2 a0 j)) : onK kq fiW X (LF_Ed_find X kq ts a0).1 ∧ (LF_Ed_find X kq ts a0).2 = (decide (leN (X.2 a0) 32 % 57896044618658097711785492504343953926634992332820282019728792003956564819968 < pP) && dOK (rtW (iF ((leN (X.2 a0) 32 % 57896044618658097711785492504343953926634992332820282019728792003956564819968 : Nat) : Int))) (ub (X.2 a0 31) / 128)) ∧ ((LF_Ed_find X kq ts a0).2 = true → Fe (LF_Ed_find X kq ts a0).1 (kq 4 0) 1 (dX (rtW (iF ((leN (X.2 a0) 32 % 57896044618658097711785492504343953926634992332820282019728792003956564819968 : Nat) : Int))) (ub (X.2 a0 31) / 128))) := by
  have R0 := fe_read (X := X) (ts := ts) (h := kq 2 13) (b := a0)
  obtain ⟨Xa, ea⟩ : ∃ Y, LF_F_read X (kq 2 13) a0 ts = Y := ⟨_, rfl⟩
  rw [ea] at R0
  have oa : onK kq [(2, 13)] X Xa := onK.of (R0.on List.mem_cons_self)
  have ha := (oa.ou ho rfl).2
  have g0 := R0.2
  obtain ⟨b1, b2⟩ := c_below (ts := ts) hI ho (X := Xa) (fun j hj => by rw [ha]; exact hb j hj) (by rw [ha]; exact g0) (by decide)
  rw [ha] at b2
  obtain ⟨Xb, eb⟩ : ∃ Y, (LF_Ed_isBelowPrime Xa kq ts a0).1 = Y := ⟨_, rfl⟩
  rw [eb] at b1
  have ob : onK kq fiW X Xb := (oa.mono (m := fiW) rfl).ad b1 rfl
  have k3 := h3.o o3 ob rfl
  have k4 := h4.o o4 ob rfl
  have g0 := g0.k hI b1 rfl
  have hs2 : ub (X.2 a0 31) / 128 < 2 := by have := ub_lt (X.2 a0 31); omega
  have hsg := i3_sign (X.2 a0 31)
  generalize ub (X.2 a0 31) / 128 = sg at *
  generalize leN (X.2 a0) 32 % 57896044618658097711785492504343953926634992332820282019728792003956564819968 = N at *
  by_cases hN : N < pP
  · generalize iF (N : Int) = y at *
    obtain ⟨r0, r1, r2, r3, r4, r5⟩ := c_ratio (ts := ts) hI o3 k3 g0
    obtain ⟨Xc, ec⟩ : ∃ Y, LF_Ed_setRatio Xb kq ts = Y := ⟨_, rfl⟩
    rw [ec] at r0 r1 r2 r3 r4 r5
    have k4 := k4.o o4 r0 rfl
    have hv := fp_v y
    have hw : rtW y = (y * y - 1) * fpi (y * y * eD + 1) := rfl
    generalize y * y * eD + 1 = v at *
    have R1 := fe_root (ts := ts) (h := kq 2 11) (nd_of hI [(2, 10), (0, 0), (0, 1), (0, 2), (0, 3), (0, 4), (0, 5), (0, 6)] (by decide +kernel)) (r4.mono (by decide))
    obtain ⟨X1, eX1⟩ : ∃ Y, LF_F_raiseForRoot Xc kq ts (kq 2 11) (kq 2 10) = Y := ⟨_, rfl⟩
    rw [eX1] at R1
    have F1 : onK kq [(2, 11), (0, 0), (0, 1), (0, 2), (0, 3), (0, 4), (0, 5), (0, 6)] Xc X1 := onK.of R1.1
    have r1 := r1.k hI F1 rfl
    have r2 := r2.k hI F1 rfl
    have r3 := r3.k hI F1 rfl
    have r5 := r5.k hI F1 rfl
    have k4 := k4.o o4 F1 rfl
    have g1 := R1.2
    have R2 := fe_times (h := kq 2 14) r1 r3 (by decide)
    obtain ⟨X2, eX2⟩ : ∃ Y, LF_F_times X1 (kq 2 14) (kq 2 7) (kq 2 9) = Y := ⟨_, rfl⟩
    rw [eX2] at R2
    have F2 : onK kq [(2, 14)] X1 X2 := onK.of (R2.on List.mem_cons_self)
    have r1 := r1.k hI F2 rfl
    have r2 := r2.k hI F2 rfl
    have r5 := r5.k hI F2 rfl
    have k4 := k4.o o4 F2 rfl
    have g1 := g1.k hI F2 rfl
    have g2 := R2.2
    have R3 := fe_times (h := kq 2 14) g2 g1 (by decide)
    obtain ⟨X3, eX3⟩ : ∃ Y, LF_F_times X2 (kq 2 14) (kq 2 14) (kq 2 11) = Y := ⟨_, rfl⟩
    rw [eX3] at R3
    have F3 : onK kq [(2, 14)] X2 X3 := onK.of (R3.on List.mem_cons_self)
    have r1 := r1.k hI F3 rfl
    have r2 := r2.k hI F3 rfl
    have r5 := r5.k hI F3 rfl
    have k4 := k4.o o4 F3 rfl
    have g3 := R3.2
    have hx := g3.ev (rt_class (y * y - 1) hv)
    rw [← hw] at hx
    obtain ⟨m1, m2, m3, m4⟩ := c_mend (ts := ts) hI o4 k4 hv hx r2 r1 r5
    rw [← hw] at m2 m3
    have er : ∀ w : Fp, (if rtT w * rtT w = w then rtT w else rtT w * eI) = rtX w := fun _ => rfl
    rw [er] at m2 m3
    generalize rtW y = w at *
    obtain ⟨Xd, ed⟩ : ∃ Y, (LF_Ed_mendRoot X3 kq ts).1 = Y := ⟨_, rfl⟩
    rw [ed] at m1 m3 m4
    have od : onK kq fiW X Xd := ((ob.ad r0 rfl).tr ((((onK.rf (l := [(0, 0), (0, 1), (0, 2), (0, 3), (0, 4), (0, 5), (0, 6), (2, 6), (2, 7), (2, 8), (2, 9), (2, 10), (2, 11), (2, 13), (2, 14), (4, 0), (4, 1), (4, 2), (4, 3)])).ad F1 rfl).ad F2 rfl).ad F3 rfl)).ad m1 rfl
    have hs3 : ((Xd.2 a0 31) >>> ((nI 7) &&& 31)) &&& (nI 1) = nI sg := by rw [(od.ou ho rfl).2, hsg]
    obtain ⟨t1, t2, t3, t4⟩ := c_sign (ts := ts) hI hs2 m3 m4
    obtain ⟨Xe, ee⟩ : ∃ Y, (LF_Ed_takeSign Xd kq ts (nI sg)).1 = Y := ⟨_, rfl⟩
    rw [ee] at t1 t3 t4
    have oe : onK kq fiW X Xe := od.ad t1 rfl
    have eq : LF_Ed_find X kq ts a0 = if (LF_Ed_mendRoot X3 kq ts).2 = true then (if (LF_Ed_takeSign Xd kq ts (nI sg)).2 = true then (LF_Pt_setAffine Xe (kq 4) (kq 2 14) (kq 2 13), true) else (Xe, false)) else (Xd, false) := by
      unfold LF_Ed_find
      simp only []
      rw [ea, eb, b2, if_pos (decide_eq_true hN), ec, eX1, eX2, eX3, ed, hs3, ee]
    rw [eq, decide_eq_true hN, Bool.true_and, m2]
    by_cases hq : rtX w * rtX w = w
    · rw [if_pos (decide_eq_true hq)]
      have e1 : dOK w sg = !(decide (rtX w = 0) && decide (sg = 1)) := by
        unfold dOK
        rw [decide_eq_true hq, Bool.true_and]
      rw [e1, ← t2]
      by_cases ht : (LF_Ed_takeSign Xd kq ts (nI sg)).2 = true
      · rw [if_pos ht, ht]
        obtain ⟨a1, a2, -⟩ := c_aff hI (t3 ht) t4
        exact ⟨oe.ad a1 rfl, rfl, fun _ => a2⟩
      · rw [if_neg ht, Bool.not_eq_true _ |>.mp ht]
        exact ⟨oe, rfl, fun z => absurd (show false = true from z) (by decide)⟩
    · rw [if_neg (fun z => hq (of_decide_eq_true z))]
      have e1 : dOK w sg = false := by
        unfold dOK
        rw [decide_eq_false hq, Bool.false_and]
      rw [e1]
      exact ⟨od, rfl, fun z => absurd (show false = true from z) (by decide)⟩
  · have eq : LF_Ed_find X kq ts a0 = (Xb, false) := by
      unfold LF_Ed_find
      simp only []
      rw [ea, eb, b2, if_neg (fun z => hN (of_decide_eq_true z))]
    rw [eq, decide_eq_false hN, Bool.false_and]
    exact ⟨ob, rfl, fun z => absurd (show false = true from z) (by decide)⟩
