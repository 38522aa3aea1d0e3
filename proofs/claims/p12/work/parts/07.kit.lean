/-! objects of the class: points, addends, the curve; private fields of a nest mate; static arrays -/
def o4_ (D : va_G) (g : ClassId → FieldType → Prop) (H : Heap) (ci o : Nat) (r : Nat → Nat) : Prop := va_P D classes [(o, .inr (ci, [.ref (r 0), .ref (r 1), .ref (r 2), .ref (r 3)]))] H ∧ ∀ k, k < 4 → sx_A g .long H (r k) 10 ∧ sx_L H (r k) 10
theorem o4_.kept {D : va_G} {g : ClassId → FieldType → Prop} {E : Nat → Prop} {H0 H : Heap} {ci o : Nat} {r : Nat → Nat} (h : o4_ D g H0 ci o r) (hJ : sx_J g E H0 H) (hn : ¬ E o) : o4_ D g H ci o r := ⟨hJ.ob hn h.1, fun k hk => ⟨hJ.2.2.1 _ _ _ (h.2 k hk).1, hJ.2.2.2 _ _ (h.2 k hk).2⟩⟩
def ed_ (D : va_G) (g : ClassId → FieldType → Prop) (H : Heap) (o : Nat) (r : Nat → Nat) : Prop := va_P D classes [(o, .inr (6, [.ref (r 0), .ref (r 1), .ref (r 2), .ref (r 3), .ref (r 4), .ref (r 5), .ref (r 6), .ref (r 7), .ref (r 8), .ref (r 9), .ref (r 10), .ref (r 11), .ref (r 12), .ref (r 13), .ref (r 14)]))] H ∧ ∀ k, 7 ≤ k → k < 15 → sx_A g .long H (r k) 10
theorem ed_.kept {D : va_G} {g : ClassId → FieldType → Prop} {E : Nat → Prop} {H0 H : Heap} {o : Nat} {r : Nat → Nat} (h : ed_ D g H0 o r) (hJ : sx_J g E H0 H) (hn : ¬ E o) : ed_ D g H o r := ⟨hJ.ob hn h.1, fun k h1 h2 => hJ.2.2.1 _ _ _ (h.2 k h1 h2)⟩
/-- a row of 16 addends; w tells their arrays, and at 99 themselves -/
def rb_ (D : va_G) (g : ClassId → FieldType → Prop) (E : Nat → Prop) (H : Heap) (a : Nat) (w : Nat → Nat → Nat) : Prop := ¬ E a ∧ ∃ cell : Cell, H[a]? = some cell ∧ g cell.cls (.object "CurveKeys$Addend") ∧ (∀ k, cell.vm ≠ .statics k) ∧ cell.vm ≠ .unknown ∧ 16 ≤ cell.slots.size ∧ ∀ j : Nat, j < 16 → cell.slots[j]? = some (.ref (w j 99)) ∧ o4_ D g H 5 (w j 99) (w j) ∧ ¬ E (w j 99) ∧ ∀ k, k < 4 → E (w j k)
theorem rb_.kept {D : va_G} {g : ClassId → FieldType → Prop} {E : Nat → Prop} {H0 H : Heap} {a : Nat} {w : Nat → Nat → Nat} (h : rb_ D g E H0 a w) (hJ : sx_J g E H0 H) : rb_ D g E H a w := by
  obtain ⟨h0, cell, h1, h2, h3, h4, h5, h6⟩ := h
  refine ⟨h0, cell, (hJ.2.1 a (Array.getElem?_eq_some_iff.mp h1).1 h0).trans h1, h2, h3, h4, h5, fun j hj => ?_⟩
  obtain ⟨q1, q2, q3, q4⟩ := h6 j hj
  exact ⟨q1, q2.kept hJ q3, q3, q4⟩
theorem rb_.el {D : va_G} {g : ClassId → FieldType → Prop} {E : Nat → Prop} {H : Heap} {a : Nat} {w : Nat → Nat → Nat} (h : rb_ D g E H a w) {j : Nat} (hj : j < 16) : o4_ D g H 5 (w j 99) (w j) ∧ ¬ E (w j 99) ∧ ∀ k, k < 4 → E (w j k) := by
  obtain ⟨-, cell, -, -, -, -, -, h6⟩ := h
  exact (h6 j hj).2
/-! what the static tables hold -/
def st_v : Nat → Nat → Int64 := fun k j => (match k with
  | 0 => ([45281625, 27714825, 36363642, 13898781, 229458, 15978800, 54557047, 27058993, 29715967, 9444199] : List Int64)
  | 1 => ([52811034, 25909283, 16144682, 17082669, 27570973, 30858332, 40966398, 8378388, 20764389, 8758491] : List Int64)
  | 2 => ([40265304, 26843545, 13421772, 20132659, 26843545, 6710886, 53687091, 13421772, 40265318, 26843545] : List Int64)
  | 3 => ([56195235, 13857412, 51736253, 6949390, 114729, 24766616, 60832955, 30306712, 48412415, 21499315] : List Int64)
  | 4 => ([34513072, 25610706, 9377949, 3500415, 12389472, 33281959, 41962654, 31548777, 326685, 11406482] : List Int64)
  | 5 => ([] : List Int64)
  | 6 => ([7640891576956012808, (-4942790177534073029), 4354685564936845355, (-6534734903238641935), 5840696475078001361, (-7276294671716946913), 2270897969802886507, 6620516959819538809] : List Int64)
  | 7 => ([4794697086780616226, 8158064640168781261, (-5349999486874862801), (-1606136188198331460), 4131703408338449720, 6480981068601479193, (-7908458776815382629), (-6116909921290321640), (-2880145864133508542), 1334009975649890238, 2608012711638119052, 6128411473006802146, 8268148722764581231, (-9160688886553864527), (-7215885187991268811), (-4495734319001033068), (-1973867731355612462), (-1171420211273849373), 1135362057144423861, 2597628984639134821, 3308224258029322869, 5365058923640841347, 6679025012923562964, 8573033837759648693, (-7476448914759557205), (-6327057829258317296), (-5763719355590565569), (-4658551843659510044), (-4116276920077217854), (-3051310485924567259), 489312712824947311, 1452737877330783856, 2861767655752347644, 3322285676063803686, 5560940570517711597, 5996557281743188959, 7280758554555802590, 8532644243296465576, (-9096487096722542874), (-7894198246740708037), (-6719396339535248540), (-6333637450476146687), (-4446306890439682159), (-4076793802049405392), (-3345356375505022440), (-2983346525034927856), (-860691631967231958), 1182934255886127544, 1847814050463011016, 2177327727835720531, 2830643537854262169, 3796741975233480872, 4115178125766777443, 5681478168544905931, 6601373596472566643, 7507060721942968483, 8399075790359081724, 8693463985226723168, (-8878714635349349518), (-8302665154208450068), (-8016688836872298968), (-6606660893046293015), (-4685533653050689259), (-4147400797238176981), (-3880063495543823972), (-3348786107499101689), (-1523767162380948706), (-757361751448694408), 500013540394364858, 748580250866718886, 1242879168328830382, 1977374033974150939, 2944078676154940804, 3659926193048069267, 4368137639120453308, 4836135668995329356, 5532061633213252278, 6448918945643986474, 6902733635092675308, 7801388544844847127] : List Int64)
  | _ => ([237, 211, 245, 92, 26, 99, 18, 88, 214, 156, 247, 162, 222, 249, 222, 20, 0, 0, 0, 0, 0, 0, 0, 0, 0, 0, 0, 0, 0, 0, 0, 16] : List Int64)).getD j 0
def fbl : Nat → Nat := fun j => ([0, 26, 51, 77, 102, 128, 153, 179, 204, 230] : List Nat).getD j 0
def st_w : Nat → Nat → Int32 := fun k j => if k = 5 then nI (fbl j) else 0
def st_H (D : va_G) (g : ClassId → FieldType → Prop) (E : Nat → Prop) (H : Heap) (t : Nat → Nat) : Prop := ∀ k, k < 9 → ¬ E (D.2 (st_i k) 0) ∧ (∃ cell : Cell, H[D.2 (st_i k) 0]? = some cell ∧ cell.vm.isStatics = true ∧ cell.slots[D.2 (st_i k) (st_j k)]? = some (.ref (t k))) ∧ sx_A g (st_t k) H (t k) (st_l k) ∧ ¬ E (t k) ∧ ∀ j, j < st_l k → mml g H (t k) j = st_v k j ∧ mmi g H (t k) j = st_w k j
theorem st_H.kept {D : va_G} {g : ClassId → FieldType → Prop} {E : Nat → Prop} {H0 H : Heap} {t : Nat → Nat} (h : st_H D g E H0 t) (hJ : sx_J g E H0 H) : st_H D g E H t := by
  intro k hk
  obtain ⟨h0, ⟨cell, h1, h2⟩, h3, h4, h5⟩ := h k hk
  have e : H[t k]? = H0[t k]? := by
    obtain ⟨c0, q1, -⟩ := h3
    exact hJ.2.1 _ (Array.getElem?_eq_some_iff.mp q1).1 h4
  exact ⟨h0, ⟨cell, (hJ.2.1 _ (Array.getElem?_eq_some_iff.mp h1).1 h0).trans h1, h2⟩, hJ.2.2.1 _ _ _ h3, h4, fun j hj => ⟨(mml_same e j).trans (h5 j hj).1, (mmi_same e j).trans (h5 j hj).2⟩⟩
theorem st_H.mono {D : va_G} {g : ClassId → FieldType → Prop} {E E' : Nat → Prop} {H : Heap} {t : Nat → Nat} (h : st_H D g E H t) (hE : ∀ q, E' q → E q) : st_H D g E' H t := fun k hk => ⟨fun z => (h k hk).1 (hE _ z), (h k hk).2.1, (h k hk).2.2.1, fun z => (h k hk).2.2.2.1 (hE _ z), (h k hk).2.2.2.2⟩
theorem st_H.vL {D : va_G} {g : ClassId → FieldType → Prop} {E : Nat → Prop} {H : Heap} {t : Nat → Nat} {X : vM} (h : st_H D g E H t) (hV : mm g H = X) (k : Nat) (hk : k < 9) {j : Nat} (hj : j < st_l k) : X.1 (t k) j = st_v k j := by
  rw [← hV]; exact ((h k hk).2.2.2.2 j hj).1
theorem st_H.vI {D : va_G} {g : ClassId → FieldType → Prop} {E : Nat → Prop} {H : Heap} {t : Nat → Nat} {X : vM} (h : st_H D g E H t) (hV : mm g H = X) (k : Nat) (hk : k < 9) {j : Nat} (hj : j < st_l k) : X.2 (t k) j = st_w k j := by
  rw [← hV]; exact ((h k hk).2.2.2.2 j hj).2
theorem st_a0 {D : va_G} {g : ClassId → FieldType → Prop} {E : Nat → Prop} {H : Heap} {t : Nat → Nat} (h : st_H D g E H t) : sx_A g .long H (t 0) 10 := (h 0 (by decide)).2.2.1
theorem st_a1 {D : va_G} {g : ClassId → FieldType → Prop} {E : Nat → Prop} {H : Heap} {t : Nat → Nat} (h : st_H D g E H t) : sx_A g .long H (t 1) 10 := (h 1 (by decide)).2.2.1
theorem st_a2 {D : va_G} {g : ClassId → FieldType → Prop} {E : Nat → Prop} {H : Heap} {t : Nat → Nat} (h : st_H D g E H t) : sx_A g .long H (t 2) 10 := (h 2 (by decide)).2.2.1
theorem st_a3 {D : va_G} {g : ClassId → FieldType → Prop} {E : Nat → Prop} {H : Heap} {t : Nat → Nat} (h : st_H D g E H t) : sx_A g .long H (t 3) 10 := (h 3 (by decide)).2.2.1
theorem st_a4 {D : va_G} {g : ClassId → FieldType → Prop} {E : Nat → Prop} {H : Heap} {t : Nat → Nat} (h : st_H D g E H t) : sx_A g .long H (t 4) 10 := (h 4 (by decide)).2.2.1
theorem st_a5 {D : va_G} {g : ClassId → FieldType → Prop} {E : Nat → Prop} {H : Heap} {t : Nat → Nat} (h : st_H D g E H t) : sx_A g .int H (t 5) 10 := (h 5 (by decide)).2.2.1
theorem st_a6 {D : va_G} {g : ClassId → FieldType → Prop} {E : Nat → Prop} {H : Heap} {t : Nat → Nat} (h : st_H D g E H t) : sx_A g .long H (t 6) 8 := (h 6 (by decide)).2.2.1
theorem st_a7 {D : va_G} {g : ClassId → FieldType → Prop} {E : Nat → Prop} {H : Heap} {t : Nat → Nat} (h : st_H D g E H t) : sx_A g .long H (t 7) 80 := (h 7 (by decide)).2.2.1
theorem st_a8 {D : va_G} {g : ClassId → FieldType → Prop} {E : Nat → Prop} {H : Heap} {t : Nat → Nat} (h : st_H D g E H t) : sx_A g .long H (t 8) 32 := (h 8 (by decide)).2.2.1
/-- an object of ours is no array -/
theorem sx_nob {s : State} {g : ClassId → FieldType → Prop} {D : va_G} {cl : List vw_C} {tys : List (ClassId × FieldType)} {ci o n : Nat} {fs : List Value} {H : Heap} {t : FieldType} (hG : sx_G s g) (hK : va_K D cl tys s) (hP : va_P D cl [(o, .inr (ci, fs))] H) : ¬ sx_A g t H o n := by
  rintro ⟨c0, h1, h2, -⟩
  obtain ⟨r, q1, c1, q2, q3, -⟩ := hP 0 _ rfl
  cases Option.some.inj (h1.symm.trans q2)
  rw [q3] at h2
  exact sx_noarr hG hK q1 t h2
section SXQ
variable {p : Program} {l : Launch} {e : Env} {R : Room} {s : State} {m : MethodId} {args : Array Value} {below : List Frame} {meth : Method} {c : Code} {H H0 : Heap} {locs : List Loc} {cells slots : Nat} {Q : State → Prop}
variable {cc : ByteArray} {pc : Nat} {ls : Array Slot} {g : ClassId → FieldType → Prop} {E F : Nat → Prop} {D : va_G}
variable {nL index ci N : Nat} {own C host : String} {rest : List Value} {fs : List Value} {T : u_T}
/-- a private field of a nest mate is read -/
theorem sx_getN {o : Nat} {v : Value} {f d : String} (EE : sx_E p s m args c cc nL own D g) (hP : va_P D classes [(o, .inr (ci, fs))] H) (hc : classes[ci]? = some (C, T, N)) (hin : ∀ w ∈ u_ws C T N, w ∈ G_) (k : Nat) (hk : k < N) (hT : T k = (C, f, d, (T k).2.2.2)) (hl : Cond.fieldLinkNest own index C f d host ∈ lw_tbl) (hv : fs[k]? = some v) (hdg : decode cc pc = .ok (.getfield index, 3))
    (kk : W p l e R s m args below meth c H locs cells slots Q (F0 m (pc + 3) ls (v :: rest))) : W p l e R s m args below meth c H locs cells slots Q (F0 m pc ls (.ref o :: rest)) := by
  obtain ⟨hx, hb, hml, hown, hts, hU⟩ := EE
  have e1 : (T k).1 = C := by rw [hT]
  have e2 : (T k).2.1 = f := by rw [hT]
  have e3 : (T k).2.2.1 = d := by rw [hT]
  exact va_getN (D := D) (ci := ci) (v := v) (C := C) (T := T) (N := N) (host := host) hx hb hts hin hown hU.2.1 hP 0 rfl hc k hk (ref := C) (by rw [e2, e3]; exact va_Nw.use rfl (hU.2.2.1 _ hl rfl)) (fun x h => by rw [e1] at h; exact h) hv hdg kk
/-- a static field is read, its own class's and a nest mate's -/
theorem sx_gets {a sl : Nat} {v : Value} {cell : Cell} {f d : String} (EE : sx_E p s m args c cc nL own D g) (hf : st_f C f d a sl s) (hc : H[a]? = some cell) (hs : cell.vm.isStatics = true) (hv : cell.slots[sl]? = some v) (hl : Cond.fieldLink own index C f d ∈ lw_tbl ∧ sx_okw (Cond.fieldLink own index C f d) = true) (hdg : decode cc pc = .ok (.getstatic index, 3))
    (kk : W p l e R s m args below meth c H locs cells slots Q (F0 m (pc + 3) ls (v :: rest))) : W p l e R s m args below meth c H locs cells slots Q (F0 m pc ls rest) := by
  obtain ⟨hx, hb, hml, hown, hts, hU⟩ := EE
  obtain ⟨cf, kf, fi, fd, h1, h2, h3, h4, rfl⟩ := hf
  exact W.gets hx hb hown (hts _ (G_in hl)) h1 h2 h3 h4 hc (fun h => by rw [h] at hs; cases hs) hv rfl hdg kk
theorem sx_getsN {a sl : Nat} {v : Value} {cell : Cell} {f d : String} (EE : sx_E p s m args c cc nL own D g) (hf : st_f C f d a sl s) (hc : H[a]? = some cell) (hs : cell.vm.isStatics = true) (hv : cell.slots[sl]? = some v) (hl : Cond.fieldLinkNest own index C f d host ∈ lw_tbl) (hdg : decode cc pc = .ok (.getstatic index, 3))
    (kk : W p l e R s m args below meth c H locs cells slots Q (F0 m (pc + 3) ls (v :: rest))) : W p l e R s m args below meth c H locs cells slots Q (F0 m pc ls rest) := by
  obtain ⟨hx, hb, hml, hown, hts, hU⟩ := EE
  obtain ⟨cf, kf, fi, fd, h1, h2, h3, h4, rfl⟩ := hf
  exact va_WgetsN hx hb hown (va_Nw.use rfl (hU.2.2.1 _ hl rfl)) h1 h2 h3 h4 hc (fun h => by rw [h] at hs; cases hs) hv rfl hdg kk
theorem sx_tl {x y : Int64} {pc : Nat} {ls : Array Slot} (h : x = y) (k : W p l e R s m args below meth c H locs cells slots Q (F0 m pc ls (.long y :: rest))) : W p l e R s m args below meth c H locs cells slots Q (F0 m pc ls (.long x :: rest)) := h ▸ k
/-- an addend out of the row -/
theorem vx_aald {a : Nat} {i : Nat} {w : Nat → Nat → Nat} (hx : p.tables.exec = Jvm.exec) (hb : c.code = cc) (hG : sx_G s g) (hS : sx_S g E F H0 H locs) (ha : rb_ D g E H0 a w) (hi : i < 16) (hdg : decode cc pc = .ok (.aaload, 1))
    (k : W p l e R s m args below meth c H locs cells slots Q (F0 m (pc + 1) ls (.ref (w i 99) :: rest))) : W p l e R s m args below meth c H locs cells slots Q (F0 m pc ls (.int (nI i) :: .ref a :: rest)) := by
  obtain ⟨h0, cell, h1, h2, h3, h4, h5, h6⟩ := ha
  obtain ⟨q1, q2, q3, q4⟩ := h6 i hi
  have hz : (nI i).toNatClampNeg = i := nI_clamp (by omega)
  exact W.aald (ty := .object "CurveKeys$Addend") hx hb ((hS.1.2.1 a (Array.getElem?_eq_some_iff.mp h1).1 h0).trans h1) (hG.arr h2 h3) rfl h4 (by rw [hz]; rintro (z | z); exact nI_pos (by omega) z; omega) (by rw [hz]; exact q1) rfl rfl hdg k
/-- a private static method of a nest mate is called -/
theorem sx_runSN {y : MethodName} {bytes : ByteArray} {maxL n : Nat} {ret : Option FieldType} {rm : Room} {As st : List Value} {Qc : Array Value → State → Outcome → State → Prop} (EE : sx_E p s m args c cc nL own D g) (hM : Met l y (.code y bytes maxL ret :: G_) rm (sx_Pc As H D g) Qc 0 0 E) (hl : Cond.methodLinkNest own index y host ∈ lw_tbl) (hw : sx_w [.static y, .initialized y.cls, .code y bytes maxL ret] y n) (hn : As.length = n) (hrm : rm.cells = 0 ∧ rm.slots = 0) (hR : rm.frames + 1 ≤ R.frames ∧ 8 + (maxL + 11) + rm.locals ≤ R.locals) (hcs : cells ≤ R.cells ∧ slots ≤ R.slots)
    (hsz : ls.size = nL) (hst : st = As.reverse ++ rest) (hrest : (rest.map fun v => v.category).sum ≤ 8) (hdg : decode cc pc = .ok (.invokestatic index, 3)) :
    va_Run p l e R s m args below meth c H locs cells slots 0 0 (F0 m pc ls st) rest (Qc As.toArray) E := by
  obtain ⟨hx, hb, hml, hown, hts, hU⟩ := EE
  have hin : ∀ w ∈ ([.static y, .initialized y.cls, .code y bytes maxL ret] : List Cond), w ∈ G_ := fun w h => G_in (hw.1 w h)
  exact va_runSN (As := As) (rest := rest) ⟨hx, hb, hml, hown, hts⟩ hM ⟨va_cnB n hts (G_good (fun w h => by
      rcases List.mem_cons.mp h with rfl | h
      · exact hin _ (by simp)
      · exact h)) rfl hrm.1 hrm.2 (hU.2.2.1 _ hl rfl) (hts _ (hin _ (by simp))) hw.2 hR, hts _ (hin _ (by simp)), trivial⟩ ⟨sx_blind, fun U hU' hW => ⟨rfl, hU', hU.moved hW⟩⟩ rfl hn hsz hst (lv_room hrest) hdg hcs
end SXQ
def R_JA : String := "java/util/Arrays"
def R_JM : String := "java/lang/Math"
abbrev b_JA_fill : ByteArray := prog_30_method_101_code
def y_JA_fill : MethodName := ⟨R_JA, "fill", "([JJ)V"⟩
abbrev b_JA_fillB : ByteArray := prog_30_method_109_code
def y_JA_fillB : MethodName := ⟨R_JA, "fill", "([BB)V"⟩
abbrev b_JA_fillR : ByteArray := prog_30_method_110_code
def y_JA_fillR : MethodName := ⟨R_JA, "fill", "([BIIB)V"⟩
abbrev b_JA_rangeCheck : ByteArray := prog_30_method_30_code
def y_JA_rangeCheck : MethodName := ⟨R_JA, "rangeCheck", "(III)V"⟩
