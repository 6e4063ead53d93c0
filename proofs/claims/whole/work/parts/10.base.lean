/-! BASE: facts on the heap, cell by cell; rows that say what a write leaves as it was; contracts that read, contracts that write -/
abbrev vwCl : List vw_C := [(RX0, TX0, 9), (RX1, TX1, 6), (RX2, TX2, 1), (RX3, TX3, 2), (RX4, TX4, 9), (RX5, TX5, 2), (RX6, TX6, 19), (RX7, TX7, 6)]
def tr_nest : List Cond := [Cond.fieldLinkNest "TramRibbonModel" 144 "TramRibbonModel$State" "tick" "I" "TramRibbonModel",
  Cond.fieldLinkNest "TramRibbonModel" 135 "TramRibbonModel$State" "gotOn" "I" "TramRibbonModel",
  Cond.fieldLinkNest "TramRibbonModel" 154 "TramRibbonModel$State" "swaps" "I" "TramRibbonModel",
  Cond.fieldLinkNest "TramRibbonModel" 39 "TramRibbonModel$State" "sections" "I" "TramRibbonModel",
  Cond.fieldLinkNest "TramRibbonModel" 81 "TramRibbonModel$State" "wait" "[I" "TramRibbonModel",
  Cond.fieldLinkNest "TramRibbonModel" 53 "TramRibbonModel$State" "isCut" "[I" "TramRibbonModel",
  Cond.fieldLinkNest "TramRibbonModel" 72 "TramRibbonModel$State" "spares" "[I" "TramRibbonModel",
  Cond.fieldLinkNest "TramRibbonModel" 69 "TramRibbonModel$State" "bound" "[I" "TramRibbonModel",
  Cond.fieldLinkNest "TramRibbonModel" 108 "TramRibbonModel$State" "dead" "[I" "TramRibbonModel",
  Cond.fieldLinkNest "TramRibbonModel" 114 "TramRibbonModel$State" "times" "[I" "TramRibbonModel",
  Cond.fieldLinkNest "TramRibbonModel" 90 "TramRibbonModel$State" "at" "[I" "TramRibbonModel",
  Cond.fieldLinkNest "TramRibbonModel" 93 "TramRibbonModel$State" "way" "[I" "TramRibbonModel",
  Cond.fieldLinkNest "TramRibbonModel" 120 "TramRibbonModel$State" "riders" "[I" "TramRibbonModel",
  Cond.fieldLinkNest "TramRibbonModel" 96 "TramRibbonModel$State" "wear" "[I" "TramRibbonModel",
  Cond.fieldLinkNest "TramRibbonModel" 123 "TramRibbonModel$State" "broken" "[I" "TramRibbonModel",
  Cond.fieldLinkNest "TramRibbonModel" 99 "TramRibbonModel$State" "pushes" "[I" "TramRibbonModel",
  Cond.fieldLinkNest "TramRibbonModel" 129 "TramRibbonModel$State" "came" "[I" "TramRibbonModel",
  Cond.fieldLinkNest "TramRibbonModel" 164 "TramRibbonModel$State" "went" "[I" "TramRibbonModel",
  Cond.fieldLinkNest "TramRibbonModel$State" 85 "TramRibbonModel" "poles" "I" "TramRibbonModel",
  Cond.fieldLinkNest "TramRibbonModel$State" 100 "TramRibbonModel" "cars" "I" "TramRibbonModel",
  Cond.fieldLinkNest "TramRibbonModel$State" 91 "TramRibbonModel" "slope" "[I" "TramRibbonModel",
  Cond.methodLinkNest "TramRibbon$Line" 11 ⟨"TramRibbon$Wire", "<init>", "()V"⟩ "TramRibbon",
  Cond.methodLinkNest "TramRibbon$Line" 20 ⟨"TramRibbon$Stops", "<init>", "()V"⟩ "TramRibbon",
  Cond.methodLinkNest "TramRibbon$Line" 27 ⟨"TramRibbon$Fleet", "<init>", "()V"⟩ "TramRibbon",
  Cond.methodLinkNest "TramRibbon$Line" 204 ⟨"TramRibbon", "outside", "(III)Z"⟩ "TramRibbon",
  Cond.methodLinkNest "TramRibbonModel" 19 ⟨"TramRibbonModel$State", "<init>", "(LTramRibbonModel;)V"⟩ "TramRibbonModel"]
theorem tr_nest_is : ∀ w ∈ tr_nest, (∃ a i b n d h, w = Cond.fieldLinkNest a i b n d h) ∨ (∃ a i x h, w = Cond.methodLinkNest a i x h) := by
  intro w hw
  simp only [tr_nest, List.mem_cons, List.not_mem_nil, or_false] at hw
  rcases hw with rfl | rfl | rfl | rfl | rfl | rfl | rfl | rfl | rfl | rfl | rfl | rfl | rfl | rfl | rfl | rfl | rfl | rfl | rfl | rfl | rfl | rfl | rfl | rfl | rfl | rfl
  · exact Or.inl ⟨_, _, _, _, _, _, rfl⟩
  · exact Or.inl ⟨_, _, _, _, _, _, rfl⟩
  · exact Or.inl ⟨_, _, _, _, _, _, rfl⟩
  · exact Or.inl ⟨_, _, _, _, _, _, rfl⟩
  · exact Or.inl ⟨_, _, _, _, _, _, rfl⟩
  · exact Or.inl ⟨_, _, _, _, _, _, rfl⟩
  · exact Or.inl ⟨_, _, _, _, _, _, rfl⟩
  · exact Or.inl ⟨_, _, _, _, _, _, rfl⟩
  · exact Or.inl ⟨_, _, _, _, _, _, rfl⟩
  · exact Or.inl ⟨_, _, _, _, _, _, rfl⟩
  · exact Or.inl ⟨_, _, _, _, _, _, rfl⟩
  · exact Or.inl ⟨_, _, _, _, _, _, rfl⟩
  · exact Or.inl ⟨_, _, _, _, _, _, rfl⟩
  · exact Or.inl ⟨_, _, _, _, _, _, rfl⟩
  · exact Or.inl ⟨_, _, _, _, _, _, rfl⟩
  · exact Or.inl ⟨_, _, _, _, _, _, rfl⟩
  · exact Or.inl ⟨_, _, _, _, _, _, rfl⟩
  · exact Or.inl ⟨_, _, _, _, _, _, rfl⟩
  · exact Or.inl ⟨_, _, _, _, _, _, rfl⟩
  · exact Or.inl ⟨_, _, _, _, _, _, rfl⟩
  · exact Or.inl ⟨_, _, _, _, _, _, rfl⟩
  · exact Or.inr ⟨_, _, _, _, rfl⟩
  · exact Or.inr ⟨_, _, _, _, rfl⟩
  · exact Or.inr ⟨_, _, _, _, rfl⟩
  · exact Or.inr ⟨_, _, _, _, rfl⟩
  · exact Or.inr ⟨_, _, _, _, rfl⟩
theorem tr_nw {w : Cond} (hw : w ∈ tr_nest) {s U : State} (hW : s.WarmedH U.vm) (h : va_Nw w s) : va_Nw w U := by
  rcases tr_nest_is w hw with ⟨a, i, b, n, d, h', rfl⟩ | ⟨a, i, x, h', rfl⟩
  · exact va_Nw.warmF hW h
  · exact va_Nw.warmM hW h
theorem tr_nwc {w : Cond} (hw : w ∈ tr_nest) {U : State} {g : JFrame} {mk : MethodId} {a : Array Value} (h : va_Nw w U) : va_Nw w (U.calling g mk a) := by
  rcases tr_nest_is w hw with ⟨a, i, b, n, d, h', rfl⟩ | ⟨a, i, x, h', rfl⟩
  · exact va_Nw.same rfl rfl h
  · exact va_Nw.same rfl rfl h
/-- what is known of the tables: the classes, the class of int[], the links between nest mates -/
def TK (D : va_G) (cI : ClassId) (U : State) : Prop := va_K D vwCl [(cI, .int)] U ∧ ∀ w ∈ tr_nest, va_Nw w U
theorem TK.warm {D : va_G} {cI : ClassId} {s U : State} (hW : s.WarmedH U.vm) (h : TK D cI s) : TK D cI U := ⟨va_K.moved hW.alike h.1, fun w hw => tr_nw hw hW (h.2 w hw)⟩
theorem TK.calling {D : va_G} {cI : ClassId} {U : State} {g : JFrame} {mk : MethodId} {a : Array Value} (h : TK D cI U) : TK D cI (U.calling g mk a) := ⟨va_K.moved (u := U) (U := U.calling g mk a) (Vm.Alike.refl U.vm) h.1, fun w hw => tr_nwc hw (h.2 w hw)⟩
/-- a contract's start -/
def tr_Pc (D : va_G) (cI : ClassId) (av : List Value) (Pre : Heap → Prop) : Array Value → State → Prop := va_Pc av (fun U => Pre U.heap ∧ TK D cI U)
theorem tr_blind {D : va_G} {cI : ClassId} {av : List Value} {Pre : Heap → Prop} : FrameBlind (tr_Pc D cI av Pre) := fun _ _ _ _ q => ⟨q.1, q.2.1, q.2.2.calling⟩
/-- a contract's end: the answer, what the heap holds then, the cells that may have changed -/
def tr_Q (res : Option Value) (Post : Heap → Prop) (own : Nat → Prop) : Array Value → State → Outcome → State → Prop := fun _ st oc t => oc = .returned res ∧ Post t.heap ∧ st.heap.size ≤ t.heap.size ∧ ∀ q : Nat, q < st.heap.size → ¬ own q → t.heap[q]? = st.heap[q]?
/-- so far only own cells have changed -/
def tr_S (own : Nat → Prop) (H0 H : Heap) (locs : List Loc) : Prop := H0.size ≤ H.size ∧ (∀ q : Nat, q < H0.size → ¬ own q → H[q]? = H0[q]?) ∧ ∀ l ∈ locs, own l.base
theorem tr_S.rf {own : Nat → Prop} {H : Heap} : tr_S own H H [] := ⟨Nat.le_refl _, fun _ _ _ => rfl, fun _ h => by cases h⟩
theorem tr_S.step {own : Nat → Prop} {H0 H H1 : Heap} {locs L : List Loc} {o1 : Nat → Prop} (h : tr_S own H0 H locs) (z : H.size ≤ H1.size) (hk : ∀ q : Nat, q < H.size → ¬ o1 q → H1[q]? = H[q]?) (ho : ∀ q, o1 q → own q) (hL : ∀ l ∈ L, o1 l.base) : tr_S own H0 H1 (locs ++ L) := by
  refine ⟨Nat.le_trans h.1 z, fun q hl hq => (hk q (Nat.lt_of_lt_of_le hl h.1) (fun e => hq (ho q e))).trans (h.2.1 q hl hq), fun x hx => ?_⟩
  rcases List.mem_append.mp hx with h1 | h1
  · exact h.2.2 x h1
  · exact ho _ (hL x h1)
theorem tr_S.end {own : Nat → Prop} {s : State} {H : Heap} {locs : List Loc} {res : Option Value} {Post : Heap → Prop} {a : Array Value} (h : tr_S own s.heap H locs) (hp : Post H) : ∀ t : State, t.heap = H → s.WarmedH t.vm → tr_Q res Post own a s (.returned res) t := fun t ht _ => ⟨rfl, by rw [ht]; exact hp, by rw [ht]; exact h.1, fun q hl hq => by rw [ht]; exact h.2.1 q hl hq⟩
theorem tr_S.endr {own : Nat → Prop} {s : State} {H : Heap} {locs : List Loc} {w r : Int32} {Post : Heap → Prop} {a : Array Value} (h : tr_S own s.heap H locs) (e : w = r) (hp : Post H) : ∀ t : State, t.heap = H → s.WarmedH t.vm → tr_Q (some (.int r)) Post own a s (.returned (some (.int w))) t := by
  subst e
  exact h.end hp
theorem tr_one {D : va_G} {cl : List vw_C} {q : Nat × va_E} {H : Heap} (h : va_at D cl q H) : va_P D cl [q] H := by
  intro k q' hk
  match k, hk with
  | 0, hk => cases hk; exact h
  | k + 1, hk => simp at hk
section TRA
variable {p : Program} {l : Launch} {e : Env} {R : Room} {s : State} {m : MethodId} {args : Array Value} {below : List Frame} {meth : Method} {c : Code} {H : Heap} {locs : List Loc} {cells slots : Nat} {Q : State → Prop}
variable {cc : ByteArray} {pc : Nat} {ls : Array Slot} {rest : List Value} {D : va_G} {cI : ClassId} {a : Nat} {H0 : Heap} {own0 : Nat → Prop}
theorem tr_get (hexec : p.tables.exec = Jvm.exec) (hb : c.code = cc) {own C : String} {T : u_T} {N ci index : Nat} {Ts : List Cond} (hts : ∀ w ∈ Ts, w.before args s = true) (hin : ∀ w ∈ u_ws C T N, w ∈ Ts) (hown : s.vm.findClass own = some m.cls) (hK : TK D cI s) {fs : List Value} (hat : va_at D vwCl (a, .inr (ci, fs)) H) (hc : vwCl[ci]? = some (C, T, N)) (k : Nat) (hk : k < N) (hlink : (Cond.fieldLink own index (T k).1 (T k).2.1 (T k).2.2.1).before args s = true) {v : Value} (hv : fs[k]? = some v) (hdg : decode cc pc = .ok (.getfield index, 3))
    (kk : W p l e R s m args below meth c H locs cells slots Q (F0 m (pc + 3) ls (v :: rest))) : W p l e R s m args below meth c H locs cells slots Q (F0 m pc ls (.ref a :: rest)) :=
  va_get hexec hb hts hin hown hK.1 (tr_one hat) 0 rfl hc k hk hlink (fun _ h => h) hv hdg kk
theorem tr_getN (hexec : p.tables.exec = Jvm.exec) (hb : c.code = cc) {own C host : String} {T : u_T} {N ci index : Nat} {Ts : List Cond} (hts : ∀ w ∈ Ts, w.before args s = true) (hin : ∀ w ∈ u_ws C T N, w ∈ Ts) (hown : s.vm.findClass own = some m.cls) (hK : TK D cI s) {fs : List Value} (hat : va_at D vwCl (a, .inr (ci, fs)) H) (hc : vwCl[ci]? = some (C, T, N)) (k : Nat) (hk : k < N) (hlink : Cond.fieldLinkNest own index (T k).1 (T k).2.1 (T k).2.2.1 host ∈ tr_nest) {v : Value} (hv : fs[k]? = some v) (hdg : decode cc pc = .ok (.getfield index, 3))
    (kk : W p l e R s m args below meth c H locs cells slots Q (F0 m (pc + 3) ls (v :: rest))) : W p l e R s m args below meth c H locs cells slots Q (F0 m pc ls (.ref a :: rest)) :=
  va_getN hexec hb hts hin hown hK.1 (tr_one hat) 0 rfl hc k hk (va_Nw.use rfl (hK.2 _ hlink)) (fun _ h => h) hv hdg kk
theorem tr_put (hexec : p.tables.exec = Jvm.exec) (hb : c.code = cc) {own C : String} {T : u_T} {N ci index : Nat} {Ts : List Cond} (hts : ∀ w ∈ Ts, w.before args s = true) (hin : ∀ w ∈ u_ws C T N, w ∈ Ts) (ty0 : Nat → FieldType) (hty : ∀ k, k < N → parseFieldDescriptor (T k).2.2.1 = some (ty0 k)) (hnm : ∀ a, a < N → ∀ b, b < N → a ≠ b → (T a).2.1 ≠ (T b).2.1) (hown : s.vm.findClass own = some m.cls) (hK : TK D cI s) (hS0 : tr_S own0 H0 H locs) (ha : own0 a) {fs : List Value} (hat : va_at D vwCl (a, .inr (ci, fs)) H) (hc : vwCl[ci]? = some (C, T, N)) (k : Nat) (hk : k < N) (hlink : (Cond.fieldLink own index (T k).1 (T k).2.1 (T k).2.2.1).before args s = true) (hfin : (T k).2.2.2 = false) {ty : FieldType} {v : Value} (hd : parseFieldDescriptor (T k).2.2.1 = some ty) (hn : narrow ty v = v) (hfit : fits ty v = true) (hl : k < fs.length)
    (hdg : decode cc pc = .ok (.putfield index, 3)) (kk : ∀ (H1 : Heap) (locs1 : List Loc), va_at D vwCl (a, .inr (ci, fs.set k v)) H1 → H1.size = H.size → (∀ q : Nat, q ≠ a → H1[q]? = H[q]?) → tr_S own0 H0 H1 locs1 → W p l e R s m args below meth c H1 locs1 cells slots Q (F0 m (pc + 3) ls rest)) : W p l e R s m args below meth c H locs cells slots Q (F0 m pc ls (v :: .ref a :: rest)) := by
  have hap := va_apart (own := own) hts hin ty0 hty hnm hK.1 hc
  obtain ⟨r, h1, cell, q1, q2, q3, q4⟩ := hat
  have hr : r = (C, T, N) := Option.some.inj (h1.symm.trans hc)
  subst hr
  obtain ⟨hS, hfc, kC, hkC, hkind⟩ := hK.1.1 ci _ hc
  obtain ⟨cf, kf, fi, f, hi, hsl⟩ := hS k hk
  have hlay := hts _ (hin _ (u_in_lay hk))
  unfold u_lay at hlay
  rw [if_neg (by rw [hfin]; decide)] at hlay
  have hst := (u_facts hfc hkC (u_lays hts hin hk) hi).1
  have h6 := u_store hfc hkC hkind hlay hi hd hn hfit
  refine W.putK hexec hb (f := f) ⟨hown, hlink, ⟨_, _, _, hi⟩, hst⟩ (by rw [q2]; exact h6) q1 q3 (by rw [hsl]; exact k2_hasslot (q4 k hk)) rfl rfl hdg fun H' e1 e2 e3 => ?_
  rw [hsl] at e1 ⊢
  exact kk H' _ ⟨_, hc, t_OB.to (V := updV (vp_V fs) k v) ⟨_, e1, q2, q3, t_set q4 hap hk v⟩ (fun j _ => vp_updV_set hl v j)⟩ e2 e3 (hS0.step (o1 := fun q => q = a) (Nat.le_of_eq e2.symm) (fun q _ h => e3 q h) (fun q hq => by rw [hq]; exact ha) (fun x hx => by rw [List.mem_singleton.mp hx]))
theorem tr_putN (hexec : p.tables.exec = Jvm.exec) (hb : c.code = cc) {own C host : String} {T : u_T} {N ci index : Nat} {Ts : List Cond} (hts : ∀ w ∈ Ts, w.before args s = true) (hin : ∀ w ∈ u_ws C T N, w ∈ Ts) (ty0 : Nat → FieldType) (hty : ∀ k, k < N → parseFieldDescriptor (T k).2.2.1 = some (ty0 k)) (hnm : ∀ a, a < N → ∀ b, b < N → a ≠ b → (T a).2.1 ≠ (T b).2.1) (hown : s.vm.findClass own = some m.cls) (hK : TK D cI s) (hS0 : tr_S own0 H0 H locs) (ha : own0 a) {fs : List Value} (hat : va_at D vwCl (a, .inr (ci, fs)) H) (hc : vwCl[ci]? = some (C, T, N)) (k : Nat) (hk : k < N) (hlink : Cond.fieldLinkNest own index (T k).1 (T k).2.1 (T k).2.2.1 host ∈ tr_nest) (hfin : (T k).2.2.2 = false) {ty : FieldType} {v : Value} (hd : parseFieldDescriptor (T k).2.2.1 = some ty) (hn : narrow ty v = v) (hfit : fits ty v = true) (hl : k < fs.length)
    (hdg : decode cc pc = .ok (.putfield index, 3)) (kk : ∀ (H1 : Heap) (locs1 : List Loc), va_at D vwCl (a, .inr (ci, fs.set k v)) H1 → H1.size = H.size → (∀ q : Nat, q ≠ a → H1[q]? = H[q]?) → tr_S own0 H0 H1 locs1 → W p l e R s m args below meth c H1 locs1 cells slots Q (F0 m (pc + 3) ls rest)) : W p l e R s m args below meth c H locs cells slots Q (F0 m pc ls (v :: .ref a :: rest)) := by
  have hap := va_apart (own := own) hts hin ty0 hty hnm hK.1 hc
  obtain ⟨r, h1, cell, q1, q2, q3, q4⟩ := hat
  have hr : r = (C, T, N) := Option.some.inj (h1.symm.trans hc)
  subst hr
  obtain ⟨hS, hfc, kC, hkC, hkind⟩ := hK.1.1 ci _ hc
  obtain ⟨cf, kf, fi, f, hi, hsl⟩ := hS k hk
  have hlay := hts _ (hin _ (u_in_lay hk))
  unfold u_lay at hlay
  rw [if_neg (by rw [hfin]; decide)] at hlay
  have hst := (u_facts hfc hkC (u_lays hts hin hk) hi).1
  have h6 := u_store hfc hkC hkind hlay hi hd hn hfit
  refine va_WputK hexec hb (f := f) hown (va_Nw.use rfl (hK.2 _ hlink)) hi hst (by rw [q2]; exact h6) q1 q3 (by rw [hsl]; exact k2_hasslot (q4 k hk)) rfl rfl hdg fun H' e1 e2 e3 => ?_
  rw [hsl] at e1 ⊢
  exact kk H' _ ⟨_, hc, t_OB.to (V := updV (vp_V fs) k v) ⟨_, e1, q2, q3, t_set q4 hap hk v⟩ (fun j _ => vp_updV_set hl v j)⟩ e2 e3 (hS0.step (o1 := fun q => q = a) (Nat.le_of_eq e2.symm) (fun q _ h => e3 q h) (fun q hq => by rw [hq]; exact ha) (fun x hx => by rw [List.mem_singleton.mp hx]))
theorem tr_iald (hexec : p.tables.exec = Jvm.exec) (hb : c.code = cc) (hK : TK D cI s) {n : Nat} {f : Nat → Int32} (hat : va_at D vwCl (a, .inl (cI, n, .inl f)) H) {i : Int32} (hin : vp_in i n) (hdg : decode cc pc = .ok (.iaload, 1))
    (kk : W p l e R s m args below meth c H locs cells slots Q (F0 m (pc + 1) ls (.int (f i.toNatClampNeg) :: rest))) : W p l e R s m args below meth c H locs cells slots Q (F0 m pc ls (.int i :: .ref a :: rest)) :=
  va_iald hexec hb hK.1 (tr_one hat) 0 0 rfl rfl hin hdg kk
theorem tr_alen (hexec : p.tables.exec = Jvm.exec) (hb : c.code = cc) (hK : TK D cI s) {n : Nat} {f : Nat → Int32} (hat : va_at D vwCl (a, .inl (cI, n, .inl f)) H) (hdg : decode cc pc = .ok (.arraylength, 1))
    (kk : W p l e R s m args below meth c H locs cells slots Q (F0 m (pc + 1) ls (.int (nI n) :: rest))) : W p l e R s m args below meth c H locs cells slots Q (F0 m pc ls (.ref a :: rest)) :=
  va_alen hexec hb hK.1 (tr_one hat) 0 0 (ty := .int) rfl rfl rfl hdg kk
theorem tr_iast (hexec : p.tables.exec = Jvm.exec) (hb : c.code = cc) (hK : TK D cI s) (hS : tr_S own0 H0 H locs) (ha : own0 a) {n : Nat} {f : Nat → Int32} (hat : va_at D vwCl (a, .inl (cI, n, .inl f)) H) {i x : Int32} (hin : vp_in i n) (hdg : decode cc pc = .ok (.iastore, 1))
    (kk : ∀ (H1 : Heap) (locs1 : List Loc), va_at D vwCl (a, .inl (cI, n, .inl (upd f i.toNatClampNeg x))) H1 → H1.size = H.size → (∀ q : Nat, q ≠ a → H1[q]? = H[q]?) → tr_S own0 H0 H1 locs1 → W p l e R s m args below meth c H1 locs1 cells slots Q (F0 m (pc + 1) ls rest)) : W p l e R s m args below meth c H locs cells slots Q (F0 m pc ls (.int x :: .int i :: .ref a :: rest)) := by
  refine W.iast hexec hb hat ((hK.1.2 0 _ rfl).1 n (fun j => .int (f j))) (fun q => by cases q) (by show ¬ (i < 0 ∨ (arrV _ _ _).slots.size ≤ _); rw [arrV_size]; exact hin) rfl rfl hdg fun H1 e z oq => ?_
  refine kk H1 _ ?_ z oq (hS.step (o1 := fun q => q = a) (Nat.le_of_eq z.symm) (fun q _ h => oq q h) (fun q hq => by rw [hq]; exact ha) (fun x hx => by rw [List.mem_singleton.mp hx]))
  show H1[a]? = some (vp_cell _ _)
  rw [e]
  rw [vp_cell_i, vp_cell_i, arrV_store]
  congr 2
  funext q
  by_cases hq : q = i.toNatClampNeg
  · subst hq
    simp [updV, upd]
  · simp [updV, upd, hq]
theorem tr_recv {C : String} {T : u_T} {N ci : Nat} {fs : List Value} (hK : TK D cI s) (hat : va_at D vwCl (a, .inr (ci, fs)) H) (hc : vwCl[ci]? = some (C, T, N)) : ∃ cellB : Cell, H[a]? = some cellB ∧ cellB.vm.isStatics = false ∧ s.vm.findClass C = some cellB.cls := va_recv hK.1 (tr_one hat) hc (q0 := 0) rfl
theorem tr_preV {C : String} {T : u_T} {N ci : Nat} {fs As : List Value} {Pre : Heap → Prop} (hK : TK D cI s) (hat : va_at D vwCl (a, .inr (ci, fs)) H) (hc : vwCl[ci]? = some (C, T, N)) (hp : Pre H) : PreV s H C a (tr_Pc D cI (.ref a :: As) Pre) As := ⟨tr_blind, tr_recv hK hat hc, fun U hU hW => ⟨rfl, by rw [hU]; exact hp, hK.warm hW⟩⟩
theorem tr_preS {As : List Value} {Pre : Heap → Prop} (hK : TK D cI s) (hp : Pre H) : PreS s H (tr_Pc D cI As Pre) As := ⟨tr_blind, fun U hU hW => ⟨rfl, by rw [hU]; exact hp, hK.warm hW⟩⟩
variable {st0 : List Value} {av : Array Value}
/-- behind a call that only reads -/
theorem tr_ri {v : Int32} (hr : va_Run p l e R s m args below meth c H locs cells slots 0 0 (F0 m pc ls st0) rest (vp_Si (fun r => r = v) av) (fun _ => False))
    (kk : W p l e R s m args below meth c H locs cells slots Q (F0 m (pc + 3) ls (.int v :: rest))) : W p l e R s m args below meth c H locs cells slots Q (F0 m pc ls st0) :=
  vp_callSi hr.run (fun r hr => by rw [hr]; exact kk)
theorem tr_rl {v : Int64} (hr : va_Run p l e R s m args below meth c H locs cells slots 0 0 (F0 m pc ls st0) rest (vp_Sl (fun r => r = v) av) (fun _ => False))
    (kk : W p l e R s m args below meth c H locs cells slots Q (F0 m (pc + 3) ls (.long v :: rest))) : W p l e R s m args below meth c H locs cells slots Q (F0 m pc ls st0) :=
  vp_callSl hr.run (fun r hr => by rw [hr]; exact kk)
/-- behind a call that writes -/
theorem tr_w {res : Option Value} {Post : Heap → Prop} {o1 : Nat → Prop} (hr : va_Run p l e R s m args below meth c H locs cells slots 0 0 (F0 m pc ls st0) rest (tr_Q res Post o1 av) o1) (hS : tr_S own0 H0 H locs) (ho : ∀ q, o1 q → own0 q)
    (kk : ∀ (H1 : Heap) (locs1 : List Loc), Post H1 → H.size ≤ H1.size → (∀ q : Nat, q < H.size → ¬ o1 q → H1[q]? = H[q]?) → tr_S own0 H0 H1 locs1 → W p l e R s m args below meth c H1 locs1 cells slots Q (F0 m (pc + 3) ls (res.toList ++ rest))) : W p l e R s m args below meth c H locs cells slots Q (F0 m pc ls st0) := by
  intro T hT X
  obtain ⟨v, st₀, t, T', L, h0, X', hL, e1, -, ⟨hv, hp, hz, hk⟩, st⟩ := hr T hT X
  cases hv
  rw [h0] at hz hk
  rw [← e1] at hp hz hk
  obtain ⟨t2, a1, b1⟩ := kk T'.heap (locs ++ L) hp hz hk (hS.step hz hk ho hL) T' rfl X'
  exact ⟨t2, st t2 a1, b1⟩
theorem tr_wv {Post : Heap → Prop} {o1 : Nat → Prop} (hr : va_Run p l e R s m args below meth c H locs cells slots 0 0 (F0 m pc ls st0) rest (tr_Q none Post o1 av) o1) (hS : tr_S own0 H0 H locs) (ho : ∀ q, o1 q → own0 q)
    (kk : ∀ (H1 : Heap) (locs1 : List Loc), Post H1 → H.size ≤ H1.size → (∀ q : Nat, q < H.size → ¬ o1 q → H1[q]? = H[q]?) → tr_S own0 H0 H1 locs1 → W p l e R s m args below meth c H1 locs1 cells slots Q (F0 m (pc + 3) ls rest)) : W p l e R s m args below meth c H locs cells slots Q (F0 m pc ls st0) := tr_w hr hS ho kk
theorem tr_wi {v : Int32} {Post : Heap → Prop} {o1 : Nat → Prop} (hr : va_Run p l e R s m args below meth c H locs cells slots 0 0 (F0 m pc ls st0) rest (tr_Q (some (.int v)) Post o1 av) o1) (hS : tr_S own0 H0 H locs) (ho : ∀ q, o1 q → own0 q)
    (kk : ∀ (H1 : Heap) (locs1 : List Loc), Post H1 → H.size ≤ H1.size → (∀ q : Nat, q < H.size → ¬ o1 q → H1[q]? = H[q]?) → tr_S own0 H0 H1 locs1 → W p l e R s m args below meth c H1 locs1 cells slots Q (F0 m (pc + 3) ls (.int v :: rest))) : W p l e R s m args below meth c H locs cells slots Q (F0 m pc ls st0) := tr_w hr hS ho kk
theorem tr_cv {Post : Heap → Prop} {o1 : Nat → Prop} (hr : va_Run p l e R s m args below meth c H locs cells slots 0 0 (F0 m pc ls st0) rest (tr_Q none Post o1 av) o1) (hS : tr_S own0 H0 H locs) (ho : ∀ q, o1 q → own0 q)
    (kk : ∀ (H1 : Heap) (locs1 : List Loc), Post H1 → tr_S own0 H0 H1 locs1 → W p l e R s m args below meth c H1 locs1 cells slots Q (F0 m (pc + 3) ls rest)) : W p l e R s m args below meth c H locs cells slots Q (F0 m pc ls st0) := tr_w hr hS ho (fun H1 l1 h1 _ _ h4 => kk H1 l1 h1 h4)
theorem tr_ci {v : Int32} {Post : Heap → Prop} {o1 : Nat → Prop} (hr : va_Run p l e R s m args below meth c H locs cells slots 0 0 (F0 m pc ls st0) rest (tr_Q (some (.int v)) Post o1 av) o1) (hS : tr_S own0 H0 H locs) (ho : ∀ q, o1 q → own0 q)
    (kk : ∀ (H1 : Heap) (locs1 : List Loc), Post H1 → tr_S own0 H0 H1 locs1 → W p l e R s m args below meth c H1 locs1 cells slots Q (F0 m (pc + 3) ls (.int v :: rest))) : W p l e R s m args below meth c H locs cells slots Q (F0 m pc ls st0) := tr_w hr hS ho (fun H1 l1 h1 _ _ h4 => kk H1 l1 h1 h4)
end TRA
/-- the end of a method that only reads -/
theorem tr_endi {s : State} {v w : Int32} {a : Array Value} (h : w = v) : ∀ t : State, t.heap = s.heap → s.WarmedH t.vm → vp_Si (fun r => r = v) a s (.returned (some (.int w))) t := fun _ ht _ => ⟨w, rfl, h, ht⟩
theorem tr_endl {s : State} {v w : Int64} {a : Array Value} (h : w = v) : ∀ t : State, t.heap = s.heap → s.WarmedH t.vm → vp_Sl (fun r => r = v) a s (.returned (some (.long w))) t := fun _ ht _ => ⟨w, rfl, h, ht⟩
/-- a loop from 0 to n - 1 -/
def itI {α : Type} : Nat → (Nat → α → α) → α → α
  | 0, _, a => a
  | n + 1, f, a => f n (itI n f a)
theorem itI_0 {α : Type} (f : Nat → α → α) (a : α) : itI 0 f a = a := rfl
theorem itI_s {α : Type} (n : Nat) (f : Nat → α → α) (a : α) : itI (n + 1) f a = f n (itI n f a) := rfl
/-- the first i below n with p i, else n -/
def fsI : Nat → (Nat → Bool) → Nat
  | 0, _ => 0
  | n + 1, p => if fsI n p < n then fsI n p else if p n = true then n else n + 1
theorem tr_lt {i : Nat} (hi : i < 2 ^ 31) {x : Int32} : nI i < x ↔ i < x.toNatClampNeg := by
  have h1 : (nI i).toInt = (i : Int) := nI_toInt hi
  rw [Int32.lt_iff_toInt_lt, h1]
  show (i : Int) < x.toInt ↔ i < x.toInt.toNat
  omega
theorem tr_le {i : Nat} (hi : i < 2 ^ 31) {x : Int32} : x ≤ nI i ↔ x.toNatClampNeg ≤ i := by
  have h1 : (nI i).toInt = (i : Int) := nI_toInt hi
  rw [Int32.le_iff_toInt_le, h1]
  show x.toInt ≤ (i : Int) ↔ x.toInt.toNat ≤ i
  omega
theorem tr_cl31 (x : Int32) : x.toNatClampNeg < 2 ^ 31 := by
  have h := Int32.toInt_lt x
  show x.toInt.toNat < 2 ^ 31
  omega
