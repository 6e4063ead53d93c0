/-! MAKING CELLS: a new array, a new object, a final field; calls that make cells -/
section TRN
variable {p : Program} {l : Launch} {e : Env} {R : Room} {s : State} {m : MethodId} {args : Array Value} {below : List Frame} {meth : Method} {c : Code} {H : Heap} {locs : List Loc} {cells slots : Nat} {Q : State → Prop}
variable {cc : ByteArray} {pc : Nat} {ls : Array Slot} {rest : List Value} {D : va_G} {cI : ClassId} {a : Nat} {H0 : Heap} {own0 : Nat → Prop}
theorem tr_newa (hexec : p.tables.exec = Jvm.exec) (hb : c.code = cc) (harr : (Cond.arrayClass .int).before args s = true) (hK : TK D cI s) (hS : tr_S own0 H0 H locs) {n : Int32} {N : Nat} (hn : ¬ n < 0) (hN : n.toNatClampNeg = N) (hbytes : N * 4 ≤ 536870912) (hcells : cells + 1 ≤ R.cells) (hslots : slots + N ≤ R.slots) (hdg : decode cc pc = .ok (.newarray .int, 2))
    (kk : ∀ (q : Nat) (H1 : Heap), q = H.size → va_at D vwCl (q, .inl (cI, N, .inl (fun _ => 0))) H1 → H1.size = H.size + 1 → (∀ x : Nat, x < H.size → H1[x]? = H[x]?) → tr_S own0 H0 H1 locs → W p l e R s m args below meth c H1 locs (cells + 1) (slots + N) Q (F0 m (pc + 2) ls (.ref q :: rest))) : W p l e R s m args below meth c H locs cells slots Q (F0 m pc ls (.int n :: rest)) := by
  refine va_newaK (atype := .int) hexec hb harr rfl hdg rfl hn hN hbytes hcells hslots rfl fun H1 cA e1 z1 o1 hAr hNm => ?_
  have hc : s.vm.findClass ("[" ++ (FieldType.int).toString) = some cI := (hK.1.2 0 _ rfl).2
  have e2 : cA = cI := Option.some.inj (hNm.symm.trans hc)
  subst e2
  refine kk H.size H1 rfl ?_ z1 o1 ⟨Nat.le_trans hS.1 (by omega), fun x h1 h2 => (o1 x (Nat.lt_of_lt_of_le h1 hS.1)).trans (hS.2.1 x h1 h2), hS.2.2⟩
  show H1[H.size]? = some (vp_cell _ _)
  rw [vp_cell_i]
  exact e1
theorem tr_newo (hexec : p.tables.exec = Jvm.exec) (hb : c.code = cc) {own C : String} {T : u_T} {N ci index : Nat} {Ts : List Cond} (hts : ∀ w ∈ Ts, w.before args s = true) (hin : ∀ w ∈ u_ws C T N, w ∈ Ts) (ty : Nat → FieldType) (hty : ∀ k, k < N → parseFieldDescriptor (T k).2.2.1 = some (ty k)) (hown : s.vm.findClass own = some m.cls) (hcl : (Cond.classLink own index C).before args s = true) (hinst : (Cond.instantiable C N).before args s = true) (hini : (Cond.initialized C).before args s = true)
    (hK : TK D cI s) (hS : tr_S own0 H0 H locs) (hc : vwCl[ci]? = some (C, T, N)) {fs : List Value} (hfs : ∀ j, j < N → defaultValue (ty j) = vp_V fs j) (hcells : cells + 1 ≤ R.cells) (hslots : slots + N ≤ R.slots) (hdg : decode cc pc = .ok (.new index, 3))
    (kk : ∀ (q : Nat) (H1 : Heap), q = H.size → va_at D vwCl (q, .inr (ci, fs)) H1 → H1.size = H.size + 1 → (∀ x : Nat, x < H.size → H1[x]? = H[x]?) → tr_S own0 H0 H1 locs → W p l e R s m args below meth c H1 locs (cells + 1) (slots + N) Q (F0 m (pc + 3) ls (.ref q :: rest))) : W p l e R s m args below meth c H locs cells slots Q (F0 m pc ls rest) := by
  have hKn := hK.1.1 ci _ hc
  refine W.newcK hexec hb hown hcl hinst hini rfl hdg hcells hslots hKn.2.1 rfl fun H1 kC hkC e1 z1 o1 => ?_
  exact kk H.size H1 rfl ⟨_, hc, (u_born ty hts hin hKn hkC e1 hty).to hfs⟩ z1 o1 ⟨Nat.le_trans hS.1 (by omega), fun x h1 h2 => (o1 x (Nat.lt_of_lt_of_le h1 hS.1)).trans (hS.2.1 x h1 h2), hS.2.2⟩
theorem tr_putF (hexec : p.tables.exec = Jvm.exec) (hb : c.code = cc) {own C : String} {T : u_T} {N ci index : Nat} {Ts : List Cond} (hts : ∀ w ∈ Ts, w.before args s = true) (hin : ∀ w ∈ u_ws C T N, w ∈ Ts) (ty0 : Nat → FieldType) (hty : ∀ k, k < N → parseFieldDescriptor (T k).2.2.1 = some (ty0 k)) (hnm : ∀ a, a < N → ∀ b, b < N → a ≠ b → (T a).2.1 ≠ (T b).2.1) (hown : s.vm.findClass own = some m.cls) (hK : TK D cI s) (hS0 : tr_S own0 H0 H locs) (ha : own0 a) {fs : List Value} (hat : va_at D vwCl (a, .inr (ci, fs)) H) (hc : vwCl[ci]? = some (C, T, N)) (k : Nat) (hk : k < N) (hlink : (Cond.fieldLink own index (T k).1 (T k).2.1 (T k).2.2.1).before args s = true) (hfin : (T k).2.2.2 = true) (hin2 : meth.name = "<init>") (hdecl : (T k).1 = own) {ty : FieldType} {v : Value} (hd : parseFieldDescriptor (T k).2.2.1 = some ty) (hn : narrow ty v = v) (hfit : fits ty v = true) (hl : k < fs.length)
    (hdg : decode cc pc = .ok (.putfield index, 3)) (kk : ∀ (H1 : Heap) (locs1 : List Loc), va_at D vwCl (a, .inr (ci, fs.set k v)) H1 → H1.size = H.size → (∀ q : Nat, q ≠ a → H1[q]? = H[q]?) → tr_S own0 H0 H1 locs1 → W p l e R s m args below meth c H1 locs1 cells slots Q (F0 m (pc + 3) ls rest)) : W p l e R s m args below meth c H locs cells slots Q (F0 m pc ls (v :: .ref a :: rest)) := by
  have hap := va_apart (own := own) hts hin ty0 hty hnm hK.1 hc
  obtain ⟨r, h1, cell, q1, q2, q3, q4⟩ := hat
  have hr : r = (C, T, N) := Option.some.inj (h1.symm.trans hc)
  subst hr
  obtain ⟨hS, hfc, kC, hkC, hkind⟩ := hK.1.1 ci _ hc
  obtain ⟨cf, kf, fi, f, hi, hsl⟩ := hS k hk
  have hlay := hts _ (hin _ (u_in_lay hk))
  unfold u_lay at hlay
  rw [if_pos hfin] at hlay
  have hst := (u_facts hfc hkC (u_lays hts hin hk) hi).1
  have hcf : m.cls = cf := by
    obtain ⟨_, _, c', _, _, _, -, -, hf', -, -, -, hown2, -⟩ := Cond.laysFinal_spec hlay
    have e1 : c' = cf := by have := hi.symm.trans hf'; simp at this; exact this.1.symm
    rw [hdecl] at hown2
    rw [← e1]; exact Option.some.inj (hown.symm.trans hown2)
  have h6 := u_fits hfc hkC hkind (Or.inr hlay) hi hd hn hfit
  refine W.putFinK hexec hb hown hlink hi hst hcf hin2 (by rw [q2]; exact h6) q1 q3 (by rw [hsl]; exact k2_hasslot (q4 k hk)) rfl rfl hdg fun H' e1 e2 e3 => ?_
  rw [hsl] at e1 ⊢
  exact kk H' _ ⟨_, hc, t_OB.to (V := updV (vp_V fs) k v) ⟨_, e1, q2, q3, t_set q4 hap hk v⟩ (fun j _ => vp_updV_set hl v j)⟩ e2 e3 (hS0.step (o1 := fun q => q = a) (Nat.le_of_eq e2.symm) (fun q _ h => e3 q h) (fun q hq => by rw [hq]; exact ha) (fun x hx => by rw [List.mem_singleton.mp hx]))
variable {st0 : List Value} {av : Array Value}
theorem tr_S.step2 {own : Nat → Prop} {H0 H H1 : Heap} {locs L : List Loc} {o1 fr : Nat → Prop} (h : tr_S own H0 H locs) (z : H.size ≤ H1.size) (hk : ∀ q : Nat, q < H.size → ¬ o1 q → H1[q]? = H[q]?) (ho : ∀ q, o1 q → own q) (hf : ∀ q, fr q → own q) (hL : ∀ l ∈ L, fr l.base) : tr_S own H0 H1 (locs ++ L) := by
  refine ⟨Nat.le_trans h.1 z, fun q hl hq => (hk q (Nat.lt_of_lt_of_le hl h.1) (fun e => hq (ho q e))).trans (h.2.1 q hl hq), fun x hx => ?_⟩
  rcases List.mem_append.mp hx with h1 | h1
  · exact h.2.2 x h1
  · exact hf _ (hL x h1)
/-- behind a call that may make cells -/
theorem tr_wN {mc ms : Nat} {res : Option Value} {Post : Heap → Prop} {o1 fr : Nat → Prop} (hr : va_Run p l e R s m args below meth c H locs cells slots mc ms (F0 m pc ls st0) rest (tr_Q res Post o1 av) fr) (hS : tr_S own0 H0 H locs) (ho : ∀ q, o1 q → own0 q) (hf : ∀ q, fr q → own0 q)
    (kk : ∀ (H1 : Heap) (locs1 : List Loc), Post H1 → H.size ≤ H1.size → (∀ q : Nat, q < H.size → ¬ o1 q → H1[q]? = H[q]?) → tr_S own0 H0 H1 locs1 → W p l e R s m args below meth c H1 locs1 (cells + mc) (slots + ms) Q (F0 m (pc + 3) ls (res.toList ++ rest))) : W p l e R s m args below meth c H locs cells slots Q (F0 m pc ls st0) := by
  intro T hT X
  obtain ⟨v, st₀, t, T', L, h0, X', hL, e1, -, ⟨hv, hp, hz, hk⟩, st⟩ := hr T hT X
  cases hv
  rw [h0] at hz hk
  rw [← e1] at hp hz hk
  obtain ⟨t2, a1, b1⟩ := kk T'.heap (locs ++ L) hp hz hk (hS.step2 hz hk ho hf hL) T' rfl X'
  exact ⟨t2, st t2 a1, b1⟩
theorem tr_wNi {mc ms : Nat} {v : Int32} {Post : Heap → Prop} {o1 fr : Nat → Prop} (hr : va_Run p l e R s m args below meth c H locs cells slots mc ms (F0 m pc ls st0) rest (tr_Q (some (.int v)) Post o1 av) fr) (hS : tr_S own0 H0 H locs) (ho : ∀ q, o1 q → own0 q) (hf : ∀ q, fr q → own0 q)
    (kk : ∀ (H1 : Heap) (locs1 : List Loc), Post H1 → H.size ≤ H1.size → (∀ q : Nat, q < H.size → ¬ o1 q → H1[q]? = H[q]?) → tr_S own0 H0 H1 locs1 → W p l e R s m args below meth c H1 locs1 (cells + mc) (slots + ms) Q (F0 m (pc + 3) ls (.int v :: rest))) : W p l e R s m args below meth c H locs cells slots Q (F0 m pc ls st0) := tr_wN hr hS ho hf kk
end TRN
theorem STA.keepL {D : va_G} {cI : ClassId} {C : Nat → Nat} {mv sv : LV} {H H1 : Heap} (h : STA D cI C mv sv H) (hk : ∀ q : Nat, q < H.size → H1[q]? = H[q]?) : STA D cI C mv sv H1 := fun k hk17 => (h k hk17).kept (hk _ (h k hk17).lt)
theorem STA.keepNe {D : va_G} {cI : ClassId} {C : Nat → Nat} {mv sv : LV} {H H1 : Heap} {q5 : Nat} (h : STA D cI C mv sv H) (hq : ∀ k, k < 17 → C k < q5) (hk : ∀ q : Nat, q ≠ q5 → H1[q]? = H[q]?) : STA D cI C mv sv H1 := fun k hk17 => (h k hk17).kept (hk _ (Nat.ne_of_lt (hq k hk17)))
theorem STA.below {D : va_G} {cI : ClassId} {C : Nat → Nat} {mv sv : LV} {H : Heap} {q5 : Nat} (h : STA D cI C mv sv H) (e : q5 = H.size) : ∀ k, k < 17 → C k < q5 := fun k hk17 => by rw [e]; exact (h k hk17).lt
theorem tr_z_int {x : Int32} {i : Nat} (hi : i ≤ (x.toInt + 1).toNat) : (x - nI i).toInt = x.toInt - i := by
  have h1 := Int32.toInt_lt x; have h2 := Int32.le_toInt x
  rcases Nat.eq_zero_or_pos i with rfl | h0
  · rw [show nI 0 = 0 from rfl, Int32.sub_zero]; simp
  · rw [Int32.toInt_sub, show (nI i).toInt = ((i : Int)).bmod (2 ^ 32) from Int32.toInt_ofNat]
    rw [Int.sub_bmod_bmod, Int.bmod_eq_of_le] <;> omega
theorem tr_overZ {x : Int32} {i N : Nat} (hN : (x.toInt + 1).toNat = N) (hi : i ≤ N) (h : x - nI i < 0) : i = N := by
  have h1 := tr_z_int (x := x) (i := i) (by omega)
  have h2 := Int32.lt_iff_toInt_lt.mp h
  rw [show (0 : Int32).toInt = 0 from rfl] at h2
  omega
theorem tr_onZ {x : Int32} {i N : Nat} (hN : (x.toInt + 1).toNat = N) (hi : i ≤ N) (h : ¬ x - nI i < 0) : i < N := by
  have h1 := tr_z_int (x := x) (i := i) (by omega)
  have h2 := mt Int32.lt_iff_toInt_lt.mpr h
  rw [show (0 : Int32).toInt = 0 from rfl] at h2
  omega

theorem tr_dec (x : Int32) (i : Nat) : x - nI i + Int32.ofInt (-1) = x - nI (i + 1) := (tr_subS x i).symm
theorem tr_x0 (x : Int32) : x - nI 0 = x := tr_sub0 x
theorem tr_z15 {mv : LV} (hm : mOK mv) {i : Nat} (h : i < (((mv.1 1) - 2).toInt + 1).toNat) : ((mv.1 1) - 2 - nI i).toInt ≤ 15 := by
  have h1 := tr_z_int (x := (mv.1 1) - 2) (i := i) (by omega)
  have h2 := poles_2 hm
  have := hm.1
  omega
theorem tr_forc {G : Nat → Heap → List Loc → Array Slot → Prop} {P0 : Heap → List Loc → Array Slot → Prop} (inv : Nat → Heap → List Loc → Array Slot → Prop) (N : Nat) (h0 : ∀ (H : Heap) (locs : List Loc) (ls : Array Slot), P0 H locs ls → inv 0 H locs ls) (step : ∀ (i : Nat) (H : Heap) (locs : List Loc) (ls : Array Slot), i ≤ N → inv i H locs ls → (∀ (H : Heap) (locs : List Loc) (ls : Array Slot), i < N → inv (i + 1) H locs ls → G (i + 1) H locs ls) → G i H locs ls) : ∀ (H : Heap) (locs : List Loc) (ls : Array Slot), P0 H locs ls → G 0 H locs ls := by
  have key : ∀ (k i : Nat) (H : Heap) (locs : List Loc) (ls : Array Slot), i ≤ N → N + 1 ≤ i + k → inv i H locs ls → G i H locs ls := by
    intro k
    induction k with
    | zero => intro i H locs ls h1 h2; omega
    | succ k ih => exact fun i H locs ls h1 h2 h3 => step i H locs ls h1 h3 (fun H2 locs2 ls2 h4 h5 => ih (i + 1) H2 locs2 ls2 (by omega) (by omega) h5)
  exact fun H locs ls h => key (N + 1) 0 H locs ls (Nat.zero_le _) (by omega) (h0 H locs ls h)
theorem tr_S.endl {own : Nat → Prop} {s : State} {H : Heap} {locs : List Loc} {w r : Int64} {Post : Heap → Prop} {a : Array Value} (h : tr_S own s.heap H locs) (e : w = r) (hp : Post H) : ∀ t : State, t.heap = H → s.WarmedH t.vm → tr_Q (some (.long r)) Post own a s (.returned (some (.long w))) t := by
  subst e
  exact h.end hp
def nOwn (M : Nat → Nat) (sz : Nat) : Nat → Prop := fun q => mOwn M q ∨ sz ≤ q
