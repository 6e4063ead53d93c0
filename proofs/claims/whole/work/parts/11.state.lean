/-! THE STATE OF THE CLASS: a Line: its six numbers and its seventeen rows, read off 38 cells -/
def rAt (n : Nat) (f : Nat → Int32) (i : Int32) : Int32 := if i < 0 then 0 else if nI n ≤ i then 0 else f i.toNatClampNeg
def rSet (n : Nat) (f : Nat → Int32) (i x : Int32) : Nat → Int32 := if i < 0 then f else if nI n ≤ i then f else upd f i.toNatClampNeg x
def rAdd (n : Nat) (f : Nat → Int32) (i x : Int32) : Nat → Int32 := if i < 0 then f else if nI n ≤ i then f else upd f i.toNatClampNeg (f i.toNatClampNeg + x)
/-- a Row object and its cells -/
def rowP (D : va_G) (cI : ClassId) (a b n : Nat) (f : Nat → Int32) (H : Heap) : Prop := va_at D vwCl (a, .inr (2, [.ref b])) H ∧ va_at D vwCl (b, .inl (cI, n, .inl f)) H
theorem tr_row_eq {D : va_G} {cl : List vw_C} {cI : ClassId} {b n : Nat} {f g : Nat → Int32} {H : Heap} (h : va_at D cl (b, .inl (cI, n, .inl f)) H) (e : ∀ j, j < n → f j = g j) : va_at D cl (b, .inl (cI, n, .inl g)) H := by
  have h1 : H[b]? = some (vp_cell cI (n, .inl f)) := h
  show H[b]? = some (vp_cell cI (n, .inl g))
  rw [h1, vp_cell_i, vp_cell_i]
  unfold arrV
  congr 3
  funext j
  show Value.int (f j.val) = Value.int (g j.val)
  rw [e j.val j.isLt]
theorem tr_in {n : Nat} (hn : n < 2 ^ 31) {i : Int32} (h1 : ¬ i < 0) (h2 : ¬ nI n ≤ i) : vp_in i n := by
  refine vp_in_iff.mpr ⟨?_, ?_⟩
  · have := mt Int32.lt_iff_toInt_lt.mpr h1
    have h0 : (0 : Int32).toInt = 0 := rfl
    omega
  · have := mt Int32.le_iff_toInt_le.mpr h2
    have h3 : (nI n).toInt = (n : Int) := nI_toInt hn
    omega
abbrev LV : Type := (Nat → Int32) × (Nat → Nat → Int32)
def lLen : Nat → Nat
  | 0 => 15
  | 1 => 15
  | 2 => 16
  | 3 => 15
  | 4 => 15
  | 5 => 15
  | 6 => 15
  | 7 => 16
  | 8 => 16
  | _ => 6
theorem lLen_lt (r : Nat) : lLen r < 2 ^ 31 := by
  unfold lLen
  split <;> decide
def lRow (v : LV) (r : Nat) (f : Nat → Int32) : LV := (v.1, fun k => if k = r then f else v.2 k)
def lSc (v : LV) (i : Nat) (x : Int32) : LV := (fun k => if k = i then x else v.1 k, v.2)
def lAt (v : LV) (r : Nat) (i : Int32) : Int32 := rAt (lLen r) (v.2 r) i
def lSet (v : LV) (r : Nat) (i x : Int32) : LV := lRow v r (rSet (lLen r) (v.2 r) i x)
def lAdd (v : LV) (r : Nat) (i x : Int32) : LV := lRow v r (rAdd (lLen r) (v.2 r) i x)
def lFill (v : LV) (r : Nat) (x : Int32) : LV := lRow v r (fun _ => x)
/-- the cells of a Line: 0 itself, 1 its Wire, 2 its Stops, 3 its Fleet, 4 + 2 r the Row r, 5 + 2 r that row's cells -/
def lE (cI : ClassId) (A : Nat → Nat) (v : LV) : Nat → va_E
  | 0 => .inr (1, [.ref (A 1), .ref (A 2), .ref (A 3), .int (v.1 3), .int (v.1 4), .int (v.1 5)])
  | 1 => .inr (4, [.int (v.1 0), .int (v.1 1), .ref (A 4), .ref (A 6), .ref (A 8), .ref (A 10), .ref (A 12), .ref (A 14), .ref (A 16)])
  | 2 => .inr (3, [.ref (A 18), .ref (A 20)])
  | 3 => .inr (0, [.int (v.1 2), .ref (A 22), .ref (A 24), .ref (A 26), .ref (A 28), .ref (A 30), .ref (A 32), .ref (A 34), .ref (A 36)])
  | k + 4 => if k % 2 = 0 then .inr (2, [.ref (A (k + 5))]) else .inl (cI, lLen (k / 2), .inl (v.2 (k / 2)))
def LNE (D : va_G) (cI : ClassId) (A : Nat → Nat) (v : LV) (H : Heap) : Prop := ∀ k, k < 38 → va_at D vwCl (A k, lE cI A v k) H
def LInj (A : Nat → Nat) : Prop := ∀ i, i < 38 → ∀ j, j < 38 → A i = A j → i = j
def lOwn (A : Nat → Nat) : Nat → Prop := fun q => ∃ k, k < 38 ∧ q = A k
def rOwn (b : Nat) : Nat → Prop := fun q => q = b
theorem rOwn_l {A : Nat → Nat} {k : Nat} (hk : k < 38) : ∀ q, rOwn (A k) q → lOwn A q := fun _ h => ⟨k, hk, h⟩
theorem lOwn_k {A : Nat → Nat} {k : Nat} (hk : k < 38) : lOwn A (A k) := ⟨k, hk, rfl⟩
section LPS
variable {D : va_G} {cI : ClassId} {A : Nat → Nat} {v : LV} {H H1 : Heap}
theorem LNE.c0 (h : LNE D cI A v H) : va_at D vwCl (A 0, .inr (1, [.ref (A 1), .ref (A 2), .ref (A 3), .int (v.1 3), .int (v.1 4), .int (v.1 5)])) H := h 0 (by decide)
theorem LNE.c1 (h : LNE D cI A v H) : va_at D vwCl (A 1, .inr (4, [.int (v.1 0), .int (v.1 1), .ref (A 4), .ref (A 6), .ref (A 8), .ref (A 10), .ref (A 12), .ref (A 14), .ref (A 16)])) H := h 1 (by decide)
theorem LNE.c2 (h : LNE D cI A v H) : va_at D vwCl (A 2, .inr (3, [.ref (A 18), .ref (A 20)])) H := h 2 (by decide)
theorem LNE.c3 (h : LNE D cI A v H) : va_at D vwCl (A 3, .inr (0, [.int (v.1 2), .ref (A 22), .ref (A 24), .ref (A 26), .ref (A 28), .ref (A 30), .ref (A 32), .ref (A 34), .ref (A 36)])) H := h 3 (by decide)
theorem lE_row (r : Nat) : lE cI A v (4 + 2 * r) = .inr (2, [.ref (A (5 + 2 * r))]) := by
  rw [show 4 + 2 * r = 2 * r + 4 by omega, show 5 + 2 * r = 2 * r + 5 by omega]
  show (if (2 * r) % 2 = 0 then _ else _) = _
  rw [if_pos (by omega)]
theorem lE_cells (r : Nat) : lE cI A v (5 + 2 * r) = .inl (cI, lLen r, .inl (v.2 r)) := by
  rw [show 5 + 2 * r = (2 * r + 1) + 4 by omega]
  show (if (2 * r + 1) % 2 = 0 then _ else _) = _
  rw [if_neg (by omega), show (2 * r + 1) / 2 = r by omega]
theorem LNE.robj (h : LNE D cI A v H) (r : Nat) (hr : r < 17) : va_at D vwCl (A (4 + 2 * r), .inr (2, [.ref (A (5 + 2 * r))])) H := by
  have := h (4 + 2 * r) (by omega)
  rwa [lE_row] at this
theorem LNE.cells (h : LNE D cI A v H) (r : Nat) (hr : r < 17) : va_at D vwCl (A (5 + 2 * r), .inl (cI, lLen r, .inl (v.2 r))) H := by
  have := h (5 + 2 * r) (by omega)
  rwa [lE_cells] at this
theorem LNE.row (h : LNE D cI A v H) (r : Nat) (hr : r < 17) : rowP D cI (A (4 + 2 * r)) (A (5 + 2 * r)) (lLen r) (v.2 r) H := ⟨h.robj r hr, h.cells r hr⟩
theorem LNE.setRow (hA : LInj A) (h : LNE D cI A v H) (r : Nat) (hr : r < 17) {f : Nat → Int32} (h1 : va_at D vwCl (A (5 + 2 * r), .inl (cI, lLen r, .inl f)) H1) (hk : ∀ q : Nat, q < H.size → ¬ rOwn (A (5 + 2 * r)) q → H1[q]? = H[q]?) : LNE D cI A (lRow v r f) H1 := by
  intro k hk38
  by_cases e : k = 5 + 2 * r
  · subst e
    rw [lE_cells]
    show va_at D vwCl (_, .inl (cI, lLen r, .inl (if r = r then f else v.2 r))) H1
    rw [if_pos rfl]
    exact h1
  · have e2 : lE cI A (lRow v r f) k = lE cI A v k := by
      match k, e with
      | 0, _ => rfl
      | 1, _ => rfl
      | 2, _ => rfl
      | 3, _ => rfl
      | k + 4, e =>
        show (if k % 2 = 0 then _ else _) = (if k % 2 = 0 then _ else _)
        by_cases h2 : k % 2 = 0
        · rw [if_pos h2, if_pos h2]
        · rw [if_neg h2, if_neg h2]
          show (Sum.inl (cI, lLen (k / 2), .inl (if k / 2 = r then f else v.2 (k / 2))) : va_E) = _
          rw [if_neg (by omega)]
    rw [e2]
    exact (h k hk38).kept (hk _ (h k hk38).lt (fun q => e (hA _ hk38 _ (by omega) q)))
def lCell : Nat → Nat
  | 0 => 1
  | 1 => 1
  | 2 => 3
  | _ => 0
theorem lE_sc (i : Nat) (x : Int32) (k : Nat) (hk : k ≠ lCell i) : lE cI A (lSc v i x) k = lE cI A v k := by
  match k, hk with
  | 0, hk =>
    match i, hk with
    | 0, _ => rfl
    | 1, _ => rfl
    | 2, _ => rfl
    | i + 3, hk => exact absurd rfl hk
  | 1, hk =>
    match i, hk with
    | 0, hk => exact absurd rfl hk
    | 1, hk => exact absurd rfl hk
    | 2, _ => rfl
    | i + 3, _ => rfl
  | 2, _ => rfl
  | 3, hk =>
    match i, hk with
    | 0, _ => rfl
    | 1, _ => rfl
    | 2, hk => exact absurd rfl hk
    | i + 3, _ => rfl
  | k + 4, _ => rfl
theorem LNE.setSc (hA : LInj A) (h : LNE D cI A v H) (i : Nat) {x : Int32} {e : va_E} (h1 : va_at D vwCl (A (lCell i), e) H1) (he : e = lE cI A (lSc v i x) (lCell i)) (hk : ∀ q : Nat, q ≠ A (lCell i) → H1[q]? = H[q]?) : LNE D cI A (lSc v i x) H1 := by
  have hc : lCell i < 38 := by unfold lCell; split <;> decide
  intro k hk38
  by_cases e1 : k = lCell i
  · subst e1
    rw [← he]
    exact h1
  · rw [lE_sc i x k e1]
    exact (h k hk38).kept (hk _ (fun q => e1 (hA _ hk38 _ hc q)))
theorem LNE.keep (h : LNE D cI A v H) (hk : ∀ k, k < 38 → H1[A k]? = H[A k]?) : LNE D cI A v H1 := fun k h38 => (h k h38).kept (hk k h38)
end LPS
/-- a stronger start, a weaker end -/
theorem tr_mono {l : Launch} {y : MethodName} {ws : List Cond} {rm : Room} {Pc Pc' : Array Value → State → Prop} {Qc Qc' : Array Value → State → Outcome → State → Prop} {mc ms : Nat} {free free' : Addr → Prop} (h : Met l y ws rm Pc Qc mc ms free) (hP : ∀ a s, Pc' a s → Pc a s) (hQ : ∀ a s o t, Pc' a s → Qc a s o t → Qc' a s o t) (hf : ∀ q, free q → free' q) : Met l y ws rm Pc' Qc' mc ms free' :=
  MetFree.mono h hP (fun _ _ _ _ _ k => k) (fun a s o t hp q => ⟨hQ a s o t hp q.1, q.2.choose, q.2.choose_spec.1, fun z hz => hf _ (q.2.choose_spec.2 z hz)⟩)
theorem tr_pre {l : Launch} {y : MethodName} {ws : List Cond} {rm : Room} {D : va_G} {cI : ClassId} {av : List Value} {P1 P2 : Heap → Prop} {Qc : Array Value → State → Outcome → State → Prop} {mc ms : Nat} {free : Addr → Prop} (h : Met l y ws rm (tr_Pc D cI av P1) Qc mc ms free) (hP : ∀ H, P2 H → P1 H) : Met l y ws rm (tr_Pc D cI av P2) Qc mc ms free :=
  tr_mono h (fun _ _ q => ⟨q.1, hP _ q.2.1, q.2.2⟩) (fun _ _ _ _ _ q => q) (fun _ q => q)
theorem tr_post {l : Launch} {y : MethodName} {ws : List Cond} {rm : Room} {D : va_G} {cI : ClassId} {av : List Value} {P1 P2 Q1 Q2 : Heap → Prop} {res : Option Value} {own : Nat → Prop} {mc ms : Nat} {free : Addr → Prop} (h : Met l y ws rm (tr_Pc D cI av P1) (tr_Q res Q1 own) mc ms free) (hP : ∀ H, P2 H → P1 H) (hQ : ∀ H H1 : Heap, P2 H → Q1 H1 → (∀ q : Nat, q < H.size → ¬ own q → H1[q]? = H[q]?) → Q2 H1) : Met l y ws rm (tr_Pc D cI av P2) (tr_Q res Q2 own) mc ms free :=
  tr_mono h (fun _ _ q => ⟨q.1, hP _ q.2.1, q.2.2⟩) (fun _ _ _ _ p q => ⟨q.1, hQ _ _ p.2.1 q.2.1 q.2.2.2, q.2.2⟩) (fun _ q => q)
/-! LOOPS -/
theorem tr_forp {G P0 : Array Slot → Prop} (inv : Nat → Array Slot → Prop) (N : Nat) (h0 : ∀ ls : Array Slot, P0 ls → inv 0 ls) (step : ∀ (i : Nat) (ls : Array Slot), i ≤ N → inv i ls → (∀ ls : Array Slot, i < N → inv (i + 1) ls → G ls) → G ls) : ∀ ls : Array Slot, P0 ls → G ls := by
  have key : ∀ (k i : Nat) (ls : Array Slot), i ≤ N → N + 1 ≤ i + k → inv i ls → G ls := by
    intro k
    induction k with
    | zero => intro i ls h1 h2; omega
    | succ k ih => exact fun i ls h1 h2 h3 => step i ls h1 h3 (fun ls2 h4 h5 => ih (i + 1) ls2 (by omega) (by omega) h5)
  exact fun ls h => key (N + 1) 0 ls (Nat.zero_le _) (by omega) (h0 ls h)
theorem tr_forw {G P0 : Heap → List Loc → Array Slot → Prop} (inv : Nat → Heap → List Loc → Array Slot → Prop) (N : Nat) (h0 : ∀ (H : Heap) (locs : List Loc) (ls : Array Slot), P0 H locs ls → inv 0 H locs ls) (step : ∀ (i : Nat) (H : Heap) (locs : List Loc) (ls : Array Slot), i ≤ N → inv i H locs ls → (∀ (H : Heap) (locs : List Loc) (ls : Array Slot), i < N → inv (i + 1) H locs ls → G H locs ls) → G H locs ls) : ∀ (H : Heap) (locs : List Loc) (ls : Array Slot), P0 H locs ls → G H locs ls := by
  have key : ∀ (k i : Nat) (H : Heap) (locs : List Loc) (ls : Array Slot), i ≤ N → N + 1 ≤ i + k → inv i H locs ls → G H locs ls := by
    intro k
    induction k with
    | zero => intro i H locs ls h1 h2; omega
    | succ k ih => exact fun i H locs ls h1 h2 h3 => step i H locs ls h1 h3 (fun H2 locs2 ls2 h4 h5 => ih (i + 1) H2 locs2 ls2 (by omega) (by omega) h5)
  exact fun H locs ls h => key (N + 1) 0 H locs ls (Nat.zero_le _) (by omega) (h0 H locs ls h)
/-- the first answer, none if there is none -/
def fstI {α : Type} : Nat → (Nat → Option α) → Option α
  | 0, _ => none
  | n + 1, f => match fstI n f with
    | some r => some r
    | none => f n
theorem fstI_n {α : Type} {i : Nat} {f : Nat → Option α} (h : fstI i f = none) (h1 : f i = none) : fstI (i + 1) f = none := by
  show (match fstI i f with | some r => some r | none => f i) = none
  rw [h]; exact h1
theorem fstI_s {α : Type} {i N : Nat} {f : Nat → Option α} {r : α} (h : fstI i f = none) (h1 : f i = some r) (hN : i < N) : fstI N f = some r := by
  have key : ∀ k, fstI (i + 1 + k) f = some r := by
    intro k
    induction k with
    | zero =>
      show (match fstI i f with | some r => some r | none => f i) = some r
      rw [h]; exact h1
    | succ k ih =>
      show (match fstI (i + 1 + k) f with | some r => some r | none => f (i + 1 + k)) = some r
      rw [ih]
  have := key (N - (i + 1))
  rwa [show i + 1 + (N - (i + 1)) = N by omega] at this
theorem tr_inc (i : Nat) : nI i + Int32.ofInt 1 = nI (i + 1) := nI_1 i
theorem tr_nI0 : (0 : Int32) = nI 0 := rfl
theorem tr_vp {n i : Nat} (h : i < n) (hn : n < 2 ^ 31) : vp_in (nI i) n := vp_in_nI h hn
theorem tr_cl {i : Nat} (h : i < 2 ^ 31) : (nI i).toNatClampNeg = i := nI_clamp h
/-- the loop's test c < x: over, or not yet -/
theorem tr_over {i N : Nat} {x : Int32} (hN : x.toNatClampNeg = N) (hi : i ≤ N) (h : x ≤ nI i) : i = N := by
  have h3 := tr_cl31 x
  have := (tr_le (x := x) (i := i) (by omega)).mp h
  omega
theorem tr_on {i N : Nat} {x : Int32} (hN : x.toNatClampNeg = N) (hi : i ≤ N) (h : ¬ x ≤ nI i) : i < N := by
  have h3 := tr_cl31 x
  have := mt (tr_le (x := x) (i := i) (by omega)).mpr h
  omega
def aMax (x y : Int32) : Int32 := if x < y then y else x
def aMin (x y : Int32) : Int32 := if y < x then y else x
section TRM
variable {p : Program} {l : Launch} {e : Env} {R : Room} {s : State} {m : MethodId} {args : Array Value} {below : List Frame} {meth : Method} {c : Code} {H : Heap} {locs : List Loc} {cells slots : Nat} {Q : State → Prop}
variable {pc : Nat} {ls : Array Slot} {rest : List Value}
theorem tr_max {cc : ByteArray} (hexec : p.tables.exec = Jvm.exec) (hb : c.code = cc) (hml : c.maxLocals = ls.size) {own : String} {index : Nat} (hown : s.vm.findClass own = some m.cls) (hlink : (Cond.methodLink own index Lib.Math.max.name).before args s = true) (hstat : (Cond.static Lib.Math.max.name).before args s = true) (hini : (Cond.initialized "java/lang/Math").before args s = true) (hcode : (Cond.code Lib.Math.max.name Lib.Math.max.code 2 (some .int)).before args s = true)
    (hframes : 1 ≤ R.frames) (hlocals : (rest.map fun v => v.category).sum + 13 ≤ R.locals) (hc : cells ≤ R.cells) (hs : slots ≤ R.slots) {x y : Int32} (hdg : decode cc pc = .ok (.invokestatic index, 3))
    (kk : W p l e R s m args below meth c H locs cells slots Q (F0 m (pc + 3) ls (.int (aMax x y) :: rest))) : W p l e R s m args below meth c H locs cells slots Q (F0 m pc ls (.int y :: .int x :: rest)) :=
  va_mmax hexec hb hml hown hlink hstat hini hcode hframes hlocals hc hs hdg kk
theorem tr_min {cc : ByteArray} (hexec : p.tables.exec = Jvm.exec) (hb : c.code = cc) (hml : c.maxLocals = ls.size) {own : String} {index : Nat} (hown : s.vm.findClass own = some m.cls) (hlink : (Cond.methodLink own index Lib.Math.min.name).before args s = true) (hstat : (Cond.static Lib.Math.min.name).before args s = true) (hini : (Cond.initialized "java/lang/Math").before args s = true) (hcode : (Cond.code Lib.Math.min.name Lib.Math.min.code 2 (some .int)).before args s = true)
    (hframes : 1 ≤ R.frames) (hlocals : (rest.map fun v => v.category).sum + 13 ≤ R.locals) (hc : cells ≤ R.cells) (hs : slots ≤ R.slots) {x y : Int32} (hdg : decode cc pc = .ok (.invokestatic index, 3))
    (kk : W p l e R s m args below meth c H locs cells slots Q (F0 m (pc + 3) ls (.int (aMin x y) :: rest))) : W p l e R s m args below meth c H locs cells slots Q (F0 m pc ls (.int y :: .int x :: rest)) :=
  va_mmin hexec hb hml hown hlink hstat hini hcode hframes hlocals hc hs hdg kk
end TRM
