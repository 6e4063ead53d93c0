/-! THE STATE OF THE REFERENCE: a State and the numbers of its Model: 17 cells: 0 the Model, 1 its slopes, 2 the State, 3 + r the State's row r; C 17 and C 18: the places of s and next -/
def mLen (r : Nat) : Nat := if r < 6 then 16 else 6
theorem mLen_lt (r : Nat) : mLen r < 2 ^ 31 := by
  unfold mLen
  split <;> decide
def aAt (v : LV) (r : Nat) (i : Int32) : Int32 := v.2 r i.toNatClampNeg
def aSet (v : LV) (r : Nat) (i x : Int32) : LV := lRow v r (upd (v.2 r) i.toNatClampNeg x)
theorem aAt_same {v : LV} {r : Nat} {i x : Int32} : aAt (aSet v r i x) r i = x := by
  unfold aAt aSet lRow upd
  simp
def sE (cI : ClassId) (C : Nat → Nat) (mv sv : LV) : Nat → va_E
  | 0 => .inr (7, [.int (mv.1 0), .int (mv.1 1), .int (mv.1 2), .ref (C 1), .ref (C 17), .ref (C 18)])
  | 1 => .inl (cI, 16, .inl (mv.2 0))
  | 2 => .inr (6, [.int (sv.1 0), .int (sv.1 1), .int (sv.1 2), .int (sv.1 3), .ref (C 3), .ref (C 4), .ref (C 5), .ref (C 6), .ref (C 7), .ref (C 8), .ref (C 9), .ref (C 10), .ref (C 11), .ref (C 12), .ref (C 13), .ref (C 14), .ref (C 15), .ref (C 16), .ref (C 0)])
  | k + 3 => .inl (cI, mLen k, .inl (sv.2 k))
def STA (D : va_G) (cI : ClassId) (C : Nat → Nat) (mv sv : LV) (H : Heap) : Prop := ∀ k, k < 17 → va_at D vwCl (C k, sE cI C mv sv k) H
def SInj (C : Nat → Nat) : Prop := ∀ i, i < 17 → ∀ j, j < 17 → C i = C j → i = j
def sOwn (C : Nat → Nat) : Nat → Prop := fun q => ∃ k, 2 ≤ k ∧ k < 17 ∧ q = C k
theorem sOwn_k {C : Nat → Nat} {k : Nat} (h2 : 2 ≤ k) (hk : k < 17) : sOwn C (C k) := ⟨k, h2, hk, rfl⟩
section SPS
variable {D : va_G} {cI : ClassId} {C : Nat → Nat} {mv sv : LV} {H H1 : Heap}
theorem STA.c0 (h : STA D cI C mv sv H) : va_at D vwCl (C 0, .inr (7, [.int (mv.1 0), .int (mv.1 1), .int (mv.1 2), .ref (C 1), .ref (C 17), .ref (C 18)])) H := h 0 (by decide)
theorem STA.c1 (h : STA D cI C mv sv H) : va_at D vwCl (C 1, .inl (cI, 16, .inl (mv.2 0))) H := h 1 (by decide)
theorem STA.c2 (h : STA D cI C mv sv H) : va_at D vwCl (C 2, .inr (6, [.int (sv.1 0), .int (sv.1 1), .int (sv.1 2), .int (sv.1 3), .ref (C 3), .ref (C 4), .ref (C 5), .ref (C 6), .ref (C 7), .ref (C 8), .ref (C 9), .ref (C 10), .ref (C 11), .ref (C 12), .ref (C 13), .ref (C 14), .ref (C 15), .ref (C 16), .ref (C 0)])) H := h 2 (by decide)
theorem sE_row (r : Nat) : sE cI C mv sv (3 + r) = .inl (cI, mLen r, .inl (sv.2 r)) := by
  rw [show 3 + r = r + 3 by omega]
  rfl
theorem STA.arr (h : STA D cI C mv sv H) (r : Nat) (hr : r < 14) : va_at D vwCl (C (3 + r), .inl (cI, mLen r, .inl (sv.2 r))) H := by
  have := h (3 + r) (by omega)
  rwa [sE_row] at this
theorem STA.setRow (hC : SInj C) (h : STA D cI C mv sv H) (r : Nat) (hr : r < 14) {f : Nat → Int32} (h1 : va_at D vwCl (C (3 + r), .inl (cI, mLen r, .inl f)) H1) (hk : ∀ q : Nat, q ≠ C (3 + r) → H1[q]? = H[q]?) : STA D cI C mv (lRow sv r f) H1 := by
  intro k hk17
  by_cases e : k = 3 + r
  · subst e
    rw [sE_row]
    show va_at D vwCl (_, .inl (cI, mLen r, .inl (if r = r then f else sv.2 r))) H1
    rw [if_pos rfl]
    exact h1
  · have e2 : sE cI C mv (lRow sv r f) k = sE cI C mv sv k := by
      match k, e with
      | 0, _ => rfl
      | 1, _ => rfl
      | 2, _ => rfl
      | k + 3, e =>
        show (Sum.inl (cI, mLen k, .inl (if k = r then f else sv.2 k)) : va_E) = _
        rw [if_neg (by omega)]
        rfl
    rw [e2]
    exact (h k hk17).kept (hk _ (fun q => e (hC _ hk17 _ (by omega) q)))
theorem STA.setSc (hC : SInj C) (h : STA D cI C mv sv H) (i : Nat) {x : Int32} {e : va_E} (h1 : va_at D vwCl (C 2, e) H1) (he : e = sE cI C mv (lSc sv i x) 2) (hk : ∀ q : Nat, q ≠ C 2 → H1[q]? = H[q]?) : STA D cI C mv (lSc sv i x) H1 := by
  intro k hk17
  by_cases e1 : k = 2
  · subst e1
    rw [← he]
    exact h1
  · have e2 : sE cI C mv (lSc sv i x) k = sE cI C mv sv k := by
      match k, e1 with
      | 0, _ => rfl
      | 1, _ => rfl
      | 2, e1 => exact absurd rfl e1
      | k + 3, _ => rfl
    rw [e2]
    exact (h k hk17).kept (hk _ (fun q => e1 (hC _ hk17 _ (by omega) q)))
end SPS
section TRS
variable {p : Program} {l : Launch} {e : Env} {R : Room} {s : State} {m : MethodId} {args : Array Value} {below : List Frame} {meth : Method} {c : Code} {H : Heap} {locs : List Loc} {cells slots : Nat} {Q : State → Prop}
variable {cc : ByteArray} {pc : Nat} {ls : Array Slot} {rest : List Value} {D : va_G} {cI : ClassId} {C : Nat → Nat} {mv sv : LV} {H0 : Heap} {own0 : Nat → Prop}
theorem tr_sald (hexec : p.tables.exec = Jvm.exec) (hb : c.code = cc) (hK : TK D cI s) (r : Nat) (hat : va_at D vwCl (C (3 + r), .inl (cI, mLen r, .inl (sv.2 r))) H) {i : Int32} (hin : vp_in i (mLen r)) (hdg : decode cc pc = .ok (.iaload, 1))
    (kk : W p l e R s m args below meth c H locs cells slots Q (F0 m (pc + 1) ls (.int (aAt sv r i) :: rest))) : W p l e R s m args below meth c H locs cells slots Q (F0 m pc ls (.int i :: .ref (C (3 + r)) :: rest)) :=
  tr_iald hexec hb hK hat hin hdg kk
theorem tr_mald (hexec : p.tables.exec = Jvm.exec) (hb : c.code = cc) (hK : TK D cI s) (hM : STA D cI C mv sv H) {i : Int32} (hin : vp_in i 16) (hdg : decode cc pc = .ok (.iaload, 1))
    (kk : W p l e R s m args below meth c H locs cells slots Q (F0 m (pc + 1) ls (.int (aAt mv 0 i) :: rest))) : W p l e R s m args below meth c H locs cells slots Q (F0 m pc ls (.int i :: .ref (C 1) :: rest)) :=
  tr_iald hexec hb hK hM.c1 hin hdg kk
theorem tr_sast (hexec : p.tables.exec = Jvm.exec) (hb : c.code = cc) (hK : TK D cI s) (hS : tr_S own0 H0 H locs) (hC : SInj C) (hM : STA D cI C mv sv H) (ho : ∀ q, sOwn C q → own0 q) (r : Nat) (hr : r < 14) {i x : Int32} (hin : vp_in i (mLen r)) (hdg : decode cc pc = .ok (.iastore, 1))
    (kk : ∀ (H1 : Heap) (locs1 : List Loc), STA D cI C mv (aSet sv r i x) H1 → (∀ q : Nat, q ≠ C (3 + r) → H1[q]? = H[q]?) → tr_S own0 H0 H1 locs1 → W p l e R s m args below meth c H1 locs1 cells slots Q (F0 m (pc + 1) ls rest)) : W p l e R s m args below meth c H locs cells slots Q (F0 m pc ls (.int x :: .int i :: .ref (C (3 + r)) :: rest)) :=
  tr_iast hexec hb hK hS (ho _ (sOwn_k (by omega) (by omega))) (hM.arr r hr) hin hdg (fun H1 locs1 hat _ hk hS => kk H1 locs1 (hM.setRow hC r hr hat hk) hk hS)
end TRS
/-! indices -/
theorem tr_vi {x : Int32} {n : Nat} (h0 : 0 ≤ x.toInt) (h1 : x.toInt < n) : vp_in x n := vp_in_iff.mpr ⟨h0, h1⟩
theorem tr_vl {i N n : Nat} {x : Int32} (hN : x.toNatClampNeg = N) (h : i < N) (hx : x.toInt ≤ n) (hn : n < 2 ^ 31) : vp_in (nI i) n := by
  refine vp_in_nI ?_ hn
  have h2 : x.toInt.toNat = N := hN
  omega
