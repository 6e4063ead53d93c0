/-! THE LAW, its walk: what holds all along; what a call keeps -/
abbrev lOw (s : State) : Nat → Prop := fun q => s.heap.size ≤ q
def XA (s : State) : Prop := (∀ t ∈ tr_strs, ∃ sa, vk_R RX5 t.1 t.2 sa s) ∧ (∀ w ∈ tr_bad, w.before #[] s = true) ∧ vx_Zq Bundle.tN "UNASSIGNED_STACK" Bundle.steD (lOw s) s s.heap ∧ vx_Zq Bundle.tN "SUPPRESSED_SENTINEL" Bundle.listD (lOw s) s s.heap
theorem XA.at {s : State} {H : Heap} {locs : List Loc} (h : XA s) (hS : tr_S (lOw s) s.heap H locs) : XK s H := ⟨h.1, h.2.1, (h.2.2.1.kept (fun a h1 h2 => hS.2.1 a h1 h2)).narrow (fun _ z => z.elim), (h.2.2.2.kept (fun a h1 h2 => hS.2.1 a h1 h2)).narrow (fun _ z => z.elim)⟩
/-- the ribbon, the reference and out lie apart -/
def Apart (z0 : Nat) (A A2 M : Nat → Nat) (oa : Nat) : Prop := ∀ k, k < 32 → M k ≠ z0 ∧ M k ≠ oa ∧ ∀ i, i < 38 → M k ≠ A i ∧ M k ≠ A2 i
/-- all that the law holds lies behind its start -/
def Fresh (s : State) (z0 : Nat) (A A2 M : Nat → Nat) (oa : Nat) : Prop := s.heap.size ≤ z0 ∧ s.heap.size ≤ oa ∧ (∀ k, k < 38 → s.heap.size ≤ A k ∧ s.heap.size ≤ A2 k) ∧ ∀ k, k < 32 → s.heap.size ≤ M k
def LC (p : Program) (l : Launch) (s : State) (m : MethodId) (c : Code) (b L : Nat) (xs : Nat → Int32) (D : va_G) (cI cJ : ClassId) (z0 : Nat) (A A2 M : Nat → Nat) (oa : Nat) : Prop :=
  (p.tables.exec = Jvm.exec ∧ c.code = cL_law ∧ c.maxLocals = 9 ∧ s.vm.findClass RL = some m.cls ∧ ∀ w ∈ wsL_law, w.before #[Value.ref b] s = true) ∧ (va_X b L xs s s.heap ∧ b < s.heap.size ∧ L ≤ 2048) ∧ l.stackTraces = false ∧ (TK D cI s ∧ va_K D vwCl [(cJ, .long)] s ∧ HK s ∧ XA s) ∧ (TDis z0 A A2 ∧ MInj M ∧ OApart z0 A A2 oa) ∧ Apart z0 A A2 M oa ∧ Fresh s z0 A A2 M oa
/-- behind j calls -/
def LST (s : State) (D : va_G) (cI cJ : ClassId) (z0 : Nat) (A A2 M : Nat → Nat) (oa j : Nat) (H : Heap) (locs : List Loc) : Prop := ∃ (v u mv sv nv : LV) (y : Int64), TRB D cI z0 A A2 (v, u) H ∧ MPT D cI M (mv, sv, nv) H ∧ oat D cJ oa y H ∧ REL j v mv sv ∧ tr_S (lOw s) s.heap H locs
section ZLX
variable {D : va_G} {cI cJ : ClassId} {z0 oa : Nat} {A A2 M : Nat → Nat} {H H1 : Heap} {s : State}
theorem nA_at {k : Nat} (hk : k < 17) : ∃ i, i < 32 ∧ nA M k = M i := by
  unfold nA
  by_cases h : k < 2
  · exact ⟨k, by omega, by rw [if_pos h]⟩
  · exact ⟨k + 15, by omega, by rw [if_neg h, if_pos hk]⟩
theorem MPT.kept {t : LV × LV × LV} (h : MPT D cI M t H) (hk : ∀ k, k < 32 → M k < H.size → H1[M k]? = H[M k]?) : MPT D cI M t H1 := by
  refine ⟨fun k hk17 => ?_, fun k hk17 => ?_⟩
  · have h1 := h.1 k hk17
    have hl := h1.lt
    refine h1.kept ?_
    have e : mA M k = M k := (if_pos hk17)
    simp only [e] at hl ⊢
    exact hk k (by omega) hl
  · have h1 := h.2 k hk17
    have hl := h1.lt
    refine h1.kept ?_
    obtain ⟨i, hi, e⟩ := nA_at (M := M) hk17
    simp only [e] at hl ⊢
    exact hk i hi hl
theorem MPT.keptH {t : LV × LV × LV} (hs : Apart z0 A A2 M oa) (h : MPT D cI M t H) (hk : ∀ q : Nat, q < H.size → ¬ hOwn A A2 oa q → H1[q]? = H[q]?) : MPT D cI M t H1 := h.kept (fun k hk2 hl => hk _ hl (fun z => by
  have hz := hs k hk2
  rcases z with (⟨i, hi, e⟩ | ⟨i, hi, e⟩) | e
  · exact (hz.2.2 i hi).1 e
  · exact (hz.2.2 i hi).2 e
  · exact hz.2.1 e))
theorem MPT.keptR {t : LV × LV × LV} (hs : Apart z0 A A2 M oa) (h : MPT D cI M t H) (hk : ∀ q : Nat, q < H.size → ¬ tOwn A A2 q → H1[q]? = H[q]?) : MPT D cI M t H1 := h.keptH hs (fun q hq hn => hk q hq (fun z => hn (Or.inl z)))
theorem TRB.keptM {t : LV × LV} (hs : Apart z0 A A2 M oa) (h : TRB D cI z0 A A2 t H) (hk : ∀ q : Nat, q < H.size → ¬ mOwn M q → H1[q]? = H[q]?) : TRB D cI z0 A A2 t H1 := h.kept (hk _ h.1.lt (fun ⟨k, hk2, e⟩ => (hs k hk2).1 e.symm)) (fun i hi => hk _ (h.2.1 i hi).lt (fun ⟨k, hk2, e⟩ => ((hs k hk2).2.2 i hi).1 e.symm)) (fun i hi => hk _ (h.2.2 i hi).lt (fun ⟨k, hk2, e⟩ => ((hs k hk2).2.2 i hi).2 e.symm))
theorem oat.keptM {y : Int64} (hs : Apart z0 A A2 M oa) (h : oat D cJ oa y H) (hk : ∀ q : Nat, q < H.size → ¬ mOwn M q → H1[q]? = H[q]?) : oat D cJ oa y H1 := h.kept (hk _ h.lt (fun ⟨k, hk2, e⟩ => (hs k hk2).2.1 e.symm))
theorem kN {sz : Nat} (hz : sz = H.size) (hk : ∀ q : Nat, q < H.size → ¬ nOwn M sz q → H1[q]? = H[q]?) : ∀ q : Nat, q < H.size → ¬ mOwn M q → H1[q]? = H[q]? := fun q hq hn => hk q hq (fun z => z.elim hn (fun z => by omega))
theorem Fresh.h (h : Fresh s z0 A A2 M oa) : ∀ q, hOwn A A2 oa q → lOw s q := fun q hq => by
  rcases hq with (⟨i, hi, rfl⟩ | ⟨i, hi, rfl⟩) | rfl
  · exact (h.2.2.1 i hi).1
  · exact (h.2.2.1 i hi).2
  · exact h.2.1
theorem Fresh.m (h : Fresh s z0 A A2 M oa) : ∀ q, mOwn M q → lOw s q := fun q hq => by
  obtain ⟨i, hi, rfl⟩ := hq
  exact h.2.2.2 i hi
theorem Fresh.n {locs : List Loc} (h : Fresh s z0 A A2 M oa) (hS : tr_S (lOw s) s.heap H locs) : ∀ q, nOwn M H.size q → lOw s q := fun q hq => by
  rcases hq with hq | hq
  · exact h.m q hq
  · exact Nat.le_trans hS.1 hq
end ZLX
theorem vp_sc {j k L : Nat} (h : 4 * j + k < L) (hL : L ≤ 2048) : vp_in (nI (4 * j) + nI k) L := by
  rw [nI_add]
  exact vp_in_nI h (by omega)
theorem cod_none {L : List String} : cod L none = 0 := rfl
theorem idxOf_at {L : List String} (hL : L = [sIA] ∨ L = [sIX] ∨ L = [sIA, sIS] ∨ L = [sIX, sIA] ∨ L = [sIX, sIS] ∨ L = [sIA, sIX] ∨ L = [sIX, sIA, sIS]) {k : Nat} {E : String} (h : L[k]? = some E) : L.idxOf E = k ∧ k < 3 := by
  have hk : k < 3 := by
    have := (List.getElem?_eq_some_iff.mp h).1
    rcases hL with rfl | rfl | rfl | rfl | rfl | rfl | rfl <;> simp at this <;> omega
  refine ⟨?_, hk⟩
  rcases hL with rfl | rfl | rfl | rfl | rfl | rfl | rfl <;> rcases (show k = 0 ∨ k = 1 ∨ k = 2 by omega) with rfl | rfl | rfl <;> first | (cases h; decide +kernel) | cases h
theorem OUT_cod {L : List String} (hL : L = [sIA] ∨ L = [sIX] ∨ L = [sIA, sIS] ∨ L = [sIX, sIA] ∨ L = [sIX, sIS] ∨ L = [sIA, sIX] ∨ L = [sIX, sIA, sIS]) {x : Option String} {th r r' : Int32} (h : OUT L x th r r') : th = cod L x ∧ (cod L x = 0 → x = none ∧ r = r') := by
  rcases h with ⟨rfl, rfl, e⟩ | ⟨k, E, h1, rfl, rfl⟩
  · exact ⟨rfl, fun _ => ⟨rfl, e⟩⟩
  · obtain ⟨e, hk⟩ := idxOf_at hL h1
    have ec : cod L (some E) = nI (k + 1) := by
      show nI (L.idxOf E + 1) = _
      rw [e]
    rw [ec]
    exact ⟨rfl, fun z => absurd z (nI_ne0 (by omega) (by omega))⟩
theorem lg_cmp_self (x : Int64) : lg_cmp x x = 0 := by
  simp [lg_cmp]
