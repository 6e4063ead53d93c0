/-! CONSTRUCTORS: the object at a is given; what is made lies from sz on, one behind the other -/
/-- made cells: from sz on these entries -/
def MKD (D : va_G) (sz : Nat) (E : List va_E) (H : Heap) : Prop := H.size = sz + E.length ∧ ∀ (k : Nat) (e : va_E), E[k]? = some e → va_at D vwCl (sz + k, e) H
theorem MKD.nil {D : va_G} {sz : Nat} {H : Heap} (h : H.size = sz) : MKD D sz [] H := ⟨h, fun k e hk => by simp at hk⟩
theorem MKD.keep {D : va_G} {sz : Nat} {E : List va_E} {H H1 : Heap} {a : Nat} (h : MKD D sz E H) (ha : a < sz) (hz : H1.size = H.size) (hk : ∀ q : Nat, q ≠ a → H1[q]? = H[q]?) : MKD D sz E H1 := ⟨hz.trans h.1, fun k e hke => (h.2 k e hke).kept (hk _ (by show sz + k ≠ a; omega))⟩
theorem MKD.app {D : va_G} {sz : Nat} {E : List va_E} {H H1 : Heap} {o1 : Nat → Prop} (h : MKD D sz E H) (hk : ∀ q : Nat, q < H.size → ¬ o1 q → H1[q]? = H[q]?) (ho : ∀ q, o1 q → sz + E.length ≤ q) {E2 : List va_E} (h2 : MKD D (sz + E.length) E2 H1) : MKD D sz (E ++ E2) H1 := by
  refine ⟨by rw [h2.1, List.length_append]; omega, fun k e hke => ?_⟩
  by_cases hlt : k < E.length
  · rw [List.getElem?_append_left hlt] at hke
    have h3 := h.2 k e hke
    exact h3.kept (hk _ h3.lt (fun q => by have := ho _ q; simp only at this; omega))
  · rw [List.getElem?_append_right (by omega)] at hke
    have h3 := h2.2 _ e hke
    rw [show sz + E.length + (k - E.length) = sz + k by omega] at h3
    exact h3
theorem init_n {n : Nat} (h : n ≤ 16) : ¬ aMax 0 (nI n) < 0 ∧ (aMax 0 (nI n)).toNatClampNeg = n := by
  have key : ∀ n : Nat, n < 17 → ¬ aMax 0 (nI n) < 0 ∧ (aMax 0 (nI n)).toNatClampNeg = n := by decide
  exact key n (by omega)
theorem lv_room12 {p1 : Nat} {h : 8 + 12 ≤ p1} {x : Nat} (hx : x ≤ 8) : x + 12 ≤ p1 := by omega
/-- the two cells of a new Row of n at q -/
def rowE (cI : ClassId) (q n : Nat) : List va_E := [.inr (2, [.ref (q + 1)]), .inl (cI, n, .inl (fun _ => 0))]
set_option maxHeartbeats 4000000 in
set_option maxRecDepth 100000 in
theorem c_X2_init (l : Launch) (D : va_G) (cI : ClassId) (a sz n : Nat) (h16 : n ≤ 16) : Met l yX2_init wsX2_init ({ frames := 1, cells := 1, slots := n, locals := 21 }) (tr_Pc D cI [.ref a, .int (nI n)] (fun H => H.size = sz ∧ va_at D vwCl (a, .inr (2, [.null])) H)) (tr_Q none (fun H => va_at D vwCl (a, .inr (2, [.ref sz])) H ∧ MKD D sz [.inl (cI, n, .inl (fun _ => 0))] H) (fun q => q = a)) 1 n (fun q => q = a) := by
  refine Met.ofW (cc := cX2_init) (maxL := 2) (ret := none) (by decide) rfl ?_
  intro p e s m args below meth c s₁ B hml hv
  obtain ⟨rfl, ⟨hz0, hA⟩, hK⟩ := hv
  have hx := B.exec
  have hb := B.bytes
  have hr := B.returns
  have hts := atoms_spec (ws := wsX2_init) B.pre
  have hown : s.vm.findClass RX2 = some m.cls := findClass_of_methodNamed B.named
  have hname := (name_of_methodNamed B.named B.method).1
  have hlocks := B.notSynchronized
  have hiX2 : ∀ w ∈ u_ws RX2 TX2 1, w ∈ wsX2_init := by decide +kernel
  have f13 := hts (.fieldLink RX2 13 "TramRibbon$Row" "cells" "[I") (by decide +kernel)
  have harr := hts (.arrayClass .int) (by decide +kernel)
  have mL := hts (.methodLink RX2 7 Lib.Math.max.name) (by decide +kernel)
  have mS := hts (.static Lib.Math.max.name) (by decide +kernel)
  have mI := hts (.initialized "java/lang/Math") (by decide +kernel)
  have mC := hts (.code Lib.Math.max.name Lib.Math.max.code 2 (some .int)) (by decide +kernel)
  have oL := hts (.methodLink RX2 1 Lib.objectInit) (by decide +kernel)
  have oI := hts (.instanceMethod Lib.objectInit) (by decide +kernel)
  have oC := hts (.code Lib.objectInit ⟨#[0xb1]⟩ 1 none) (by decide +kernel)
  obtain ⟨hn1, hn2⟩ := init_n h16
  have hl := lv_entry ([.ref a, .int (nI n)]) (n := 2) (Nat.le_of_ble_eq_true rfl)
  rw [lg_entry_eq]
  generalize (lg_sl ([.ref a, .int (nI n)]) ++ List.replicate (2 - (lg_sl ([.ref a, .int (nI n)])).length) Slot.unset).toArray = ls at hl ⊢
  replace hl : lv_has ls 2 [(0, .ref a), (1, .int (nI n))] := hl
  have hS : tr_S (fun q => q = a) s.heap s.heap [] := tr_S.rf
  refine lv_aload_n hx hb dX2_init_0 rfl (lv_at hl 0 rfl) ?_
  refine W.objInit hx hb hown oL oI oC rfl (by rw [hml]; exact hl.1) rfl dX2_init_1 (Nat.le_of_ble_eq_true rfl) (lv_room12 (h := Nat.le_of_ble_eq_true rfl) (lv_room (Nat.le_of_ble_eq_true rfl))) ?_
  refine lv_aload_n hx hb dX2_init_4 rfl (lv_at hl 0 rfl) ?_
  refine lv_iconst (v := 0) hx hb dX2_init_5 (by decide) ?_
  refine lv_iload_n hx hb dX2_init_6 rfl (lv_at hl 1 rfl) ?_
  refine tr_max hx hb (by rw [hml]; exact hl.1.symm) hown mL mS mI mC (Nat.le_of_ble_eq_true rfl) (Nat.le_of_ble_eq_true rfl) (Nat.zero_le _) (Nat.zero_le _) dX2_init_7 ?_
  refine tr_newa (n := aMax 0 (nI n)) (N := n) hx hb harr hK hS hn1 hn2 (by omega) (Nat.le_of_ble_eq_true rfl) (show 0 + n ≤ n by omega) dX2_init_10 (fun q H1 hq hQ hz hk hS1 => ?_)
  have e0 : q = sz := hq.trans hz0
  subst e0
  have hne : q ≠ a := fun e => by have := hA.lt; simp only at this; omega
  replace hA := hA.kept (hk a hA.lt)
  refine tr_putF (ci := 2) (C := RX2) (T := TX2) (N := 1) (ty := tyX2 0) (v := .ref q) hx hb hts hiX2 tyX2 tyX2_ok nmX2 hown hK hS1 rfl hA rfl 0 (by decide) f13 rfl hname rfl (tyX2_ok 0 (by decide)) rfl rfl (Nat.le_of_ble_eq_true rfl) dX2_init_12 (fun H2 locs2 hat hz2 hk2 hS2 => ?_)
  have hE : MKD D q [.inl (cI, n, .inl (fun _ => 0))] H2 := by
    refine ⟨by rw [hz2, hz, hz0]; rfl, fun k e hke => ?_⟩
    match k, hke with
    | 0, hke => cases hke; exact hQ.kept (hk2 _ hne)
    | k + 1, hke => simp at hke
  refine W.widen (k := 1) (n := n) (Nat.le_of_eq rfl) (by omega) ?_
  exact W.vret hx hb hr (hS2.end ⟨hat, hE⟩) hS2.2.2 dX2_init_15
