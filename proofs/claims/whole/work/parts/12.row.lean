/-! Row -/
set_option maxHeartbeats 4000000 in
set_option maxRecDepth 100000 in
theorem c_X2_at (l : Launch) (D : va_G) (cI : ClassId) (a b n : Nat) (hn : n < 2 ^ 31) (hab : a ≠ b) (f : Nat → Int32) (i : Int32)  : Met l yX2_at wsX2_at ({ frames := 0, cells := 0, slots := 0, locals := 0 }) (tr_Pc D cI [.ref a, .int i] (rowP D cI a b n f)) (vp_Si (fun r => r = rAt n f i)) 0 0 (fun _ => False) := by
  refine Met.ofW (cc := cX2_at) (maxL := 2) (ret := (some .int)) (by decide) rfl ?_
  intro p e s m args below meth c s₁ B hml hv
  obtain ⟨rfl, hR, hK⟩ := hv
  have hx := B.exec
  have hb := B.bytes
  have hr := B.returns
  have hts := atoms_spec (ws := wsX2_at) B.pre
  have hown : s.vm.findClass RX2 = some m.cls := findClass_of_methodNamed B.named
  have hlocks := B.notSynchronized
  have hiX2 : ∀ w ∈ u_ws RX2 TX2 1, w ∈ wsX2_at := by decide +kernel
  have f13 := hts (.fieldLink RX2 13 "TramRibbon$Row" "cells" "[I") (by decide +kernel)
  have hl := lv_entry ([.ref a, .int i]) (n := 2) (Nat.le_of_ble_eq_true rfl)
  rw [lg_entry_eq]
  generalize (lg_sl ([.ref a, .int i]) ++ List.replicate (2 - (lg_sl ([.ref a, .int i])).length) Slot.unset).toArray = ls at hl ⊢
  replace hl : lv_has ls 2 [(0, .ref a), (1, .int i)] := hl
  refine lv_iload_n hx hb dX2_at_0 rfl (lv_at hl 1 rfl) ?_
  refine lv_if_lt (tgt := 22) hx hb dX2_at_1 (by decide) (fun c_1 => ?_) (fun c_1 => ?_)
  · refine lv_iconst (v := 0) hx hb dX2_at_22 (by decide) ?_
    exact W.iret hx hb hr (tr_endi (by rw [rAt, if_pos c_1])) (fun _ h => by cases h) dX2_at_23
  · refine lv_iload_n hx hb dX2_at_4 rfl (lv_at hl 1 rfl) ?_
    refine lv_aload_n hx hb dX2_at_5 rfl (lv_at hl 0 rfl) ?_
    refine tr_get (ci := 2) (C := RX2) (T := TX2) (N := 1) hx hb hts hiX2 hown hK hR.1 rfl 0 (by decide) f13 (v := .ref b) rfl dX2_at_6 ?_
    refine tr_alen hx hb hK hR.2 dX2_at_9 ?_
    refine lv_icmp_ge (tgt := 22) hx hb dX2_at_10 (by decide) (fun c_10 => ?_) (fun c_10 => ?_)
    · refine lv_iconst (v := 0) hx hb dX2_at_22 (by decide) ?_
      exact W.iret hx hb hr (tr_endi (by rw [rAt, if_neg c_1, if_pos c_10])) (fun _ h => by cases h) dX2_at_23
    · refine lv_aload_n hx hb dX2_at_13 rfl (lv_at hl 0 rfl) ?_
      refine tr_get (ci := 2) (C := RX2) (T := TX2) (N := 1) hx hb hts hiX2 hown hK hR.1 rfl 0 (by decide) f13 (v := .ref b) rfl dX2_at_14 ?_
      refine lv_iload_n hx hb dX2_at_17 rfl (lv_at hl 1 rfl) ?_
      refine tr_iald hx hb hK hR.2 (tr_in hn c_1 c_10) dX2_at_18 ?_
      refine lv_goto (tgt := 23) hx hb dX2_at_19 (by decide) ?_
      exact W.iret hx hb hr (tr_endi (by rw [rAt, if_neg c_1, if_neg c_10])) (fun _ h => by cases h) dX2_at_23
set_option maxHeartbeats 4000000 in
set_option maxRecDepth 100000 in
theorem c_X2_set (l : Launch) (D : va_G) (cI : ClassId) (a b n : Nat) (hn : n < 2 ^ 31) (hab : a ≠ b) (f : Nat → Int32) (i : Int32) (x : Int32)  : Met l yX2_set wsX2_set ({ frames := 0, cells := 0, slots := 0, locals := 0 }) (tr_Pc D cI [.ref a, .int i, .int x] (rowP D cI a b n f)) (tr_Q none (rowP D cI a b n (rSet n f i x)) (rOwn b)) 0 0 (rOwn b) := by
  refine Met.ofW (cc := cX2_set) (maxL := 3) (ret := none) (by decide) rfl ?_
  intro p e s m args below meth c s₁ B hml hv
  obtain ⟨rfl, hR, hK⟩ := hv
  have hx := B.exec
  have hb := B.bytes
  have hr := B.returns
  have hts := atoms_spec (ws := wsX2_set) B.pre
  have hown : s.vm.findClass RX2 = some m.cls := findClass_of_methodNamed B.named
  have hlocks := B.notSynchronized
  have hiX2 : ∀ w ∈ u_ws RX2 TX2 1, w ∈ wsX2_set := by decide +kernel
  have f13 := hts (.fieldLink RX2 13 "TramRibbon$Row" "cells" "[I") (by decide +kernel)
  have hl := lv_entry ([.ref a, .int i, .int x]) (n := 3) (Nat.le_of_ble_eq_true rfl)
  rw [lg_entry_eq]
  generalize (lg_sl ([.ref a, .int i, .int x]) ++ List.replicate (3 - (lg_sl ([.ref a, .int i, .int x])).length) Slot.unset).toArray = ls at hl ⊢
  replace hl : lv_has ls 3 [(0, .ref a), (1, .int i), (2, .int x)] := hl
  have hS : tr_S (rOwn b) s.heap s.heap [] := tr_S.rf
  generalize h1 : s.heap = H, h2 : ([] : List Loc) = locs
  replace hS : tr_S (rOwn b) s.heap H locs := by rw [← h1, ← h2]; exact hS
  rw [h1] at hR
  clear h1 h2
  refine lv_iload_n hx hb dX2_set_0 rfl (lv_at hl 1 rfl) ?_
  refine lv_if_lt (tgt := 20) hx hb dX2_set_1 (by decide) (fun c_1 => ?_) (fun c_1 => ?_)
  · exact W.vret hx hb hr (hS.end (by rw [rSet, if_pos c_1]; exact hR)) hS.2.2 dX2_set_20
  · refine lv_iload_n hx hb dX2_set_4 rfl (lv_at hl 1 rfl) ?_
    refine lv_aload_n hx hb dX2_set_5 rfl (lv_at hl 0 rfl) ?_
    refine tr_get (ci := 2) (C := RX2) (T := TX2) (N := 1) hx hb hts hiX2 hown hK hR.1 rfl 0 (by decide) f13 (v := .ref b) rfl dX2_set_6 ?_
    refine tr_alen hx hb hK hR.2 dX2_set_9 ?_
    refine lv_icmp_ge (tgt := 20) hx hb dX2_set_10 (by decide) (fun c_10 => ?_) (fun c_10 => ?_)
    · exact W.vret hx hb hr (hS.end (by rw [rSet, if_neg c_1, if_pos c_10]; exact hR)) hS.2.2 dX2_set_20
    · refine lv_aload_n hx hb dX2_set_13 rfl (lv_at hl 0 rfl) ?_
      refine tr_get (ci := 2) (C := RX2) (T := TX2) (N := 1) hx hb hts hiX2 hown hK hR.1 rfl 0 (by decide) f13 (v := .ref b) rfl dX2_set_14 ?_
      refine lv_iload_n hx hb dX2_set_17 rfl (lv_at hl 1 rfl) ?_
      refine lv_iload_n hx hb dX2_set_18 rfl (lv_at hl 2 rfl) ?_
      refine tr_iast hx hb hK hS rfl hR.2 (tr_in hn c_1 c_10) dX2_set_19 (fun H locs hat hz hk hS => ?_)
      have hR : rowP D cI a b n (upd f i.toNatClampNeg x) H := ⟨hR.1.kept (hk _ hab), hat⟩
      clear hat hz hk
      exact W.vret hx hb hr (hS.end (by rw [rSet, if_neg c_1, if_neg c_10]; exact hR)) hS.2.2 dX2_set_20
set_option maxHeartbeats 4000000 in
set_option maxRecDepth 100000 in
theorem c_X2_add (l : Launch) (D : va_G) (cI : ClassId) (a b n : Nat) (hn : n < 2 ^ 31) (hab : a ≠ b) (f : Nat → Int32) (i : Int32) (x : Int32)  : Met l yX2_add wsX2_add ({ frames := 0, cells := 0, slots := 0, locals := 0 }) (tr_Pc D cI [.ref a, .int i, .int x] (rowP D cI a b n f)) (tr_Q none (rowP D cI a b n (rAdd n f i x)) (rOwn b)) 0 0 (rOwn b) := by
  refine Met.ofW (cc := cX2_add) (maxL := 3) (ret := none) (by decide) rfl ?_
  intro p e s m args below meth c s₁ B hml hv
  obtain ⟨rfl, hR, hK⟩ := hv
  have hx := B.exec
  have hb := B.bytes
  have hr := B.returns
  have hts := atoms_spec (ws := wsX2_add) B.pre
  have hown : s.vm.findClass RX2 = some m.cls := findClass_of_methodNamed B.named
  have hlocks := B.notSynchronized
  have hiX2 : ∀ w ∈ u_ws RX2 TX2 1, w ∈ wsX2_add := by decide +kernel
  have f13 := hts (.fieldLink RX2 13 "TramRibbon$Row" "cells" "[I") (by decide +kernel)
  have hl := lv_entry ([.ref a, .int i, .int x]) (n := 3) (Nat.le_of_ble_eq_true rfl)
  rw [lg_entry_eq]
  generalize (lg_sl ([.ref a, .int i, .int x]) ++ List.replicate (3 - (lg_sl ([.ref a, .int i, .int x])).length) Slot.unset).toArray = ls at hl ⊢
  replace hl : lv_has ls 3 [(0, .ref a), (1, .int i), (2, .int x)] := hl
  have hS : tr_S (rOwn b) s.heap s.heap [] := tr_S.rf
  generalize h1 : s.heap = H, h2 : ([] : List Loc) = locs
  replace hS : tr_S (rOwn b) s.heap H locs := by rw [← h1, ← h2]; exact hS
  rw [h1] at hR
  clear h1 h2
  refine lv_iload_n hx hb dX2_add_0 rfl (lv_at hl 1 rfl) ?_
  refine lv_if_lt (tgt := 23) hx hb dX2_add_1 (by decide) (fun c_1 => ?_) (fun c_1 => ?_)
  · exact W.vret hx hb hr (hS.end (by rw [rAdd, if_pos c_1]; exact hR)) hS.2.2 dX2_add_23
  · refine lv_iload_n hx hb dX2_add_4 rfl (lv_at hl 1 rfl) ?_
    refine lv_aload_n hx hb dX2_add_5 rfl (lv_at hl 0 rfl) ?_
    refine tr_get (ci := 2) (C := RX2) (T := TX2) (N := 1) hx hb hts hiX2 hown hK hR.1 rfl 0 (by decide) f13 (v := .ref b) rfl dX2_add_6 ?_
    refine tr_alen hx hb hK hR.2 dX2_add_9 ?_
    refine lv_icmp_ge (tgt := 23) hx hb dX2_add_10 (by decide) (fun c_10 => ?_) (fun c_10 => ?_)
    · exact W.vret hx hb hr (hS.end (by rw [rAdd, if_neg c_1, if_pos c_10]; exact hR)) hS.2.2 dX2_add_23
    · refine lv_aload_n hx hb dX2_add_13 rfl (lv_at hl 0 rfl) ?_
      refine tr_get (ci := 2) (C := RX2) (T := TX2) (N := 1) hx hb hts hiX2 hown hK hR.1 rfl 0 (by decide) f13 (v := .ref b) rfl dX2_add_14 ?_
      refine lv_iload_n hx hb dX2_add_17 rfl (lv_at hl 1 rfl) ?_
      refine lv_dup2_11 hx hb dX2_add_18 rfl rfl ?_
      refine tr_iald hx hb hK hR.2 (tr_in hn c_1 c_10) dX2_add_19 ?_
      refine lv_iload_n hx hb dX2_add_20 rfl (lv_at hl 2 rfl) ?_
      refine lv_iadd hx hb dX2_add_21 ?_
      refine tr_iast hx hb hK hS rfl hR.2 (tr_in hn c_1 c_10) dX2_add_22 (fun H locs hat hz hk hS => ?_)
      have hR : rowP D cI a b n (upd f i.toNatClampNeg ((f i.toNatClampNeg) + x)) H := ⟨hR.1.kept (hk _ hab), hat⟩
      clear hat hz hk
      exact W.vret hx hb hr (hS.end (by rw [rAdd, if_neg c_1, if_neg c_10]; exact hR)) hS.2.2 dX2_add_23
def bX2_fill_2 (n : Nat) (f : Nat → Int32) (x : Int32) (i : Nat) (a : Nat → Int32) : Nat → Int32 :=
  upd a (nI i).toNatClampNeg x
def fX2_fill (n : Nat) (f : Nat → Int32) (x : Int32) : Nat → Int32 :=
  itI n (bX2_fill_2 n f x) f
set_option maxHeartbeats 4000000 in
set_option maxRecDepth 100000 in
theorem c_X2_fill (l : Launch) (D : va_G) (cI : ClassId) (a b n : Nat) (hn : n < 2 ^ 31) (hab : a ≠ b) (f : Nat → Int32) (x : Int32)  : Met l yX2_fill wsX2_fill ({ frames := 0, cells := 0, slots := 0, locals := 0 }) (tr_Pc D cI [.ref a, .int x] (rowP D cI a b n f)) (tr_Q none (rowP D cI a b n (fX2_fill n f x)) (rOwn b)) 0 0 (rOwn b) := by
  refine Met.ofW (cc := cX2_fill) (maxL := 3) (ret := none) (by decide) rfl ?_
  intro p e s m args below meth c s₁ B hml hv
  obtain ⟨rfl, hR, hK⟩ := hv
  have hx := B.exec
  have hb := B.bytes
  have hr := B.returns
  have hts := atoms_spec (ws := wsX2_fill) B.pre
  have hown : s.vm.findClass RX2 = some m.cls := findClass_of_methodNamed B.named
  have hlocks := B.notSynchronized
  have hiX2 : ∀ w ∈ u_ws RX2 TX2 1, w ∈ wsX2_fill := by decide +kernel
  have f13 := hts (.fieldLink RX2 13 "TramRibbon$Row" "cells" "[I") (by decide +kernel)
  have hl := lv_entry ([.ref a, .int x]) (n := 3) (Nat.le_of_ble_eq_true rfl)
  rw [lg_entry_eq]
  generalize (lg_sl ([.ref a, .int x]) ++ List.replicate (3 - (lg_sl ([.ref a, .int x])).length) Slot.unset).toArray = ls at hl ⊢
  replace hl : lv_has ls 3 [(0, .ref a), (1, .int x)] := hl
  have hS : tr_S (rOwn b) s.heap s.heap [] := tr_S.rf
  generalize h1 : s.heap = H, h2 : ([] : List Loc) = locs
  replace hS : tr_S (rOwn b) s.heap H locs := by rw [← h1, ← h2]; exact hS
  rw [h1] at hR
  clear h1 h2
  refine lv_iconst (v := 0) hx hb dX2_fill_0 (by decide) ?_
  refine lv_istore_n (lv' := [(2, .int 0), (0, .ref a), (1, .int x)]) hx hb dX2_fill_1 rfl hl (by decide) rfl (fun ls hl => ?_)
  have hinv := And.intro (show rowP D cI a b n f H ∧ tr_S (rOwn b) s.heap H locs from ⟨hR, hS⟩) hl
  clear hR hS hl
  revert hinv; revert ls; revert locs; revert H
  refine tr_forw (fun i H locs ls => (rowP D cI a b n (itI i (bX2_fill_2 n f x) f) H ∧ tr_S (rOwn b) s.heap H locs) ∧ lv_has ls 3 [(0, .ref a), (1, .int x), (2, .int (nI i))]) (n) (fun H locs ls hinv => ?_) ?_
  · obtain ⟨⟨hR, hS⟩, hl⟩ := hinv
    exact ⟨⟨by rw [itI_0]; exact hR, hS⟩, lv_sub hl [1, 2, 0] rfl⟩
  intro i H locs ls hi hinv ih
  obtain ⟨⟨hR, hS⟩, hl⟩ := hinv
  refine lv_iload_n hx hb dX2_fill_2 rfl (lv_at hl 2 rfl) ?_
  refine lv_aload_n hx hb dX2_fill_3 rfl (lv_at hl 0 rfl) ?_
  refine tr_get (ci := 2) (C := RX2) (T := TX2) (N := 1) hx hb hts hiX2 hown hK hR.1 rfl 0 (by decide) f13 (v := .ref b) rfl dX2_fill_4 ?_
  refine tr_alen hx hb hK hR.2 dX2_fill_7 ?_
  refine lv_icmp_ge (tgt := 24) hx hb dX2_fill_8 (by decide) (fun c_8 => ?_) (fun c_8 => ?_)
  · have hN : i = n := tr_over (tr_cl hn) hi c_8
    subst hN
    exact W.vret hx hb hr (hS.end (by rw [fX2_fill]; exact hR)) hS.2.2 dX2_fill_24
  · have hlt : i < n := tr_on (tr_cl hn) hi c_8
    refine lv_aload_n hx hb dX2_fill_11 rfl (lv_at hl 0 rfl) ?_
    refine tr_get (ci := 2) (C := RX2) (T := TX2) (N := 1) hx hb hts hiX2 hown hK hR.1 rfl 0 (by decide) f13 (v := .ref b) rfl dX2_fill_12 ?_
    refine lv_iload_n hx hb dX2_fill_15 rfl (lv_at hl 2 rfl) ?_
    refine lv_iload_n hx hb dX2_fill_16 rfl (lv_at hl 1 rfl) ?_
    refine tr_iast hx hb hK hS rfl hR.2 (tr_vp hlt hn) dX2_fill_17 (fun H locs hat hz hk hS => ?_)
    have hR : rowP D cI a b n (upd (itI i (bX2_fill_2 n f x) f) (nI i).toNatClampNeg x) H := ⟨hR.1.kept (hk _ hab), hat⟩
    clear hat hz hk
    refine lv_iinc (v := nI (i + 1)) (lv' := [(2, .int (nI (i + 1))), (0, .ref a), (1, .int x)]) hx hb dX2_fill_18 hl (k := 2) rfl (tr_inc _) (by decide) rfl (fun ls hl => ?_)
    refine lv_goto (tgt := 2) hx hb dX2_fill_21 (by decide) ?_
    have e9 : itI (i + 1) (bX2_fill_2 n f x) f = upd (itI i (bX2_fill_2 n f x) f) (nI i).toNatClampNeg x := by rw [itI_s, bX2_fill_2]
    exact ih H locs ls hlt ⟨⟨by rw [e9]; exact hR, hS⟩, lv_sub hl [1, 2, 0] rfl⟩
def bX2_sum_13 (n : Nat) (f : Nat → Int32) (i : Nat) (a : Int32) : Int32 :=
  a + (f (nI i).toNatClampNeg)
def fX2_sum (n : Nat) (f : Nat → Int32) : Int32 :=
  itI n (bX2_sum_13 n f) 0
set_option maxHeartbeats 4000000 in
set_option maxRecDepth 100000 in
theorem c_X2_sum (l : Launch) (D : va_G) (cI : ClassId) (a b n : Nat) (hn : n < 2 ^ 31) (hab : a ≠ b) (f : Nat → Int32)   : Met l yX2_sum wsX2_sum ({ frames := 0, cells := 0, slots := 0, locals := 0 }) (tr_Pc D cI [.ref a] (rowP D cI a b n f)) (vp_Si (fun r => r = fX2_sum n f)) 0 0 (fun _ => False) := by
  refine Met.ofW (cc := cX2_sum) (maxL := 6) (ret := (some .int)) (by decide) rfl ?_
  intro p e s m args below meth c s₁ B hml hv
  obtain ⟨rfl, hR, hK⟩ := hv
  have hx := B.exec
  have hb := B.bytes
  have hr := B.returns
  have hts := atoms_spec (ws := wsX2_sum) B.pre
  have hown : s.vm.findClass RX2 = some m.cls := findClass_of_methodNamed B.named
  have hlocks := B.notSynchronized
  have hiX2 : ∀ w ∈ u_ws RX2 TX2 1, w ∈ wsX2_sum := by decide +kernel
  have f13 := hts (.fieldLink RX2 13 "TramRibbon$Row" "cells" "[I") (by decide +kernel)
  have hl := lv_entry ([.ref a]) (n := 6) (Nat.le_of_ble_eq_true rfl)
  rw [lg_entry_eq]
  generalize (lg_sl ([.ref a]) ++ List.replicate (6 - (lg_sl ([.ref a])).length) Slot.unset).toArray = ls at hl ⊢
  replace hl : lv_has ls 6 [(0, .ref a)] := hl
  refine lv_iconst (v := 0) hx hb dX2_sum_0 (by decide) ?_
  refine lv_istore_n (lv' := [(1, .int 0), (0, .ref a)]) hx hb dX2_sum_1 rfl hl (by decide) rfl (fun ls hl => ?_)
  refine lv_aload_n hx hb dX2_sum_2 rfl (lv_at hl 1 rfl) ?_
  refine tr_get (ci := 2) (C := RX2) (T := TX2) (N := 1) hx hb hts hiX2 hown hK hR.1 rfl 0 (by decide) f13 (v := .ref b) rfl dX2_sum_3 ?_
  refine lv_astore_n (lv' := [(2, .ref b), (1, .int 0), (0, .ref a)]) hx hb dX2_sum_6 rfl hl (by decide) rfl (fun ls hl => ?_)
  refine lv_aload_n hx hb dX2_sum_7 rfl (lv_at hl 0 rfl) ?_
  refine tr_alen hx hb hK hR.2 dX2_sum_8 ?_
  refine lv_istore_n (lv' := [(3, .int (nI n)), (2, .ref b), (1, .int 0), (0, .ref a)]) hx hb dX2_sum_9 rfl hl (by decide) rfl (fun ls hl => ?_)
  refine lv_iconst (v := 0) hx hb dX2_sum_10 (by decide) ?_
  refine lv_istore (lv' := [(4, .int 0), (3, .int (nI n)), (2, .ref b), (1, .int 0), (0, .ref a)]) hx hb dX2_sum_11 hl (by decide) rfl (fun ls hl => ?_)
  revert hl; revert ls
  refine tr_forp (fun i ls => lv_has ls 6 [(0, .ref a), (1, .int (itI i (bX2_sum_13 n f) 0)), (2, .ref b), (3, .int (nI n)), (4, .int (nI i))]) (n) (fun ls hl => lv_sub hl [4, 3, 2, 1, 0] rfl) ?_
  intro i ls hi hl ih
  refine lv_iload hx hb dX2_sum_13 (lv_at hl 4 rfl) ?_
  refine lv_iload_n hx hb dX2_sum_15 rfl (lv_at hl 3 rfl) ?_
  refine lv_icmp_ge (tgt := 36) hx hb dX2_sum_16 (by decide) (fun c_16 => ?_) (fun c_16 => ?_)
  · have hN : i = n := tr_over (tr_cl hn) hi c_16
    subst hN
    refine lv_iload_n hx hb dX2_sum_36 rfl (lv_at hl 1 rfl) ?_
    exact W.iret hx hb hr (tr_endi (by rw [fX2_sum])) (fun _ h => by cases h) dX2_sum_37
  · have hlt : i < n := tr_on (tr_cl hn) hi c_16
    refine lv_aload_n hx hb dX2_sum_19 rfl (lv_at hl 2 rfl) ?_
    refine lv_iload hx hb dX2_sum_20 (lv_at hl 4 rfl) ?_
    refine tr_iald hx hb hK hR.2 (tr_vp hlt hn) dX2_sum_22 ?_
    refine lv_istore (lv' := [(5, .int (f (nI i).toNatClampNeg)), (0, .ref a), (1, .int (itI i (bX2_sum_13 n f) 0)), (2, .ref b), (3, .int (nI n)), (4, .int (nI i))]) hx hb dX2_sum_23 hl (by decide) rfl (fun ls hl => ?_)
    refine lv_iload_n hx hb dX2_sum_25 rfl (lv_at hl 2 rfl) ?_
    refine lv_iload hx hb dX2_sum_26 (lv_at hl 0 rfl) ?_
    refine lv_iadd hx hb dX2_sum_28 ?_
    refine lv_istore_n (lv' := [(1, .int ((itI i (bX2_sum_13 n f) 0) + (f (nI i).toNatClampNeg))), (5, .int (f (nI i).toNatClampNeg)), (0, .ref a), (2, .ref b), (3, .int (nI n)), (4, .int (nI i))]) hx hb dX2_sum_29 rfl hl (by decide) rfl (fun ls hl => ?_)
    refine lv_iinc (v := nI (i + 1)) (lv' := [(4, .int (nI (i + 1))), (1, .int ((itI i (bX2_sum_13 n f) 0) + (f (nI i).toNatClampNeg))), (5, .int (f (nI i).toNatClampNeg)), (0, .ref a), (2, .ref b), (3, .int (nI n))]) hx hb dX2_sum_30 hl (k := 5) rfl (tr_inc _) (by decide) rfl (fun ls hl => ?_)
    refine lv_goto (tgt := 13) hx hb dX2_sum_33 (by decide) ?_
    have e9 : itI (i + 1) (bX2_sum_13 n f) 0 = (itI i (bX2_sum_13 n f) 0) + (f (nI i).toNatClampNeg) := by rw [itI_s, bX2_sum_13]
    exact ih ls hlt (by rw [e9]; exact lv_sub hl [3, 1, 4, 5, 0] rfl)
theorem fill_is (n : Nat) (f : Nat → Int32) (x : Int32) (hn : n < 2 ^ 31) : ∀ j, j < n → fX2_fill n f x j = x := by
  have key : ∀ k, k ≤ n → ∀ j, j < k → itI k (bX2_fill_2 n f x) f j = x := by
    intro k
    induction k with
    | zero => intro _ j hj; omega
    | succ k ih =>
      intro hk j hj
      rw [itI_s, bX2_fill_2, tr_cl (by omega)]
      by_cases e : j = k
      · subst e; exact pk_us
      · rw [pk_un e]; exact ih (by omega) j (by omega)
  exact key n (Nat.le_refl _)
theorem fill_end {D : va_G} {cI : ClassId} {b r : Nat} {f : Nat → Int32} {x : Int32} {H : Heap} (h : va_at D vwCl (b, .inl (cI, lLen r, .inl (fX2_fill (lLen r) f x))) H) : va_at D vwCl (b, .inl (cI, lLen r, .inl (fun _ => x))) H := tr_row_eq h (fun j hj => fill_is _ f x (lLen_lt r) j hj)
def lSum (v : LV) (r : Nat) : Int32 := fX2_sum (lLen r) (v.2 r)
theorem c_lat (l : Launch) (D : va_G) (cI : ClassId) (A : Nat → Nat) (hA : LInj A) (v : LV) (r : Nat) (hr : r < 17) (i : Int32) : Met l yX2_at wsX2_at ({ frames := 0, cells := 0, slots := 0, locals := 0 }) (tr_Pc D cI [.ref (A (4 + 2 * r)), .int i] (rowP D cI (A (4 + 2 * r)) (A (5 + 2 * r)) (lLen r) (v.2 r))) (vp_Si (fun x => x = lAt v r i)) 0 0 (fun _ => False) := (c_X2_at l D cI (A (4 + 2 * r)) (A (5 + 2 * r)) (lLen r) (lLen_lt r) (fun e => by have := hA _ (by omega) _ (by omega) e; omega) (v.2 r) i)
theorem c_lsum (l : Launch) (D : va_G) (cI : ClassId) (A : Nat → Nat) (hA : LInj A) (v : LV) (r : Nat) (hr : r < 17)  : Met l yX2_sum wsX2_sum ({ frames := 0, cells := 0, slots := 0, locals := 0 }) (tr_Pc D cI [.ref (A (4 + 2 * r))] (rowP D cI (A (4 + 2 * r)) (A (5 + 2 * r)) (lLen r) (v.2 r))) (vp_Si (fun x => x = lSum v r)) 0 0 (fun _ => False) := (c_X2_sum l D cI (A (4 + 2 * r)) (A (5 + 2 * r)) (lLen r) (lLen_lt r) (fun e => by have := hA _ (by omega) _ (by omega) e; omega) (v.2 r) )
theorem c_lset (l : Launch) (D : va_G) (cI : ClassId) (A : Nat → Nat) (hA : LInj A) (v : LV) (r : Nat) (hr : r < 17) (i : Int32) (x : Int32) : Met l yX2_set wsX2_set ({ frames := 0, cells := 0, slots := 0, locals := 0 }) (tr_Pc D cI [.ref (A (4 + 2 * r)), .int i, .int x] (LNE D cI A v)) (tr_Q none (LNE D cI A (lSet v r i x)) (lOwn A)) 0 0 (lOwn A) :=
  tr_mono (tr_post (c_X2_set l D cI (A (4 + 2 * r)) (A (5 + 2 * r)) (lLen r) (lLen_lt r) (fun e => by have := hA _ (by omega) _ (by omega) e; omega) (v.2 r) i x) (fun H h => h.row r hr) (Q2 := LNE D cI A (lSet v r i x)) (fun H H1 h0 h1 hk => h0.setRow hA r hr h1.2 hk)) (fun _ _ q => q) (fun _ _ _ _ _ q => ⟨q.1, q.2.1, q.2.2.1, fun z hl hz => q.2.2.2 z hl (fun e => hz (rOwn_l (by omega) z e))⟩) (rOwn_l (by omega))
theorem c_ladd (l : Launch) (D : va_G) (cI : ClassId) (A : Nat → Nat) (hA : LInj A) (v : LV) (r : Nat) (hr : r < 17) (i : Int32) (x : Int32) : Met l yX2_add wsX2_add ({ frames := 0, cells := 0, slots := 0, locals := 0 }) (tr_Pc D cI [.ref (A (4 + 2 * r)), .int i, .int x] (LNE D cI A v)) (tr_Q none (LNE D cI A (lAdd v r i x)) (lOwn A)) 0 0 (lOwn A) :=
  tr_mono (tr_post (c_X2_add l D cI (A (4 + 2 * r)) (A (5 + 2 * r)) (lLen r) (lLen_lt r) (fun e => by have := hA _ (by omega) _ (by omega) e; omega) (v.2 r) i x) (fun H h => h.row r hr) (Q2 := LNE D cI A (lAdd v r i x)) (fun H H1 h0 h1 hk => h0.setRow hA r hr h1.2 hk)) (fun _ _ q => q) (fun _ _ _ _ _ q => ⟨q.1, q.2.1, q.2.2.1, fun z hl hz => q.2.2.2 z hl (fun e => hz (rOwn_l (by omega) z e))⟩) (rOwn_l (by omega))
theorem c_lfill (l : Launch) (D : va_G) (cI : ClassId) (A : Nat → Nat) (hA : LInj A) (v : LV) (r : Nat) (hr : r < 17) (x : Int32) : Met l yX2_fill wsX2_fill ({ frames := 0, cells := 0, slots := 0, locals := 0 }) (tr_Pc D cI [.ref (A (4 + 2 * r)), .int x] (LNE D cI A v)) (tr_Q none (LNE D cI A (lFill v r x)) (lOwn A)) 0 0 (lOwn A) :=
  tr_mono (tr_post (c_X2_fill l D cI (A (4 + 2 * r)) (A (5 + 2 * r)) (lLen r) (lLen_lt r) (fun e => by have := hA _ (by omega) _ (by omega) e; omega) (v.2 r) x) (fun H h => h.row r hr) (Q2 := LNE D cI A (lFill v r x)) (fun H H1 h0 h1 hk => h0.setRow hA r hr (fill_end h1.2) hk)) (fun _ _ q => q) (fun _ _ _ _ _ q => ⟨q.1, q.2.1, q.2.2.1, fun z hl hz => q.2.2.2 z hl (fun e => hz (rOwn_l (by omega) z e))⟩) (rOwn_l (by omega))
def sk (v w : LV) : Prop := w.1 0 = v.1 0 ∧ w.1 1 = v.1 1 ∧ w.1 2 = v.1 2
theorem sk.rf (v : LV) : sk v v := ⟨rfl, rfl, rfl⟩
theorem sk.trans {u v w : LV} (h : sk u v) (k : sk v w) : sk u w := ⟨k.1.trans h.1, k.2.1.trans h.2.1, k.2.2.trans h.2.2⟩
theorem sk.it {F : Nat → LV → LV} (h : ∀ i a, sk a (F i a)) (v : LV) : ∀ i, sk v (itI i F v)
  | 0 => sk.rf v
  | i + 1 => (sk.it h v i).trans (h i _)
