/-! Wire, Stops, Fleet: what is read -/
def fX5_outside (x : Int32) (lo : Int32) (hi : Int32) : Int32 :=
  (if x < lo then 1 else (if x ≤ hi then 0 else 1))
set_option maxHeartbeats 4000000 in
set_option maxRecDepth 100000 in
theorem c_X5_outside (l : Launch) (D : va_G) (cI : ClassId) (x lo hi : Int32)  : Met l yX5_outside wsX5_outside ({ frames := 0, cells := 0, slots := 0, locals := 0 }) (tr_Pc D cI [.int x, .int lo, .int hi] (fun _ => True)) (vp_Si (fun r => r = fX5_outside x lo hi)) 0 0 (fun _ => False) := by
  refine Met.ofW (cc := cX5_outside) (maxL := 3) (ret := (some .boolean)) (by decide) rfl ?_
  intro p e s m args below meth c s₁ B hml hv
  obtain ⟨rfl, -, hK⟩ := hv
  have hx := B.exec
  have hb := B.bytes
  have hr := B.returns
  have hts := atoms_spec (ws := wsX5_outside) B.pre
  have hown : s.vm.findClass RX5 = some m.cls := findClass_of_methodNamed B.named
  have hlocks := B.notSynchronized
  have hl := lv_entry ([.int x, .int lo, .int hi]) (n := 3) (Nat.le_of_ble_eq_true rfl)
  rw [lg_entry_eq]
  generalize (lg_sl ([.int x, .int lo, .int hi]) ++ List.replicate (3 - (lg_sl ([.int x, .int lo, .int hi])).length) Slot.unset).toArray = ls at hl ⊢
  replace hl : lv_has ls 3 [(0, .int x), (1, .int lo), (2, .int hi)] := hl
  refine lv_iload_n hx hb dX5_outside_0 rfl (lv_at hl 0 rfl) ?_
  refine lv_iload_n hx hb dX5_outside_1 rfl (lv_at hl 1 rfl) ?_
  refine lv_icmp_lt (tgt := 10) hx hb dX5_outside_2 (by decide) (fun c_2 => ?_) (fun c_2 => ?_)
  · refine lv_iconst (v := 1) hx hb dX5_outside_10 (by decide) ?_
    refine lv_goto (tgt := 15) hx hb dX5_outside_11 (by decide) ?_
    exact W.zret (ty := .boolean) hx hb hr rfl (tr_endi (by rw [fX5_outside, if_pos c_2])) (fun _ h => by cases h) dX5_outside_15
  · refine lv_iload_n hx hb dX5_outside_5 rfl (lv_at hl 0 rfl) ?_
    refine lv_iload_n hx hb dX5_outside_6 rfl (lv_at hl 2 rfl) ?_
    refine lv_icmp_le (tgt := 14) hx hb dX5_outside_7 (by decide) (fun c_7 => ?_) (fun c_7 => ?_)
    · refine lv_iconst (v := 0) hx hb dX5_outside_14 (by decide) ?_
      exact W.zret (ty := .boolean) hx hb hr rfl (tr_endi (by rw [fX5_outside, if_neg c_2, if_pos c_7])) (fun _ h => by cases h) dX5_outside_15
    · refine lv_iconst (v := 1) hx hb dX5_outside_10 (by decide) ?_
      refine lv_goto (tgt := 15) hx hb dX5_outside_11 (by decide) ?_
      exact W.zret (ty := .boolean) hx hb hr rfl (tr_endi (by rw [fX5_outside, if_neg c_2, if_neg c_7])) (fun _ h => by cases h) dX5_outside_15
def fX4_spans (v : LV) : Int32 :=
  (v.1 0) - 1
set_option maxHeartbeats 4000000 in
set_option maxRecDepth 100000 in
theorem c_X4_spans (l : Launch) (D : va_G) (cI : ClassId) (A : Nat → Nat) (hA : LInj A) (v : LV)   : Met l yX4_spans wsX4_spans ({ frames := 0, cells := 0, slots := 0, locals := 0 }) (tr_Pc D cI [.ref (A 1)] (LNE D cI A v)) (vp_Si (fun r => r = fX4_spans v)) 0 0 (fun _ => False) := by
  refine Met.ofW (cc := cX4_spans) (maxL := 1) (ret := (some .int)) (by decide) rfl ?_
  intro p e s m args below meth c s₁ B hml hv
  obtain ⟨rfl, hL, hK⟩ := hv
  have hx := B.exec
  have hb := B.bytes
  have hr := B.returns
  have hts := atoms_spec (ws := wsX4_spans) B.pre
  have hown : s.vm.findClass RX4 = some m.cls := findClass_of_methodNamed B.named
  have hlocks := B.notSynchronized
  have hiX4 : ∀ w ∈ u_ws RX4 TX4 9, w ∈ wsX4_spans := by decide +kernel
  have f38 := hts (.fieldLink RX4 38 "TramRibbon$Wire" "poles" "I") (by decide +kernel)
  have hl := lv_entry ([.ref (A 1)]) (n := 1) (Nat.le_of_ble_eq_true rfl)
  rw [lg_entry_eq]
  generalize (lg_sl ([.ref (A 1)]) ++ List.replicate (1 - (lg_sl ([.ref (A 1)])).length) Slot.unset).toArray = ls at hl ⊢
  replace hl : lv_has ls 1 [(0, .ref (A 1))] := hl
  refine lv_aload_n hx hb dX4_spans_0 rfl (lv_at hl 0 rfl) ?_
  refine tr_get (ci := 4) (C := RX4) (T := TX4) (N := 9) hx hb hts hiX4 hown hK hL.c1 rfl 0 (by decide) f38 (v := .int (v.1 0)) rfl dX4_spans_1 ?_
  refine lv_iconst (v := 1) hx hb dX4_spans_4 (by decide) ?_
  refine lv_isub hx hb dX4_spans_5 ?_
  exact W.iret hx hb hr (tr_endi (by rw [fX4_spans])) (fun _ h => by cases h) dX4_spans_6
def fX4_canInsulate (v : LV) (po : Int32) : Int32 :=
  (if po ≤ 0 then 0 else (if ((v.1 0) - 1) ≤ po then 0 else (if (lAt v 2 po) = 0 then 1 else 0)))
set_option maxHeartbeats 4000000 in
set_option maxRecDepth 100000 in
theorem c_X4_canInsulate (l : Launch) (D : va_G) (cI : ClassId) (A : Nat → Nat) (hA : LInj A) (v : LV) (po : Int32)  : Met l yX4_canInsulate wsX4_canInsulate ({ frames := 1, cells := 0, slots := 0, locals := 21 }) (tr_Pc D cI [.ref (A 1), .int po] (LNE D cI A v)) (vp_Si (fun r => r = fX4_canInsulate v po)) 0 0 (fun _ => False) := by
  refine Met.ofW (cc := cX4_canInsulate) (maxL := 2) (ret := (some .boolean)) (by decide) rfl ?_
  intro p e s m args below meth c s₁ B hml hv
  obtain ⟨rfl, hL, hK⟩ := hv
  have hx := B.exec
  have hb := B.bytes
  have hr := B.returns
  have hts := atoms_spec (ws := wsX4_canInsulate) B.pre
  have hown : s.vm.findClass RX4 = some m.cls := findClass_of_methodNamed B.named
  have hlocks := B.notSynchronized
  have hiX4 : ∀ w ∈ u_ws RX4 TX4 9, w ∈ wsX4_canInsulate := by decide +kernel
  have f23 := hts (.fieldLink RX4 23 "TramRibbon$Wire" "insulator" "LTramRibbon$Row;") (by decide +kernel)
  have f38 := hts (.fieldLink RX4 38 "TramRibbon$Wire" "poles" "I") (by decide +kernel)
  have hl := lv_entry ([.ref (A 1), .int po]) (n := 2) (Nat.le_of_ble_eq_true rfl)
  rw [lg_entry_eq]
  generalize (lg_sl ([.ref (A 1), .int po]) ++ List.replicate (2 - (lg_sl ([.ref (A 1), .int po])).length) Slot.unset).toArray = ls at hl ⊢
  replace hl : lv_has ls 2 [(0, .ref (A 1)), (1, .int po)] := hl
  refine lv_iload_n hx hb dX4_canInsulate_0 rfl (lv_at hl 1 rfl) ?_
  refine lv_if_le (tgt := 29) hx hb dX4_canInsulate_1 (by decide) (fun c_1 => ?_) (fun c_1 => ?_)
  · refine lv_iconst (v := 0) hx hb dX4_canInsulate_29 (by decide) ?_
    exact W.zret (ty := .boolean) hx hb hr rfl (tr_endi (by rw [fX4_canInsulate, if_pos c_1])) (fun _ h => by cases h) dX4_canInsulate_30
  · refine lv_iload_n hx hb dX4_canInsulate_4 rfl (lv_at hl 1 rfl) ?_
    refine lv_aload_n hx hb dX4_canInsulate_5 rfl (lv_at hl 0 rfl) ?_
    refine tr_get (ci := 4) (C := RX4) (T := TX4) (N := 9) hx hb hts hiX4 hown hK hL.c1 rfl 0 (by decide) f38 (v := .int (v.1 0)) rfl dX4_canInsulate_6 ?_
    refine lv_iconst (v := 1) hx hb dX4_canInsulate_9 (by decide) ?_
    refine lv_isub hx hb dX4_canInsulate_10 ?_
    refine lv_icmp_ge (tgt := 29) hx hb dX4_canInsulate_11 (by decide) (fun c_11 => ?_) (fun c_11 => ?_)
    · refine lv_iconst (v := 0) hx hb dX4_canInsulate_29 (by decide) ?_
      exact W.zret (ty := .boolean) hx hb hr rfl (tr_endi (by rw [fX4_canInsulate, if_neg c_1, if_pos c_11])) (fun _ h => by cases h) dX4_canInsulate_30
    · refine lv_aload_n hx hb dX4_canInsulate_14 rfl (lv_at hl 0 rfl) ?_
      refine tr_get (ci := 4) (C := RX4) (T := TX4) (N := 9) hx hb hts hiX4 hown hK hL.c1 rfl 4 (by decide) f23 (v := .ref (A 8)) rfl dX4_canInsulate_15 ?_
      refine lv_iload_n hx hb dX4_canInsulate_18 rfl (lv_at hl 1 rfl) ?_
      refine tr_ri (va_runV (As := [.int po]) (rest := []) ⟨hx, hb, hml, hown, hts⟩ (c_lat l D cI A hA v 2 (by decide) po) (cwV 1 hts gX4_canInsulate_X2_at rfl rfl rfl (by decide +kernel) ⟨Nat.le_of_ble_eq_true rfl, Nat.le_of_ble_eq_true rfl⟩) (tr_preV hK (hL.robj 2 (by decide)) rfl (hL.row 2 (by decide))) rfl rfl hl.1 rfl (lv_room (Nat.le_of_ble_eq_true rfl)) dX4_canInsulate_19 ⟨Nat.zero_le _, Nat.zero_le _⟩) ?_
      refine lv_if_ne (tgt := 29) hx hb dX4_canInsulate_22 (by decide) (fun c_22 => ?_) (fun c_22 => ?_)
      · refine lv_iconst (v := 0) hx hb dX4_canInsulate_29 (by decide) ?_
        exact W.zret (ty := .boolean) hx hb hr rfl (tr_endi (by rw [fX4_canInsulate, if_neg c_1, if_neg c_11, if_neg c_22])) (fun _ h => by cases h) dX4_canInsulate_30
      · refine lv_iconst (v := 1) hx hb dX4_canInsulate_25 (by decide) ?_
        refine lv_goto (tgt := 30) hx hb dX4_canInsulate_26 (by decide) ?_
        exact W.zret (ty := .boolean) hx hb hr rfl (tr_endi (by rw [fX4_canInsulate, if_neg c_1, if_neg c_11, if_pos c_22])) (fun _ h => by cases h) dX4_canInsulate_30
def bX4_firstSpanOf_2 (v : LV) (q : Int32) (i : Nat) : Option Int32 :=
  (if q ≤ (lAt v 1 (nI i)) then some (nI i) else none)
def fX4_firstSpanOf (v : LV) (q : Int32) : Int32 :=
  ((fstI ((fX4_spans v).toNatClampNeg) (bX4_firstSpanOf_2 v q)).getD (nI ((fX4_spans v).toNatClampNeg)))
set_option maxHeartbeats 4000000 in
set_option maxRecDepth 100000 in
theorem c_X4_firstSpanOf (l : Launch) (D : va_G) (cI : ClassId) (A : Nat → Nat) (hA : LInj A) (v : LV) (q : Int32)  : Met l yX4_firstSpanOf wsX4_firstSpanOf ({ frames := 1, cells := 0, slots := 0, locals := 21 }) (tr_Pc D cI [.ref (A 1), .int q] (LNE D cI A v)) (vp_Si (fun r => r = fX4_firstSpanOf v q)) 0 0 (fun _ => False) := by
  refine Met.ofW (cc := cX4_firstSpanOf) (maxL := 3) (ret := (some .int)) (by decide) rfl ?_
  intro p e s m args below meth c s₁ B hml hv
  obtain ⟨rfl, hL, hK⟩ := hv
  have hx := B.exec
  have hb := B.bytes
  have hr := B.returns
  have hts := atoms_spec (ws := wsX4_firstSpanOf) B.pre
  have hown : s.vm.findClass RX4 = some m.cls := findClass_of_methodNamed B.named
  have hlocks := B.notSynchronized
  have hiX4 : ∀ w ∈ u_ws RX4 TX4 9, w ∈ wsX4_firstSpanOf := by decide +kernel
  have f20 := hts (.fieldLink RX4 20 "TramRibbon$Wire" "sectionAt" "LTramRibbon$Row;") (by decide +kernel)
  have hl := lv_entry ([.ref (A 1), .int q]) (n := 3) (Nat.le_of_ble_eq_true rfl)
  rw [lg_entry_eq]
  generalize (lg_sl ([.ref (A 1), .int q]) ++ List.replicate (3 - (lg_sl ([.ref (A 1), .int q])).length) Slot.unset).toArray = ls at hl ⊢
  replace hl : lv_has ls 3 [(0, .ref (A 1)), (1, .int q)] := hl
  refine lv_iconst (v := 0) hx hb dX4_firstSpanOf_0 (by decide) ?_
  refine lv_istore_n (lv' := [(2, .int 0), (0, .ref (A 1)), (1, .int q)]) hx hb dX4_firstSpanOf_1 rfl hl (by decide) rfl (fun ls hl => ?_)
  revert hl; revert ls
  refine tr_forp (fun i ls => fstI i (bX4_firstSpanOf_2 v q) = none ∧ lv_has ls 3 [(0, .ref (A 1)), (1, .int q), (2, .int (nI i))]) ((fX4_spans v).toNatClampNeg) (fun ls hl => ⟨rfl, lv_sub hl [1, 2, 0] rfl⟩) ?_
  intro i ls hi hinv ih
  obtain ⟨hex, hl⟩ := hinv
  refine lv_iload_n hx hb dX4_firstSpanOf_2 rfl (lv_at hl 2 rfl) ?_
  refine lv_aload_n hx hb dX4_firstSpanOf_3 rfl (lv_at hl 0 rfl) ?_
  refine tr_ri (va_runV (As := []) (rest := [.int (nI i)]) ⟨hx, hb, hml, hown, hts⟩ (c_X4_spans l D cI A hA v ) (cwV 0 hts gX4_firstSpanOf_X4_spans rfl rfl rfl (by decide +kernel) ⟨Nat.le_of_ble_eq_true rfl, Nat.le_of_ble_eq_true rfl⟩) (tr_preV hK hL.c1 rfl hL) rfl rfl hl.1 rfl (lv_room (Nat.le_of_ble_eq_true rfl)) dX4_firstSpanOf_4 ⟨Nat.zero_le _, Nat.zero_le _⟩) ?_
  refine lv_icmp_ge (tgt := 28) hx hb dX4_firstSpanOf_7 (by decide) (fun c_7 => ?_) (fun c_7 => ?_)
  · have hN : i = (fX4_spans v).toNatClampNeg := tr_over rfl hi c_7
    subst hN
    refine lv_iload_n hx hb dX4_firstSpanOf_28 rfl (lv_at hl 2 rfl) ?_
    exact W.iret hx hb hr (tr_endi (by rw [fX4_firstSpanOf] ; rw [hex] ; rfl)) (fun _ h => by cases h) dX4_firstSpanOf_29
  · have hlt : i < (fX4_spans v).toNatClampNeg := tr_on rfl hi c_7
    refine lv_aload_n hx hb dX4_firstSpanOf_10 rfl (lv_at hl 0 rfl) ?_
    refine tr_get (ci := 4) (C := RX4) (T := TX4) (N := 9) hx hb hts hiX4 hown hK hL.c1 rfl 3 (by decide) f20 (v := .ref (A 6)) rfl dX4_firstSpanOf_11 ?_
    refine lv_iload_n hx hb dX4_firstSpanOf_14 rfl (lv_at hl 2 rfl) ?_
    refine tr_ri (va_runV (As := [.int (nI i)]) (rest := []) ⟨hx, hb, hml, hown, hts⟩ (c_lat l D cI A hA v 1 (by decide) (nI i)) (cwV 1 hts gX4_firstSpanOf_X2_at rfl rfl rfl (by decide +kernel) ⟨Nat.le_of_ble_eq_true rfl, Nat.le_of_ble_eq_true rfl⟩) (tr_preV hK (hL.robj 1 (by decide)) rfl (hL.row 1 (by decide))) rfl rfl hl.1 rfl (lv_room (Nat.le_of_ble_eq_true rfl)) dX4_firstSpanOf_15 ⟨Nat.zero_le _, Nat.zero_le _⟩) ?_
    refine lv_iload_n hx hb dX4_firstSpanOf_18 rfl (lv_at hl 1 rfl) ?_
    refine lv_icmp_ge (tgt := 28) hx hb dX4_firstSpanOf_19 (by decide) (fun c_19 => ?_) (fun c_19 => ?_)
    · refine lv_iload_n hx hb dX4_firstSpanOf_28 rfl (lv_at hl 2 rfl) ?_
      exact W.iret hx hb hr (tr_endi (by have e9 := fstI_s (N := (fX4_spans v).toNatClampNeg) hex (f := bX4_firstSpanOf_2 v q) (r := nI i) (by rw [bX4_firstSpanOf_2, if_pos c_19]) hlt; rw [fX4_firstSpanOf]; rw [e9]; rfl)) (fun _ h => by cases h) dX4_firstSpanOf_29
    · refine lv_iinc (v := nI (i + 1)) (lv' := [(2, .int (nI (i + 1))), (0, .ref (A 1)), (1, .int q)]) hx hb dX4_firstSpanOf_22 hl (k := 2) rfl (tr_inc _) (by decide) rfl (fun ls hl => ?_)
      refine lv_goto (tgt := 2) hx hb dX4_firstSpanOf_25 (by decide) ?_
      exact ih ls hlt ⟨(fstI_n hex (by rw [bX4_firstSpanOf_2, if_neg c_19])), lv_sub hl [1, 2, 0] rfl⟩
def bX4_deadSections_4 (v : LV) (i : Nat) (a : Int32) : Int32 :=
  (if (lAt v 4 (nI i)) ≤ 0 then a + 0 else a + 1)
def fX4_deadSections (v : LV) : Int32 :=
  itI ((v.1 1).toNatClampNeg) (bX4_deadSections_4 v) 0
set_option maxHeartbeats 4000000 in
set_option maxRecDepth 100000 in
theorem c_X4_deadSections (l : Launch) (D : va_G) (cI : ClassId) (A : Nat → Nat) (hA : LInj A) (v : LV)   : Met l yX4_deadSections wsX4_deadSections ({ frames := 1, cells := 0, slots := 0, locals := 21 }) (tr_Pc D cI [.ref (A 1)] (LNE D cI A v)) (vp_Si (fun r => r = fX4_deadSections v)) 0 0 (fun _ => False) := by
  refine Met.ofW (cc := cX4_deadSections) (maxL := 3) (ret := (some .int)) (by decide) rfl ?_
  intro p e s m args below meth c s₁ B hml hv
  obtain ⟨rfl, hL, hK⟩ := hv
  have hx := B.exec
  have hb := B.bytes
  have hr := B.returns
  have hts := atoms_spec (ws := wsX4_deadSections) B.pre
  have hown : s.vm.findClass RX4 = some m.cls := findClass_of_methodNamed B.named
  have hlocks := B.notSynchronized
  have hiX4 : ∀ w ∈ u_ws RX4 TX4 9, w ∈ wsX4_deadSections := by decide +kernel
  have f29 := hts (.fieldLink RX4 29 "TramRibbon$Wire" "dead" "LTramRibbon$Row;") (by decide +kernel)
  have f42 := hts (.fieldLink RX4 42 "TramRibbon$Wire" "sections" "I") (by decide +kernel)
  have hl := lv_entry ([.ref (A 1)]) (n := 3) (Nat.le_of_ble_eq_true rfl)
  rw [lg_entry_eq]
  generalize (lg_sl ([.ref (A 1)]) ++ List.replicate (3 - (lg_sl ([.ref (A 1)])).length) Slot.unset).toArray = ls at hl ⊢
  replace hl : lv_has ls 3 [(0, .ref (A 1))] := hl
  refine lv_iconst (v := 0) hx hb dX4_deadSections_0 (by decide) ?_
  refine lv_istore_n (lv' := [(1, .int 0), (0, .ref (A 1))]) hx hb dX4_deadSections_1 rfl hl (by decide) rfl (fun ls hl => ?_)
  refine lv_iconst (v := 0) hx hb dX4_deadSections_2 (by decide) ?_
  refine lv_istore_n (lv' := [(2, .int 0), (1, .int 0), (0, .ref (A 1))]) hx hb dX4_deadSections_3 rfl hl (by decide) rfl (fun ls hl => ?_)
  revert hl; revert ls
  refine tr_forp (fun i ls => lv_has ls 3 [(0, .ref (A 1)), (1, .int (itI i (bX4_deadSections_4 v) 0)), (2, .int (nI i))]) ((v.1 1).toNatClampNeg) (fun ls hl => lv_sub hl [2, 1, 0] rfl) ?_
  intro i ls hi hl ih
  refine lv_iload_n hx hb dX4_deadSections_4 rfl (lv_at hl 2 rfl) ?_
  refine lv_aload_n hx hb dX4_deadSections_5 rfl (lv_at hl 0 rfl) ?_
  refine tr_get (ci := 4) (C := RX4) (T := TX4) (N := 9) hx hb hts hiX4 hown hK hL.c1 rfl 1 (by decide) f42 (v := .int (v.1 1)) rfl dX4_deadSections_6 ?_
  refine lv_icmp_ge (tgt := 37) hx hb dX4_deadSections_9 (by decide) (fun c_9 => ?_) (fun c_9 => ?_)
  · have hN : i = (v.1 1).toNatClampNeg := tr_over rfl hi c_9
    subst hN
    refine lv_iload_n hx hb dX4_deadSections_37 rfl (lv_at hl 1 rfl) ?_
    exact W.iret hx hb hr (tr_endi (by rw [fX4_deadSections])) (fun _ h => by cases h) dX4_deadSections_38
  · have hlt : i < (v.1 1).toNatClampNeg := tr_on rfl hi c_9
    refine lv_iload_n hx hb dX4_deadSections_12 rfl (lv_at hl 1 rfl) ?_
    refine lv_aload_n hx hb dX4_deadSections_13 rfl (lv_at hl 0 rfl) ?_
    refine tr_get (ci := 4) (C := RX4) (T := TX4) (N := 9) hx hb hts hiX4 hown hK hL.c1 rfl 6 (by decide) f29 (v := .ref (A 12)) rfl dX4_deadSections_14 ?_
    refine lv_iload_n hx hb dX4_deadSections_17 rfl (lv_at hl 2 rfl) ?_
    refine tr_ri (va_runV (As := [.int (nI i)]) (rest := [.int (itI i (bX4_deadSections_4 v) 0)]) ⟨hx, hb, hml, hown, hts⟩ (c_lat l D cI A hA v 4 (by decide) (nI i)) (cwV 1 hts gX4_deadSections_X2_at rfl rfl rfl (by decide +kernel) ⟨Nat.le_of_ble_eq_true rfl, Nat.le_of_ble_eq_true rfl⟩) (tr_preV hK (hL.robj 4 (by decide)) rfl (hL.row 4 (by decide))) rfl rfl hl.1 rfl (lv_room (Nat.le_of_ble_eq_true rfl)) dX4_deadSections_18 ⟨Nat.zero_le _, Nat.zero_le _⟩) ?_
    refine lv_if_le (tgt := 28) hx hb dX4_deadSections_21 (by decide) (fun c_21 => ?_) (fun c_21 => ?_)
    · refine lv_iconst (v := 0) hx hb dX4_deadSections_28 (by decide) ?_
      refine lv_iadd hx hb dX4_deadSections_29 ?_
      refine lv_istore_n (lv' := [(1, .int ((itI i (bX4_deadSections_4 v) 0) + 0)), (0, .ref (A 1)), (2, .int (nI i))]) hx hb dX4_deadSections_30 rfl hl (by decide) rfl (fun ls hl => ?_)
      refine lv_iinc (v := nI (i + 1)) (lv' := [(2, .int (nI (i + 1))), (1, .int ((itI i (bX4_deadSections_4 v) 0) + 0)), (0, .ref (A 1))]) hx hb dX4_deadSections_31 hl (k := 2) rfl (tr_inc _) (by decide) rfl (fun ls hl => ?_)
      refine lv_goto (tgt := 4) hx hb dX4_deadSections_34 (by decide) ?_
      have e9 : itI (i + 1) (bX4_deadSections_4 v) 0 = (itI i (bX4_deadSections_4 v) 0) + 0 := by rw [itI_s, bX4_deadSections_4, if_pos c_21]
      exact ih ls hlt (by rw [e9]; exact lv_sub hl [2, 1, 0] rfl)
    · refine lv_iconst (v := 1) hx hb dX4_deadSections_24 (by decide) ?_
      refine lv_goto (tgt := 29) hx hb dX4_deadSections_25 (by decide) ?_
      refine lv_iadd hx hb dX4_deadSections_29 ?_
      refine lv_istore_n (lv' := [(1, .int ((itI i (bX4_deadSections_4 v) 0) + 1)), (0, .ref (A 1)), (2, .int (nI i))]) hx hb dX4_deadSections_30 rfl hl (by decide) rfl (fun ls hl => ?_)
      refine lv_iinc (v := nI (i + 1)) (lv' := [(2, .int (nI (i + 1))), (1, .int ((itI i (bX4_deadSections_4 v) 0) + 1)), (0, .ref (A 1))]) hx hb dX4_deadSections_31 hl (k := 2) rfl (tr_inc _) (by decide) rfl (fun ls hl => ?_)
      refine lv_goto (tgt := 4) hx hb dX4_deadSections_34 (by decide) ?_
      have e9 : itI (i + 1) (bX4_deadSections_4 v) 0 = (itI i (bX4_deadSections_4 v) 0) + 1 := by rw [itI_s, bX4_deadSections_4, if_neg c_21]
      exact ih ls hlt (by rw [e9]; exact lv_sub hl [2, 1, 0] rfl)
def bX3_allSpares_4 (v : LV) (i : Nat) (a : Int32) : Int32 :=
  a + (aMax 0 (lAt v 8 (nI i)))
def fX3_allSpares (v : LV) : Int32 :=
  itI 16 (bX3_allSpares_4 v) 0
set_option maxHeartbeats 4000000 in
set_option maxRecDepth 100000 in
theorem c_X3_allSpares (l : Launch) (D : va_G) (cI : ClassId) (A : Nat → Nat) (hA : LInj A) (v : LV)   : Met l yX3_allSpares wsX3_allSpares ({ frames := 1, cells := 0, slots := 0, locals := 21 }) (tr_Pc D cI [.ref (A 2)] (LNE D cI A v)) (vp_Si (fun r => r = fX3_allSpares v)) 0 0 (fun _ => False) := by
  refine Met.ofW (cc := cX3_allSpares) (maxL := 3) (ret := (some .int)) (by decide) rfl ?_
  intro p e s m args below meth c s₁ B hml hv
  obtain ⟨rfl, hL, hK⟩ := hv
  have hx := B.exec
  have hb := B.bytes
  have hr := B.returns
  have hts := atoms_spec (ws := wsX3_allSpares) B.pre
  have hown : s.vm.findClass RX3 = some m.cls := findClass_of_methodNamed B.named
  have hlocks := B.notSynchronized
  have hiX3 : ∀ w ∈ u_ws RX3 TX3 2, w ∈ wsX3_allSpares := by decide +kernel
  have f20 := hts (.fieldLink RX3 20 "TramRibbon$Stops" "spares" "LTramRibbon$Row;") (by decide +kernel)
  have mC_max := hts (.code Lib.Math.max.name Lib.Math.max.code 2 (some .int)) (by decide +kernel)
  have mI := hts (.initialized "java/lang/Math") (by decide +kernel)
  have mL40 := hts (.methodLink RX3 40 Lib.Math.max.name) (by decide +kernel)
  have mS_max := hts (.static Lib.Math.max.name) (by decide +kernel)
  have hl := lv_entry ([.ref (A 2)]) (n := 3) (Nat.le_of_ble_eq_true rfl)
  rw [lg_entry_eq]
  generalize (lg_sl ([.ref (A 2)]) ++ List.replicate (3 - (lg_sl ([.ref (A 2)])).length) Slot.unset).toArray = ls at hl ⊢
  replace hl : lv_has ls 3 [(0, .ref (A 2))] := hl
  refine lv_iconst (v := 0) hx hb dX3_allSpares_0 (by decide) ?_
  refine lv_istore_n (lv' := [(1, .int 0), (0, .ref (A 2))]) hx hb dX3_allSpares_1 rfl hl (by decide) rfl (fun ls hl => ?_)
  refine lv_iconst (v := 0) hx hb dX3_allSpares_2 (by decide) ?_
  refine lv_istore_n (lv' := [(2, .int 0), (1, .int 0), (0, .ref (A 2))]) hx hb dX3_allSpares_3 rfl hl (by decide) rfl (fun ls hl => ?_)
  revert hl; revert ls
  refine tr_forp (fun i ls => lv_has ls 3 [(0, .ref (A 2)), (1, .int (itI i (bX3_allSpares_4 v) 0)), (2, .int (nI i))]) (16) (fun ls hl => lv_sub hl [2, 1, 0] rfl) ?_
  intro i ls hi hl ih
  refine lv_iload_n hx hb dX3_allSpares_4 rfl (lv_at hl 2 rfl) ?_
  refine lv_bipush (v := 16) hx hb dX3_allSpares_5 (by decide) ?_
  refine lv_icmp_ge (tgt := 31) hx hb dX3_allSpares_7 (by decide) (fun c_7 => ?_) (fun c_7 => ?_)
  · have hN : i = 16 := tr_over rfl hi c_7
    subst hN
    refine lv_iload_n hx hb dX3_allSpares_31 rfl (lv_at hl 1 rfl) ?_
    exact W.iret hx hb hr (tr_endi (by rw [fX3_allSpares])) (fun _ h => by cases h) dX3_allSpares_32
  · have hlt : i < 16 := tr_on rfl hi c_7
    refine lv_iload_n hx hb dX3_allSpares_10 rfl (lv_at hl 1 rfl) ?_
    refine lv_iconst (v := 0) hx hb dX3_allSpares_11 (by decide) ?_
    refine lv_aload_n hx hb dX3_allSpares_12 rfl (lv_at hl 0 rfl) ?_
    refine tr_get (ci := 3) (C := RX3) (T := TX3) (N := 2) hx hb hts hiX3 hown hK hL.c2 rfl 1 (by decide) f20 (v := .ref (A 20)) rfl dX3_allSpares_13 ?_
    refine lv_iload_n hx hb dX3_allSpares_16 rfl (lv_at hl 2 rfl) ?_
    refine tr_ri (va_runV (As := [.int (nI i)]) (rest := [.int 0, .int (itI i (bX3_allSpares_4 v) 0)]) ⟨hx, hb, hml, hown, hts⟩ (c_lat l D cI A hA v 8 (by decide) (nI i)) (cwV 1 hts gX3_allSpares_X2_at rfl rfl rfl (by decide +kernel) ⟨Nat.le_of_ble_eq_true rfl, Nat.le_of_ble_eq_true rfl⟩) (tr_preV hK (hL.robj 8 (by decide)) rfl (hL.row 8 (by decide))) rfl rfl hl.1 rfl (lv_room (Nat.le_of_ble_eq_true rfl)) dX3_allSpares_17 ⟨Nat.zero_le _, Nat.zero_le _⟩) ?_
    refine tr_max hx hb (by rw [hml]; exact hl.1.symm) hown mL40 mS_max mI mC_max (Nat.le_of_ble_eq_true rfl) (Nat.le_of_ble_eq_true rfl) (Nat.zero_le _) (Nat.zero_le _) dX3_allSpares_20 ?_
    refine lv_iadd hx hb dX3_allSpares_23 ?_
    refine lv_istore_n (lv' := [(1, .int ((itI i (bX3_allSpares_4 v) 0) + (aMax 0 (lAt v 8 (nI i))))), (0, .ref (A 2)), (2, .int (nI i))]) hx hb dX3_allSpares_24 rfl hl (by decide) rfl (fun ls hl => ?_)
    refine lv_iinc (v := nI (i + 1)) (lv' := [(2, .int (nI (i + 1))), (1, .int ((itI i (bX3_allSpares_4 v) 0) + (aMax 0 (lAt v 8 (nI i))))), (0, .ref (A 2))]) hx hb dX3_allSpares_25 hl (k := 2) rfl (tr_inc _) (by decide) rfl (fun ls hl => ?_)
    refine lv_goto (tgt := 4) hx hb dX3_allSpares_28 (by decide) ?_
    have e9 : itI (i + 1) (bX3_allSpares_4 v) 0 = (itI i (bX3_allSpares_4 v) 0) + (aMax 0 (lAt v 8 (nI i))) := by rw [itI_s, bX3_allSpares_4]
    exact ih ls hlt (by rw [e9]; exact lv_sub hl [2, 1, 0] rfl)
def fX0_runs (v : LV) (cr : Int32) : Int32 :=
  (if (lAt v 13 cr) = 0 then 1 else 0)
set_option maxHeartbeats 4000000 in
set_option maxRecDepth 100000 in
theorem c_X0_runs (l : Launch) (D : va_G) (cI : ClassId) (A : Nat → Nat) (hA : LInj A) (v : LV) (cr : Int32)  : Met l yX0_runs wsX0_runs ({ frames := 1, cells := 0, slots := 0, locals := 21 }) (tr_Pc D cI [.ref (A 3), .int cr] (LNE D cI A v)) (vp_Si (fun r => r = fX0_runs v cr)) 0 0 (fun _ => False) := by
  refine Met.ofW (cc := cX0_runs) (maxL := 2) (ret := (some .boolean)) (by decide) rfl ?_
  intro p e s m args below meth c s₁ B hml hv
  obtain ⟨rfl, hL, hK⟩ := hv
  have hx := B.exec
  have hb := B.bytes
  have hr := B.returns
  have hts := atoms_spec (ws := wsX0_runs) B.pre
  have hown : s.vm.findClass RX0 = some m.cls := findClass_of_methodNamed B.named
  have hlocks := B.notSynchronized
  have hiX0 : ∀ w ∈ u_ws RX0 TX0 9, w ∈ wsX0_runs := by decide +kernel
  have f29 := hts (.fieldLink RX0 29 "TramRibbon$Fleet" "broken" "LTramRibbon$Row;") (by decide +kernel)
  have hl := lv_entry ([.ref (A 3), .int cr]) (n := 2) (Nat.le_of_ble_eq_true rfl)
  rw [lg_entry_eq]
  generalize (lg_sl ([.ref (A 3), .int cr]) ++ List.replicate (2 - (lg_sl ([.ref (A 3), .int cr])).length) Slot.unset).toArray = ls at hl ⊢
  replace hl : lv_has ls 2 [(0, .ref (A 3)), (1, .int cr)] := hl
  refine lv_aload_n hx hb dX0_runs_0 rfl (lv_at hl 0 rfl) ?_
  refine tr_get (ci := 0) (C := RX0) (T := TX0) (N := 9) hx hb hts hiX0 hown hK hL.c3 rfl 5 (by decide) f29 (v := .ref (A 30)) rfl dX0_runs_1 ?_
  refine lv_iload_n hx hb dX0_runs_4 rfl (lv_at hl 1 rfl) ?_
  refine tr_ri (va_runV (As := [.int cr]) (rest := []) ⟨hx, hb, hml, hown, hts⟩ (c_lat l D cI A hA v 13 (by decide) cr) (cwV 1 hts gX0_runs_X2_at rfl rfl rfl (by decide +kernel) ⟨Nat.le_of_ble_eq_true rfl, Nat.le_of_ble_eq_true rfl⟩) (tr_preV hK (hL.robj 13 (by decide)) rfl (hL.row 13 (by decide))) rfl rfl hl.1 rfl (lv_room (Nat.le_of_ble_eq_true rfl)) dX0_runs_5 ⟨Nat.zero_le _, Nat.zero_le _⟩) ?_
  refine lv_if_ne (tgt := 15) hx hb dX0_runs_8 (by decide) (fun c_8 => ?_) (fun c_8 => ?_)
  · refine lv_iconst (v := 0) hx hb dX0_runs_15 (by decide) ?_
    exact W.zret (ty := .boolean) hx hb hr rfl (tr_endi (by rw [fX0_runs, if_neg c_8])) (fun _ h => by cases h) dX0_runs_16
  · refine lv_iconst (v := 1) hx hb dX0_runs_11 (by decide) ?_
    refine lv_goto (tgt := 16) hx hb dX0_runs_12 (by decide) ?_
    exact W.zret (ty := .boolean) hx hb hr rfl (tr_endi (by rw [fX0_runs, if_pos c_8])) (fun _ h => by cases h) dX0_runs_16
def fX0_pushes (v : LV) (cr : Int32) : Int32 :=
  (if (lAt v 14 cr) = (-1) then 0 else 1)
set_option maxHeartbeats 4000000 in
set_option maxRecDepth 100000 in
theorem c_X0_pushes (l : Launch) (D : va_G) (cI : ClassId) (A : Nat → Nat) (hA : LInj A) (v : LV) (cr : Int32)  : Met l yX0_pushes wsX0_pushes ({ frames := 1, cells := 0, slots := 0, locals := 21 }) (tr_Pc D cI [.ref (A 3), .int cr] (LNE D cI A v)) (vp_Si (fun r => r = fX0_pushes v cr)) 0 0 (fun _ => False) := by
  refine Met.ofW (cc := cX0_pushes) (maxL := 2) (ret := (some .boolean)) (by decide) rfl ?_
  intro p e s m args below meth c s₁ B hml hv
  obtain ⟨rfl, hL, hK⟩ := hv
  have hx := B.exec
  have hb := B.bytes
  have hr := B.returns
  have hts := atoms_spec (ws := wsX0_pushes) B.pre
  have hown : s.vm.findClass RX0 = some m.cls := findClass_of_methodNamed B.named
  have hlocks := B.notSynchronized
  have hiX0 : ∀ w ∈ u_ws RX0 TX0 9, w ∈ wsX0_pushes := by decide +kernel
  have f32 := hts (.fieldLink RX0 32 "TramRibbon$Fleet" "pushed" "LTramRibbon$Row;") (by decide +kernel)
  have hl := lv_entry ([.ref (A 3), .int cr]) (n := 2) (Nat.le_of_ble_eq_true rfl)
  rw [lg_entry_eq]
  generalize (lg_sl ([.ref (A 3), .int cr]) ++ List.replicate (2 - (lg_sl ([.ref (A 3), .int cr])).length) Slot.unset).toArray = ls at hl ⊢
  replace hl : lv_has ls 2 [(0, .ref (A 3)), (1, .int cr)] := hl
  refine lv_aload_n hx hb dX0_pushes_0 rfl (lv_at hl 0 rfl) ?_
  refine tr_get (ci := 0) (C := RX0) (T := TX0) (N := 9) hx hb hts hiX0 hown hK hL.c3 rfl 6 (by decide) f32 (v := .ref (A 32)) rfl dX0_pushes_1 ?_
  refine lv_iload_n hx hb dX0_pushes_4 rfl (lv_at hl 1 rfl) ?_
  refine tr_ri (va_runV (As := [.int cr]) (rest := []) ⟨hx, hb, hml, hown, hts⟩ (c_lat l D cI A hA v 14 (by decide) cr) (cwV 1 hts gX0_pushes_X2_at rfl rfl rfl (by decide +kernel) ⟨Nat.le_of_ble_eq_true rfl, Nat.le_of_ble_eq_true rfl⟩) (tr_preV hK (hL.robj 14 (by decide)) rfl (hL.row 14 (by decide))) rfl rfl hl.1 rfl (lv_room (Nat.le_of_ble_eq_true rfl)) dX0_pushes_5 ⟨Nat.zero_le _, Nat.zero_le _⟩) ?_
  refine lv_iconst (v := -1) hx hb dX0_pushes_8 (by decide) ?_
  refine lv_icmp_eq (tgt := 16) hx hb dX0_pushes_9 (by decide) (fun c_9 => ?_) (fun c_9 => ?_)
  · refine lv_iconst (v := 0) hx hb dX0_pushes_16 (by decide) ?_
    exact W.zret (ty := .boolean) hx hb hr rfl (tr_endi (by rw [fX0_pushes, if_pos c_9])) (fun _ h => by cases h) dX0_pushes_17
  · refine lv_iconst (v := 1) hx hb dX0_pushes_12 (by decide) ?_
    refine lv_goto (tgt := 17) hx hb dX0_pushes_13 (by decide) ?_
    exact W.zret (ty := .boolean) hx hb hr rfl (tr_endi (by rw [fX0_pushes, if_neg c_9])) (fun _ h => by cases h) dX0_pushes_17
def bX0_carsAt_4 (v : LV) (po : Int32) (i : Nat) (a : Int32) : Int32 :=
  (if (lAt v 9 (nI i)) = po then a + 1 else a + 0)
def fX0_carsAt (v : LV) (po : Int32) : Int32 :=
  itI ((v.1 2).toNatClampNeg) (bX0_carsAt_4 v po) 0
set_option maxHeartbeats 4000000 in
set_option maxRecDepth 100000 in
theorem c_X0_carsAt (l : Launch) (D : va_G) (cI : ClassId) (A : Nat → Nat) (hA : LInj A) (v : LV) (po : Int32)  : Met l yX0_carsAt wsX0_carsAt ({ frames := 1, cells := 0, slots := 0, locals := 21 }) (tr_Pc D cI [.ref (A 3), .int po] (LNE D cI A v)) (vp_Si (fun r => r = fX0_carsAt v po)) 0 0 (fun _ => False) := by
  refine Met.ofW (cc := cX0_carsAt) (maxL := 4) (ret := (some .int)) (by decide) rfl ?_
  intro p e s m args below meth c s₁ B hml hv
  obtain ⟨rfl, hL, hK⟩ := hv
  have hx := B.exec
  have hb := B.bytes
  have hr := B.returns
  have hts := atoms_spec (ws := wsX0_carsAt) B.pre
  have hown : s.vm.findClass RX0 = some m.cls := findClass_of_methodNamed B.named
  have hlocks := B.notSynchronized
  have hiX0 : ∀ w ∈ u_ws RX0 TX0 9, w ∈ wsX0_carsAt := by decide +kernel
  have f14 := hts (.fieldLink RX0 14 "TramRibbon$Fleet" "place" "LTramRibbon$Row;") (by decide +kernel)
  have f41 := hts (.fieldLink RX0 41 "TramRibbon$Fleet" "size" "I") (by decide +kernel)
  have hl := lv_entry ([.ref (A 3), .int po]) (n := 4) (Nat.le_of_ble_eq_true rfl)
  rw [lg_entry_eq]
  generalize (lg_sl ([.ref (A 3), .int po]) ++ List.replicate (4 - (lg_sl ([.ref (A 3), .int po])).length) Slot.unset).toArray = ls at hl ⊢
  replace hl : lv_has ls 4 [(0, .ref (A 3)), (1, .int po)] := hl
  refine lv_iconst (v := 0) hx hb dX0_carsAt_0 (by decide) ?_
  refine lv_istore_n (lv' := [(2, .int 0), (0, .ref (A 3)), (1, .int po)]) hx hb dX0_carsAt_1 rfl hl (by decide) rfl (fun ls hl => ?_)
  refine lv_iconst (v := 0) hx hb dX0_carsAt_2 (by decide) ?_
  refine lv_istore_n (lv' := [(3, .int 0), (2, .int 0), (0, .ref (A 3)), (1, .int po)]) hx hb dX0_carsAt_3 rfl hl (by decide) rfl (fun ls hl => ?_)
  revert hl; revert ls
  refine tr_forp (fun i ls => lv_has ls 4 [(0, .ref (A 3)), (1, .int po), (2, .int (itI i (bX0_carsAt_4 v po) 0)), (3, .int (nI i))]) ((v.1 2).toNatClampNeg) (fun ls hl => lv_sub hl [2, 3, 1, 0] rfl) ?_
  intro i ls hi hl ih
  refine lv_iload_n hx hb dX0_carsAt_4 rfl (lv_at hl 3 rfl) ?_
  refine lv_aload_n hx hb dX0_carsAt_5 rfl (lv_at hl 0 rfl) ?_
  refine tr_get (ci := 0) (C := RX0) (T := TX0) (N := 9) hx hb hts hiX0 hown hK hL.c3 rfl 0 (by decide) f41 (v := .int (v.1 2)) rfl dX0_carsAt_6 ?_
  refine lv_icmp_ge (tgt := 38) hx hb dX0_carsAt_9 (by decide) (fun c_9 => ?_) (fun c_9 => ?_)
  · have hN : i = (v.1 2).toNatClampNeg := tr_over rfl hi c_9
    subst hN
    refine lv_iload_n hx hb dX0_carsAt_38 rfl (lv_at hl 2 rfl) ?_
    exact W.iret hx hb hr (tr_endi (by rw [fX0_carsAt])) (fun _ h => by cases h) dX0_carsAt_39
  · have hlt : i < (v.1 2).toNatClampNeg := tr_on rfl hi c_9
    refine lv_iload_n hx hb dX0_carsAt_12 rfl (lv_at hl 2 rfl) ?_
    refine lv_aload_n hx hb dX0_carsAt_13 rfl (lv_at hl 0 rfl) ?_
    refine tr_get (ci := 0) (C := RX0) (T := TX0) (N := 9) hx hb hts hiX0 hown hK hL.c3 rfl 1 (by decide) f14 (v := .ref (A 22)) rfl dX0_carsAt_14 ?_
    refine lv_iload_n hx hb dX0_carsAt_17 rfl (lv_at hl 3 rfl) ?_
    refine tr_ri (va_runV (As := [.int (nI i)]) (rest := [.int (itI i (bX0_carsAt_4 v po) 0)]) ⟨hx, hb, hml, hown, hts⟩ (c_lat l D cI A hA v 9 (by decide) (nI i)) (cwV 1 hts gX0_carsAt_X2_at rfl rfl rfl (by decide +kernel) ⟨Nat.le_of_ble_eq_true rfl, Nat.le_of_ble_eq_true rfl⟩) (tr_preV hK (hL.robj 9 (by decide)) rfl (hL.row 9 (by decide))) rfl rfl hl.1 rfl (lv_room (Nat.le_of_ble_eq_true rfl)) dX0_carsAt_18 ⟨Nat.zero_le _, Nat.zero_le _⟩) ?_
    refine lv_iload_n hx hb dX0_carsAt_21 rfl (lv_at hl 1 rfl) ?_
    refine lv_icmp_ne (tgt := 29) hx hb dX0_carsAt_22 (by decide) (fun c_22 => ?_) (fun c_22 => ?_)
    · refine lv_iconst (v := 0) hx hb dX0_carsAt_29 (by decide) ?_
      refine lv_iadd hx hb dX0_carsAt_30 ?_
      refine lv_istore_n (lv' := [(2, .int ((itI i (bX0_carsAt_4 v po) 0) + 0)), (0, .ref (A 3)), (1, .int po), (3, .int (nI i))]) hx hb dX0_carsAt_31 rfl hl (by decide) rfl (fun ls hl => ?_)
      refine lv_iinc (v := nI (i + 1)) (lv' := [(3, .int (nI (i + 1))), (2, .int ((itI i (bX0_carsAt_4 v po) 0) + 0)), (0, .ref (A 3)), (1, .int po)]) hx hb dX0_carsAt_32 hl (k := 3) rfl (tr_inc _) (by decide) rfl (fun ls hl => ?_)
      refine lv_goto (tgt := 4) hx hb dX0_carsAt_35 (by decide) ?_
      have e9 : itI (i + 1) (bX0_carsAt_4 v po) 0 = (itI i (bX0_carsAt_4 v po) 0) + 0 := by rw [itI_s, bX0_carsAt_4, if_neg c_22]
      exact ih ls hlt (by rw [e9]; exact lv_sub hl [2, 3, 1, 0] rfl)
    · refine lv_iconst (v := 1) hx hb dX0_carsAt_25 (by decide) ?_
      refine lv_goto (tgt := 30) hx hb dX0_carsAt_26 (by decide) ?_
      refine lv_iadd hx hb dX0_carsAt_30 ?_
      refine lv_istore_n (lv' := [(2, .int ((itI i (bX0_carsAt_4 v po) 0) + 1)), (0, .ref (A 3)), (1, .int po), (3, .int (nI i))]) hx hb dX0_carsAt_31 rfl hl (by decide) rfl (fun ls hl => ?_)
      refine lv_iinc (v := nI (i + 1)) (lv' := [(3, .int (nI (i + 1))), (2, .int ((itI i (bX0_carsAt_4 v po) 0) + 1)), (0, .ref (A 3)), (1, .int po)]) hx hb dX0_carsAt_32 hl (k := 3) rfl (tr_inc _) (by decide) rfl (fun ls hl => ?_)
      refine lv_goto (tgt := 4) hx hb dX0_carsAt_35 (by decide) ?_
      have e9 : itI (i + 1) (bX0_carsAt_4 v po) 0 = (itI i (bX0_carsAt_4 v po) 0) + 1 := by rw [itI_s, bX0_carsAt_4, if_pos c_22]
      exact ih ls hlt (by rw [e9]; exact lv_sub hl [2, 3, 1, 0] rfl)
def bX0_hasComeTo_2 (v : LV) (po : Int32) (i : Nat) : Option Int32 :=
  (if (lAt v 16 (nI i)) = 1 then (if (lAt v 9 (nI i)) = po then some 1 else none) else none)
def fX0_hasComeTo (v : LV) (po : Int32) : Int32 :=
  ((fstI ((v.1 2).toNatClampNeg) (bX0_hasComeTo_2 v po)).getD 0)
set_option maxHeartbeats 4000000 in
set_option maxRecDepth 100000 in
theorem c_X0_hasComeTo (l : Launch) (D : va_G) (cI : ClassId) (A : Nat → Nat) (hA : LInj A) (v : LV) (po : Int32)  : Met l yX0_hasComeTo wsX0_hasComeTo ({ frames := 1, cells := 0, slots := 0, locals := 21 }) (tr_Pc D cI [.ref (A 3), .int po] (LNE D cI A v)) (vp_Si (fun r => r = fX0_hasComeTo v po)) 0 0 (fun _ => False) := by
  refine Met.ofW (cc := cX0_hasComeTo) (maxL := 3) (ret := (some .boolean)) (by decide) rfl ?_
  intro p e s m args below meth c s₁ B hml hv
  obtain ⟨rfl, hL, hK⟩ := hv
  have hx := B.exec
  have hb := B.bytes
  have hr := B.returns
  have hts := atoms_spec (ws := wsX0_hasComeTo) B.pre
  have hown : s.vm.findClass RX0 = some m.cls := findClass_of_methodNamed B.named
  have hlocks := B.notSynchronized
  have hiX0 : ∀ w ∈ u_ws RX0 TX0 9, w ∈ wsX0_hasComeTo := by decide +kernel
  have f14 := hts (.fieldLink RX0 14 "TramRibbon$Fleet" "place" "LTramRibbon$Row;") (by decide +kernel)
  have f38 := hts (.fieldLink RX0 38 "TramRibbon$Fleet" "went" "LTramRibbon$Row;") (by decide +kernel)
  have f41 := hts (.fieldLink RX0 41 "TramRibbon$Fleet" "size" "I") (by decide +kernel)
  have hl := lv_entry ([.ref (A 3), .int po]) (n := 3) (Nat.le_of_ble_eq_true rfl)
  rw [lg_entry_eq]
  generalize (lg_sl ([.ref (A 3), .int po]) ++ List.replicate (3 - (lg_sl ([.ref (A 3), .int po])).length) Slot.unset).toArray = ls at hl ⊢
  replace hl : lv_has ls 3 [(0, .ref (A 3)), (1, .int po)] := hl
  refine lv_iconst (v := 0) hx hb dX0_hasComeTo_0 (by decide) ?_
  refine lv_istore_n (lv' := [(2, .int 0), (0, .ref (A 3)), (1, .int po)]) hx hb dX0_hasComeTo_1 rfl hl (by decide) rfl (fun ls hl => ?_)
  revert hl; revert ls
  refine tr_forp (fun i ls => fstI i (bX0_hasComeTo_2 v po) = none ∧ lv_has ls 3 [(0, .ref (A 3)), (1, .int po), (2, .int (nI i))]) ((v.1 2).toNatClampNeg) (fun ls hl => ⟨rfl, lv_sub hl [1, 2, 0] rfl⟩) ?_
  intro i ls hi hinv ih
  obtain ⟨hex, hl⟩ := hinv
  refine lv_iload_n hx hb dX0_hasComeTo_2 rfl (lv_at hl 2 rfl) ?_
  refine lv_aload_n hx hb dX0_hasComeTo_3 rfl (lv_at hl 0 rfl) ?_
  refine tr_get (ci := 0) (C := RX0) (T := TX0) (N := 9) hx hb hts hiX0 hown hK hL.c3 rfl 0 (by decide) f41 (v := .int (v.1 2)) rfl dX0_hasComeTo_4 ?_
  refine lv_icmp_ge (tgt := 42) hx hb dX0_hasComeTo_7 (by decide) (fun c_7 => ?_) (fun c_7 => ?_)
  · have hN : i = (v.1 2).toNatClampNeg := tr_over rfl hi c_7
    subst hN
    refine lv_iconst (v := 0) hx hb dX0_hasComeTo_42 (by decide) ?_
    exact W.zret (ty := .boolean) hx hb hr rfl (tr_endi (by rw [fX0_hasComeTo] ; rw [hex] ; rfl)) (fun _ h => by cases h) dX0_hasComeTo_43
  · have hlt : i < (v.1 2).toNatClampNeg := tr_on rfl hi c_7
    refine lv_aload_n hx hb dX0_hasComeTo_10 rfl (lv_at hl 0 rfl) ?_
    refine tr_get (ci := 0) (C := RX0) (T := TX0) (N := 9) hx hb hts hiX0 hown hK hL.c3 rfl 8 (by decide) f38 (v := .ref (A 36)) rfl dX0_hasComeTo_11 ?_
    refine lv_iload_n hx hb dX0_hasComeTo_14 rfl (lv_at hl 2 rfl) ?_
    refine tr_ri (va_runV (As := [.int (nI i)]) (rest := []) ⟨hx, hb, hml, hown, hts⟩ (c_lat l D cI A hA v 16 (by decide) (nI i)) (cwV 1 hts gX0_hasComeTo_X2_at rfl rfl rfl (by decide +kernel) ⟨Nat.le_of_ble_eq_true rfl, Nat.le_of_ble_eq_true rfl⟩) (tr_preV hK (hL.robj 16 (by decide)) rfl (hL.row 16 (by decide))) rfl rfl hl.1 rfl (lv_room (Nat.le_of_ble_eq_true rfl)) dX0_hasComeTo_15 ⟨Nat.zero_le _, Nat.zero_le _⟩) ?_
    refine lv_iconst (v := 1) hx hb dX0_hasComeTo_18 (by decide) ?_
    refine lv_icmp_ne (tgt := 36) hx hb dX0_hasComeTo_19 (by decide) (fun c_19 => ?_) (fun c_19 => ?_)
    · refine lv_iinc (v := nI (i + 1)) (lv' := [(2, .int (nI (i + 1))), (0, .ref (A 3)), (1, .int po)]) hx hb dX0_hasComeTo_36 hl (k := 2) rfl (tr_inc _) (by decide) rfl (fun ls hl => ?_)
      refine lv_goto (tgt := 2) hx hb dX0_hasComeTo_39 (by decide) ?_
      exact ih ls hlt ⟨(fstI_n hex (by rw [bX0_hasComeTo_2, if_neg c_19])), lv_sub hl [1, 2, 0] rfl⟩
    · refine lv_aload_n hx hb dX0_hasComeTo_22 rfl (lv_at hl 0 rfl) ?_
      refine tr_get (ci := 0) (C := RX0) (T := TX0) (N := 9) hx hb hts hiX0 hown hK hL.c3 rfl 1 (by decide) f14 (v := .ref (A 22)) rfl dX0_hasComeTo_23 ?_
      refine lv_iload_n hx hb dX0_hasComeTo_26 rfl (lv_at hl 2 rfl) ?_
      refine tr_ri (va_runV (As := [.int (nI i)]) (rest := []) ⟨hx, hb, hml, hown, hts⟩ (c_lat l D cI A hA v 9 (by decide) (nI i)) (cwV 1 hts gX0_hasComeTo_X2_at rfl rfl rfl (by decide +kernel) ⟨Nat.le_of_ble_eq_true rfl, Nat.le_of_ble_eq_true rfl⟩) (tr_preV hK (hL.robj 9 (by decide)) rfl (hL.row 9 (by decide))) rfl rfl hl.1 rfl (lv_room (Nat.le_of_ble_eq_true rfl)) dX0_hasComeTo_27 ⟨Nat.zero_le _, Nat.zero_le _⟩) ?_
      refine lv_iload_n hx hb dX0_hasComeTo_30 rfl (lv_at hl 1 rfl) ?_
      refine lv_icmp_ne (tgt := 36) hx hb dX0_hasComeTo_31 (by decide) (fun c_31 => ?_) (fun c_31 => ?_)
      · refine lv_iinc (v := nI (i + 1)) (lv' := [(2, .int (nI (i + 1))), (0, .ref (A 3)), (1, .int po)]) hx hb dX0_hasComeTo_36 hl (k := 2) rfl (tr_inc _) (by decide) rfl (fun ls hl => ?_)
        refine lv_goto (tgt := 2) hx hb dX0_hasComeTo_39 (by decide) ?_
        exact ih ls hlt ⟨(fstI_n hex (by rw [bX0_hasComeTo_2, if_pos c_19, if_neg c_31])), lv_sub hl [1, 2, 0] rfl⟩
      · refine lv_iconst (v := 1) hx hb dX0_hasComeTo_34 (by decide) ?_
        exact W.zret (ty := .boolean) hx hb hr rfl (tr_endi (by have e9 := fstI_s (N := (v.1 2).toNatClampNeg) hex (f := bX0_hasComeTo_2 v po) (r := 1) (by rw [bX0_hasComeTo_2, if_pos c_19, if_pos c_31]) hlt; rw [fX0_hasComeTo]; rw [e9]; rfl)) (fun _ h => by cases h) dX0_hasComeTo_35
def bX0_isPushed_2 (v : LV) (cr : Int32) (i : Nat) : Option Int32 :=
  (if (lAt v 14 (nI i)) = cr then some 1 else none)
def fX0_isPushed (v : LV) (cr : Int32) : Int32 :=
  ((fstI ((v.1 2).toNatClampNeg) (bX0_isPushed_2 v cr)).getD 0)
set_option maxHeartbeats 4000000 in
set_option maxRecDepth 100000 in
theorem c_X0_isPushed (l : Launch) (D : va_G) (cI : ClassId) (A : Nat → Nat) (hA : LInj A) (v : LV) (cr : Int32)  : Met l yX0_isPushed wsX0_isPushed ({ frames := 1, cells := 0, slots := 0, locals := 21 }) (tr_Pc D cI [.ref (A 3), .int cr] (LNE D cI A v)) (vp_Si (fun r => r = fX0_isPushed v cr)) 0 0 (fun _ => False) := by
  refine Met.ofW (cc := cX0_isPushed) (maxL := 3) (ret := (some .boolean)) (by decide) rfl ?_
  intro p e s m args below meth c s₁ B hml hv
  obtain ⟨rfl, hL, hK⟩ := hv
  have hx := B.exec
  have hb := B.bytes
  have hr := B.returns
  have hts := atoms_spec (ws := wsX0_isPushed) B.pre
  have hown : s.vm.findClass RX0 = some m.cls := findClass_of_methodNamed B.named
  have hlocks := B.notSynchronized
  have hiX0 : ∀ w ∈ u_ws RX0 TX0 9, w ∈ wsX0_isPushed := by decide +kernel
  have f32 := hts (.fieldLink RX0 32 "TramRibbon$Fleet" "pushed" "LTramRibbon$Row;") (by decide +kernel)
  have f41 := hts (.fieldLink RX0 41 "TramRibbon$Fleet" "size" "I") (by decide +kernel)
  have hl := lv_entry ([.ref (A 3), .int cr]) (n := 3) (Nat.le_of_ble_eq_true rfl)
  rw [lg_entry_eq]
  generalize (lg_sl ([.ref (A 3), .int cr]) ++ List.replicate (3 - (lg_sl ([.ref (A 3), .int cr])).length) Slot.unset).toArray = ls at hl ⊢
  replace hl : lv_has ls 3 [(0, .ref (A 3)), (1, .int cr)] := hl
  refine lv_iconst (v := 0) hx hb dX0_isPushed_0 (by decide) ?_
  refine lv_istore_n (lv' := [(2, .int 0), (0, .ref (A 3)), (1, .int cr)]) hx hb dX0_isPushed_1 rfl hl (by decide) rfl (fun ls hl => ?_)
  revert hl; revert ls
  refine tr_forp (fun i ls => fstI i (bX0_isPushed_2 v cr) = none ∧ lv_has ls 3 [(0, .ref (A 3)), (1, .int cr), (2, .int (nI i))]) ((v.1 2).toNatClampNeg) (fun ls hl => ⟨rfl, lv_sub hl [1, 2, 0] rfl⟩) ?_
  intro i ls hi hinv ih
  obtain ⟨hex, hl⟩ := hinv
  refine lv_iload_n hx hb dX0_isPushed_2 rfl (lv_at hl 2 rfl) ?_
  refine lv_aload_n hx hb dX0_isPushed_3 rfl (lv_at hl 0 rfl) ?_
  refine tr_get (ci := 0) (C := RX0) (T := TX0) (N := 9) hx hb hts hiX0 hown hK hL.c3 rfl 0 (by decide) f41 (v := .int (v.1 2)) rfl dX0_isPushed_4 ?_
  refine lv_icmp_ge (tgt := 30) hx hb dX0_isPushed_7 (by decide) (fun c_7 => ?_) (fun c_7 => ?_)
  · have hN : i = (v.1 2).toNatClampNeg := tr_over rfl hi c_7
    subst hN
    refine lv_iconst (v := 0) hx hb dX0_isPushed_30 (by decide) ?_
    exact W.zret (ty := .boolean) hx hb hr rfl (tr_endi (by rw [fX0_isPushed] ; rw [hex] ; rfl)) (fun _ h => by cases h) dX0_isPushed_31
  · have hlt : i < (v.1 2).toNatClampNeg := tr_on rfl hi c_7
    refine lv_aload_n hx hb dX0_isPushed_10 rfl (lv_at hl 0 rfl) ?_
    refine tr_get (ci := 0) (C := RX0) (T := TX0) (N := 9) hx hb hts hiX0 hown hK hL.c3 rfl 6 (by decide) f32 (v := .ref (A 32)) rfl dX0_isPushed_11 ?_
    refine lv_iload_n hx hb dX0_isPushed_14 rfl (lv_at hl 2 rfl) ?_
    refine tr_ri (va_runV (As := [.int (nI i)]) (rest := []) ⟨hx, hb, hml, hown, hts⟩ (c_lat l D cI A hA v 14 (by decide) (nI i)) (cwV 1 hts gX0_isPushed_X2_at rfl rfl rfl (by decide +kernel) ⟨Nat.le_of_ble_eq_true rfl, Nat.le_of_ble_eq_true rfl⟩) (tr_preV hK (hL.robj 14 (by decide)) rfl (hL.row 14 (by decide))) rfl rfl hl.1 rfl (lv_room (Nat.le_of_ble_eq_true rfl)) dX0_isPushed_15 ⟨Nat.zero_le _, Nat.zero_le _⟩) ?_
    refine lv_iload_n hx hb dX0_isPushed_18 rfl (lv_at hl 1 rfl) ?_
    refine lv_icmp_ne (tgt := 24) hx hb dX0_isPushed_19 (by decide) (fun c_19 => ?_) (fun c_19 => ?_)
    · refine lv_iinc (v := nI (i + 1)) (lv' := [(2, .int (nI (i + 1))), (0, .ref (A 3)), (1, .int cr)]) hx hb dX0_isPushed_24 hl (k := 2) rfl (tr_inc _) (by decide) rfl (fun ls hl => ?_)
      refine lv_goto (tgt := 2) hx hb dX0_isPushed_27 (by decide) ?_
      exact ih ls hlt ⟨(fstI_n hex (by rw [bX0_isPushed_2, if_neg c_19])), lv_sub hl [1, 2, 0] rfl⟩
    · refine lv_iconst (v := 1) hx hb dX0_isPushed_22 (by decide) ?_
      exact W.zret (ty := .boolean) hx hb hr rfl (tr_endi (by have e9 := fstI_s (N := (v.1 2).toNatClampNeg) hex (f := bX0_isPushed_2 v cr) (r := 1) (by rw [bX0_isPushed_2, if_pos c_19]) hlt; rw [fX0_isPushed]; rw [e9]; rfl)) (fun _ h => by cases h) dX0_isPushed_23
