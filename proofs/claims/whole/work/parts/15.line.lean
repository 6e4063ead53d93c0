/-! Line: what is read -/
def fX1_spanAhead (v : LV) (cr : Int32) : Int32 :=
  (if (lAt v 10 cr) = 1 then (if (fX5_outside (lAt v 9 cr) 0 ((fX4_spans v) - 1)) = 0 then lAt v 9 cr else (-1)) else (if (fX5_outside ((lAt v 9 cr) - 1) 0 ((fX4_spans v) - 1)) = 0 then (lAt v 9 cr) - 1 else (-1)))
set_option maxHeartbeats 4000000 in
set_option maxRecDepth 100000 in
theorem c_X1_spanAhead (l : Launch) (D : va_G) (cI : ClassId) (A : Nat → Nat) (hA : LInj A) (v : LV) (cr : Int32)  : Met l yX1_spanAhead wsX1_spanAhead ({ frames := 1, cells := 0, slots := 0, locals := 22 }) (tr_Pc D cI [.ref (A 0), .int cr] (LNE D cI A v)) (vp_Si (fun r => r = fX1_spanAhead v cr)) 0 0 (fun _ => False) := by
  refine Met.ofW (cc := cX1_spanAhead) (maxL := 3) (ret := (some .int)) (by decide) rfl ?_
  intro p e s m args below meth c s₁ B hml hv
  obtain ⟨rfl, hL, hK⟩ := hv
  have hx := B.exec
  have hb := B.bytes
  have hr := B.returns
  have hts := atoms_spec (ws := wsX1_spanAhead) B.pre
  have hown : s.vm.findClass RX1 = some m.cls := findClass_of_methodNamed B.named
  have hlocks := B.notSynchronized
  have hiX0 : ∀ w ∈ u_ws RX0 TX0 9, w ∈ wsX1_spanAhead := by decide +kernel
  have hiX1 : ∀ w ∈ u_ws RX1 TX1 6, w ∈ wsX1_spanAhead := by decide +kernel
  have f12 := hts (.fieldLink RX1 12 "TramRibbon$Line" "wire" "LTramRibbon$Wire;") (by decide +kernel)
  have f149 := hts (.fieldLink RX1 149 "TramRibbon$Fleet" "place" "LTramRibbon$Row;") (by decide +kernel)
  have f197 := hts (.fieldLink RX1 197 "TramRibbon$Fleet" "up" "LTramRibbon$Row;") (by decide +kernel)
  have f28 := hts (.fieldLink RX1 28 "TramRibbon$Line" "fleet" "LTramRibbon$Fleet;") (by decide +kernel)
  have sIX5 := hts (.initialized RX5) (by decide +kernel)
  have sS_outside := hts (.static yX5_outside) (by decide +kernel)
  have hl := lv_entry ([.ref (A 0), .int cr]) (n := 3) (Nat.le_of_ble_eq_true rfl)
  rw [lg_entry_eq]
  generalize (lg_sl ([.ref (A 0), .int cr]) ++ List.replicate (3 - (lg_sl ([.ref (A 0), .int cr])).length) Slot.unset).toArray = ls at hl ⊢
  replace hl : lv_has ls 3 [(0, .ref (A 0)), (1, .int cr)] := hl
  refine lv_aload_n hx hb dX1_spanAhead_0 rfl (lv_at hl 0 rfl) ?_
  refine tr_get (ci := 1) (C := RX1) (T := TX1) (N := 6) hx hb hts hiX1 hown hK hL.c0 rfl 2 (by decide) f28 (v := .ref (A 3)) rfl dX1_spanAhead_1 ?_
  refine tr_get (ci := 0) (C := RX0) (T := TX0) (N := 9) hx hb hts hiX0 hown hK hL.c3 rfl 2 (by decide) f197 (v := .ref (A 24)) rfl dX1_spanAhead_4 ?_
  refine lv_iload_n hx hb dX1_spanAhead_7 rfl (lv_at hl 1 rfl) ?_
  refine tr_ri (va_runV (As := [.int cr]) (rest := []) ⟨hx, hb, hml, hown, hts⟩ (c_lat l D cI A hA v 10 (by decide) cr) (cwV 1 hts gX1_spanAhead_X2_at rfl rfl rfl (by decide +kernel) ⟨Nat.le_of_ble_eq_true rfl, Nat.le_of_ble_eq_true rfl⟩) (tr_preV hK (hL.robj 10 (by decide)) rfl (hL.row 10 (by decide))) rfl rfl hl.1 rfl (lv_room (Nat.le_of_ble_eq_true rfl)) dX1_spanAhead_8 ⟨Nat.zero_le _, Nat.zero_le _⟩) ?_
  refine lv_iconst (v := 1) hx hb dX1_spanAhead_11 (by decide) ?_
  refine lv_icmp_ne (tgt := 29) hx hb dX1_spanAhead_12 (by decide) (fun c_12 => ?_) (fun c_12 => ?_)
  · refine lv_aload_n hx hb dX1_spanAhead_29 rfl (lv_at hl 0 rfl) ?_
    refine tr_get (ci := 1) (C := RX1) (T := TX1) (N := 6) hx hb hts hiX1 hown hK hL.c0 rfl 2 (by decide) f28 (v := .ref (A 3)) rfl dX1_spanAhead_30 ?_
    refine tr_get (ci := 0) (C := RX0) (T := TX0) (N := 9) hx hb hts hiX0 hown hK hL.c3 rfl 1 (by decide) f149 (v := .ref (A 22)) rfl dX1_spanAhead_33 ?_
    refine lv_iload_n hx hb dX1_spanAhead_36 rfl (lv_at hl 1 rfl) ?_
    refine tr_ri (va_runV (As := [.int cr]) (rest := []) ⟨hx, hb, hml, hown, hts⟩ (c_lat l D cI A hA v 9 (by decide) cr) (cwV 1 hts gX1_spanAhead_X2_at rfl rfl rfl (by decide +kernel) ⟨Nat.le_of_ble_eq_true rfl, Nat.le_of_ble_eq_true rfl⟩) (tr_preV hK (hL.robj 9 (by decide)) rfl (hL.row 9 (by decide))) rfl rfl hl.1 rfl (lv_room (Nat.le_of_ble_eq_true rfl)) dX1_spanAhead_37 ⟨Nat.zero_le _, Nat.zero_le _⟩) ?_
    refine lv_iconst (v := 1) hx hb dX1_spanAhead_40 (by decide) ?_
    refine lv_isub hx hb dX1_spanAhead_41 ?_
    refine lv_istore_n (lv' := [(2, .int ((lAt v 9 cr) - 1)), (0, .ref (A 0)), (1, .int cr)]) hx hb dX1_spanAhead_42 rfl hl (by decide) rfl (fun ls hl => ?_)
    refine lv_iload_n hx hb dX1_spanAhead_43 rfl (lv_at hl 0 rfl) ?_
    refine lv_iconst (v := 0) hx hb dX1_spanAhead_44 (by decide) ?_
    refine lv_aload_n hx hb dX1_spanAhead_45 rfl (lv_at hl 1 rfl) ?_
    refine tr_get (ci := 1) (C := RX1) (T := TX1) (N := 6) hx hb hts hiX1 hown hK hL.c0 rfl 0 (by decide) f12 (v := .ref (A 1)) rfl dX1_spanAhead_46 ?_
    refine tr_ri (va_runV (As := []) (rest := [.int 0, .int ((lAt v 9 cr) - 1)]) ⟨hx, hb, hml, hown, hts⟩ (c_X4_spans l D cI A hA v ) (cwV 0 hts gX1_spanAhead_X4_spans rfl rfl rfl (by decide +kernel) ⟨Nat.le_of_ble_eq_true rfl, Nat.le_of_ble_eq_true rfl⟩) (tr_preV hK hL.c1 rfl hL) rfl rfl hl.1 rfl (lv_room (Nat.le_of_ble_eq_true rfl)) dX1_spanAhead_49 ⟨Nat.zero_le _, Nat.zero_le _⟩) ?_
    refine lv_iconst (v := 1) hx hb dX1_spanAhead_52 (by decide) ?_
    refine lv_isub hx hb dX1_spanAhead_53 ?_
    refine tr_ri (va_runSN (As := [.int ((lAt v 9 cr) - 1), .int 0, .int ((fX4_spans v) - 1)]) (rest := []) ⟨hx, hb, hml, hown, hts⟩ (c_X5_outside l D cI ((lAt v 9 cr) - 1) 0 ((fX4_spans v) - 1)) ⟨va_cnB 3 hts gX1_spanAhead_X5_outside_n204 rfl rfl rfl (hK.2 (.methodLinkNest RX1 204 yX5_outside "TramRibbon") (by decide +kernel)) sIX5 (by decide +kernel) ⟨Nat.le_of_ble_eq_true rfl, Nat.le_of_ble_eq_true rfl⟩, sS_outside, trivial⟩ (tr_preS hK trivial) rfl rfl hl.1 rfl (lv_room (Nat.le_of_ble_eq_true rfl)) dX1_spanAhead_54 ⟨Nat.zero_le _, Nat.zero_le _⟩) ?_
    refine lv_if_eq (tgt := 64) hx hb dX1_spanAhead_57 (by decide) (fun c_57 => ?_) (fun c_57 => ?_)
    · refine lv_iload_n hx hb dX1_spanAhead_64 rfl (lv_at hl 0 rfl) ?_
      exact W.iret hx hb hr (tr_endi (by rw [fX1_spanAhead, if_neg c_12, if_pos c_57])) (fun _ h => by cases h) dX1_spanAhead_65
    · refine lv_iconst (v := -1) hx hb dX1_spanAhead_60 (by decide) ?_
      refine lv_goto (tgt := 65) hx hb dX1_spanAhead_61 (by decide) ?_
      exact W.iret hx hb hr (tr_endi (by rw [fX1_spanAhead, if_neg c_12, if_neg c_57])) (fun _ h => by cases h) dX1_spanAhead_65
  · refine lv_aload_n hx hb dX1_spanAhead_15 rfl (lv_at hl 0 rfl) ?_
    refine tr_get (ci := 1) (C := RX1) (T := TX1) (N := 6) hx hb hts hiX1 hown hK hL.c0 rfl 2 (by decide) f28 (v := .ref (A 3)) rfl dX1_spanAhead_16 ?_
    refine tr_get (ci := 0) (C := RX0) (T := TX0) (N := 9) hx hb hts hiX0 hown hK hL.c3 rfl 1 (by decide) f149 (v := .ref (A 22)) rfl dX1_spanAhead_19 ?_
    refine lv_iload_n hx hb dX1_spanAhead_22 rfl (lv_at hl 1 rfl) ?_
    refine tr_ri (va_runV (As := [.int cr]) (rest := []) ⟨hx, hb, hml, hown, hts⟩ (c_lat l D cI A hA v 9 (by decide) cr) (cwV 1 hts gX1_spanAhead_X2_at rfl rfl rfl (by decide +kernel) ⟨Nat.le_of_ble_eq_true rfl, Nat.le_of_ble_eq_true rfl⟩) (tr_preV hK (hL.robj 9 (by decide)) rfl (hL.row 9 (by decide))) rfl rfl hl.1 rfl (lv_room (Nat.le_of_ble_eq_true rfl)) dX1_spanAhead_23 ⟨Nat.zero_le _, Nat.zero_le _⟩) ?_
    refine lv_goto (tgt := 42) hx hb dX1_spanAhead_26 (by decide) ?_
    refine lv_istore_n (lv' := [(2, .int (lAt v 9 cr)), (0, .ref (A 0)), (1, .int cr)]) hx hb dX1_spanAhead_42 rfl hl (by decide) rfl (fun ls hl => ?_)
    refine lv_iload_n hx hb dX1_spanAhead_43 rfl (lv_at hl 0 rfl) ?_
    refine lv_iconst (v := 0) hx hb dX1_spanAhead_44 (by decide) ?_
    refine lv_aload_n hx hb dX1_spanAhead_45 rfl (lv_at hl 1 rfl) ?_
    refine tr_get (ci := 1) (C := RX1) (T := TX1) (N := 6) hx hb hts hiX1 hown hK hL.c0 rfl 0 (by decide) f12 (v := .ref (A 1)) rfl dX1_spanAhead_46 ?_
    refine tr_ri (va_runV (As := []) (rest := [.int 0, .int (lAt v 9 cr)]) ⟨hx, hb, hml, hown, hts⟩ (c_X4_spans l D cI A hA v ) (cwV 0 hts gX1_spanAhead_X4_spans rfl rfl rfl (by decide +kernel) ⟨Nat.le_of_ble_eq_true rfl, Nat.le_of_ble_eq_true rfl⟩) (tr_preV hK hL.c1 rfl hL) rfl rfl hl.1 rfl (lv_room (Nat.le_of_ble_eq_true rfl)) dX1_spanAhead_49 ⟨Nat.zero_le _, Nat.zero_le _⟩) ?_
    refine lv_iconst (v := 1) hx hb dX1_spanAhead_52 (by decide) ?_
    refine lv_isub hx hb dX1_spanAhead_53 ?_
    refine tr_ri (va_runSN (As := [.int (lAt v 9 cr), .int 0, .int ((fX4_spans v) - 1)]) (rest := []) ⟨hx, hb, hml, hown, hts⟩ (c_X5_outside l D cI (lAt v 9 cr) 0 ((fX4_spans v) - 1)) ⟨va_cnB 3 hts gX1_spanAhead_X5_outside_n204 rfl rfl rfl (hK.2 (.methodLinkNest RX1 204 yX5_outside "TramRibbon") (by decide +kernel)) sIX5 (by decide +kernel) ⟨Nat.le_of_ble_eq_true rfl, Nat.le_of_ble_eq_true rfl⟩, sS_outside, trivial⟩ (tr_preS hK trivial) rfl rfl hl.1 rfl (lv_room (Nat.le_of_ble_eq_true rfl)) dX1_spanAhead_54 ⟨Nat.zero_le _, Nat.zero_le _⟩) ?_
    refine lv_if_eq (tgt := 64) hx hb dX1_spanAhead_57 (by decide) (fun c_57 => ?_) (fun c_57 => ?_)
    · refine lv_iload_n hx hb dX1_spanAhead_64 rfl (lv_at hl 0 rfl) ?_
      exact W.iret hx hb hr (tr_endi (by rw [fX1_spanAhead, if_pos c_12, if_pos c_57])) (fun _ h => by cases h) dX1_spanAhead_65
    · refine lv_iconst (v := -1) hx hb dX1_spanAhead_60 (by decide) ?_
      refine lv_goto (tgt := 65) hx hb dX1_spanAhead_61 (by decide) ?_
      exact W.iret hx hb hr (tr_endi (by rw [fX1_spanAhead, if_pos c_12, if_neg c_57])) (fun _ h => by cases h) dX1_spanAhead_65
def fX1_sectionAhead (v : LV) (cr : Int32) : Int32 :=
  (if (fX1_spanAhead v cr) = (-1) then (-1) else lAt v 1 (fX1_spanAhead v cr))
set_option maxHeartbeats 4000000 in
set_option maxRecDepth 100000 in
theorem c_X1_sectionAhead (l : Launch) (D : va_G) (cI : ClassId) (A : Nat → Nat) (hA : LInj A) (v : LV) (cr : Int32)  : Met l yX1_sectionAhead wsX1_sectionAhead ({ frames := 2, cells := 0, slots := 0, locals := 44 }) (tr_Pc D cI [.ref (A 0), .int cr] (LNE D cI A v)) (vp_Si (fun r => r = fX1_sectionAhead v cr)) 0 0 (fun _ => False) := by
  refine Met.ofW (cc := cX1_sectionAhead) (maxL := 3) (ret := (some .int)) (by decide) rfl ?_
  intro p e s m args below meth c s₁ B hml hv
  obtain ⟨rfl, hL, hK⟩ := hv
  have hx := B.exec
  have hb := B.bytes
  have hr := B.returns
  have hts := atoms_spec (ws := wsX1_sectionAhead) B.pre
  have hown : s.vm.findClass RX1 = some m.cls := findClass_of_methodNamed B.named
  have hlocks := B.notSynchronized
  have hiX1 : ∀ w ∈ u_ws RX1 TX1 6, w ∈ wsX1_sectionAhead := by decide +kernel
  have hiX4 : ∀ w ∈ u_ws RX4 TX4 9, w ∈ wsX1_sectionAhead := by decide +kernel
  have f12 := hts (.fieldLink RX1 12 "TramRibbon$Line" "wire" "LTramRibbon$Wire;") (by decide +kernel)
  have f131 := hts (.fieldLink RX1 131 "TramRibbon$Wire" "sectionAt" "LTramRibbon$Row;") (by decide +kernel)
  have hl := lv_entry ([.ref (A 0), .int cr]) (n := 3) (Nat.le_of_ble_eq_true rfl)
  rw [lg_entry_eq]
  generalize (lg_sl ([.ref (A 0), .int cr]) ++ List.replicate (3 - (lg_sl ([.ref (A 0), .int cr])).length) Slot.unset).toArray = ls at hl ⊢
  replace hl : lv_has ls 3 [(0, .ref (A 0)), (1, .int cr)] := hl
  refine lv_aload_n hx hb dX1_sectionAhead_0 rfl (lv_at hl 0 rfl) ?_
  refine lv_iload_n hx hb dX1_sectionAhead_1 rfl (lv_at hl 1 rfl) ?_
  refine tr_ri (va_runV (As := [.int cr]) (rest := []) ⟨hx, hb, hml, hown, hts⟩ (c_X1_spanAhead l D cI A hA v cr) (cwV 1 hts gX1_sectionAhead_X1_spanAhead rfl rfl rfl (by decide +kernel) ⟨Nat.le_of_ble_eq_true rfl, Nat.le_of_ble_eq_true rfl⟩) (tr_preV hK hL.c0 rfl hL) rfl rfl hl.1 rfl (lv_room (Nat.le_of_ble_eq_true rfl)) dX1_sectionAhead_2 ⟨Nat.zero_le _, Nat.zero_le _⟩) ?_
  refine lv_istore_n (lv' := [(2, .int (fX1_spanAhead v cr)), (0, .ref (A 0)), (1, .int cr)]) hx hb dX1_sectionAhead_5 rfl hl (by decide) rfl (fun ls hl => ?_)
  refine lv_iload_n hx hb dX1_sectionAhead_6 rfl (lv_at hl 0 rfl) ?_
  refine lv_iconst (v := -1) hx hb dX1_sectionAhead_7 (by decide) ?_
  refine lv_icmp_ne (tgt := 15) hx hb dX1_sectionAhead_8 (by decide) (fun c_8 => ?_) (fun c_8 => ?_)
  · refine lv_aload_n hx hb dX1_sectionAhead_15 rfl (lv_at hl 1 rfl) ?_
    refine tr_get (ci := 1) (C := RX1) (T := TX1) (N := 6) hx hb hts hiX1 hown hK hL.c0 rfl 0 (by decide) f12 (v := .ref (A 1)) rfl dX1_sectionAhead_16 ?_
    refine tr_get (ci := 4) (C := RX4) (T := TX4) (N := 9) hx hb hts hiX4 hown hK hL.c1 rfl 3 (by decide) f131 (v := .ref (A 6)) rfl dX1_sectionAhead_19 ?_
    refine lv_iload_n hx hb dX1_sectionAhead_22 rfl (lv_at hl 0 rfl) ?_
    refine tr_ri (va_runV (As := [.int (fX1_spanAhead v cr)]) (rest := []) ⟨hx, hb, hml, hown, hts⟩ (c_lat l D cI A hA v 1 (by decide) (fX1_spanAhead v cr)) (cwV 1 hts gX1_sectionAhead_X2_at rfl rfl rfl (by decide +kernel) ⟨Nat.le_of_ble_eq_true rfl, Nat.le_of_ble_eq_true rfl⟩) (tr_preV hK (hL.robj 1 (by decide)) rfl (hL.row 1 (by decide))) rfl rfl hl.1 rfl (lv_room (Nat.le_of_ble_eq_true rfl)) dX1_sectionAhead_23 ⟨Nat.zero_le _, Nat.zero_le _⟩) ?_
    exact W.iret hx hb hr (tr_endi (by rw [fX1_sectionAhead, if_neg c_8])) (fun _ h => by cases h) dX1_sectionAhead_26
  · refine lv_iconst (v := -1) hx hb dX1_sectionAhead_11 (by decide) ?_
    refine lv_goto (tgt := 26) hx hb dX1_sectionAhead_12 (by decide) ?_
    exact W.iret hx hb hr (tr_endi (by rw [fX1_sectionAhead, if_pos c_8])) (fun _ h => by cases h) dX1_sectionAhead_26
def fX1_poleAhead (v : LV) (cr : Int32) : Int32 :=
  (if (lAt v 10 cr) = 1 then (lAt v 9 cr) + 1 else (lAt v 9 cr) + (-1))
set_option maxHeartbeats 4000000 in
set_option maxRecDepth 100000 in
theorem c_X1_poleAhead (l : Launch) (D : va_G) (cI : ClassId) (A : Nat → Nat) (hA : LInj A) (v : LV) (cr : Int32)  : Met l yX1_poleAhead wsX1_poleAhead ({ frames := 1, cells := 0, slots := 0, locals := 21 }) (tr_Pc D cI [.ref (A 0), .int cr] (LNE D cI A v)) (vp_Si (fun r => r = fX1_poleAhead v cr)) 0 0 (fun _ => False) := by
  refine Met.ofW (cc := cX1_poleAhead) (maxL := 2) (ret := (some .int)) (by decide) rfl ?_
  intro p e s m args below meth c s₁ B hml hv
  obtain ⟨rfl, hL, hK⟩ := hv
  have hx := B.exec
  have hb := B.bytes
  have hr := B.returns
  have hts := atoms_spec (ws := wsX1_poleAhead) B.pre
  have hown : s.vm.findClass RX1 = some m.cls := findClass_of_methodNamed B.named
  have hlocks := B.notSynchronized
  have hiX0 : ∀ w ∈ u_ws RX0 TX0 9, w ∈ wsX1_poleAhead := by decide +kernel
  have hiX1 : ∀ w ∈ u_ws RX1 TX1 6, w ∈ wsX1_poleAhead := by decide +kernel
  have f149 := hts (.fieldLink RX1 149 "TramRibbon$Fleet" "place" "LTramRibbon$Row;") (by decide +kernel)
  have f197 := hts (.fieldLink RX1 197 "TramRibbon$Fleet" "up" "LTramRibbon$Row;") (by decide +kernel)
  have f28 := hts (.fieldLink RX1 28 "TramRibbon$Line" "fleet" "LTramRibbon$Fleet;") (by decide +kernel)
  have hl := lv_entry ([.ref (A 0), .int cr]) (n := 2) (Nat.le_of_ble_eq_true rfl)
  rw [lg_entry_eq]
  generalize (lg_sl ([.ref (A 0), .int cr]) ++ List.replicate (2 - (lg_sl ([.ref (A 0), .int cr])).length) Slot.unset).toArray = ls at hl ⊢
  replace hl : lv_has ls 2 [(0, .ref (A 0)), (1, .int cr)] := hl
  refine lv_aload_n hx hb dX1_poleAhead_0 rfl (lv_at hl 0 rfl) ?_
  refine tr_get (ci := 1) (C := RX1) (T := TX1) (N := 6) hx hb hts hiX1 hown hK hL.c0 rfl 2 (by decide) f28 (v := .ref (A 3)) rfl dX1_poleAhead_1 ?_
  refine tr_get (ci := 0) (C := RX0) (T := TX0) (N := 9) hx hb hts hiX0 hown hK hL.c3 rfl 1 (by decide) f149 (v := .ref (A 22)) rfl dX1_poleAhead_4 ?_
  refine lv_iload_n hx hb dX1_poleAhead_7 rfl (lv_at hl 1 rfl) ?_
  refine tr_ri (va_runV (As := [.int cr]) (rest := []) ⟨hx, hb, hml, hown, hts⟩ (c_lat l D cI A hA v 9 (by decide) cr) (cwV 1 hts gX1_poleAhead_X2_at rfl rfl rfl (by decide +kernel) ⟨Nat.le_of_ble_eq_true rfl, Nat.le_of_ble_eq_true rfl⟩) (tr_preV hK (hL.robj 9 (by decide)) rfl (hL.row 9 (by decide))) rfl rfl hl.1 rfl (lv_room (Nat.le_of_ble_eq_true rfl)) dX1_poleAhead_8 ⟨Nat.zero_le _, Nat.zero_le _⟩) ?_
  refine lv_aload_n hx hb dX1_poleAhead_11 rfl (lv_at hl 0 rfl) ?_
  refine tr_get (ci := 1) (C := RX1) (T := TX1) (N := 6) hx hb hts hiX1 hown hK hL.c0 rfl 2 (by decide) f28 (v := .ref (A 3)) rfl dX1_poleAhead_12 ?_
  refine tr_get (ci := 0) (C := RX0) (T := TX0) (N := 9) hx hb hts hiX0 hown hK hL.c3 rfl 2 (by decide) f197 (v := .ref (A 24)) rfl dX1_poleAhead_15 ?_
  refine lv_iload_n hx hb dX1_poleAhead_18 rfl (lv_at hl 1 rfl) ?_
  refine tr_ri (va_runV (As := [.int cr]) (rest := [.int (lAt v 9 cr)]) ⟨hx, hb, hml, hown, hts⟩ (c_lat l D cI A hA v 10 (by decide) cr) (cwV 1 hts gX1_poleAhead_X2_at rfl rfl rfl (by decide +kernel) ⟨Nat.le_of_ble_eq_true rfl, Nat.le_of_ble_eq_true rfl⟩) (tr_preV hK (hL.robj 10 (by decide)) rfl (hL.row 10 (by decide))) rfl rfl hl.1 rfl (lv_room (Nat.le_of_ble_eq_true rfl)) dX1_poleAhead_19 ⟨Nat.zero_le _, Nat.zero_le _⟩) ?_
  refine lv_iconst (v := 1) hx hb dX1_poleAhead_22 (by decide) ?_
  refine lv_icmp_ne (tgt := 30) hx hb dX1_poleAhead_23 (by decide) (fun c_23 => ?_) (fun c_23 => ?_)
  · refine lv_iconst (v := -1) hx hb dX1_poleAhead_30 (by decide) ?_
    refine lv_iadd hx hb dX1_poleAhead_31 ?_
    exact W.iret hx hb hr (tr_endi (by rw [fX1_poleAhead, if_neg c_23])) (fun _ h => by cases h) dX1_poleAhead_32
  · refine lv_iconst (v := 1) hx hb dX1_poleAhead_26 (by decide) ?_
    refine lv_goto (tgt := 31) hx hb dX1_poleAhead_27 (by decide) ?_
    refine lv_iadd hx hb dX1_poleAhead_31 ?_
    exact W.iret hx hb hr (tr_endi (by rw [fX1_poleAhead, if_pos c_23])) (fun _ h => by cases h) dX1_poleAhead_32
def fX1_drawOf (v : LV) (cr : Int32) : Int32 :=
  (if (fX1_spanAhead v cr) = (-1) then 0 else (if (fX0_runs v cr) = 0 then 0 else (if (lAt v 10 cr) = 1 then (if (fX0_pushes v cr) = 0 then ((2 + ((lAt v 11 cr) / 10)) + (aMax 0 (lAt v 0 (fX1_spanAhead v cr)))) + 0 else ((2 + ((lAt v 11 cr) / 10)) + (aMax 0 (lAt v 0 (fX1_spanAhead v cr)))) + 3) else (if (fX0_pushes v cr) = 0 then ((2 + ((lAt v 11 cr) / 10)) + (aMax 0 (-(lAt v 0 (fX1_spanAhead v cr))))) + 0 else ((2 + ((lAt v 11 cr) / 10)) + (aMax 0 (-(lAt v 0 (fX1_spanAhead v cr))))) + 3))))
set_option maxHeartbeats 4000000 in
set_option maxRecDepth 100000 in
theorem c_X1_drawOf (l : Launch) (D : va_G) (cI : ClassId) (A : Nat → Nat) (hA : LInj A) (v : LV) (cr : Int32)  : Met l yX1_drawOf wsX1_drawOf ({ frames := 2, cells := 0, slots := 0, locals := 44 }) (tr_Pc D cI [.ref (A 0), .int cr] (LNE D cI A v)) (vp_Si (fun r => r = fX1_drawOf v cr)) 0 0 (fun _ => False) := by
  refine Met.ofW (cc := cX1_drawOf) (maxL := 5) (ret := (some .int)) (by decide) rfl ?_
  intro p e s m args below meth c s₁ B hml hv
  obtain ⟨rfl, hL, hK⟩ := hv
  have hx := B.exec
  have hb := B.bytes
  have hr := B.returns
  have hts := atoms_spec (ws := wsX1_drawOf) B.pre
  have hown : s.vm.findClass RX1 = some m.cls := findClass_of_methodNamed B.named
  have hlocks := B.notSynchronized
  have hiX0 : ∀ w ∈ u_ws RX0 TX0 9, w ∈ wsX1_drawOf := by decide +kernel
  have hiX1 : ∀ w ∈ u_ws RX1 TX1 6, w ∈ wsX1_drawOf := by decide +kernel
  have hiX4 : ∀ w ∈ u_ws RX4 TX4 9, w ∈ wsX1_drawOf := by decide +kernel
  have f12 := hts (.fieldLink RX1 12 "TramRibbon$Line" "wire" "LTramRibbon$Wire;") (by decide +kernel)
  have f152 := hts (.fieldLink RX1 152 "TramRibbon$Fleet" "riders" "LTramRibbon$Row;") (by decide +kernel)
  have f197 := hts (.fieldLink RX1 197 "TramRibbon$Fleet" "up" "LTramRibbon$Row;") (by decide +kernel)
  have f208 := hts (.fieldLink RX1 208 "TramRibbon$Wire" "slope" "LTramRibbon$Row;") (by decide +kernel)
  have f28 := hts (.fieldLink RX1 28 "TramRibbon$Line" "fleet" "LTramRibbon$Fleet;") (by decide +kernel)
  have mC_max := hts (.code Lib.Math.max.name Lib.Math.max.code 2 (some .int)) (by decide +kernel)
  have mI := hts (.initialized "java/lang/Math") (by decide +kernel)
  have mL211 := hts (.methodLink RX1 211 Lib.Math.max.name) (by decide +kernel)
  have mS_max := hts (.static Lib.Math.max.name) (by decide +kernel)
  have hl := lv_entry ([.ref (A 0), .int cr]) (n := 5) (Nat.le_of_ble_eq_true rfl)
  rw [lg_entry_eq]
  generalize (lg_sl ([.ref (A 0), .int cr]) ++ List.replicate (5 - (lg_sl ([.ref (A 0), .int cr])).length) Slot.unset).toArray = ls at hl ⊢
  replace hl : lv_has ls 5 [(0, .ref (A 0)), (1, .int cr)] := hl
  refine lv_aload_n hx hb dX1_drawOf_0 rfl (lv_at hl 0 rfl) ?_
  refine lv_iload_n hx hb dX1_drawOf_1 rfl (lv_at hl 1 rfl) ?_
  refine tr_ri (va_runV (As := [.int cr]) (rest := []) ⟨hx, hb, hml, hown, hts⟩ (c_X1_spanAhead l D cI A hA v cr) (cwV 1 hts gX1_drawOf_X1_spanAhead rfl rfl rfl (by decide +kernel) ⟨Nat.le_of_ble_eq_true rfl, Nat.le_of_ble_eq_true rfl⟩) (tr_preV hK hL.c0 rfl hL) rfl rfl hl.1 rfl (lv_room (Nat.le_of_ble_eq_true rfl)) dX1_drawOf_2 ⟨Nat.zero_le _, Nat.zero_le _⟩) ?_
  refine lv_istore_n (lv' := [(2, .int (fX1_spanAhead v cr)), (0, .ref (A 0)), (1, .int cr)]) hx hb dX1_drawOf_5 rfl hl (by decide) rfl (fun ls hl => ?_)
  refine lv_iload_n hx hb dX1_drawOf_6 rfl (lv_at hl 0 rfl) ?_
  refine lv_iconst (v := -1) hx hb dX1_drawOf_7 (by decide) ?_
  refine lv_icmp_eq (tgt := 22) hx hb dX1_drawOf_8 (by decide) (fun c_8 => ?_) (fun c_8 => ?_)
  · refine lv_iconst (v := 0) hx hb dX1_drawOf_22 (by decide) ?_
    exact W.iret hx hb hr (tr_endi (by rw [fX1_drawOf, if_pos c_8])) (fun _ h => by cases h) dX1_drawOf_23
  · refine lv_aload_n hx hb dX1_drawOf_11 rfl (lv_at hl 1 rfl) ?_
    refine tr_get (ci := 1) (C := RX1) (T := TX1) (N := 6) hx hb hts hiX1 hown hK hL.c0 rfl 2 (by decide) f28 (v := .ref (A 3)) rfl dX1_drawOf_12 ?_
    refine lv_iload_n hx hb dX1_drawOf_15 rfl (lv_at hl 2 rfl) ?_
    refine tr_ri (va_runV (As := [.int cr]) (rest := []) ⟨hx, hb, hml, hown, hts⟩ (c_X0_runs l D cI A hA v cr) (cwV 1 hts gX1_drawOf_X0_runs rfl rfl rfl (by decide +kernel) ⟨Nat.le_of_ble_eq_true rfl, Nat.le_of_ble_eq_true rfl⟩) (tr_preV hK hL.c3 rfl hL) rfl rfl hl.1 rfl (lv_room (Nat.le_of_ble_eq_true rfl)) dX1_drawOf_16 ⟨Nat.zero_le _, Nat.zero_le _⟩) ?_
    refine lv_if_ne (tgt := 24) hx hb dX1_drawOf_19 (by decide) (fun c_19 => ?_) (fun c_19 => ?_)
    · refine lv_aload_n hx hb dX1_drawOf_24 rfl (lv_at hl 1 rfl) ?_
      refine tr_get (ci := 1) (C := RX1) (T := TX1) (N := 6) hx hb hts hiX1 hown hK hL.c0 rfl 0 (by decide) f12 (v := .ref (A 1)) rfl dX1_drawOf_25 ?_
      refine tr_get (ci := 4) (C := RX4) (T := TX4) (N := 9) hx hb hts hiX4 hown hK hL.c1 rfl 2 (by decide) f208 (v := .ref (A 4)) rfl dX1_drawOf_28 ?_
      refine lv_iload_n hx hb dX1_drawOf_31 rfl (lv_at hl 0 rfl) ?_
      refine tr_ri (va_runV (As := [.int (fX1_spanAhead v cr)]) (rest := []) ⟨hx, hb, hml, hown, hts⟩ (c_lat l D cI A hA v 0 (by decide) (fX1_spanAhead v cr)) (cwV 1 hts gX1_drawOf_X2_at rfl rfl rfl (by decide +kernel) ⟨Nat.le_of_ble_eq_true rfl, Nat.le_of_ble_eq_true rfl⟩) (tr_preV hK (hL.robj 0 (by decide)) rfl (hL.row 0 (by decide))) rfl rfl hl.1 rfl (lv_room (Nat.le_of_ble_eq_true rfl)) dX1_drawOf_32 ⟨Nat.zero_le _, Nat.zero_le _⟩) ?_
      refine lv_istore_n (lv' := [(3, .int (lAt v 0 (fX1_spanAhead v cr))), (2, .int (fX1_spanAhead v cr)), (0, .ref (A 0)), (1, .int cr)]) hx hb dX1_drawOf_35 rfl hl (by decide) rfl (fun ls hl => ?_)
      refine lv_iconst (v := 0) hx hb dX1_drawOf_36 (by decide) ?_
      refine lv_aload_n hx hb dX1_drawOf_37 rfl (lv_at hl 2 rfl) ?_
      refine tr_get (ci := 1) (C := RX1) (T := TX1) (N := 6) hx hb hts hiX1 hown hK hL.c0 rfl 2 (by decide) f28 (v := .ref (A 3)) rfl dX1_drawOf_38 ?_
      refine tr_get (ci := 0) (C := RX0) (T := TX0) (N := 9) hx hb hts hiX0 hown hK hL.c3 rfl 2 (by decide) f197 (v := .ref (A 24)) rfl dX1_drawOf_41 ?_
      refine lv_iload_n hx hb dX1_drawOf_44 rfl (lv_at hl 3 rfl) ?_
      refine tr_ri (va_runV (As := [.int cr]) (rest := [.int 0]) ⟨hx, hb, hml, hown, hts⟩ (c_lat l D cI A hA v 10 (by decide) cr) (cwV 1 hts gX1_drawOf_X2_at rfl rfl rfl (by decide +kernel) ⟨Nat.le_of_ble_eq_true rfl, Nat.le_of_ble_eq_true rfl⟩) (tr_preV hK (hL.robj 10 (by decide)) rfl (hL.row 10 (by decide))) rfl rfl hl.1 rfl (lv_room (Nat.le_of_ble_eq_true rfl)) dX1_drawOf_45 ⟨Nat.zero_le _, Nat.zero_le _⟩) ?_
      refine lv_iconst (v := 1) hx hb dX1_drawOf_48 (by decide) ?_
      refine lv_icmp_ne (tgt := 56) hx hb dX1_drawOf_49 (by decide) (fun c_49 => ?_) (fun c_49 => ?_)
      · refine lv_iload_n hx hb dX1_drawOf_56 rfl (lv_at hl 0 rfl) ?_
        refine lv_ineg hx hb dX1_drawOf_57 ?_
        refine tr_max hx hb (by rw [hml]; exact hl.1.symm) hown mL211 mS_max mI mC_max (Nat.le_of_ble_eq_true rfl) (Nat.le_of_ble_eq_true rfl) (Nat.zero_le _) (Nat.zero_le _) dX1_drawOf_58 ?_
        refine lv_istore (lv' := [(4, .int (aMax 0 (-(lAt v 0 (fX1_spanAhead v cr))))), (3, .int (lAt v 0 (fX1_spanAhead v cr))), (2, .int (fX1_spanAhead v cr)), (0, .ref (A 0)), (1, .int cr)]) hx hb dX1_drawOf_61 hl (by decide) rfl (fun ls hl => ?_)
        refine lv_iconst (v := 2) hx hb dX1_drawOf_63 (by decide) ?_
        refine lv_aload_n hx hb dX1_drawOf_64 rfl (lv_at hl 3 rfl) ?_
        refine tr_get (ci := 1) (C := RX1) (T := TX1) (N := 6) hx hb hts hiX1 hown hK hL.c0 rfl 2 (by decide) f28 (v := .ref (A 3)) rfl dX1_drawOf_65 ?_
        refine tr_get (ci := 0) (C := RX0) (T := TX0) (N := 9) hx hb hts hiX0 hown hK hL.c3 rfl 3 (by decide) f152 (v := .ref (A 26)) rfl dX1_drawOf_68 ?_
        refine lv_iload_n hx hb dX1_drawOf_71 rfl (lv_at hl 4 rfl) ?_
        refine tr_ri (va_runV (As := [.int cr]) (rest := [.int 2]) ⟨hx, hb, hml, hown, hts⟩ (c_lat l D cI A hA v 11 (by decide) cr) (cwV 1 hts gX1_drawOf_X2_at rfl rfl rfl (by decide +kernel) ⟨Nat.le_of_ble_eq_true rfl, Nat.le_of_ble_eq_true rfl⟩) (tr_preV hK (hL.robj 11 (by decide)) rfl (hL.row 11 (by decide))) rfl rfl hl.1 rfl (lv_room (Nat.le_of_ble_eq_true rfl)) dX1_drawOf_72 ⟨Nat.zero_le _, Nat.zero_le _⟩) ?_
        refine lv_bipush (v := 10) hx hb dX1_drawOf_75 (by decide) ?_
        refine lv_idiv hx hb dX1_drawOf_77 (by decide) ?_
        refine lv_iadd hx hb dX1_drawOf_78 ?_
        refine lv_iload hx hb dX1_drawOf_79 (lv_at hl 0 rfl) ?_
        refine lv_iadd hx hb dX1_drawOf_81 ?_
        refine lv_aload_n hx hb dX1_drawOf_82 rfl (lv_at hl 3 rfl) ?_
        refine tr_get (ci := 1) (C := RX1) (T := TX1) (N := 6) hx hb hts hiX1 hown hK hL.c0 rfl 2 (by decide) f28 (v := .ref (A 3)) rfl dX1_drawOf_83 ?_
        refine lv_iload_n hx hb dX1_drawOf_86 rfl (lv_at hl 4 rfl) ?_
        refine tr_ri (va_runV (As := [.int cr]) (rest := [.int ((2 + ((lAt v 11 cr) / 10)) + (aMax 0 (-(lAt v 0 (fX1_spanAhead v cr)))))]) ⟨hx, hb, hml, hown, hts⟩ (c_X0_pushes l D cI A hA v cr) (cwV 1 hts gX1_drawOf_X0_pushes rfl rfl rfl (by decide +kernel) ⟨Nat.le_of_ble_eq_true rfl, Nat.le_of_ble_eq_true rfl⟩) (tr_preV hK hL.c3 rfl hL) rfl rfl hl.1 rfl (lv_room (Nat.le_of_ble_eq_true rfl)) dX1_drawOf_87 ⟨Nat.zero_le _, Nat.zero_le _⟩) ?_
        refine lv_if_eq (tgt := 97) hx hb dX1_drawOf_90 (by decide) (fun c_90 => ?_) (fun c_90 => ?_)
        · refine lv_iconst (v := 0) hx hb dX1_drawOf_97 (by decide) ?_
          refine lv_iadd hx hb dX1_drawOf_98 ?_
          exact W.iret hx hb hr (tr_endi (by rw [fX1_drawOf, if_neg c_8, if_neg c_19, if_neg c_49, if_pos c_90])) (fun _ h => by cases h) dX1_drawOf_99
        · refine lv_iconst (v := 3) hx hb dX1_drawOf_93 (by decide) ?_
          refine lv_goto (tgt := 98) hx hb dX1_drawOf_94 (by decide) ?_
          refine lv_iadd hx hb dX1_drawOf_98 ?_
          exact W.iret hx hb hr (tr_endi (by rw [fX1_drawOf, if_neg c_8, if_neg c_19, if_neg c_49, if_neg c_90])) (fun _ h => by cases h) dX1_drawOf_99
      · refine lv_iload_n hx hb dX1_drawOf_52 rfl (lv_at hl 0 rfl) ?_
        refine lv_goto (tgt := 58) hx hb dX1_drawOf_53 (by decide) ?_
        refine tr_max hx hb (by rw [hml]; exact hl.1.symm) hown mL211 mS_max mI mC_max (Nat.le_of_ble_eq_true rfl) (Nat.le_of_ble_eq_true rfl) (Nat.zero_le _) (Nat.zero_le _) dX1_drawOf_58 ?_
        refine lv_istore (lv' := [(4, .int (aMax 0 (lAt v 0 (fX1_spanAhead v cr)))), (3, .int (lAt v 0 (fX1_spanAhead v cr))), (2, .int (fX1_spanAhead v cr)), (0, .ref (A 0)), (1, .int cr)]) hx hb dX1_drawOf_61 hl (by decide) rfl (fun ls hl => ?_)
        refine lv_iconst (v := 2) hx hb dX1_drawOf_63 (by decide) ?_
        refine lv_aload_n hx hb dX1_drawOf_64 rfl (lv_at hl 3 rfl) ?_
        refine tr_get (ci := 1) (C := RX1) (T := TX1) (N := 6) hx hb hts hiX1 hown hK hL.c0 rfl 2 (by decide) f28 (v := .ref (A 3)) rfl dX1_drawOf_65 ?_
        refine tr_get (ci := 0) (C := RX0) (T := TX0) (N := 9) hx hb hts hiX0 hown hK hL.c3 rfl 3 (by decide) f152 (v := .ref (A 26)) rfl dX1_drawOf_68 ?_
        refine lv_iload_n hx hb dX1_drawOf_71 rfl (lv_at hl 4 rfl) ?_
        refine tr_ri (va_runV (As := [.int cr]) (rest := [.int 2]) ⟨hx, hb, hml, hown, hts⟩ (c_lat l D cI A hA v 11 (by decide) cr) (cwV 1 hts gX1_drawOf_X2_at rfl rfl rfl (by decide +kernel) ⟨Nat.le_of_ble_eq_true rfl, Nat.le_of_ble_eq_true rfl⟩) (tr_preV hK (hL.robj 11 (by decide)) rfl (hL.row 11 (by decide))) rfl rfl hl.1 rfl (lv_room (Nat.le_of_ble_eq_true rfl)) dX1_drawOf_72 ⟨Nat.zero_le _, Nat.zero_le _⟩) ?_
        refine lv_bipush (v := 10) hx hb dX1_drawOf_75 (by decide) ?_
        refine lv_idiv hx hb dX1_drawOf_77 (by decide) ?_
        refine lv_iadd hx hb dX1_drawOf_78 ?_
        refine lv_iload hx hb dX1_drawOf_79 (lv_at hl 0 rfl) ?_
        refine lv_iadd hx hb dX1_drawOf_81 ?_
        refine lv_aload_n hx hb dX1_drawOf_82 rfl (lv_at hl 3 rfl) ?_
        refine tr_get (ci := 1) (C := RX1) (T := TX1) (N := 6) hx hb hts hiX1 hown hK hL.c0 rfl 2 (by decide) f28 (v := .ref (A 3)) rfl dX1_drawOf_83 ?_
        refine lv_iload_n hx hb dX1_drawOf_86 rfl (lv_at hl 4 rfl) ?_
        refine tr_ri (va_runV (As := [.int cr]) (rest := [.int ((2 + ((lAt v 11 cr) / 10)) + (aMax 0 (lAt v 0 (fX1_spanAhead v cr))))]) ⟨hx, hb, hml, hown, hts⟩ (c_X0_pushes l D cI A hA v cr) (cwV 1 hts gX1_drawOf_X0_pushes rfl rfl rfl (by decide +kernel) ⟨Nat.le_of_ble_eq_true rfl, Nat.le_of_ble_eq_true rfl⟩) (tr_preV hK hL.c3 rfl hL) rfl rfl hl.1 rfl (lv_room (Nat.le_of_ble_eq_true rfl)) dX1_drawOf_87 ⟨Nat.zero_le _, Nat.zero_le _⟩) ?_
        refine lv_if_eq (tgt := 97) hx hb dX1_drawOf_90 (by decide) (fun c_90 => ?_) (fun c_90 => ?_)
        · refine lv_iconst (v := 0) hx hb dX1_drawOf_97 (by decide) ?_
          refine lv_iadd hx hb dX1_drawOf_98 ?_
          exact W.iret hx hb hr (tr_endi (by rw [fX1_drawOf, if_neg c_8, if_neg c_19, if_pos c_49, if_pos c_90])) (fun _ h => by cases h) dX1_drawOf_99
        · refine lv_iconst (v := 3) hx hb dX1_drawOf_93 (by decide) ?_
          refine lv_goto (tgt := 98) hx hb dX1_drawOf_94 (by decide) ?_
          refine lv_iadd hx hb dX1_drawOf_98 ?_
          exact W.iret hx hb hr (tr_endi (by rw [fX1_drawOf, if_neg c_8, if_neg c_19, if_pos c_49, if_neg c_90])) (fun _ h => by cases h) dX1_drawOf_99
    · refine lv_iconst (v := 0) hx hb dX1_drawOf_22 (by decide) ?_
      exact W.iret hx hb hr (tr_endi (by rw [fX1_drawOf, if_neg c_8, if_pos c_19])) (fun _ h => by cases h) dX1_drawOf_23
def bX1_drawnFrom_4 (v : LV) (q : Int32) (i : Nat) (a : Int32) : Int32 :=
  (if (fX1_sectionAhead v (nI i)) = q then a + (fX1_drawOf v (nI i)) else a + 0)
def fX1_drawnFrom (v : LV) (q : Int32) : Int32 :=
  itI ((v.1 2).toNatClampNeg) (bX1_drawnFrom_4 v q) 0
set_option maxHeartbeats 4000000 in
set_option maxRecDepth 100000 in
theorem c_X1_drawnFrom (l : Launch) (D : va_G) (cI : ClassId) (A : Nat → Nat) (hA : LInj A) (v : LV) (q : Int32)  : Met l yX1_drawnFrom wsX1_drawnFrom ({ frames := 3, cells := 0, slots := 0, locals := 68 }) (tr_Pc D cI [.ref (A 0), .int q] (LNE D cI A v)) (vp_Si (fun r => r = fX1_drawnFrom v q)) 0 0 (fun _ => False) := by
  refine Met.ofW (cc := cX1_drawnFrom) (maxL := 4) (ret := (some .int)) (by decide) rfl ?_
  intro p e s m args below meth c s₁ B hml hv
  obtain ⟨rfl, hL, hK⟩ := hv
  have hx := B.exec
  have hb := B.bytes
  have hr := B.returns
  have hts := atoms_spec (ws := wsX1_drawnFrom) B.pre
  have hown : s.vm.findClass RX1 = some m.cls := findClass_of_methodNamed B.named
  have hlocks := B.notSynchronized
  have hiX0 : ∀ w ∈ u_ws RX0 TX0 9, w ∈ wsX1_drawnFrom := by decide +kernel
  have hiX1 : ∀ w ∈ u_ws RX1 TX1 6, w ∈ wsX1_drawnFrom := by decide +kernel
  have f28 := hts (.fieldLink RX1 28 "TramRibbon$Line" "fleet" "LTramRibbon$Fleet;") (by decide +kernel)
  have f80 := hts (.fieldLink RX1 80 "TramRibbon$Fleet" "size" "I") (by decide +kernel)
  have hl := lv_entry ([.ref (A 0), .int q]) (n := 4) (Nat.le_of_ble_eq_true rfl)
  rw [lg_entry_eq]
  generalize (lg_sl ([.ref (A 0), .int q]) ++ List.replicate (4 - (lg_sl ([.ref (A 0), .int q])).length) Slot.unset).toArray = ls at hl ⊢
  replace hl : lv_has ls 4 [(0, .ref (A 0)), (1, .int q)] := hl
  refine lv_iconst (v := 0) hx hb dX1_drawnFrom_0 (by decide) ?_
  refine lv_istore_n (lv' := [(2, .int 0), (0, .ref (A 0)), (1, .int q)]) hx hb dX1_drawnFrom_1 rfl hl (by decide) rfl (fun ls hl => ?_)
  refine lv_iconst (v := 0) hx hb dX1_drawnFrom_2 (by decide) ?_
  refine lv_istore_n (lv' := [(3, .int 0), (2, .int 0), (0, .ref (A 0)), (1, .int q)]) hx hb dX1_drawnFrom_3 rfl hl (by decide) rfl (fun ls hl => ?_)
  revert hl; revert ls
  refine tr_forp (fun i ls => lv_has ls 4 [(0, .ref (A 0)), (1, .int q), (2, .int (itI i (bX1_drawnFrom_4 v q) 0)), (3, .int (nI i))]) ((v.1 2).toNatClampNeg) (fun ls hl => lv_sub hl [2, 3, 1, 0] rfl) ?_
  intro i ls hi hl ih
  refine lv_iload_n hx hb dX1_drawnFrom_4 rfl (lv_at hl 3 rfl) ?_
  refine lv_aload_n hx hb dX1_drawnFrom_5 rfl (lv_at hl 0 rfl) ?_
  refine tr_get (ci := 1) (C := RX1) (T := TX1) (N := 6) hx hb hts hiX1 hown hK hL.c0 rfl 2 (by decide) f28 (v := .ref (A 3)) rfl dX1_drawnFrom_6 ?_
  refine tr_get (ci := 0) (C := RX0) (T := TX0) (N := 9) hx hb hts hiX0 hown hK hL.c3 rfl 0 (by decide) f80 (v := .int (v.1 2)) rfl dX1_drawnFrom_9 ?_
  refine lv_icmp_ge (tgt := 42) hx hb dX1_drawnFrom_12 (by decide) (fun c_12 => ?_) (fun c_12 => ?_)
  · have hN : i = (v.1 2).toNatClampNeg := tr_over rfl hi c_12
    subst hN
    refine lv_iload_n hx hb dX1_drawnFrom_42 rfl (lv_at hl 2 rfl) ?_
    exact W.iret hx hb hr (tr_endi (by rw [fX1_drawnFrom])) (fun _ h => by cases h) dX1_drawnFrom_43
  · have hlt : i < (v.1 2).toNatClampNeg := tr_on rfl hi c_12
    refine lv_iload_n hx hb dX1_drawnFrom_15 rfl (lv_at hl 2 rfl) ?_
    refine lv_aload_n hx hb dX1_drawnFrom_16 rfl (lv_at hl 0 rfl) ?_
    refine lv_iload_n hx hb dX1_drawnFrom_17 rfl (lv_at hl 3 rfl) ?_
    refine tr_ri (va_runV (As := [.int (nI i)]) (rest := [.int (itI i (bX1_drawnFrom_4 v q) 0)]) ⟨hx, hb, hml, hown, hts⟩ (c_X1_sectionAhead l D cI A hA v (nI i)) (cwV 1 hts gX1_drawnFrom_X1_sectionAhead rfl rfl rfl (by decide +kernel) ⟨Nat.le_of_ble_eq_true rfl, Nat.le_of_ble_eq_true rfl⟩) (tr_preV hK hL.c0 rfl hL) rfl rfl hl.1 rfl (lv_room (Nat.le_of_ble_eq_true rfl)) dX1_drawnFrom_18 ⟨Nat.zero_le _, Nat.zero_le _⟩) ?_
    refine lv_iload_n hx hb dX1_drawnFrom_21 rfl (lv_at hl 1 rfl) ?_
    refine lv_icmp_ne (tgt := 33) hx hb dX1_drawnFrom_22 (by decide) (fun c_22 => ?_) (fun c_22 => ?_)
    · refine lv_iconst (v := 0) hx hb dX1_drawnFrom_33 (by decide) ?_
      refine lv_iadd hx hb dX1_drawnFrom_34 ?_
      refine lv_istore_n (lv' := [(2, .int ((itI i (bX1_drawnFrom_4 v q) 0) + 0)), (0, .ref (A 0)), (1, .int q), (3, .int (nI i))]) hx hb dX1_drawnFrom_35 rfl hl (by decide) rfl (fun ls hl => ?_)
      refine lv_iinc (v := nI (i + 1)) (lv' := [(3, .int (nI (i + 1))), (2, .int ((itI i (bX1_drawnFrom_4 v q) 0) + 0)), (0, .ref (A 0)), (1, .int q)]) hx hb dX1_drawnFrom_36 hl (k := 3) rfl (tr_inc _) (by decide) rfl (fun ls hl => ?_)
      refine lv_goto (tgt := 4) hx hb dX1_drawnFrom_39 (by decide) ?_
      have e9 : itI (i + 1) (bX1_drawnFrom_4 v q) 0 = (itI i (bX1_drawnFrom_4 v q) 0) + 0 := by rw [itI_s, bX1_drawnFrom_4, if_neg c_22]
      exact ih ls hlt (by rw [e9]; exact lv_sub hl [2, 3, 1, 0] rfl)
    · refine lv_aload_n hx hb dX1_drawnFrom_25 rfl (lv_at hl 0 rfl) ?_
      refine lv_iload_n hx hb dX1_drawnFrom_26 rfl (lv_at hl 3 rfl) ?_
      refine tr_ri (va_runV (As := [.int (nI i)]) (rest := [.int (itI i (bX1_drawnFrom_4 v q) 0)]) ⟨hx, hb, hml, hown, hts⟩ (c_X1_drawOf l D cI A hA v (nI i)) (cwV 1 hts gX1_drawnFrom_X1_drawOf rfl rfl rfl (by decide +kernel) ⟨Nat.le_of_ble_eq_true rfl, Nat.le_of_ble_eq_true rfl⟩) (tr_preV hK hL.c0 rfl hL) rfl rfl hl.1 rfl (lv_room (Nat.le_of_ble_eq_true rfl)) dX1_drawnFrom_27 ⟨Nat.zero_le _, Nat.zero_le _⟩) ?_
      refine lv_goto (tgt := 34) hx hb dX1_drawnFrom_30 (by decide) ?_
      refine lv_iadd hx hb dX1_drawnFrom_34 ?_
      refine lv_istore_n (lv' := [(2, .int ((itI i (bX1_drawnFrom_4 v q) 0) + (fX1_drawOf v (nI i)))), (0, .ref (A 0)), (1, .int q), (3, .int (nI i))]) hx hb dX1_drawnFrom_35 rfl hl (by decide) rfl (fun ls hl => ?_)
      refine lv_iinc (v := nI (i + 1)) (lv' := [(3, .int (nI (i + 1))), (2, .int ((itI i (bX1_drawnFrom_4 v q) 0) + (fX1_drawOf v (nI i)))), (0, .ref (A 0)), (1, .int q)]) hx hb dX1_drawnFrom_36 hl (k := 3) rfl (tr_inc _) (by decide) rfl (fun ls hl => ?_)
      refine lv_goto (tgt := 4) hx hb dX1_drawnFrom_39 (by decide) ?_
      have e9 : itI (i + 1) (bX1_drawnFrom_4 v q) 0 = (itI i (bX1_drawnFrom_4 v q) 0) + (fX1_drawOf v (nI i)) := by rw [itI_s, bX1_drawnFrom_4, if_pos c_22]
      exact ih ls hlt (by rw [e9]; exact lv_sub hl [2, 3, 1, 0] rfl)
def fX1_canGo (v : LV) (cr : Int32) : Int32 :=
  (if (fX1_spanAhead v cr) = (-1) then 0 else (if (lAt v 4 (lAt v 1 (fX1_spanAhead v cr))) ≤ 0 then (if (fX0_pushes v cr) = 0 then (if 2 ≤ (fX0_carsAt v (fX1_poleAhead v cr)) then 0 else 1) else (if ((v.1 3) - (v.1 3) / 2 * 2) = 0 then (if (fX0_carsAt v (fX1_poleAhead v cr)) = 0 then 1 else 0) else 0)) else 0))
set_option maxHeartbeats 4000000 in
set_option maxRecDepth 100000 in
theorem c_X1_canGo (l : Launch) (D : va_G) (cI : ClassId) (A : Nat → Nat) (hA : LInj A) (v : LV) (cr : Int32)  : Met l yX1_canGo wsX1_canGo ({ frames := 2, cells := 0, slots := 0, locals := 44 }) (tr_Pc D cI [.ref (A 0), .int cr] (LNE D cI A v)) (vp_Si (fun r => r = fX1_canGo v cr)) 0 0 (fun _ => False) := by
  refine Met.ofW (cc := cX1_canGo) (maxL := 4) (ret := (some .boolean)) (by decide) rfl ?_
  intro p e s m args below meth c s₁ B hml hv
  obtain ⟨rfl, hL, hK⟩ := hv
  have hx := B.exec
  have hb := B.bytes
  have hr := B.returns
  have hts := atoms_spec (ws := wsX1_canGo) B.pre
  have hown : s.vm.findClass RX1 = some m.cls := findClass_of_methodNamed B.named
  have hlocks := B.notSynchronized
  have hiX1 : ∀ w ∈ u_ws RX1 TX1 6, w ∈ wsX1_canGo := by decide +kernel
  have hiX4 : ∀ w ∈ u_ws RX4 TX4 9, w ∈ wsX1_canGo := by decide +kernel
  have f12 := hts (.fieldLink RX1 12 "TramRibbon$Line" "wire" "LTramRibbon$Wire;") (by decide +kernel)
  have f128 := hts (.fieldLink RX1 128 "TramRibbon$Wire" "dead" "LTramRibbon$Row;") (by decide +kernel)
  have f131 := hts (.fieldLink RX1 131 "TramRibbon$Wire" "sectionAt" "LTramRibbon$Row;") (by decide +kernel)
  have f28 := hts (.fieldLink RX1 28 "TramRibbon$Line" "fleet" "LTramRibbon$Fleet;") (by decide +kernel)
  have f49 := hts (.fieldLink RX1 49 "TramRibbon$Line" "tick" "I") (by decide +kernel)
  have hl := lv_entry ([.ref (A 0), .int cr]) (n := 4) (Nat.le_of_ble_eq_true rfl)
  rw [lg_entry_eq]
  generalize (lg_sl ([.ref (A 0), .int cr]) ++ List.replicate (4 - (lg_sl ([.ref (A 0), .int cr])).length) Slot.unset).toArray = ls at hl ⊢
  replace hl : lv_has ls 4 [(0, .ref (A 0)), (1, .int cr)] := hl
  refine lv_aload_n hx hb dX1_canGo_0 rfl (lv_at hl 0 rfl) ?_
  refine lv_iload_n hx hb dX1_canGo_1 rfl (lv_at hl 1 rfl) ?_
  refine tr_ri (va_runV (As := [.int cr]) (rest := []) ⟨hx, hb, hml, hown, hts⟩ (c_X1_spanAhead l D cI A hA v cr) (cwV 1 hts gX1_canGo_X1_spanAhead rfl rfl rfl (by decide +kernel) ⟨Nat.le_of_ble_eq_true rfl, Nat.le_of_ble_eq_true rfl⟩) (tr_preV hK hL.c0 rfl hL) rfl rfl hl.1 rfl (lv_room (Nat.le_of_ble_eq_true rfl)) dX1_canGo_2 ⟨Nat.zero_le _, Nat.zero_le _⟩) ?_
  refine lv_istore_n (lv' := [(2, .int (fX1_spanAhead v cr)), (0, .ref (A 0)), (1, .int cr)]) hx hb dX1_canGo_5 rfl hl (by decide) rfl (fun ls hl => ?_)
  refine lv_iload_n hx hb dX1_canGo_6 rfl (lv_at hl 0 rfl) ?_
  refine lv_iconst (v := -1) hx hb dX1_canGo_7 (by decide) ?_
  refine lv_icmp_eq (tgt := 35) hx hb dX1_canGo_8 (by decide) (fun c_8 => ?_) (fun c_8 => ?_)
  · refine lv_iconst (v := 0) hx hb dX1_canGo_35 (by decide) ?_
    exact W.zret (ty := .boolean) hx hb hr rfl (tr_endi (by rw [fX1_canGo, if_pos c_8])) (fun _ h => by cases h) dX1_canGo_36
  · refine lv_aload_n hx hb dX1_canGo_11 rfl (lv_at hl 1 rfl) ?_
    refine tr_get (ci := 1) (C := RX1) (T := TX1) (N := 6) hx hb hts hiX1 hown hK hL.c0 rfl 0 (by decide) f12 (v := .ref (A 1)) rfl dX1_canGo_12 ?_
    refine tr_get (ci := 4) (C := RX4) (T := TX4) (N := 9) hx hb hts hiX4 hown hK hL.c1 rfl 6 (by decide) f128 (v := .ref (A 12)) rfl dX1_canGo_15 ?_
    refine lv_aload_n hx hb dX1_canGo_18 rfl (lv_at hl 1 rfl) ?_
    refine tr_get (ci := 1) (C := RX1) (T := TX1) (N := 6) hx hb hts hiX1 hown hK hL.c0 rfl 0 (by decide) f12 (v := .ref (A 1)) rfl dX1_canGo_19 ?_
    refine tr_get (ci := 4) (C := RX4) (T := TX4) (N := 9) hx hb hts hiX4 hown hK hL.c1 rfl 3 (by decide) f131 (v := .ref (A 6)) rfl dX1_canGo_22 ?_
    refine lv_iload_n hx hb dX1_canGo_25 rfl (lv_at hl 0 rfl) ?_
    refine tr_ri (va_runV (As := [.int (fX1_spanAhead v cr)]) (rest := [.ref (A 12)]) ⟨hx, hb, hml, hown, hts⟩ (c_lat l D cI A hA v 1 (by decide) (fX1_spanAhead v cr)) (cwV 1 hts gX1_canGo_X2_at rfl rfl rfl (by decide +kernel) ⟨Nat.le_of_ble_eq_true rfl, Nat.le_of_ble_eq_true rfl⟩) (tr_preV hK (hL.robj 1 (by decide)) rfl (hL.row 1 (by decide))) rfl rfl hl.1 rfl (lv_room (Nat.le_of_ble_eq_true rfl)) dX1_canGo_26 ⟨Nat.zero_le _, Nat.zero_le _⟩) ?_
    refine tr_ri (va_runV (As := [.int (lAt v 1 (fX1_spanAhead v cr))]) (rest := []) ⟨hx, hb, hml, hown, hts⟩ (c_lat l D cI A hA v 4 (by decide) (lAt v 1 (fX1_spanAhead v cr))) (cwV 1 hts gX1_canGo_X2_at rfl rfl rfl (by decide +kernel) ⟨Nat.le_of_ble_eq_true rfl, Nat.le_of_ble_eq_true rfl⟩) (tr_preV hK (hL.robj 4 (by decide)) rfl (hL.row 4 (by decide))) rfl rfl hl.1 rfl (lv_room (Nat.le_of_ble_eq_true rfl)) dX1_canGo_29 ⟨Nat.zero_le _, Nat.zero_le _⟩) ?_
    refine lv_if_le (tgt := 37) hx hb dX1_canGo_32 (by decide) (fun c_32 => ?_) (fun c_32 => ?_)
    · refine lv_aload_n hx hb dX1_canGo_37 rfl (lv_at hl 1 rfl) ?_
      refine tr_get (ci := 1) (C := RX1) (T := TX1) (N := 6) hx hb hts hiX1 hown hK hL.c0 rfl 2 (by decide) f28 (v := .ref (A 3)) rfl dX1_canGo_38 ?_
      refine lv_aload_n hx hb dX1_canGo_41 rfl (lv_at hl 1 rfl) ?_
      refine lv_iload_n hx hb dX1_canGo_42 rfl (lv_at hl 2 rfl) ?_
      refine tr_ri (va_runV (As := [.int cr]) (rest := [.ref (A 3)]) ⟨hx, hb, hml, hown, hts⟩ (c_X1_poleAhead l D cI A hA v cr) (cwV 1 hts gX1_canGo_X1_poleAhead rfl rfl rfl (by decide +kernel) ⟨Nat.le_of_ble_eq_true rfl, Nat.le_of_ble_eq_true rfl⟩) (tr_preV hK hL.c0 rfl hL) rfl rfl hl.1 rfl (lv_room (Nat.le_of_ble_eq_true rfl)) dX1_canGo_43 ⟨Nat.zero_le _, Nat.zero_le _⟩) ?_
      refine tr_ri (va_runV (As := [.int (fX1_poleAhead v cr)]) (rest := []) ⟨hx, hb, hml, hown, hts⟩ (c_X0_carsAt l D cI A hA v (fX1_poleAhead v cr)) (cwV 1 hts gX1_canGo_X0_carsAt rfl rfl rfl (by decide +kernel) ⟨Nat.le_of_ble_eq_true rfl, Nat.le_of_ble_eq_true rfl⟩) (tr_preV hK hL.c3 rfl hL) rfl rfl hl.1 rfl (lv_room (Nat.le_of_ble_eq_true rfl)) dX1_canGo_46 ⟨Nat.zero_le _, Nat.zero_le _⟩) ?_
      refine lv_istore_n (lv' := [(3, .int (fX0_carsAt v (fX1_poleAhead v cr))), (2, .int (fX1_spanAhead v cr)), (0, .ref (A 0)), (1, .int cr)]) hx hb dX1_canGo_49 rfl hl (by decide) rfl (fun ls hl => ?_)
      refine lv_aload_n hx hb dX1_canGo_50 rfl (lv_at hl 2 rfl) ?_
      refine tr_get (ci := 1) (C := RX1) (T := TX1) (N := 6) hx hb hts hiX1 hown hK hL.c0 rfl 2 (by decide) f28 (v := .ref (A 3)) rfl dX1_canGo_51 ?_
      refine lv_iload_n hx hb dX1_canGo_54 rfl (lv_at hl 3 rfl) ?_
      refine tr_ri (va_runV (As := [.int cr]) (rest := []) ⟨hx, hb, hml, hown, hts⟩ (c_X0_pushes l D cI A hA v cr) (cwV 1 hts gX1_canGo_X0_pushes rfl rfl rfl (by decide +kernel) ⟨Nat.le_of_ble_eq_true rfl, Nat.le_of_ble_eq_true rfl⟩) (tr_preV hK hL.c3 rfl hL) rfl rfl hl.1 rfl (lv_room (Nat.le_of_ble_eq_true rfl)) dX1_canGo_55 ⟨Nat.zero_le _, Nat.zero_le _⟩) ?_
      refine lv_if_eq (tgt := 80) hx hb dX1_canGo_58 (by decide) (fun c_58 => ?_) (fun c_58 => ?_)
      · refine lv_iload_n hx hb dX1_canGo_80 rfl (lv_at hl 0 rfl) ?_
        refine lv_iconst (v := 2) hx hb dX1_canGo_81 (by decide) ?_
        refine lv_icmp_ge (tgt := 89) hx hb dX1_canGo_82 (by decide) (fun c_82 => ?_) (fun c_82 => ?_)
        · refine lv_iconst (v := 0) hx hb dX1_canGo_89 (by decide) ?_
          exact W.zret (ty := .boolean) hx hb hr rfl (tr_endi (by rw [fX1_canGo, if_neg c_8, if_pos c_32, if_pos c_58, if_pos c_82])) (fun _ h => by cases h) dX1_canGo_90
        · refine lv_iconst (v := 1) hx hb dX1_canGo_85 (by decide) ?_
          refine lv_goto (tgt := 90) hx hb dX1_canGo_86 (by decide) ?_
          exact W.zret (ty := .boolean) hx hb hr rfl (tr_endi (by rw [fX1_canGo, if_neg c_8, if_pos c_32, if_pos c_58, if_neg c_82])) (fun _ h => by cases h) dX1_canGo_90
      · refine lv_aload_n hx hb dX1_canGo_61 rfl (lv_at hl 2 rfl) ?_
        refine tr_get (ci := 1) (C := RX1) (T := TX1) (N := 6) hx hb hts hiX1 hown hK hL.c0 rfl 3 (by decide) f49 (v := .int (v.1 3)) rfl dX1_canGo_62 ?_
        refine lv_iconst (v := 2) hx hb dX1_canGo_65 (by decide) ?_
        refine lv_irem hx hb dX1_canGo_66 (by decide) ?_
        refine lv_if_ne (tgt := 78) hx hb dX1_canGo_67 (by decide) (fun c_67 => ?_) (fun c_67 => ?_)
        · refine lv_iconst (v := 0) hx hb dX1_canGo_78 (by decide) ?_
          exact W.zret (ty := .boolean) hx hb hr rfl (tr_endi (by rw [fX1_canGo, if_neg c_8, if_pos c_32, if_neg c_58, if_neg c_67])) (fun _ h => by cases h) dX1_canGo_79
        · refine lv_iload_n hx hb dX1_canGo_70 rfl (lv_at hl 0 rfl) ?_
          refine lv_if_ne (tgt := 78) hx hb dX1_canGo_71 (by decide) (fun c_71 => ?_) (fun c_71 => ?_)
          · refine lv_iconst (v := 0) hx hb dX1_canGo_78 (by decide) ?_
            exact W.zret (ty := .boolean) hx hb hr rfl (tr_endi (by rw [fX1_canGo, if_neg c_8, if_pos c_32, if_neg c_58, if_pos c_67, if_neg c_71])) (fun _ h => by cases h) dX1_canGo_79
          · refine lv_iconst (v := 1) hx hb dX1_canGo_74 (by decide) ?_
            refine lv_goto (tgt := 79) hx hb dX1_canGo_75 (by decide) ?_
            exact W.zret (ty := .boolean) hx hb hr rfl (tr_endi (by rw [fX1_canGo, if_neg c_8, if_pos c_32, if_neg c_58, if_pos c_67, if_pos c_71])) (fun _ h => by cases h) dX1_canGo_79
    · refine lv_iconst (v := 0) hx hb dX1_canGo_35 (by decide) ?_
      exact W.zret (ty := .boolean) hx hb hr rfl (tr_endi (by rw [fX1_canGo, if_neg c_8, if_neg c_32])) (fun _ h => by cases h) dX1_canGo_36
def fX1_poleFact (v : LV) (po : Int32) (wh : Int32) : Int32 :=
  (if wh = 0 then lAt v 7 po else (if wh = 1 then fX0_carsAt v po else (if wh = 2 then lAt v 2 po else lAt v 8 po)))
set_option maxHeartbeats 4000000 in
set_option maxRecDepth 100000 in
theorem c_X1_poleFact (l : Launch) (D : va_G) (cI : ClassId) (A : Nat → Nat) (hA : LInj A) (v : LV) (po : Int32) (wh : Int32)  : Met l yX1_poleFact wsX1_poleFact ({ frames := 2, cells := 0, slots := 0, locals := 44 }) (tr_Pc D cI [.ref (A 0), .int po, .int wh] (LNE D cI A v)) (vp_Si (fun r => r = fX1_poleFact v po wh)) 0 0 (fun _ => False) := by
  refine Met.ofW (cc := cX1_poleFact) (maxL := 3) (ret := (some .int)) (by decide) rfl ?_
  intro p e s m args below meth c s₁ B hml hv
  obtain ⟨rfl, hL, hK⟩ := hv
  have hx := B.exec
  have hb := B.bytes
  have hr := B.returns
  have hts := atoms_spec (ws := wsX1_poleFact) B.pre
  have hown : s.vm.findClass RX1 = some m.cls := findClass_of_methodNamed B.named
  have hlocks := B.notSynchronized
  have hiX1 : ∀ w ∈ u_ws RX1 TX1 6, w ∈ wsX1_poleFact := by decide +kernel
  have hiX3 : ∀ w ∈ u_ws RX3 TX3 2, w ∈ wsX1_poleFact := by decide +kernel
  have hiX4 : ∀ w ∈ u_ws RX4 TX4 9, w ∈ wsX1_poleFact := by decide +kernel
  have f12 := hts (.fieldLink RX1 12 "TramRibbon$Line" "wire" "LTramRibbon$Wire;") (by decide +kernel)
  have f155 := hts (.fieldLink RX1 155 "TramRibbon$Stops" "waiting" "LTramRibbon$Row;") (by decide +kernel)
  have f179 := hts (.fieldLink RX1 179 "TramRibbon$Stops" "spares" "LTramRibbon$Row;") (by decide +kernel)
  have f21 := hts (.fieldLink RX1 21 "TramRibbon$Line" "stops" "LTramRibbon$Stops;") (by decide +kernel)
  have f214 := hts (.fieldLink RX1 214 "TramRibbon$Wire" "insulator" "LTramRibbon$Row;") (by decide +kernel)
  have f28 := hts (.fieldLink RX1 28 "TramRibbon$Line" "fleet" "LTramRibbon$Fleet;") (by decide +kernel)
  have hl := lv_entry ([.ref (A 0), .int po, .int wh]) (n := 3) (Nat.le_of_ble_eq_true rfl)
  rw [lg_entry_eq]
  generalize (lg_sl ([.ref (A 0), .int po, .int wh]) ++ List.replicate (3 - (lg_sl ([.ref (A 0), .int po, .int wh])).length) Slot.unset).toArray = ls at hl ⊢
  replace hl : lv_has ls 3 [(0, .ref (A 0)), (1, .int po), (2, .int wh)] := hl
  refine lv_iload_n hx hb dX1_poleFact_0 rfl (lv_at hl 2 rfl) ?_
  by_cases s_1_0 : wh = 0
  · refine lv_tableIn (tgt := 28) hx hb dX1_poleFact_1 (by rw [s_1_0]; decide) (by rw [s_1_0]; decide) (by rw [s_1_0]; rfl) (by decide) ?_
    refine lv_aload_n hx hb dX1_poleFact_28 rfl (lv_at hl 0 rfl) ?_
    refine tr_get (ci := 1) (C := RX1) (T := TX1) (N := 6) hx hb hts hiX1 hown hK hL.c0 rfl 1 (by decide) f21 (v := .ref (A 2)) rfl dX1_poleFact_29 ?_
    refine tr_get (ci := 3) (C := RX3) (T := TX3) (N := 2) hx hb hts hiX3 hown hK hL.c2 rfl 0 (by decide) f155 (v := .ref (A 18)) rfl dX1_poleFact_32 ?_
    refine lv_iload_n hx hb dX1_poleFact_35 rfl (lv_at hl 1 rfl) ?_
    refine tr_ri (va_runV (As := [.int po]) (rest := []) ⟨hx, hb, hml, hown, hts⟩ (c_lat l D cI A hA v 7 (by decide) po) (cwV 1 hts gX1_poleFact_X2_at rfl rfl rfl (by decide +kernel) ⟨Nat.le_of_ble_eq_true rfl, Nat.le_of_ble_eq_true rfl⟩) (tr_preV hK (hL.robj 7 (by decide)) rfl (hL.row 7 (by decide))) rfl rfl hl.1 rfl (lv_room (Nat.le_of_ble_eq_true rfl)) dX1_poleFact_36 ⟨Nat.zero_le _, Nat.zero_le _⟩) ?_
    exact W.iret hx hb hr (tr_endi (by rw [fX1_poleFact, if_pos s_1_0])) (fun _ h => by cases h) dX1_poleFact_39
  by_cases s_1_1 : wh = 1
  · refine lv_tableIn (tgt := 40) hx hb dX1_poleFact_1 (by rw [s_1_1]; decide) (by rw [s_1_1]; decide) (by rw [s_1_1]; rfl) (by decide) ?_
    refine lv_aload_n hx hb dX1_poleFact_40 rfl (lv_at hl 0 rfl) ?_
    refine tr_get (ci := 1) (C := RX1) (T := TX1) (N := 6) hx hb hts hiX1 hown hK hL.c0 rfl 2 (by decide) f28 (v := .ref (A 3)) rfl dX1_poleFact_41 ?_
    refine lv_iload_n hx hb dX1_poleFact_44 rfl (lv_at hl 1 rfl) ?_
    refine tr_ri (va_runV (As := [.int po]) (rest := []) ⟨hx, hb, hml, hown, hts⟩ (c_X0_carsAt l D cI A hA v po) (cwV 1 hts gX1_poleFact_X0_carsAt rfl rfl rfl (by decide +kernel) ⟨Nat.le_of_ble_eq_true rfl, Nat.le_of_ble_eq_true rfl⟩) (tr_preV hK hL.c3 rfl hL) rfl rfl hl.1 rfl (lv_room (Nat.le_of_ble_eq_true rfl)) dX1_poleFact_45 ⟨Nat.zero_le _, Nat.zero_le _⟩) ?_
    exact W.iret hx hb hr (tr_endi (by rw [fX1_poleFact, if_neg s_1_0, if_pos s_1_1])) (fun _ h => by cases h) dX1_poleFact_48
  by_cases s_1_2 : wh = 2
  · refine lv_tableIn (tgt := 49) hx hb dX1_poleFact_1 (by rw [s_1_2]; decide) (by rw [s_1_2]; decide) (by rw [s_1_2]; rfl) (by decide) ?_
    refine lv_aload_n hx hb dX1_poleFact_49 rfl (lv_at hl 0 rfl) ?_
    refine tr_get (ci := 1) (C := RX1) (T := TX1) (N := 6) hx hb hts hiX1 hown hK hL.c0 rfl 0 (by decide) f12 (v := .ref (A 1)) rfl dX1_poleFact_50 ?_
    refine tr_get (ci := 4) (C := RX4) (T := TX4) (N := 9) hx hb hts hiX4 hown hK hL.c1 rfl 4 (by decide) f214 (v := .ref (A 8)) rfl dX1_poleFact_53 ?_
    refine lv_iload_n hx hb dX1_poleFact_56 rfl (lv_at hl 1 rfl) ?_
    refine tr_ri (va_runV (As := [.int po]) (rest := []) ⟨hx, hb, hml, hown, hts⟩ (c_lat l D cI A hA v 2 (by decide) po) (cwV 1 hts gX1_poleFact_X2_at rfl rfl rfl (by decide +kernel) ⟨Nat.le_of_ble_eq_true rfl, Nat.le_of_ble_eq_true rfl⟩) (tr_preV hK (hL.robj 2 (by decide)) rfl (hL.row 2 (by decide))) rfl rfl hl.1 rfl (lv_room (Nat.le_of_ble_eq_true rfl)) dX1_poleFact_57 ⟨Nat.zero_le _, Nat.zero_le _⟩) ?_
    exact W.iret hx hb hr (tr_endi (by rw [fX1_poleFact, if_neg s_1_0, if_neg s_1_1, if_pos s_1_2])) (fun _ h => by cases h) dX1_poleFact_60
  have n_0 : wh.toInt ≠ 0 := fun e => s_1_0 (Int32.toInt_inj.mp (e.trans (rfl : (0 : Int) = (0 : Int32).toInt)))
  have n_1 : wh.toInt ≠ 1 := fun e => s_1_1 (Int32.toInt_inj.mp (e.trans (rfl : (1 : Int) = (1 : Int32).toInt)))
  have n_2 : wh.toInt ≠ 2 := fun e => s_1_2 (Int32.toInt_inj.mp (e.trans (rfl : (2 : Int) = (2 : Int32).toInt)))
  refine lv_tableOut (tgt := 61) hx hb dX1_poleFact_1 (by omega) (by decide) ?_
  refine lv_aload_n hx hb dX1_poleFact_61 rfl (lv_at hl 0 rfl) ?_
  refine tr_get (ci := 1) (C := RX1) (T := TX1) (N := 6) hx hb hts hiX1 hown hK hL.c0 rfl 1 (by decide) f21 (v := .ref (A 2)) rfl dX1_poleFact_62 ?_
  refine tr_get (ci := 3) (C := RX3) (T := TX3) (N := 2) hx hb hts hiX3 hown hK hL.c2 rfl 1 (by decide) f179 (v := .ref (A 20)) rfl dX1_poleFact_65 ?_
  refine lv_iload_n hx hb dX1_poleFact_68 rfl (lv_at hl 1 rfl) ?_
  refine tr_ri (va_runV (As := [.int po]) (rest := []) ⟨hx, hb, hml, hown, hts⟩ (c_lat l D cI A hA v 8 (by decide) po) (cwV 1 hts gX1_poleFact_X2_at rfl rfl rfl (by decide +kernel) ⟨Nat.le_of_ble_eq_true rfl, Nat.le_of_ble_eq_true rfl⟩) (tr_preV hK (hL.robj 8 (by decide)) rfl (hL.row 8 (by decide))) rfl rfl hl.1 rfl (lv_room (Nat.le_of_ble_eq_true rfl)) dX1_poleFact_69 ⟨Nat.zero_le _, Nat.zero_le _⟩) ?_
  exact W.iret hx hb hr (tr_endi (by rw [fX1_poleFact, if_neg s_1_0, if_neg s_1_1, if_neg s_1_2])) (fun _ h => by cases h) dX1_poleFact_72
def fX1_sectionFact (v : LV) (q : Int32) (wh : Int32) : Int32 :=
  (if wh = 0 then fX4_firstSpanOf v q else (if wh = 1 then (fX4_firstSpanOf v (q + 1)) - (fX4_firstSpanOf v q) else (if wh = 2 then lAt v 3 q else (if wh = 3 then lAt v 4 q else (if wh = 4 then fX1_drawnFrom v q else lAt v 5 q)))))
set_option maxHeartbeats 4000000 in
set_option maxRecDepth 100000 in
theorem c_X1_sectionFact (l : Launch) (D : va_G) (cI : ClassId) (A : Nat → Nat) (hA : LInj A) (v : LV) (q : Int32) (wh : Int32)  : Met l yX1_sectionFact wsX1_sectionFact ({ frames := 4, cells := 0, slots := 0, locals := 91 }) (tr_Pc D cI [.ref (A 0), .int q, .int wh] (LNE D cI A v)) (vp_Si (fun r => r = fX1_sectionFact v q wh)) 0 0 (fun _ => False) := by
  refine Met.ofW (cc := cX1_sectionFact) (maxL := 3) (ret := (some .int)) (by decide) rfl ?_
  intro p e s m args below meth c s₁ B hml hv
  obtain ⟨rfl, hL, hK⟩ := hv
  have hx := B.exec
  have hb := B.bytes
  have hr := B.returns
  have hts := atoms_spec (ws := wsX1_sectionFact) B.pre
  have hown : s.vm.findClass RX1 = some m.cls := findClass_of_methodNamed B.named
  have hlocks := B.notSynchronized
  have hiX1 : ∀ w ∈ u_ws RX1 TX1 6, w ∈ wsX1_sectionFact := by decide +kernel
  have hiX4 : ∀ w ∈ u_ws RX4 TX4 9, w ∈ wsX1_sectionFact := by decide +kernel
  have f12 := hts (.fieldLink RX1 12 "TramRibbon$Line" "wire" "LTramRibbon$Wire;") (by decide +kernel)
  have f128 := hts (.fieldLink RX1 128 "TramRibbon$Wire" "dead" "LTramRibbon$Row;") (by decide +kernel)
  have f220 := hts (.fieldLink RX1 220 "TramRibbon$Wire" "bound" "LTramRibbon$Row;") (by decide +kernel)
  have f226 := hts (.fieldLink RX1 226 "TramRibbon$Wire" "deaths" "LTramRibbon$Row;") (by decide +kernel)
  have hl := lv_entry ([.ref (A 0), .int q, .int wh]) (n := 3) (Nat.le_of_ble_eq_true rfl)
  rw [lg_entry_eq]
  generalize (lg_sl ([.ref (A 0), .int q, .int wh]) ++ List.replicate (3 - (lg_sl ([.ref (A 0), .int q, .int wh])).length) Slot.unset).toArray = ls at hl ⊢
  replace hl : lv_has ls 3 [(0, .ref (A 0)), (1, .int q), (2, .int wh)] := hl
  refine lv_iload_n hx hb dX1_sectionFact_0 rfl (lv_at hl 2 rfl) ?_
  by_cases s_1_0 : wh = 0
  · refine lv_tableIn (tgt := 36) hx hb dX1_sectionFact_1 (by rw [s_1_0]; decide) (by rw [s_1_0]; decide) (by rw [s_1_0]; rfl) (by decide) ?_
    refine lv_aload_n hx hb dX1_sectionFact_36 rfl (lv_at hl 0 rfl) ?_
    refine tr_get (ci := 1) (C := RX1) (T := TX1) (N := 6) hx hb hts hiX1 hown hK hL.c0 rfl 0 (by decide) f12 (v := .ref (A 1)) rfl dX1_sectionFact_37 ?_
    refine lv_iload_n hx hb dX1_sectionFact_40 rfl (lv_at hl 1 rfl) ?_
    refine tr_ri (va_runV (As := [.int q]) (rest := []) ⟨hx, hb, hml, hown, hts⟩ (c_X4_firstSpanOf l D cI A hA v q) (cwV 1 hts gX1_sectionFact_X4_firstSpanOf rfl rfl rfl (by decide +kernel) ⟨Nat.le_of_ble_eq_true rfl, Nat.le_of_ble_eq_true rfl⟩) (tr_preV hK hL.c1 rfl hL) rfl rfl hl.1 rfl (lv_room (Nat.le_of_ble_eq_true rfl)) dX1_sectionFact_41 ⟨Nat.zero_le _, Nat.zero_le _⟩) ?_
    exact W.iret hx hb hr (tr_endi (by rw [fX1_sectionFact, if_pos s_1_0])) (fun _ h => by cases h) dX1_sectionFact_44
  by_cases s_1_1 : wh = 1
  · refine lv_tableIn (tgt := 45) hx hb dX1_sectionFact_1 (by rw [s_1_1]; decide) (by rw [s_1_1]; decide) (by rw [s_1_1]; rfl) (by decide) ?_
    refine lv_aload_n hx hb dX1_sectionFact_45 rfl (lv_at hl 0 rfl) ?_
    refine tr_get (ci := 1) (C := RX1) (T := TX1) (N := 6) hx hb hts hiX1 hown hK hL.c0 rfl 0 (by decide) f12 (v := .ref (A 1)) rfl dX1_sectionFact_46 ?_
    refine lv_iload_n hx hb dX1_sectionFact_49 rfl (lv_at hl 1 rfl) ?_
    refine lv_iconst (v := 1) hx hb dX1_sectionFact_50 (by decide) ?_
    refine lv_iadd hx hb dX1_sectionFact_51 ?_
    refine tr_ri (va_runV (As := [.int (q + 1)]) (rest := []) ⟨hx, hb, hml, hown, hts⟩ (c_X4_firstSpanOf l D cI A hA v (q + 1)) (cwV 1 hts gX1_sectionFact_X4_firstSpanOf rfl rfl rfl (by decide +kernel) ⟨Nat.le_of_ble_eq_true rfl, Nat.le_of_ble_eq_true rfl⟩) (tr_preV hK hL.c1 rfl hL) rfl rfl hl.1 rfl (lv_room (Nat.le_of_ble_eq_true rfl)) dX1_sectionFact_52 ⟨Nat.zero_le _, Nat.zero_le _⟩) ?_
    refine lv_aload_n hx hb dX1_sectionFact_55 rfl (lv_at hl 0 rfl) ?_
    refine tr_get (ci := 1) (C := RX1) (T := TX1) (N := 6) hx hb hts hiX1 hown hK hL.c0 rfl 0 (by decide) f12 (v := .ref (A 1)) rfl dX1_sectionFact_56 ?_
    refine lv_iload_n hx hb dX1_sectionFact_59 rfl (lv_at hl 1 rfl) ?_
    refine tr_ri (va_runV (As := [.int q]) (rest := [.int (fX4_firstSpanOf v (q + 1))]) ⟨hx, hb, hml, hown, hts⟩ (c_X4_firstSpanOf l D cI A hA v q) (cwV 1 hts gX1_sectionFact_X4_firstSpanOf rfl rfl rfl (by decide +kernel) ⟨Nat.le_of_ble_eq_true rfl, Nat.le_of_ble_eq_true rfl⟩) (tr_preV hK hL.c1 rfl hL) rfl rfl hl.1 rfl (lv_room (Nat.le_of_ble_eq_true rfl)) dX1_sectionFact_60 ⟨Nat.zero_le _, Nat.zero_le _⟩) ?_
    refine lv_isub hx hb dX1_sectionFact_63 ?_
    exact W.iret hx hb hr (tr_endi (by rw [fX1_sectionFact, if_neg s_1_0, if_pos s_1_1])) (fun _ h => by cases h) dX1_sectionFact_64
  by_cases s_1_2 : wh = 2
  · refine lv_tableIn (tgt := 65) hx hb dX1_sectionFact_1 (by rw [s_1_2]; decide) (by rw [s_1_2]; decide) (by rw [s_1_2]; rfl) (by decide) ?_
    refine lv_aload_n hx hb dX1_sectionFact_65 rfl (lv_at hl 0 rfl) ?_
    refine tr_get (ci := 1) (C := RX1) (T := TX1) (N := 6) hx hb hts hiX1 hown hK hL.c0 rfl 0 (by decide) f12 (v := .ref (A 1)) rfl dX1_sectionFact_66 ?_
    refine tr_get (ci := 4) (C := RX4) (T := TX4) (N := 9) hx hb hts hiX4 hown hK hL.c1 rfl 5 (by decide) f220 (v := .ref (A 10)) rfl dX1_sectionFact_69 ?_
    refine lv_iload_n hx hb dX1_sectionFact_72 rfl (lv_at hl 1 rfl) ?_
    refine tr_ri (va_runV (As := [.int q]) (rest := []) ⟨hx, hb, hml, hown, hts⟩ (c_lat l D cI A hA v 3 (by decide) q) (cwV 1 hts gX1_sectionFact_X2_at rfl rfl rfl (by decide +kernel) ⟨Nat.le_of_ble_eq_true rfl, Nat.le_of_ble_eq_true rfl⟩) (tr_preV hK (hL.robj 3 (by decide)) rfl (hL.row 3 (by decide))) rfl rfl hl.1 rfl (lv_room (Nat.le_of_ble_eq_true rfl)) dX1_sectionFact_73 ⟨Nat.zero_le _, Nat.zero_le _⟩) ?_
    exact W.iret hx hb hr (tr_endi (by rw [fX1_sectionFact, if_neg s_1_0, if_neg s_1_1, if_pos s_1_2])) (fun _ h => by cases h) dX1_sectionFact_76
  by_cases s_1_3 : wh = 3
  · refine lv_tableIn (tgt := 77) hx hb dX1_sectionFact_1 (by rw [s_1_3]; decide) (by rw [s_1_3]; decide) (by rw [s_1_3]; rfl) (by decide) ?_
    refine lv_aload_n hx hb dX1_sectionFact_77 rfl (lv_at hl 0 rfl) ?_
    refine tr_get (ci := 1) (C := RX1) (T := TX1) (N := 6) hx hb hts hiX1 hown hK hL.c0 rfl 0 (by decide) f12 (v := .ref (A 1)) rfl dX1_sectionFact_78 ?_
    refine tr_get (ci := 4) (C := RX4) (T := TX4) (N := 9) hx hb hts hiX4 hown hK hL.c1 rfl 6 (by decide) f128 (v := .ref (A 12)) rfl dX1_sectionFact_81 ?_
    refine lv_iload_n hx hb dX1_sectionFact_84 rfl (lv_at hl 1 rfl) ?_
    refine tr_ri (va_runV (As := [.int q]) (rest := []) ⟨hx, hb, hml, hown, hts⟩ (c_lat l D cI A hA v 4 (by decide) q) (cwV 1 hts gX1_sectionFact_X2_at rfl rfl rfl (by decide +kernel) ⟨Nat.le_of_ble_eq_true rfl, Nat.le_of_ble_eq_true rfl⟩) (tr_preV hK (hL.robj 4 (by decide)) rfl (hL.row 4 (by decide))) rfl rfl hl.1 rfl (lv_room (Nat.le_of_ble_eq_true rfl)) dX1_sectionFact_85 ⟨Nat.zero_le _, Nat.zero_le _⟩) ?_
    exact W.iret hx hb hr (tr_endi (by rw [fX1_sectionFact, if_neg s_1_0, if_neg s_1_1, if_neg s_1_2, if_pos s_1_3])) (fun _ h => by cases h) dX1_sectionFact_88
  by_cases s_1_4 : wh = 4
  · refine lv_tableIn (tgt := 89) hx hb dX1_sectionFact_1 (by rw [s_1_4]; decide) (by rw [s_1_4]; decide) (by rw [s_1_4]; rfl) (by decide) ?_
    refine lv_aload_n hx hb dX1_sectionFact_89 rfl (lv_at hl 0 rfl) ?_
    refine lv_iload_n hx hb dX1_sectionFact_90 rfl (lv_at hl 1 rfl) ?_
    refine tr_ri (va_runV (As := [.int q]) (rest := []) ⟨hx, hb, hml, hown, hts⟩ (c_X1_drawnFrom l D cI A hA v q) (cwV 1 hts gX1_sectionFact_X1_drawnFrom rfl rfl rfl (by decide +kernel) ⟨Nat.le_of_ble_eq_true rfl, Nat.le_of_ble_eq_true rfl⟩) (tr_preV hK hL.c0 rfl hL) rfl rfl hl.1 rfl (lv_room (Nat.le_of_ble_eq_true rfl)) dX1_sectionFact_91 ⟨Nat.zero_le _, Nat.zero_le _⟩) ?_
    exact W.iret hx hb hr (tr_endi (by rw [fX1_sectionFact, if_neg s_1_0, if_neg s_1_1, if_neg s_1_2, if_neg s_1_3, if_pos s_1_4])) (fun _ h => by cases h) dX1_sectionFact_94
  have n_0 : wh.toInt ≠ 0 := fun e => s_1_0 (Int32.toInt_inj.mp (e.trans (rfl : (0 : Int) = (0 : Int32).toInt)))
  have n_1 : wh.toInt ≠ 1 := fun e => s_1_1 (Int32.toInt_inj.mp (e.trans (rfl : (1 : Int) = (1 : Int32).toInt)))
  have n_2 : wh.toInt ≠ 2 := fun e => s_1_2 (Int32.toInt_inj.mp (e.trans (rfl : (2 : Int) = (2 : Int32).toInt)))
  have n_3 : wh.toInt ≠ 3 := fun e => s_1_3 (Int32.toInt_inj.mp (e.trans (rfl : (3 : Int) = (3 : Int32).toInt)))
  have n_4 : wh.toInt ≠ 4 := fun e => s_1_4 (Int32.toInt_inj.mp (e.trans (rfl : (4 : Int) = (4 : Int32).toInt)))
  refine lv_tableOut (tgt := 95) hx hb dX1_sectionFact_1 (by omega) (by decide) ?_
  refine lv_aload_n hx hb dX1_sectionFact_95 rfl (lv_at hl 0 rfl) ?_
  refine tr_get (ci := 1) (C := RX1) (T := TX1) (N := 6) hx hb hts hiX1 hown hK hL.c0 rfl 0 (by decide) f12 (v := .ref (A 1)) rfl dX1_sectionFact_96 ?_
  refine tr_get (ci := 4) (C := RX4) (T := TX4) (N := 9) hx hb hts hiX4 hown hK hL.c1 rfl 7 (by decide) f226 (v := .ref (A 14)) rfl dX1_sectionFact_99 ?_
  refine lv_iload_n hx hb dX1_sectionFact_102 rfl (lv_at hl 1 rfl) ?_
  refine tr_ri (va_runV (As := [.int q]) (rest := []) ⟨hx, hb, hml, hown, hts⟩ (c_lat l D cI A hA v 5 (by decide) q) (cwV 1 hts gX1_sectionFact_X2_at rfl rfl rfl (by decide +kernel) ⟨Nat.le_of_ble_eq_true rfl, Nat.le_of_ble_eq_true rfl⟩) (tr_preV hK (hL.robj 5 (by decide)) rfl (hL.row 5 (by decide))) rfl rfl hl.1 rfl (lv_room (Nat.le_of_ble_eq_true rfl)) dX1_sectionFact_103 ⟨Nat.zero_le _, Nat.zero_le _⟩) ?_
  exact W.iret hx hb hr (tr_endi (by rw [fX1_sectionFact, if_neg s_1_0, if_neg s_1_1, if_neg s_1_2, if_neg s_1_3, if_neg s_1_4])) (fun _ h => by cases h) dX1_sectionFact_106
def fX1_carFact (v : LV) (cr : Int32) (wh : Int32) : Int32 :=
  (if wh = 0 then lAt v 9 cr else (if wh = 1 then lAt v 10 cr else (if wh = 2 then lAt v 11 cr else (if wh = 3 then lAt v 12 cr else (if wh = 4 then lAt v 13 cr else (if wh = 5 then lAt v 14 cr else (if wh = 6 then fX1_drawOf v cr else lAt v 15 cr)))))))
set_option maxHeartbeats 4000000 in
set_option maxRecDepth 100000 in
theorem c_X1_carFact (l : Launch) (D : va_G) (cI : ClassId) (A : Nat → Nat) (hA : LInj A) (v : LV) (cr : Int32) (wh : Int32)  : Met l yX1_carFact wsX1_carFact ({ frames := 3, cells := 0, slots := 0, locals := 68 }) (tr_Pc D cI [.ref (A 0), .int cr, .int wh] (LNE D cI A v)) (vp_Si (fun r => r = fX1_carFact v cr wh)) 0 0 (fun _ => False) := by
  refine Met.ofW (cc := cX1_carFact) (maxL := 3) (ret := (some .int)) (by decide) rfl ?_
  intro p e s m args below meth c s₁ B hml hv
  obtain ⟨rfl, hL, hK⟩ := hv
  have hx := B.exec
  have hb := B.bytes
  have hr := B.returns
  have hts := atoms_spec (ws := wsX1_carFact) B.pre
  have hown : s.vm.findClass RX1 = some m.cls := findClass_of_methodNamed B.named
  have hlocks := B.notSynchronized
  have hiX0 : ∀ w ∈ u_ws RX0 TX0 9, w ∈ wsX1_carFact := by decide +kernel
  have hiX1 : ∀ w ∈ u_ws RX1 TX1 6, w ∈ wsX1_carFact := by decide +kernel
  have f149 := hts (.fieldLink RX1 149 "TramRibbon$Fleet" "place" "LTramRibbon$Row;") (by decide +kernel)
  have f152 := hts (.fieldLink RX1 152 "TramRibbon$Fleet" "riders" "LTramRibbon$Row;") (by decide +kernel)
  have f167 := hts (.fieldLink RX1 167 "TramRibbon$Fleet" "wear" "LTramRibbon$Row;") (by decide +kernel)
  have f197 := hts (.fieldLink RX1 197 "TramRibbon$Fleet" "up" "LTramRibbon$Row;") (by decide +kernel)
  have f229 := hts (.fieldLink RX1 229 "TramRibbon$Fleet" "broken" "LTramRibbon$Row;") (by decide +kernel)
  have f232 := hts (.fieldLink RX1 232 "TramRibbon$Fleet" "pushed" "LTramRibbon$Row;") (by decide +kernel)
  have f235 := hts (.fieldLink RX1 235 "TramRibbon$Fleet" "arrivals" "LTramRibbon$Row;") (by decide +kernel)
  have f28 := hts (.fieldLink RX1 28 "TramRibbon$Line" "fleet" "LTramRibbon$Fleet;") (by decide +kernel)
  have hl := lv_entry ([.ref (A 0), .int cr, .int wh]) (n := 3) (Nat.le_of_ble_eq_true rfl)
  rw [lg_entry_eq]
  generalize (lg_sl ([.ref (A 0), .int cr, .int wh]) ++ List.replicate (3 - (lg_sl ([.ref (A 0), .int cr, .int wh])).length) Slot.unset).toArray = ls at hl ⊢
  replace hl : lv_has ls 3 [(0, .ref (A 0)), (1, .int cr), (2, .int wh)] := hl
  refine lv_iload_n hx hb dX1_carFact_0 rfl (lv_at hl 2 rfl) ?_
  by_cases s_1_0 : wh = 0
  · refine lv_tableIn (tgt := 44) hx hb dX1_carFact_1 (by rw [s_1_0]; decide) (by rw [s_1_0]; decide) (by rw [s_1_0]; rfl) (by decide) ?_
    refine lv_aload_n hx hb dX1_carFact_44 rfl (lv_at hl 0 rfl) ?_
    refine tr_get (ci := 1) (C := RX1) (T := TX1) (N := 6) hx hb hts hiX1 hown hK hL.c0 rfl 2 (by decide) f28 (v := .ref (A 3)) rfl dX1_carFact_45 ?_
    refine tr_get (ci := 0) (C := RX0) (T := TX0) (N := 9) hx hb hts hiX0 hown hK hL.c3 rfl 1 (by decide) f149 (v := .ref (A 22)) rfl dX1_carFact_48 ?_
    refine lv_iload_n hx hb dX1_carFact_51 rfl (lv_at hl 1 rfl) ?_
    refine tr_ri (va_runV (As := [.int cr]) (rest := []) ⟨hx, hb, hml, hown, hts⟩ (c_lat l D cI A hA v 9 (by decide) cr) (cwV 1 hts gX1_carFact_X2_at rfl rfl rfl (by decide +kernel) ⟨Nat.le_of_ble_eq_true rfl, Nat.le_of_ble_eq_true rfl⟩) (tr_preV hK (hL.robj 9 (by decide)) rfl (hL.row 9 (by decide))) rfl rfl hl.1 rfl (lv_room (Nat.le_of_ble_eq_true rfl)) dX1_carFact_52 ⟨Nat.zero_le _, Nat.zero_le _⟩) ?_
    exact W.iret hx hb hr (tr_endi (by rw [fX1_carFact, if_pos s_1_0])) (fun _ h => by cases h) dX1_carFact_55
  by_cases s_1_1 : wh = 1
  · refine lv_tableIn (tgt := 56) hx hb dX1_carFact_1 (by rw [s_1_1]; decide) (by rw [s_1_1]; decide) (by rw [s_1_1]; rfl) (by decide) ?_
    refine lv_aload_n hx hb dX1_carFact_56 rfl (lv_at hl 0 rfl) ?_
    refine tr_get (ci := 1) (C := RX1) (T := TX1) (N := 6) hx hb hts hiX1 hown hK hL.c0 rfl 2 (by decide) f28 (v := .ref (A 3)) rfl dX1_carFact_57 ?_
    refine tr_get (ci := 0) (C := RX0) (T := TX0) (N := 9) hx hb hts hiX0 hown hK hL.c3 rfl 2 (by decide) f197 (v := .ref (A 24)) rfl dX1_carFact_60 ?_
    refine lv_iload_n hx hb dX1_carFact_63 rfl (lv_at hl 1 rfl) ?_
    refine tr_ri (va_runV (As := [.int cr]) (rest := []) ⟨hx, hb, hml, hown, hts⟩ (c_lat l D cI A hA v 10 (by decide) cr) (cwV 1 hts gX1_carFact_X2_at rfl rfl rfl (by decide +kernel) ⟨Nat.le_of_ble_eq_true rfl, Nat.le_of_ble_eq_true rfl⟩) (tr_preV hK (hL.robj 10 (by decide)) rfl (hL.row 10 (by decide))) rfl rfl hl.1 rfl (lv_room (Nat.le_of_ble_eq_true rfl)) dX1_carFact_64 ⟨Nat.zero_le _, Nat.zero_le _⟩) ?_
    exact W.iret hx hb hr (tr_endi (by rw [fX1_carFact, if_neg s_1_0, if_pos s_1_1])) (fun _ h => by cases h) dX1_carFact_67
  by_cases s_1_2 : wh = 2
  · refine lv_tableIn (tgt := 68) hx hb dX1_carFact_1 (by rw [s_1_2]; decide) (by rw [s_1_2]; decide) (by rw [s_1_2]; rfl) (by decide) ?_
    refine lv_aload_n hx hb dX1_carFact_68 rfl (lv_at hl 0 rfl) ?_
    refine tr_get (ci := 1) (C := RX1) (T := TX1) (N := 6) hx hb hts hiX1 hown hK hL.c0 rfl 2 (by decide) f28 (v := .ref (A 3)) rfl dX1_carFact_69 ?_
    refine tr_get (ci := 0) (C := RX0) (T := TX0) (N := 9) hx hb hts hiX0 hown hK hL.c3 rfl 3 (by decide) f152 (v := .ref (A 26)) rfl dX1_carFact_72 ?_
    refine lv_iload_n hx hb dX1_carFact_75 rfl (lv_at hl 1 rfl) ?_
    refine tr_ri (va_runV (As := [.int cr]) (rest := []) ⟨hx, hb, hml, hown, hts⟩ (c_lat l D cI A hA v 11 (by decide) cr) (cwV 1 hts gX1_carFact_X2_at rfl rfl rfl (by decide +kernel) ⟨Nat.le_of_ble_eq_true rfl, Nat.le_of_ble_eq_true rfl⟩) (tr_preV hK (hL.robj 11 (by decide)) rfl (hL.row 11 (by decide))) rfl rfl hl.1 rfl (lv_room (Nat.le_of_ble_eq_true rfl)) dX1_carFact_76 ⟨Nat.zero_le _, Nat.zero_le _⟩) ?_
    exact W.iret hx hb hr (tr_endi (by rw [fX1_carFact, if_neg s_1_0, if_neg s_1_1, if_pos s_1_2])) (fun _ h => by cases h) dX1_carFact_79
  by_cases s_1_3 : wh = 3
  · refine lv_tableIn (tgt := 80) hx hb dX1_carFact_1 (by rw [s_1_3]; decide) (by rw [s_1_3]; decide) (by rw [s_1_3]; rfl) (by decide) ?_
    refine lv_aload_n hx hb dX1_carFact_80 rfl (lv_at hl 0 rfl) ?_
    refine tr_get (ci := 1) (C := RX1) (T := TX1) (N := 6) hx hb hts hiX1 hown hK hL.c0 rfl 2 (by decide) f28 (v := .ref (A 3)) rfl dX1_carFact_81 ?_
    refine tr_get (ci := 0) (C := RX0) (T := TX0) (N := 9) hx hb hts hiX0 hown hK hL.c3 rfl 4 (by decide) f167 (v := .ref (A 28)) rfl dX1_carFact_84 ?_
    refine lv_iload_n hx hb dX1_carFact_87 rfl (lv_at hl 1 rfl) ?_
    refine tr_ri (va_runV (As := [.int cr]) (rest := []) ⟨hx, hb, hml, hown, hts⟩ (c_lat l D cI A hA v 12 (by decide) cr) (cwV 1 hts gX1_carFact_X2_at rfl rfl rfl (by decide +kernel) ⟨Nat.le_of_ble_eq_true rfl, Nat.le_of_ble_eq_true rfl⟩) (tr_preV hK (hL.robj 12 (by decide)) rfl (hL.row 12 (by decide))) rfl rfl hl.1 rfl (lv_room (Nat.le_of_ble_eq_true rfl)) dX1_carFact_88 ⟨Nat.zero_le _, Nat.zero_le _⟩) ?_
    exact W.iret hx hb hr (tr_endi (by rw [fX1_carFact, if_neg s_1_0, if_neg s_1_1, if_neg s_1_2, if_pos s_1_3])) (fun _ h => by cases h) dX1_carFact_91
  by_cases s_1_4 : wh = 4
  · refine lv_tableIn (tgt := 92) hx hb dX1_carFact_1 (by rw [s_1_4]; decide) (by rw [s_1_4]; decide) (by rw [s_1_4]; rfl) (by decide) ?_
    refine lv_aload_n hx hb dX1_carFact_92 rfl (lv_at hl 0 rfl) ?_
    refine tr_get (ci := 1) (C := RX1) (T := TX1) (N := 6) hx hb hts hiX1 hown hK hL.c0 rfl 2 (by decide) f28 (v := .ref (A 3)) rfl dX1_carFact_93 ?_
    refine tr_get (ci := 0) (C := RX0) (T := TX0) (N := 9) hx hb hts hiX0 hown hK hL.c3 rfl 5 (by decide) f229 (v := .ref (A 30)) rfl dX1_carFact_96 ?_
    refine lv_iload_n hx hb dX1_carFact_99 rfl (lv_at hl 1 rfl) ?_
    refine tr_ri (va_runV (As := [.int cr]) (rest := []) ⟨hx, hb, hml, hown, hts⟩ (c_lat l D cI A hA v 13 (by decide) cr) (cwV 1 hts gX1_carFact_X2_at rfl rfl rfl (by decide +kernel) ⟨Nat.le_of_ble_eq_true rfl, Nat.le_of_ble_eq_true rfl⟩) (tr_preV hK (hL.robj 13 (by decide)) rfl (hL.row 13 (by decide))) rfl rfl hl.1 rfl (lv_room (Nat.le_of_ble_eq_true rfl)) dX1_carFact_100 ⟨Nat.zero_le _, Nat.zero_le _⟩) ?_
    exact W.iret hx hb hr (tr_endi (by rw [fX1_carFact, if_neg s_1_0, if_neg s_1_1, if_neg s_1_2, if_neg s_1_3, if_pos s_1_4])) (fun _ h => by cases h) dX1_carFact_103
  by_cases s_1_5 : wh = 5
  · refine lv_tableIn (tgt := 104) hx hb dX1_carFact_1 (by rw [s_1_5]; decide) (by rw [s_1_5]; decide) (by rw [s_1_5]; rfl) (by decide) ?_
    refine lv_aload_n hx hb dX1_carFact_104 rfl (lv_at hl 0 rfl) ?_
    refine tr_get (ci := 1) (C := RX1) (T := TX1) (N := 6) hx hb hts hiX1 hown hK hL.c0 rfl 2 (by decide) f28 (v := .ref (A 3)) rfl dX1_carFact_105 ?_
    refine tr_get (ci := 0) (C := RX0) (T := TX0) (N := 9) hx hb hts hiX0 hown hK hL.c3 rfl 6 (by decide) f232 (v := .ref (A 32)) rfl dX1_carFact_108 ?_
    refine lv_iload_n hx hb dX1_carFact_111 rfl (lv_at hl 1 rfl) ?_
    refine tr_ri (va_runV (As := [.int cr]) (rest := []) ⟨hx, hb, hml, hown, hts⟩ (c_lat l D cI A hA v 14 (by decide) cr) (cwV 1 hts gX1_carFact_X2_at rfl rfl rfl (by decide +kernel) ⟨Nat.le_of_ble_eq_true rfl, Nat.le_of_ble_eq_true rfl⟩) (tr_preV hK (hL.robj 14 (by decide)) rfl (hL.row 14 (by decide))) rfl rfl hl.1 rfl (lv_room (Nat.le_of_ble_eq_true rfl)) dX1_carFact_112 ⟨Nat.zero_le _, Nat.zero_le _⟩) ?_
    exact W.iret hx hb hr (tr_endi (by rw [fX1_carFact, if_neg s_1_0, if_neg s_1_1, if_neg s_1_2, if_neg s_1_3, if_neg s_1_4, if_pos s_1_5])) (fun _ h => by cases h) dX1_carFact_115
  by_cases s_1_6 : wh = 6
  · refine lv_tableIn (tgt := 116) hx hb dX1_carFact_1 (by rw [s_1_6]; decide) (by rw [s_1_6]; decide) (by rw [s_1_6]; rfl) (by decide) ?_
    refine lv_aload_n hx hb dX1_carFact_116 rfl (lv_at hl 0 rfl) ?_
    refine lv_iload_n hx hb dX1_carFact_117 rfl (lv_at hl 1 rfl) ?_
    refine tr_ri (va_runV (As := [.int cr]) (rest := []) ⟨hx, hb, hml, hown, hts⟩ (c_X1_drawOf l D cI A hA v cr) (cwV 1 hts gX1_carFact_X1_drawOf rfl rfl rfl (by decide +kernel) ⟨Nat.le_of_ble_eq_true rfl, Nat.le_of_ble_eq_true rfl⟩) (tr_preV hK hL.c0 rfl hL) rfl rfl hl.1 rfl (lv_room (Nat.le_of_ble_eq_true rfl)) dX1_carFact_118 ⟨Nat.zero_le _, Nat.zero_le _⟩) ?_
    exact W.iret hx hb hr (tr_endi (by rw [fX1_carFact, if_neg s_1_0, if_neg s_1_1, if_neg s_1_2, if_neg s_1_3, if_neg s_1_4, if_neg s_1_5, if_pos s_1_6])) (fun _ h => by cases h) dX1_carFact_121
  have n_0 : wh.toInt ≠ 0 := fun e => s_1_0 (Int32.toInt_inj.mp (e.trans (rfl : (0 : Int) = (0 : Int32).toInt)))
  have n_1 : wh.toInt ≠ 1 := fun e => s_1_1 (Int32.toInt_inj.mp (e.trans (rfl : (1 : Int) = (1 : Int32).toInt)))
  have n_2 : wh.toInt ≠ 2 := fun e => s_1_2 (Int32.toInt_inj.mp (e.trans (rfl : (2 : Int) = (2 : Int32).toInt)))
  have n_3 : wh.toInt ≠ 3 := fun e => s_1_3 (Int32.toInt_inj.mp (e.trans (rfl : (3 : Int) = (3 : Int32).toInt)))
  have n_4 : wh.toInt ≠ 4 := fun e => s_1_4 (Int32.toInt_inj.mp (e.trans (rfl : (4 : Int) = (4 : Int32).toInt)))
  have n_5 : wh.toInt ≠ 5 := fun e => s_1_5 (Int32.toInt_inj.mp (e.trans (rfl : (5 : Int) = (5 : Int32).toInt)))
  have n_6 : wh.toInt ≠ 6 := fun e => s_1_6 (Int32.toInt_inj.mp (e.trans (rfl : (6 : Int) = (6 : Int32).toInt)))
  refine lv_tableOut (tgt := 122) hx hb dX1_carFact_1 (by omega) (by decide) ?_
  refine lv_aload_n hx hb dX1_carFact_122 rfl (lv_at hl 0 rfl) ?_
  refine tr_get (ci := 1) (C := RX1) (T := TX1) (N := 6) hx hb hts hiX1 hown hK hL.c0 rfl 2 (by decide) f28 (v := .ref (A 3)) rfl dX1_carFact_123 ?_
  refine tr_get (ci := 0) (C := RX0) (T := TX0) (N := 9) hx hb hts hiX0 hown hK hL.c3 rfl 7 (by decide) f235 (v := .ref (A 34)) rfl dX1_carFact_126 ?_
  refine lv_iload_n hx hb dX1_carFact_129 rfl (lv_at hl 1 rfl) ?_
  refine tr_ri (va_runV (As := [.int cr]) (rest := []) ⟨hx, hb, hml, hown, hts⟩ (c_lat l D cI A hA v 15 (by decide) cr) (cwV 1 hts gX1_carFact_X2_at rfl rfl rfl (by decide +kernel) ⟨Nat.le_of_ble_eq_true rfl, Nat.le_of_ble_eq_true rfl⟩) (tr_preV hK (hL.robj 15 (by decide)) rfl (hL.row 15 (by decide))) rfl rfl hl.1 rfl (lv_room (Nat.le_of_ble_eq_true rfl)) dX1_carFact_130 ⟨Nat.zero_le _, Nat.zero_le _⟩) ?_
  exact W.iret hx hb hr (tr_endi (by rw [fX1_carFact, if_neg s_1_0, if_neg s_1_1, if_neg s_1_2, if_neg s_1_3, if_neg s_1_4, if_neg s_1_5, if_neg s_1_6])) (fun _ h => by cases h) dX1_carFact_133
def fX1_total (v : LV) (wh : Int32) : Int32 :=
  (if wh = 0 then v.1 3 else (if wh = 1 then v.1 0 else (if wh = 2 then v.1 1 else (if wh = 3 then fX4_deadSections v else (if wh = 4 then v.1 2 else (if wh = 5 then lSum v 13 else (if wh = 6 then lSum v 7 else (if wh = 7 then lSum v 11 else (if wh = 8 then v.1 4 else (if wh = 9 then v.1 5 else fX3_allSpares v))))))))))
set_option maxHeartbeats 4000000 in
set_option maxRecDepth 100000 in
theorem c_X1_total (l : Launch) (D : va_G) (cI : ClassId) (A : Nat → Nat) (hA : LInj A) (v : LV) (wh : Int32)  : Met l yX1_total wsX1_total ({ frames := 2, cells := 0, slots := 0, locals := 43 }) (tr_Pc D cI [.ref (A 0), .int wh] (LNE D cI A v)) (vp_Si (fun r => r = fX1_total v wh)) 0 0 (fun _ => False) := by
  refine Met.ofW (cc := cX1_total) (maxL := 2) (ret := (some .int)) (by decide) rfl ?_
  intro p e s m args below meth c s₁ B hml hv
  obtain ⟨rfl, hL, hK⟩ := hv
  have hx := B.exec
  have hb := B.bytes
  have hr := B.returns
  have hts := atoms_spec (ws := wsX1_total) B.pre
  have hown : s.vm.findClass RX1 = some m.cls := findClass_of_methodNamed B.named
  have hlocks := B.notSynchronized
  have hiX0 : ∀ w ∈ u_ws RX0 TX0 9, w ∈ wsX1_total := by decide +kernel
  have hiX1 : ∀ w ∈ u_ws RX1 TX1 6, w ∈ wsX1_total := by decide +kernel
  have hiX3 : ∀ w ∈ u_ws RX3 TX3 2, w ∈ wsX1_total := by decide +kernel
  have hiX4 : ∀ w ∈ u_ws RX4 TX4 9, w ∈ wsX1_total := by decide +kernel
  have f12 := hts (.fieldLink RX1 12 "TramRibbon$Line" "wire" "LTramRibbon$Wire;") (by decide +kernel)
  have f152 := hts (.fieldLink RX1 152 "TramRibbon$Fleet" "riders" "LTramRibbon$Row;") (by decide +kernel)
  have f155 := hts (.fieldLink RX1 155 "TramRibbon$Stops" "waiting" "LTramRibbon$Row;") (by decide +kernel)
  have f191 := hts (.fieldLink RX1 191 "TramRibbon$Wire" "poles" "I") (by decide +kernel)
  have f21 := hts (.fieldLink RX1 21 "TramRibbon$Line" "stops" "LTramRibbon$Stops;") (by decide +kernel)
  have f229 := hts (.fieldLink RX1 229 "TramRibbon$Fleet" "broken" "LTramRibbon$Row;") (by decide +kernel)
  have f238 := hts (.fieldLink RX1 238 "TramRibbon$Wire" "sections" "I") (by decide +kernel)
  have f28 := hts (.fieldLink RX1 28 "TramRibbon$Line" "fleet" "LTramRibbon$Fleet;") (by decide +kernel)
  have f49 := hts (.fieldLink RX1 49 "TramRibbon$Line" "tick" "I") (by decide +kernel)
  have f53 := hts (.fieldLink RX1 53 "TramRibbon$Line" "boarded" "I") (by decide +kernel)
  have f56 := hts (.fieldLink RX1 56 "TramRibbon$Line" "swaps" "I") (by decide +kernel)
  have f80 := hts (.fieldLink RX1 80 "TramRibbon$Fleet" "size" "I") (by decide +kernel)
  have hl := lv_entry ([.ref (A 0), .int wh]) (n := 2) (Nat.le_of_ble_eq_true rfl)
  rw [lg_entry_eq]
  generalize (lg_sl ([.ref (A 0), .int wh]) ++ List.replicate (2 - (lg_sl ([.ref (A 0), .int wh])).length) Slot.unset).toArray = ls at hl ⊢
  replace hl : lv_has ls 2 [(0, .ref (A 0)), (1, .int wh)] := hl
  refine lv_iload_n hx hb dX1_total_0 rfl (lv_at hl 1 rfl) ?_
  by_cases s_1_0 : wh = 0
  · refine lv_tableIn (tgt := 56) hx hb dX1_total_1 (by rw [s_1_0]; decide) (by rw [s_1_0]; decide) (by rw [s_1_0]; rfl) (by decide) ?_
    refine lv_aload_n hx hb dX1_total_56 rfl (lv_at hl 0 rfl) ?_
    refine tr_get (ci := 1) (C := RX1) (T := TX1) (N := 6) hx hb hts hiX1 hown hK hL.c0 rfl 3 (by decide) f49 (v := .int (v.1 3)) rfl dX1_total_57 ?_
    exact W.iret hx hb hr (tr_endi (by rw [fX1_total, if_pos s_1_0])) (fun _ h => by cases h) dX1_total_60
  by_cases s_1_1 : wh = 1
  · refine lv_tableIn (tgt := 61) hx hb dX1_total_1 (by rw [s_1_1]; decide) (by rw [s_1_1]; decide) (by rw [s_1_1]; rfl) (by decide) ?_
    refine lv_aload_n hx hb dX1_total_61 rfl (lv_at hl 0 rfl) ?_
    refine tr_get (ci := 1) (C := RX1) (T := TX1) (N := 6) hx hb hts hiX1 hown hK hL.c0 rfl 0 (by decide) f12 (v := .ref (A 1)) rfl dX1_total_62 ?_
    refine tr_get (ci := 4) (C := RX4) (T := TX4) (N := 9) hx hb hts hiX4 hown hK hL.c1 rfl 0 (by decide) f191 (v := .int (v.1 0)) rfl dX1_total_65 ?_
    exact W.iret hx hb hr (tr_endi (by rw [fX1_total, if_neg s_1_0, if_pos s_1_1])) (fun _ h => by cases h) dX1_total_68
  by_cases s_1_2 : wh = 2
  · refine lv_tableIn (tgt := 69) hx hb dX1_total_1 (by rw [s_1_2]; decide) (by rw [s_1_2]; decide) (by rw [s_1_2]; rfl) (by decide) ?_
    refine lv_aload_n hx hb dX1_total_69 rfl (lv_at hl 0 rfl) ?_
    refine tr_get (ci := 1) (C := RX1) (T := TX1) (N := 6) hx hb hts hiX1 hown hK hL.c0 rfl 0 (by decide) f12 (v := .ref (A 1)) rfl dX1_total_70 ?_
    refine tr_get (ci := 4) (C := RX4) (T := TX4) (N := 9) hx hb hts hiX4 hown hK hL.c1 rfl 1 (by decide) f238 (v := .int (v.1 1)) rfl dX1_total_73 ?_
    exact W.iret hx hb hr (tr_endi (by rw [fX1_total, if_neg s_1_0, if_neg s_1_1, if_pos s_1_2])) (fun _ h => by cases h) dX1_total_76
  by_cases s_1_3 : wh = 3
  · refine lv_tableIn (tgt := 77) hx hb dX1_total_1 (by rw [s_1_3]; decide) (by rw [s_1_3]; decide) (by rw [s_1_3]; rfl) (by decide) ?_
    refine lv_aload_n hx hb dX1_total_77 rfl (lv_at hl 0 rfl) ?_
    refine tr_get (ci := 1) (C := RX1) (T := TX1) (N := 6) hx hb hts hiX1 hown hK hL.c0 rfl 0 (by decide) f12 (v := .ref (A 1)) rfl dX1_total_78 ?_
    refine tr_ri (va_runV (As := []) (rest := []) ⟨hx, hb, hml, hown, hts⟩ (c_X4_deadSections l D cI A hA v ) (cwV 0 hts gX1_total_X4_deadSections rfl rfl rfl (by decide +kernel) ⟨Nat.le_of_ble_eq_true rfl, Nat.le_of_ble_eq_true rfl⟩) (tr_preV hK hL.c1 rfl hL) rfl rfl hl.1 rfl (lv_room (Nat.le_of_ble_eq_true rfl)) dX1_total_81 ⟨Nat.zero_le _, Nat.zero_le _⟩) ?_
    exact W.iret hx hb hr (tr_endi (by rw [fX1_total, if_neg s_1_0, if_neg s_1_1, if_neg s_1_2, if_pos s_1_3])) (fun _ h => by cases h) dX1_total_84
  by_cases s_1_4 : wh = 4
  · refine lv_tableIn (tgt := 85) hx hb dX1_total_1 (by rw [s_1_4]; decide) (by rw [s_1_4]; decide) (by rw [s_1_4]; rfl) (by decide) ?_
    refine lv_aload_n hx hb dX1_total_85 rfl (lv_at hl 0 rfl) ?_
    refine tr_get (ci := 1) (C := RX1) (T := TX1) (N := 6) hx hb hts hiX1 hown hK hL.c0 rfl 2 (by decide) f28 (v := .ref (A 3)) rfl dX1_total_86 ?_
    refine tr_get (ci := 0) (C := RX0) (T := TX0) (N := 9) hx hb hts hiX0 hown hK hL.c3 rfl 0 (by decide) f80 (v := .int (v.1 2)) rfl dX1_total_89 ?_
    exact W.iret hx hb hr (tr_endi (by rw [fX1_total, if_neg s_1_0, if_neg s_1_1, if_neg s_1_2, if_neg s_1_3, if_pos s_1_4])) (fun _ h => by cases h) dX1_total_92
  by_cases s_1_5 : wh = 5
  · refine lv_tableIn (tgt := 93) hx hb dX1_total_1 (by rw [s_1_5]; decide) (by rw [s_1_5]; decide) (by rw [s_1_5]; rfl) (by decide) ?_
    refine lv_aload_n hx hb dX1_total_93 rfl (lv_at hl 0 rfl) ?_
    refine tr_get (ci := 1) (C := RX1) (T := TX1) (N := 6) hx hb hts hiX1 hown hK hL.c0 rfl 2 (by decide) f28 (v := .ref (A 3)) rfl dX1_total_94 ?_
    refine tr_get (ci := 0) (C := RX0) (T := TX0) (N := 9) hx hb hts hiX0 hown hK hL.c3 rfl 5 (by decide) f229 (v := .ref (A 30)) rfl dX1_total_97 ?_
    refine tr_ri (va_runV (As := []) (rest := []) ⟨hx, hb, hml, hown, hts⟩ (c_lsum l D cI A hA v 13 (by decide) ) (cwV 0 hts gX1_total_X2_sum rfl rfl rfl (by decide +kernel) ⟨Nat.le_of_ble_eq_true rfl, Nat.le_of_ble_eq_true rfl⟩) (tr_preV hK (hL.robj 13 (by decide)) rfl (hL.row 13 (by decide))) rfl rfl hl.1 rfl (lv_room (Nat.le_of_ble_eq_true rfl)) dX1_total_100 ⟨Nat.zero_le _, Nat.zero_le _⟩) ?_
    exact W.iret hx hb hr (tr_endi (by rw [fX1_total, if_neg s_1_0, if_neg s_1_1, if_neg s_1_2, if_neg s_1_3, if_neg s_1_4, if_pos s_1_5])) (fun _ h => by cases h) dX1_total_103
  by_cases s_1_6 : wh = 6
  · refine lv_tableIn (tgt := 104) hx hb dX1_total_1 (by rw [s_1_6]; decide) (by rw [s_1_6]; decide) (by rw [s_1_6]; rfl) (by decide) ?_
    refine lv_aload_n hx hb dX1_total_104 rfl (lv_at hl 0 rfl) ?_
    refine tr_get (ci := 1) (C := RX1) (T := TX1) (N := 6) hx hb hts hiX1 hown hK hL.c0 rfl 1 (by decide) f21 (v := .ref (A 2)) rfl dX1_total_105 ?_
    refine tr_get (ci := 3) (C := RX3) (T := TX3) (N := 2) hx hb hts hiX3 hown hK hL.c2 rfl 0 (by decide) f155 (v := .ref (A 18)) rfl dX1_total_108 ?_
    refine tr_ri (va_runV (As := []) (rest := []) ⟨hx, hb, hml, hown, hts⟩ (c_lsum l D cI A hA v 7 (by decide) ) (cwV 0 hts gX1_total_X2_sum rfl rfl rfl (by decide +kernel) ⟨Nat.le_of_ble_eq_true rfl, Nat.le_of_ble_eq_true rfl⟩) (tr_preV hK (hL.robj 7 (by decide)) rfl (hL.row 7 (by decide))) rfl rfl hl.1 rfl (lv_room (Nat.le_of_ble_eq_true rfl)) dX1_total_111 ⟨Nat.zero_le _, Nat.zero_le _⟩) ?_
    exact W.iret hx hb hr (tr_endi (by rw [fX1_total, if_neg s_1_0, if_neg s_1_1, if_neg s_1_2, if_neg s_1_3, if_neg s_1_4, if_neg s_1_5, if_pos s_1_6])) (fun _ h => by cases h) dX1_total_114
  by_cases s_1_7 : wh = 7
  · refine lv_tableIn (tgt := 115) hx hb dX1_total_1 (by rw [s_1_7]; decide) (by rw [s_1_7]; decide) (by rw [s_1_7]; rfl) (by decide) ?_
    refine lv_aload_n hx hb dX1_total_115 rfl (lv_at hl 0 rfl) ?_
    refine tr_get (ci := 1) (C := RX1) (T := TX1) (N := 6) hx hb hts hiX1 hown hK hL.c0 rfl 2 (by decide) f28 (v := .ref (A 3)) rfl dX1_total_116 ?_
    refine tr_get (ci := 0) (C := RX0) (T := TX0) (N := 9) hx hb hts hiX0 hown hK hL.c3 rfl 3 (by decide) f152 (v := .ref (A 26)) rfl dX1_total_119 ?_
    refine tr_ri (va_runV (As := []) (rest := []) ⟨hx, hb, hml, hown, hts⟩ (c_lsum l D cI A hA v 11 (by decide) ) (cwV 0 hts gX1_total_X2_sum rfl rfl rfl (by decide +kernel) ⟨Nat.le_of_ble_eq_true rfl, Nat.le_of_ble_eq_true rfl⟩) (tr_preV hK (hL.robj 11 (by decide)) rfl (hL.row 11 (by decide))) rfl rfl hl.1 rfl (lv_room (Nat.le_of_ble_eq_true rfl)) dX1_total_122 ⟨Nat.zero_le _, Nat.zero_le _⟩) ?_
    exact W.iret hx hb hr (tr_endi (by rw [fX1_total, if_neg s_1_0, if_neg s_1_1, if_neg s_1_2, if_neg s_1_3, if_neg s_1_4, if_neg s_1_5, if_neg s_1_6, if_pos s_1_7])) (fun _ h => by cases h) dX1_total_125
  by_cases s_1_8 : wh = 8
  · refine lv_tableIn (tgt := 126) hx hb dX1_total_1 (by rw [s_1_8]; decide) (by rw [s_1_8]; decide) (by rw [s_1_8]; rfl) (by decide) ?_
    refine lv_aload_n hx hb dX1_total_126 rfl (lv_at hl 0 rfl) ?_
    refine tr_get (ci := 1) (C := RX1) (T := TX1) (N := 6) hx hb hts hiX1 hown hK hL.c0 rfl 4 (by decide) f53 (v := .int (v.1 4)) rfl dX1_total_127 ?_
    exact W.iret hx hb hr (tr_endi (by rw [fX1_total, if_neg s_1_0, if_neg s_1_1, if_neg s_1_2, if_neg s_1_3, if_neg s_1_4, if_neg s_1_5, if_neg s_1_6, if_neg s_1_7, if_pos s_1_8])) (fun _ h => by cases h) dX1_total_130
  by_cases s_1_9 : wh = 9
  · refine lv_tableIn (tgt := 131) hx hb dX1_total_1 (by rw [s_1_9]; decide) (by rw [s_1_9]; decide) (by rw [s_1_9]; rfl) (by decide) ?_
    refine lv_aload_n hx hb dX1_total_131 rfl (lv_at hl 0 rfl) ?_
    refine tr_get (ci := 1) (C := RX1) (T := TX1) (N := 6) hx hb hts hiX1 hown hK hL.c0 rfl 5 (by decide) f56 (v := .int (v.1 5)) rfl dX1_total_132 ?_
    exact W.iret hx hb hr (tr_endi (by rw [fX1_total, if_neg s_1_0, if_neg s_1_1, if_neg s_1_2, if_neg s_1_3, if_neg s_1_4, if_neg s_1_5, if_neg s_1_6, if_neg s_1_7, if_neg s_1_8, if_pos s_1_9])) (fun _ h => by cases h) dX1_total_135
  have n_0 : wh.toInt ≠ 0 := fun e => s_1_0 (Int32.toInt_inj.mp (e.trans (rfl : (0 : Int) = (0 : Int32).toInt)))
  have n_1 : wh.toInt ≠ 1 := fun e => s_1_1 (Int32.toInt_inj.mp (e.trans (rfl : (1 : Int) = (1 : Int32).toInt)))
  have n_2 : wh.toInt ≠ 2 := fun e => s_1_2 (Int32.toInt_inj.mp (e.trans (rfl : (2 : Int) = (2 : Int32).toInt)))
  have n_3 : wh.toInt ≠ 3 := fun e => s_1_3 (Int32.toInt_inj.mp (e.trans (rfl : (3 : Int) = (3 : Int32).toInt)))
  have n_4 : wh.toInt ≠ 4 := fun e => s_1_4 (Int32.toInt_inj.mp (e.trans (rfl : (4 : Int) = (4 : Int32).toInt)))
  have n_5 : wh.toInt ≠ 5 := fun e => s_1_5 (Int32.toInt_inj.mp (e.trans (rfl : (5 : Int) = (5 : Int32).toInt)))
  have n_6 : wh.toInt ≠ 6 := fun e => s_1_6 (Int32.toInt_inj.mp (e.trans (rfl : (6 : Int) = (6 : Int32).toInt)))
  have n_7 : wh.toInt ≠ 7 := fun e => s_1_7 (Int32.toInt_inj.mp (e.trans (rfl : (7 : Int) = (7 : Int32).toInt)))
  have n_8 : wh.toInt ≠ 8 := fun e => s_1_8 (Int32.toInt_inj.mp (e.trans (rfl : (8 : Int) = (8 : Int32).toInt)))
  have n_9 : wh.toInt ≠ 9 := fun e => s_1_9 (Int32.toInt_inj.mp (e.trans (rfl : (9 : Int) = (9 : Int32).toInt)))
  refine lv_tableOut (tgt := 136) hx hb dX1_total_1 (by omega) (by decide) ?_
  refine lv_aload_n hx hb dX1_total_136 rfl (lv_at hl 0 rfl) ?_
  refine tr_get (ci := 1) (C := RX1) (T := TX1) (N := 6) hx hb hts hiX1 hown hK hL.c0 rfl 1 (by decide) f21 (v := .ref (A 2)) rfl dX1_total_137 ?_
  refine tr_ri (va_runV (As := []) (rest := []) ⟨hx, hb, hml, hown, hts⟩ (c_X3_allSpares l D cI A hA v ) (cwV 0 hts gX1_total_X3_allSpares rfl rfl rfl (by decide +kernel) ⟨Nat.le_of_ble_eq_true rfl, Nat.le_of_ble_eq_true rfl⟩) (tr_preV hK hL.c2 rfl hL) rfl rfl hl.1 rfl (lv_room (Nat.le_of_ble_eq_true rfl)) dX1_total_140 ⟨Nat.zero_le _, Nat.zero_le _⟩) ?_
  exact W.iret hx hb hr (tr_endi (by rw [fX1_total, if_neg s_1_0, if_neg s_1_1, if_neg s_1_2, if_neg s_1_3, if_neg s_1_4, if_neg s_1_5, if_neg s_1_6, if_neg s_1_7, if_neg s_1_8, if_neg s_1_9])) (fun _ h => by cases h) dX1_total_143
