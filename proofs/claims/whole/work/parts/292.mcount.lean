/-! The Model: section, car, count -/
theorem isIn_vp {x hi : Int32} {n : Nat} (h : ¬ fX7_isIn x 0 hi = 0) (hn : hi.toInt < n) : vp_in x n := by
  have h1 := isIn_in h
  rw [show (0 : Int32).toInt = 0 from rfl] at h1
  exact tr_vi h1.1 (by omega)
theorem isCar_in {mv : LV} {k : Int32} (hm : mOK mv) (h : ¬ fX7_isIn k 0 ((mv.1 2) - 1) = 0) : vp_in k 6 := by
  have e : ((mv.1 2) - 1).toInt = (mv.1 2).toInt - 1 := by
    rw [Int32.toInt_sub, show (1 : Int32).toInt = 1 from rfl]
    have := hm.2
    exact Int.bmod_eq_of_le (by omega) (by omega)
  have := hm.2
  exact isIn_vp h (by rw [e]; omega)
def fX7_section (mv : LV) (sv : LV) (nv : LV) (q : Int32) (wh : Int32) : LV × LV × LV :=
  (if (fX7_isSection (lSc mv 0 0) sv nv q) = 0 then (lSc (lSc mv 0 0) 0 1, sv, nv) else (if (fX7_isIn wh 0 5) = 0 then (lSc (lSc mv 0 0) 0 1, sv, nv) else (lSc mv 0 0, sv, nv)))
def rX7_section (mv : LV) (sv : LV) (nv : LV) (q : Int32) (wh : Int32) : Int32 :=
  (if (fX7_isSection (lSc mv 0 0) sv nv q) = 0 then 0 else (if (fX7_isIn wh 0 5) = 0 then 0 else rX7_sectionTold (lSc mv 0 0) sv nv q wh))
set_option maxHeartbeats 4000000 in
set_option maxRecDepth 100000 in
theorem c_X7_section (l : Launch) (D : va_G) (cI : ClassId) (M : Nat → Nat) (hMi : MInj M) (mv sv nv : LV) (sz : Nat) (q : Int32) (wh : Int32) (hm : mOK mv) (hn : nOK sv) : Met l yX7_section wsX7_section ({ frames := 4, cells := 1, slots := 6, locals := 92 }) (tr_Pc D cI [.ref ((mA M) 0), .int q, .int wh] (fun H => sz ≤ H.size ∧ MPT D cI M (mv, sv, nv) H)) (tr_Q (some (.int (rX7_section mv sv nv q wh))) (MPT D cI M (fX7_section mv sv nv q wh)) (nOwn M sz)) 1 6 (nOwn M sz) := by
  refine Met.ofW (cc := cX7_section) (maxL := 3) (ret := (some .int)) (by decide) rfl ?_
  intro p e s m args below meth c s₁ B hml hv
  obtain ⟨rfl, ⟨hZ0, hM, hN⟩, hK⟩ := hv
  have hx := B.exec
  have hb := B.bytes
  have hr := B.returns
  have hts := atoms_spec (ws := wsX7_section) B.pre
  have hown : s.vm.findClass RX7 = some m.cls := findClass_of_methodNamed B.named
  have hlocks := B.notSynchronized
  have hd := mn_dis hMi
  have hds := nm_dis hMi
  replace hM : STA D cI (mA M) mv sv s.heap := hM
  replace hN : STA D cI (nA M) mv nv s.heap := hN
  have hiX7 : ∀ w ∈ u_ws RX7 TX7 6, w ∈ wsX7_section := by decide +kernel
  have f32 := hts (.fieldLink RX7 32 "TramRibbonModel" "thrown" "I") (by decide +kernel)
  have hl := lv_entry ([.ref ((mA M) 0), .int q, .int wh]) (n := 3) (Nat.le_of_ble_eq_true rfl)
  rw [lg_entry_eq]
  generalize (lg_sl ([.ref ((mA M) 0), .int q, .int wh]) ++ List.replicate (3 - (lg_sl ([.ref ((mA M) 0), .int q, .int wh])).length) Slot.unset).toArray = ls at hl ⊢
  replace hl : lv_has ls 3 [(0, .ref ((mA M) 0)), (1, .int q), (2, .int wh)] := hl
  have hS : tr_S (nOwn M sz) s.heap s.heap [] := tr_S.rf
  generalize h1 : s.heap = H, h2 : ([] : List Loc) = locs
  replace hS : tr_S (nOwn M sz) s.heap H locs := by rw [← h1, ← h2]; exact hS
  rw [h1] at hM hN
  clear h1 h2
  refine lv_aload_n hx hb dX7_section_0 rfl (lv_at hl 0 rfl) ?_
  refine lv_iconst (v := 0) hx hb dX7_section_1 (by decide) ?_
  refine tr_put (ci := 7) (C := RX7) (T := TX7) (N := 6) (ty := .int) (v := .int 0) hx hb hts hiX7 tyX7 tyX7_ok nmX7 hown hK hS (Or.inl (mOwn_k (k := 0) (by decide))) hM.c0 rfl 0 (by decide) f32 rfl (by decide +kernel) rfl rfl (Nat.le_of_ble_eq_true rfl) dX7_section_2 (fun H locs hat hz hk hS => ?_)
  have hM : STA D cI (mA M) (lSc mv 0 0) sv H := hM.setM hd.1 0 hat rfl rfl hk
  have hN : STA D cI (nA M) (lSc mv 0 0) nv H := hN.setM hd.2.1 0 hat rfl rfl hk
  clear hat hz hk
  refine lv_aload_n hx hb dX7_section_5 rfl (lv_at hl 0 rfl) ?_
  refine lv_iload_n hx hb dX7_section_6 rfl (lv_at hl 1 rfl) ?_
  refine tr_ri (va_runV (As := [.int q]) (rest := []) ⟨hx, hb, hml, hown, hts⟩ (c_X7_isSection l D cI M hMi (lSc mv 0 0) sv nv q ) (cwV 1 hts gX7_section_X7_isSection rfl rfl rfl (by decide +kernel) ⟨Nat.le_of_ble_eq_true rfl, Nat.le_of_ble_eq_true rfl⟩) (tr_preV hK hM.c0 rfl ⟨hM, hN⟩) rfl rfl hl.1 rfl (lv_room (Nat.le_of_ble_eq_true rfl)) dX7_section_7 ⟨show 0 + 0 ≤ 1 by omega, show 0 + 0 ≤ 6 by omega⟩) ?_
  refine lv_if_eq (tgt := 31) hx hb dX7_section_10 (by decide) (fun c_10 => ?_) (fun c_10 => ?_)
  · refine lv_aload_n hx hb dX7_section_31 rfl (lv_at hl 0 rfl) ?_
    refine lv_iconst (v := 1) hx hb dX7_section_32 (by decide) ?_
    refine tr_ci (va_runV (As := [.int 1]) (rest := []) ⟨hx, hb, hml, hown, hts⟩ (c_X7_no l D cI M hMi (lSc mv 0 0) sv nv 1 ) (cwV 1 hts gX7_section_X7_no rfl rfl rfl (by decide +kernel) ⟨Nat.le_of_ble_eq_true rfl, Nat.le_of_ble_eq_true rfl⟩) (tr_preV hK hM.c0 rfl ⟨hM, hN⟩) rfl rfl hl.1 rfl (lv_room (Nat.le_of_ble_eq_true rfl)) dX7_section_33 ⟨show 0 + 0 ≤ 1 by omega, show 0 + 0 ≤ 6 by omega⟩) hS (fun _ h => Or.inl h) (fun H locs h9 hS => ?_)
    have hM : STA D cI (mA M) (lSc (lSc mv 0 0) 0 1) sv H := h9.1
    have hN : STA D cI (nA M) (lSc (lSc mv 0 0) 0 1) nv H := h9.2
    clear h9
    refine W.widen (k := 1) (n := 6) (by omega) (by omega) ?_
    exact W.iret hx hb hr (hS.endr (by rw [rX7_section, if_pos c_10]) (by rw [fX7_section, if_pos c_10]; exact ⟨hM, hN⟩)) hS.2.2 dX7_section_36
  · refine lv_iload_n hx hb dX7_section_13 rfl (lv_at hl 2 rfl) ?_
    refine lv_iconst (v := 0) hx hb dX7_section_14 (by decide) ?_
    refine lv_iconst (v := 5) hx hb dX7_section_15 (by decide) ?_
    refine tr_ri (va_runS (As := [.int wh, .int 0, .int 5]) (rest := []) ⟨hx, hb, hml, hown, hts⟩ (c_X7_isIn l D cI wh 0 5) (va_cwS 3 hts gX7_section_X7_isIn rfl rfl rfl (by decide +kernel) ⟨Nat.le_of_ble_eq_true rfl, Nat.le_of_ble_eq_true rfl⟩) (tr_preS hK trivial) rfl rfl hl.1 rfl (lv_room (Nat.le_of_ble_eq_true rfl)) dX7_section_16 ⟨show 0 + 0 ≤ 1 by omega, show 0 + 0 ≤ 6 by omega⟩) ?_
    refine lv_if_eq (tgt := 31) hx hb dX7_section_19 (by decide) (fun c_19 => ?_) (fun c_19 => ?_)
    · refine lv_aload_n hx hb dX7_section_31 rfl (lv_at hl 0 rfl) ?_
      refine lv_iconst (v := 1) hx hb dX7_section_32 (by decide) ?_
      refine tr_ci (va_runV (As := [.int 1]) (rest := []) ⟨hx, hb, hml, hown, hts⟩ (c_X7_no l D cI M hMi (lSc mv 0 0) sv nv 1 ) (cwV 1 hts gX7_section_X7_no rfl rfl rfl (by decide +kernel) ⟨Nat.le_of_ble_eq_true rfl, Nat.le_of_ble_eq_true rfl⟩) (tr_preV hK hM.c0 rfl ⟨hM, hN⟩) rfl rfl hl.1 rfl (lv_room (Nat.le_of_ble_eq_true rfl)) dX7_section_33 ⟨show 0 + 0 ≤ 1 by omega, show 0 + 0 ≤ 6 by omega⟩) hS (fun _ h => Or.inl h) (fun H locs h9 hS => ?_)
      have hM : STA D cI (mA M) (lSc (lSc mv 0 0) 0 1) sv H := h9.1
      have hN : STA D cI (nA M) (lSc (lSc mv 0 0) 0 1) nv H := h9.2
      clear h9
      refine W.widen (k := 1) (n := 6) (by omega) (by omega) ?_
      exact W.iret hx hb hr (hS.endr (by rw [rX7_section, if_neg c_10, if_pos c_19]) (by rw [fX7_section, if_neg c_10, if_pos c_19]; exact ⟨hM, hN⟩)) hS.2.2 dX7_section_36
    · refine lv_aload_n hx hb dX7_section_22 rfl (lv_at hl 0 rfl) ?_
      refine lv_iload_n hx hb dX7_section_23 rfl (lv_at hl 1 rfl) ?_
      refine lv_iload_n hx hb dX7_section_24 rfl (lv_at hl 2 rfl) ?_
      refine tr_wNi (va_runV (As := [.int q, .int wh]) (rest := []) ⟨hx, hb, hml, hown, hts⟩ (c_X7_sectionTold l D cI M hMi (lSc mv 0 0) sv nv sz q wh hm (isSection_in (mv := lSc mv 0 0) (nv := nv) hn c_10) (isIn_vp c_19 (by decide))) (cwV 2 hts gX7_section_X7_sectionTold rfl rfl rfl (by decide +kernel) ⟨Nat.le_of_ble_eq_true rfl, Nat.le_of_ble_eq_true rfl⟩) (tr_preV hK hM.c0 rfl ⟨Nat.le_trans hZ0 hS.1, hM, hN⟩) rfl rfl hl.1 rfl (lv_room (Nat.le_of_ble_eq_true rfl)) dX7_section_25 ⟨show 0 + 1 ≤ 1 by omega, show 0 + 6 ≤ 6 by omega⟩) hS (fun _ h => h) (fun _ h => h) (fun H locs h9 _ _ hS => ?_)
      have hM : STA D cI (mA M) (lSc mv 0 0) sv H := h9.1
      have hN : STA D cI (nA M) (lSc mv 0 0) nv H := h9.2
      clear h9
      refine lv_goto (tgt := 36) hx hb dX7_section_28 (by decide) ?_
      exact W.iret hx hb hr (hS.endr (by rw [rX7_section, if_neg c_10, if_neg c_19]) (by rw [fX7_section, if_neg c_10, if_neg c_19]; exact ⟨hM, hN⟩)) hS.2.2 dX7_section_36
def fX7_car (mv : LV) (sv : LV) (nv : LV) (cr : Int32) (wh : Int32) : LV × LV × LV :=
  (if (fX7_isIn cr 0 ((mv.1 2) - 1)) = 0 then (lSc (lSc mv 0 0) 0 1, sv, nv) else (if (fX7_isIn wh 0 7) = 0 then (lSc (lSc mv 0 0) 0 1, sv, nv) else (lSc mv 0 0, sv, nv)))
def rX7_car (mv : LV) (sv : LV) (nv : LV) (cr : Int32) (wh : Int32) : Int32 :=
  (if (fX7_isIn cr 0 ((mv.1 2) - 1)) = 0 then 0 else (if (fX7_isIn wh 0 7) = 0 then 0 else rX7_carTold (lSc mv 0 0) sv nv cr wh))
set_option maxHeartbeats 4000000 in
set_option maxRecDepth 100000 in
theorem c_X7_car (l : Launch) (D : va_G) (cI : ClassId) (M : Nat → Nat) (hMi : MInj M) (mv sv nv : LV) (sz : Nat) (cr : Int32) (wh : Int32) (hm : mOK mv) : Met l yX7_car wsX7_car ({ frames := 3, cells := 1, slots := 8, locals := 67 }) (tr_Pc D cI [.ref ((mA M) 0), .int cr, .int wh] (fun H => sz ≤ H.size ∧ MPT D cI M (mv, sv, nv) H)) (tr_Q (some (.int (rX7_car mv sv nv cr wh))) (MPT D cI M (fX7_car mv sv nv cr wh)) (nOwn M sz)) 1 8 (nOwn M sz) := by
  refine Met.ofW (cc := cX7_car) (maxL := 3) (ret := (some .int)) (by decide) rfl ?_
  intro p e s m args below meth c s₁ B hml hv
  obtain ⟨rfl, ⟨hZ0, hM, hN⟩, hK⟩ := hv
  have hx := B.exec
  have hb := B.bytes
  have hr := B.returns
  have hts := atoms_spec (ws := wsX7_car) B.pre
  have hown : s.vm.findClass RX7 = some m.cls := findClass_of_methodNamed B.named
  have hlocks := B.notSynchronized
  have hd := mn_dis hMi
  have hds := nm_dis hMi
  replace hM : STA D cI (mA M) mv sv s.heap := hM
  replace hN : STA D cI (nA M) mv nv s.heap := hN
  have hiX7 : ∀ w ∈ u_ws RX7 TX7 6, w ∈ wsX7_car := by decide +kernel
  have f32 := hts (.fieldLink RX7 32 "TramRibbonModel" "thrown" "I") (by decide +kernel)
  have f46 := hts (.fieldLink RX7 46 "TramRibbonModel" "cars" "I") (by decide +kernel)
  have hl := lv_entry ([.ref ((mA M) 0), .int cr, .int wh]) (n := 3) (Nat.le_of_ble_eq_true rfl)
  rw [lg_entry_eq]
  generalize (lg_sl ([.ref ((mA M) 0), .int cr, .int wh]) ++ List.replicate (3 - (lg_sl ([.ref ((mA M) 0), .int cr, .int wh])).length) Slot.unset).toArray = ls at hl ⊢
  replace hl : lv_has ls 3 [(0, .ref ((mA M) 0)), (1, .int cr), (2, .int wh)] := hl
  have hS : tr_S (nOwn M sz) s.heap s.heap [] := tr_S.rf
  generalize h1 : s.heap = H, h2 : ([] : List Loc) = locs
  replace hS : tr_S (nOwn M sz) s.heap H locs := by rw [← h1, ← h2]; exact hS
  rw [h1] at hM hN
  clear h1 h2
  refine lv_aload_n hx hb dX7_car_0 rfl (lv_at hl 0 rfl) ?_
  refine lv_iconst (v := 0) hx hb dX7_car_1 (by decide) ?_
  refine tr_put (ci := 7) (C := RX7) (T := TX7) (N := 6) (ty := .int) (v := .int 0) hx hb hts hiX7 tyX7 tyX7_ok nmX7 hown hK hS (Or.inl (mOwn_k (k := 0) (by decide))) hM.c0 rfl 0 (by decide) f32 rfl (by decide +kernel) rfl rfl (Nat.le_of_ble_eq_true rfl) dX7_car_2 (fun H locs hat hz hk hS => ?_)
  have hM : STA D cI (mA M) (lSc mv 0 0) sv H := hM.setM hd.1 0 hat rfl rfl hk
  have hN : STA D cI (nA M) (lSc mv 0 0) nv H := hN.setM hd.2.1 0 hat rfl rfl hk
  clear hat hz hk
  refine lv_iload_n hx hb dX7_car_5 rfl (lv_at hl 1 rfl) ?_
  refine lv_iconst (v := 0) hx hb dX7_car_6 (by decide) ?_
  refine lv_aload_n hx hb dX7_car_7 rfl (lv_at hl 0 rfl) ?_
  refine tr_get (ci := 7) (C := RX7) (T := TX7) (N := 6) hx hb hts hiX7 hown hK hM.c0 rfl 2 (by decide) f46 (v := .int (mv.1 2)) rfl dX7_car_8 ?_
  refine lv_iconst (v := 1) hx hb dX7_car_11 (by decide) ?_
  refine lv_isub hx hb dX7_car_12 ?_
  refine tr_ri (va_runS (As := [.int cr, .int 0, .int ((mv.1 2) - 1)]) (rest := []) ⟨hx, hb, hml, hown, hts⟩ (c_X7_isIn l D cI cr 0 ((mv.1 2) - 1)) (va_cwS 3 hts gX7_car_X7_isIn rfl rfl rfl (by decide +kernel) ⟨Nat.le_of_ble_eq_true rfl, Nat.le_of_ble_eq_true rfl⟩) (tr_preS hK trivial) rfl rfl hl.1 rfl (lv_room (Nat.le_of_ble_eq_true rfl)) dX7_car_13 ⟨show 0 + 0 ≤ 1 by omega, show 0 + 0 ≤ 8 by omega⟩) ?_
  refine lv_if_eq (tgt := 38) hx hb dX7_car_16 (by decide) (fun c_16 => ?_) (fun c_16 => ?_)
  · refine lv_aload_n hx hb dX7_car_38 rfl (lv_at hl 0 rfl) ?_
    refine lv_iconst (v := 1) hx hb dX7_car_39 (by decide) ?_
    refine tr_ci (va_runV (As := [.int 1]) (rest := []) ⟨hx, hb, hml, hown, hts⟩ (c_X7_no l D cI M hMi (lSc mv 0 0) sv nv 1 ) (cwV 1 hts gX7_car_X7_no rfl rfl rfl (by decide +kernel) ⟨Nat.le_of_ble_eq_true rfl, Nat.le_of_ble_eq_true rfl⟩) (tr_preV hK hM.c0 rfl ⟨hM, hN⟩) rfl rfl hl.1 rfl (lv_room (Nat.le_of_ble_eq_true rfl)) dX7_car_40 ⟨show 0 + 0 ≤ 1 by omega, show 0 + 0 ≤ 8 by omega⟩) hS (fun _ h => Or.inl h) (fun H locs h9 hS => ?_)
    have hM : STA D cI (mA M) (lSc (lSc mv 0 0) 0 1) sv H := h9.1
    have hN : STA D cI (nA M) (lSc (lSc mv 0 0) 0 1) nv H := h9.2
    clear h9
    refine W.widen (k := 1) (n := 8) (by omega) (by omega) ?_
    exact W.iret hx hb hr (hS.endr (by rw [rX7_car, if_pos c_16]) (by rw [fX7_car, if_pos c_16]; exact ⟨hM, hN⟩)) hS.2.2 dX7_car_43
  · refine lv_iload_n hx hb dX7_car_19 rfl (lv_at hl 2 rfl) ?_
    refine lv_iconst (v := 0) hx hb dX7_car_20 (by decide) ?_
    refine lv_bipush (v := 7) hx hb dX7_car_21 (by decide) ?_
    refine tr_ri (va_runS (As := [.int wh, .int 0, .int 7]) (rest := []) ⟨hx, hb, hml, hown, hts⟩ (c_X7_isIn l D cI wh 0 7) (va_cwS 3 hts gX7_car_X7_isIn rfl rfl rfl (by decide +kernel) ⟨Nat.le_of_ble_eq_true rfl, Nat.le_of_ble_eq_true rfl⟩) (tr_preS hK trivial) rfl rfl hl.1 rfl (lv_room (Nat.le_of_ble_eq_true rfl)) dX7_car_23 ⟨show 0 + 0 ≤ 1 by omega, show 0 + 0 ≤ 8 by omega⟩) ?_
    refine lv_if_eq (tgt := 38) hx hb dX7_car_26 (by decide) (fun c_26 => ?_) (fun c_26 => ?_)
    · refine lv_aload_n hx hb dX7_car_38 rfl (lv_at hl 0 rfl) ?_
      refine lv_iconst (v := 1) hx hb dX7_car_39 (by decide) ?_
      refine tr_ci (va_runV (As := [.int 1]) (rest := []) ⟨hx, hb, hml, hown, hts⟩ (c_X7_no l D cI M hMi (lSc mv 0 0) sv nv 1 ) (cwV 1 hts gX7_car_X7_no rfl rfl rfl (by decide +kernel) ⟨Nat.le_of_ble_eq_true rfl, Nat.le_of_ble_eq_true rfl⟩) (tr_preV hK hM.c0 rfl ⟨hM, hN⟩) rfl rfl hl.1 rfl (lv_room (Nat.le_of_ble_eq_true rfl)) dX7_car_40 ⟨show 0 + 0 ≤ 1 by omega, show 0 + 0 ≤ 8 by omega⟩) hS (fun _ h => Or.inl h) (fun H locs h9 hS => ?_)
      have hM : STA D cI (mA M) (lSc (lSc mv 0 0) 0 1) sv H := h9.1
      have hN : STA D cI (nA M) (lSc (lSc mv 0 0) 0 1) nv H := h9.2
      clear h9
      refine W.widen (k := 1) (n := 8) (by omega) (by omega) ?_
      exact W.iret hx hb hr (hS.endr (by rw [rX7_car, if_neg c_16, if_pos c_26]) (by rw [fX7_car, if_neg c_16, if_pos c_26]; exact ⟨hM, hN⟩)) hS.2.2 dX7_car_43
    · refine lv_aload_n hx hb dX7_car_29 rfl (lv_at hl 0 rfl) ?_
      refine lv_iload_n hx hb dX7_car_30 rfl (lv_at hl 1 rfl) ?_
      refine lv_iload_n hx hb dX7_car_31 rfl (lv_at hl 2 rfl) ?_
      refine tr_wNi (va_runV (As := [.int cr, .int wh]) (rest := []) ⟨hx, hb, hml, hown, hts⟩ (c_X7_carTold l D cI M hMi (lSc mv 0 0) sv nv sz cr wh hm (isCar_in hm c_16) (isIn_vp c_26 (by decide))) (cwV 2 hts gX7_car_X7_carTold rfl rfl rfl (by decide +kernel) ⟨Nat.le_of_ble_eq_true rfl, Nat.le_of_ble_eq_true rfl⟩) (tr_preV hK hM.c0 rfl ⟨Nat.le_trans hZ0 hS.1, hM, hN⟩) rfl rfl hl.1 rfl (lv_room (Nat.le_of_ble_eq_true rfl)) dX7_car_32 ⟨show 0 + 1 ≤ 1 by omega, show 0 + 8 ≤ 8 by omega⟩) hS (fun _ h => h) (fun _ h => h) (fun H locs h9 _ _ hS => ?_)
      have hM : STA D cI (mA M) (lSc mv 0 0) sv H := h9.1
      have hN : STA D cI (nA M) (lSc mv 0 0) nv H := h9.2
      clear h9
      refine lv_goto (tgt := 43) hx hb dX7_car_35 (by decide) ?_
      exact W.iret hx hb hr (hS.endr (by rw [rX7_car, if_neg c_16, if_neg c_26]) (by rw [fX7_car, if_neg c_16, if_neg c_26]; exact ⟨hM, hN⟩)) hS.2.2 dX7_car_43
def fX7_count (mv : LV) (sv : LV) (nv : LV) (wh : Int32) : LV × LV × LV :=
  (if (fX7_isIn wh 0 10) = 0 then (lSc (lSc mv 0 0) 0 1, sv, nv) else (lSc mv 0 0, sv, nv))
def rX7_count (mv : LV) (sv : LV) (nv : LV) (wh : Int32) : Int32 :=
  (if (fX7_isIn wh 0 10) = 0 then 0 else rX7_counted (lSc mv 0 0) sv nv wh)
set_option maxHeartbeats 4000000 in
set_option maxRecDepth 100000 in
theorem c_X7_count (l : Launch) (D : va_G) (cI : ClassId) (M : Nat → Nat) (hMi : MInj M) (mv sv nv : LV) (sz : Nat) (wh : Int32) (hm : mOK mv) (hn : nOK sv) : Met l yX7_count wsX7_count ({ frames := 2, cells := 1, slots := 11, locals := 47 }) (tr_Pc D cI [.ref ((mA M) 0), .int wh] (fun H => sz ≤ H.size ∧ MPT D cI M (mv, sv, nv) H)) (tr_Q (some (.int (rX7_count mv sv nv wh))) (MPT D cI M (fX7_count mv sv nv wh)) (nOwn M sz)) 1 11 (nOwn M sz) := by
  refine Met.ofW (cc := cX7_count) (maxL := 2) (ret := (some .int)) (by decide) rfl ?_
  intro p e s m args below meth c s₁ B hml hv
  obtain ⟨rfl, ⟨hZ0, hM, hN⟩, hK⟩ := hv
  have hx := B.exec
  have hb := B.bytes
  have hr := B.returns
  have hts := atoms_spec (ws := wsX7_count) B.pre
  have hown : s.vm.findClass RX7 = some m.cls := findClass_of_methodNamed B.named
  have hlocks := B.notSynchronized
  have hd := mn_dis hMi
  have hds := nm_dis hMi
  replace hM : STA D cI (mA M) mv sv s.heap := hM
  replace hN : STA D cI (nA M) mv nv s.heap := hN
  have hiX7 : ∀ w ∈ u_ws RX7 TX7 6, w ∈ wsX7_count := by decide +kernel
  have f32 := hts (.fieldLink RX7 32 "TramRibbonModel" "thrown" "I") (by decide +kernel)
  have hl := lv_entry ([.ref ((mA M) 0), .int wh]) (n := 2) (Nat.le_of_ble_eq_true rfl)
  rw [lg_entry_eq]
  generalize (lg_sl ([.ref ((mA M) 0), .int wh]) ++ List.replicate (2 - (lg_sl ([.ref ((mA M) 0), .int wh])).length) Slot.unset).toArray = ls at hl ⊢
  replace hl : lv_has ls 2 [(0, .ref ((mA M) 0)), (1, .int wh)] := hl
  have hS : tr_S (nOwn M sz) s.heap s.heap [] := tr_S.rf
  generalize h1 : s.heap = H, h2 : ([] : List Loc) = locs
  replace hS : tr_S (nOwn M sz) s.heap H locs := by rw [← h1, ← h2]; exact hS
  rw [h1] at hM hN
  clear h1 h2
  refine lv_aload_n hx hb dX7_count_0 rfl (lv_at hl 0 rfl) ?_
  refine lv_iconst (v := 0) hx hb dX7_count_1 (by decide) ?_
  refine tr_put (ci := 7) (C := RX7) (T := TX7) (N := 6) (ty := .int) (v := .int 0) hx hb hts hiX7 tyX7 tyX7_ok nmX7 hown hK hS (Or.inl (mOwn_k (k := 0) (by decide))) hM.c0 rfl 0 (by decide) f32 rfl (by decide +kernel) rfl rfl (Nat.le_of_ble_eq_true rfl) dX7_count_2 (fun H locs hat hz hk hS => ?_)
  have hM : STA D cI (mA M) (lSc mv 0 0) sv H := hM.setM hd.1 0 hat rfl rfl hk
  have hN : STA D cI (nA M) (lSc mv 0 0) nv H := hN.setM hd.2.1 0 hat rfl rfl hk
  clear hat hz hk
  refine lv_iload_n hx hb dX7_count_5 rfl (lv_at hl 1 rfl) ?_
  refine lv_iconst (v := 0) hx hb dX7_count_6 (by decide) ?_
  refine lv_bipush (v := 10) hx hb dX7_count_7 (by decide) ?_
  refine tr_ri (va_runS (As := [.int wh, .int 0, .int 10]) (rest := []) ⟨hx, hb, hml, hown, hts⟩ (c_X7_isIn l D cI wh 0 10) (va_cwS 3 hts gX7_count_X7_isIn rfl rfl rfl (by decide +kernel) ⟨Nat.le_of_ble_eq_true rfl, Nat.le_of_ble_eq_true rfl⟩) (tr_preS hK trivial) rfl rfl hl.1 rfl (lv_room (Nat.le_of_ble_eq_true rfl)) dX7_count_9 ⟨show 0 + 0 ≤ 1 by omega, show 0 + 0 ≤ 11 by omega⟩) ?_
  refine lv_if_eq (tgt := 23) hx hb dX7_count_12 (by decide) (fun c_12 => ?_) (fun c_12 => ?_)
  · refine lv_aload_n hx hb dX7_count_23 rfl (lv_at hl 0 rfl) ?_
    refine lv_iconst (v := 1) hx hb dX7_count_24 (by decide) ?_
    refine tr_ci (va_runV (As := [.int 1]) (rest := []) ⟨hx, hb, hml, hown, hts⟩ (c_X7_no l D cI M hMi (lSc mv 0 0) sv nv 1 ) (cwV 1 hts gX7_count_X7_no rfl rfl rfl (by decide +kernel) ⟨Nat.le_of_ble_eq_true rfl, Nat.le_of_ble_eq_true rfl⟩) (tr_preV hK hM.c0 rfl ⟨hM, hN⟩) rfl rfl hl.1 rfl (lv_room (Nat.le_of_ble_eq_true rfl)) dX7_count_25 ⟨show 0 + 0 ≤ 1 by omega, show 0 + 0 ≤ 11 by omega⟩) hS (fun _ h => Or.inl h) (fun H locs h9 hS => ?_)
    have hM : STA D cI (mA M) (lSc (lSc mv 0 0) 0 1) sv H := h9.1
    have hN : STA D cI (nA M) (lSc (lSc mv 0 0) 0 1) nv H := h9.2
    clear h9
    refine W.widen (k := 1) (n := 11) (by omega) (by omega) ?_
    exact W.iret hx hb hr (hS.endr (by rw [rX7_count, if_pos c_12]) (by rw [fX7_count, if_pos c_12]; exact ⟨hM, hN⟩)) hS.2.2 dX7_count_28
  · refine lv_aload_n hx hb dX7_count_15 rfl (lv_at hl 0 rfl) ?_
    refine lv_iload_n hx hb dX7_count_16 rfl (lv_at hl 1 rfl) ?_
    refine tr_wNi (va_runV (As := [.int wh]) (rest := []) ⟨hx, hb, hml, hown, hts⟩ (c_X7_counted l D cI M hMi (lSc mv 0 0) sv nv sz wh hm hn (isIn_vp c_12 (by decide))) (cwV 1 hts gX7_count_X7_counted rfl rfl rfl (by decide +kernel) ⟨Nat.le_of_ble_eq_true rfl, Nat.le_of_ble_eq_true rfl⟩) (tr_preV hK hM.c0 rfl ⟨Nat.le_trans hZ0 hS.1, hM, hN⟩) rfl rfl hl.1 rfl (lv_room (Nat.le_of_ble_eq_true rfl)) dX7_count_17 ⟨show 0 + 1 ≤ 1 by omega, show 0 + 11 ≤ 11 by omega⟩) hS (fun _ h => h) (fun _ h => h) (fun H locs h9 _ _ hS => ?_)
    have hM : STA D cI (mA M) (lSc mv 0 0) sv H := h9.1
    have hN : STA D cI (nA M) (lSc mv 0 0) nv H := h9.2
    clear h9
    refine lv_goto (tgt := 28) hx hb dX7_count_20 (by decide) ?_
    exact W.iret hx hb hr (hS.endr (by rw [rX7_count, if_neg c_12]) (by rw [fX7_count, if_neg c_12]; exact ⟨hM, hN⟩)) hS.2.2 dX7_count_28
