/-! The Model: ticks -/
def bX7_pass_32 (mv : LV) (sv : LV) (nv : LV) (tk : Int32) (i : Nat) (a : LV) : LV :=
  fX6_pass (lSc mv 0 0) (fX6_turn (lSc mv 0 0) a)
def fX7_pass (mv : LV) (sv : LV) (nv : LV) (tk : Int32) : LV × LV × LV :=
  (if (fX7_isIn tk 1 200) = 0 then (lSc (lSc mv 0 0) 0 1, sv, nv) else (lSc mv 0 0, itI tk.toNatClampNeg (bX7_pass_32 mv sv nv tk) sv, nv))
def rX7_pass (mv : LV) (sv : LV) (nv : LV) (tk : Int32) : Int32 :=
  (if (fX7_isIn tk 1 200) = 0 then 0 else ((itI tk.toNatClampNeg (bX7_pass_32 mv sv nv tk) sv).1 1) - (sv.1 1))
set_option maxHeartbeats 4000000 in
set_option maxRecDepth 100000 in
theorem c_X7_pass (l : Launch) (D : va_G) (cI : ClassId) (M : Nat → Nat) (hMi : MInj M) (mv sv nv : LV) (tk : Int32) (hm : mOK mv) (hsafe : ∀ k, k < tk.toNatClampNeg → TSafe (lSc mv 0 0) (itI k (tickM (lSc mv 0 0)) sv)) : Met l yX7_pass wsX7_pass ({ frames := 4, cells := 0, slots := 0, locals := 88 }) (tr_Pc D cI [.ref ((mA M) 0), .int tk] (MPT D cI M (mv, sv, nv))) (tr_Q (some (.int (rX7_pass mv sv nv tk))) (MPT D cI M (fX7_pass mv sv nv tk)) (mOwn M)) 0 0 (mOwn M) := by
  refine Met.ofW (cc := cX7_pass) (maxL := 4) (ret := (some .int)) (by decide) rfl ?_
  intro p e s m args below meth c s₁ B hml hv
  obtain ⟨rfl, ⟨hM, hN⟩, hK⟩ := hv
  have hx := B.exec
  have hb := B.bytes
  have hr := B.returns
  have hts := atoms_spec (ws := wsX7_pass) B.pre
  have hown : s.vm.findClass RX7 = some m.cls := findClass_of_methodNamed B.named
  have hlocks := B.notSynchronized
  have hd := mn_dis hMi
  have hds := nm_dis hMi
  replace hM : STA D cI (mA M) mv sv s.heap := hM
  replace hN : STA D cI (nA M) mv nv s.heap := hN
  have hiX6 : ∀ w ∈ u_ws RX6 TX6 19, w ∈ wsX7_pass := by decide +kernel
  have hiX7 : ∀ w ∈ u_ws RX7 TX7 6, w ∈ wsX7_pass := by decide +kernel
  have f22 := hts (.fieldLink RX7 22 "TramRibbonModel" "s" "LTramRibbonModel$State;") (by decide +kernel)
  have f32 := hts (.fieldLink RX7 32 "TramRibbonModel" "thrown" "I") (by decide +kernel)
  have hl := lv_entry ([.ref ((mA M) 0), .int tk]) (n := 4) (Nat.le_of_ble_eq_true rfl)
  rw [lg_entry_eq]
  generalize (lg_sl ([.ref ((mA M) 0), .int tk]) ++ List.replicate (4 - (lg_sl ([.ref ((mA M) 0), .int tk])).length) Slot.unset).toArray = ls at hl ⊢
  replace hl : lv_has ls 4 [(0, .ref ((mA M) 0)), (1, .int tk)] := hl
  have hS : tr_S (mOwn M) s.heap s.heap [] := tr_S.rf
  generalize h1 : s.heap = H, h2 : ([] : List Loc) = locs
  replace hS : tr_S (mOwn M) s.heap H locs := by rw [← h1, ← h2]; exact hS
  rw [h1] at hM hN
  clear h1 h2
  refine lv_aload_n hx hb dX7_pass_0 rfl (lv_at hl 0 rfl) ?_
  refine lv_iconst (v := 0) hx hb dX7_pass_1 (by decide) ?_
  refine tr_put (ci := 7) (C := RX7) (T := TX7) (N := 6) (ty := .int) (v := .int 0) hx hb hts hiX7 tyX7 tyX7_ok nmX7 hown hK hS (mOwn_k (k := 0) (by decide)) hM.c0 rfl 0 (by decide) f32 rfl (by decide +kernel) rfl rfl (Nat.le_of_ble_eq_true rfl) dX7_pass_2 (fun H locs hat hz hk hS => ?_)
  have hM : STA D cI (mA M) (lSc mv 0 0) sv H := hM.setM hd.1 0 hat rfl rfl hk
  have hN : STA D cI (nA M) (lSc mv 0 0) nv H := hN.setM hd.2.1 0 hat rfl rfl hk
  clear hat hz hk
  refine lv_iload_n hx hb dX7_pass_5 rfl (lv_at hl 1 rfl) ?_
  refine lv_iconst (v := 1) hx hb dX7_pass_6 (by decide) ?_
  refine lv_sipush (v := 200) hx hb dX7_pass_7 (by decide) ?_
  refine tr_ri (va_runS (As := [.int tk, .int 1, .int 200]) (rest := []) ⟨hx, hb, hml, hown, hts⟩ (c_X7_isIn l D cI tk 1 200) (va_cwS 3 hts gX7_pass_X7_isIn rfl rfl rfl (by decide +kernel) ⟨Nat.le_of_ble_eq_true rfl, Nat.le_of_ble_eq_true rfl⟩) (tr_preS hK trivial) rfl rfl hl.1 rfl (lv_room (Nat.le_of_ble_eq_true rfl)) dX7_pass_10 ⟨Nat.zero_le _, Nat.zero_le _⟩) ?_
  refine lv_if_ne (tgt := 22) hx hb dX7_pass_13 (by decide) (fun c_13 => ?_) (fun c_13 => ?_)
  · refine lv_aload_n hx hb dX7_pass_22 rfl (lv_at hl 0 rfl) ?_
    refine tr_get (ci := 7) (C := RX7) (T := TX7) (N := 6) hx hb hts hiX7 hown hK hM.c0 rfl 4 (by decide) f22 (v := .ref ((mA M) 2)) rfl dX7_pass_23 ?_
    refine tr_getN (host := "TramRibbonModel") (ci := 6) (C := RX6) (T := TX6) (N := 19) hx hb hts hiX6 hown hK hM.c2 rfl 1 (by decide) (by decide +kernel) (v := .int (sv.1 1)) rfl dX7_pass_26 ?_
    refine lv_istore_n (lv' := [(2, .int (sv.1 1)), (0, .ref ((mA M) 0)), (1, .int tk)]) hx hb dX7_pass_29 rfl hl (by decide) rfl (fun ls hl => ?_)
    refine lv_iconst (v := 0) hx hb dX7_pass_30 (by decide) ?_
    refine lv_istore_n (lv' := [(3, .int 0), (2, .int (sv.1 1)), (0, .ref ((mA M) 0)), (1, .int tk)]) hx hb dX7_pass_31 rfl hl (by decide) rfl (fun ls hl => ?_)
    have hinv := And.intro (show STA D cI (mA M) (lSc mv 0 0) sv H ∧ STA D cI (nA M) (lSc mv 0 0) nv H ∧ tr_S (mOwn M) s.heap H locs from ⟨hM, hN, hS⟩) hl
    clear hM hN hS hl
    revert hinv; revert ls; revert locs; revert H
    refine tr_forw (fun i H locs ls => (STA D cI (mA M) (lSc mv 0 0) (itI i (bX7_pass_32 mv sv nv tk) sv) H ∧ STA D cI (nA M) (lSc mv 0 0) nv H ∧ tr_S (mOwn M) s.heap H locs) ∧ lv_has ls 4 [(0, .ref ((mA M) 0)), (1, .int tk), (2, .int (sv.1 1)), (3, .int (nI i))]) (tk.toNatClampNeg) (fun H locs ls hinv => ?_) ?_
    · obtain ⟨⟨hM, hN, hS⟩, hl⟩ := hinv
      exact ⟨⟨by rw [itI_0]; exact hM, hN, hS⟩, lv_sub hl [2, 3, 1, 0] rfl⟩
    intro i H locs ls hi hinv ih
    obtain ⟨⟨hM, hN, hS⟩, hl⟩ := hinv
    refine lv_iload_n hx hb dX7_pass_32 rfl (lv_at hl 3 rfl) ?_
    refine lv_iload_n hx hb dX7_pass_33 rfl (lv_at hl 1 rfl) ?_
    refine lv_icmp_ge (tgt := 57) hx hb dX7_pass_34 (by decide) (fun c_34 => ?_) (fun c_34 => ?_)
    · have hN : i = tk.toNatClampNeg := tr_over rfl hi c_34
      subst hN
      refine lv_aload_n hx hb dX7_pass_57 rfl (lv_at hl 0 rfl) ?_
      refine tr_get (ci := 7) (C := RX7) (T := TX7) (N := 6) hx hb hts hiX7 hown hK hM.c0 rfl 4 (by decide) f22 (v := .ref ((mA M) 2)) rfl dX7_pass_58 ?_
      refine tr_getN (host := "TramRibbonModel") (ci := 6) (C := RX6) (T := TX6) (N := 19) hx hb hts hiX6 hown hK hM.c2 rfl 1 (by decide) (by decide +kernel) (v := .int ((itI tk.toNatClampNeg (bX7_pass_32 mv sv nv tk) sv).1 1)) rfl dX7_pass_61 ?_
      refine lv_iload_n hx hb dX7_pass_64 rfl (lv_at hl 2 rfl) ?_
      refine lv_isub hx hb dX7_pass_65 ?_
      exact W.iret hx hb hr (hS.endr (by rw [rX7_pass, if_neg c_13]) (by rw [fX7_pass, if_neg c_13]; exact ⟨hM, hN⟩)) hS.2.2 dX7_pass_66
    · have hlt : i < tk.toNatClampNeg := tr_on rfl hi c_34
      refine lv_aload_n hx hb dX7_pass_37 rfl (lv_at hl 0 rfl) ?_
      refine tr_get (ci := 7) (C := RX7) (T := TX7) (N := 6) hx hb hts hiX7 hown hK hM.c0 rfl 4 (by decide) f22 (v := .ref ((mA M) 2)) rfl dX7_pass_38 ?_
      refine tr_wv (va_runV (As := []) (rest := []) ⟨hx, hb, hml, hown, hts⟩ (c_X6_turn l D cI (mA M) hd.1 (lSc mv 0 0) (itI i (bX7_pass_32 mv sv nv tk) sv)  hm (hsafe i hlt).1) (cwV 0 hts gX7_pass_X6_turn rfl rfl rfl (by decide +kernel) ⟨Nat.le_of_ble_eq_true rfl, Nat.le_of_ble_eq_true rfl⟩) (tr_preV hK hM.c2 rfl hM) rfl rfl hl.1 rfl (lv_room (Nat.le_of_ble_eq_true rfl)) dX7_pass_41 ⟨Nat.zero_le _, Nat.zero_le _⟩) hS mOwn_s (fun H locs hM hz hk hS => ?_)
      replace hN := st_keepO hd hN hk
      clear hk hz
      refine lv_aload_n hx hb dX7_pass_44 rfl (lv_at hl 0 rfl) ?_
      refine tr_get (ci := 7) (C := RX7) (T := TX7) (N := 6) hx hb hts hiX7 hown hK hM.c0 rfl 4 (by decide) f22 (v := .ref ((mA M) 2)) rfl dX7_pass_45 ?_
      refine tr_wv (va_runV (As := []) (rest := []) ⟨hx, hb, hml, hown, hts⟩ (c_X6_pass l D cI (mA M) hd.1 (lSc mv 0 0) (fX6_turn (lSc mv 0 0) (itI i (bX7_pass_32 mv sv nv tk) sv))  hm (hsafe i hlt).2.1 (hsafe i hlt).2.2.1 (hsafe i hlt).2.2.2.1 (hsafe i hlt).2.2.2.2) (cwV 0 hts gX7_pass_X6_pass rfl rfl rfl (by decide +kernel) ⟨Nat.le_of_ble_eq_true rfl, Nat.le_of_ble_eq_true rfl⟩) (tr_preV hK hM.c2 rfl hM) rfl rfl hl.1 rfl (lv_room (Nat.le_of_ble_eq_true rfl)) dX7_pass_48 ⟨Nat.zero_le _, Nat.zero_le _⟩) hS mOwn_s (fun H locs hM hz hk hS => ?_)
      replace hN := st_keepO hd hN hk
      clear hk hz
      refine lv_iinc (v := nI (i + 1)) (lv' := [(3, .int (nI (i + 1))), (0, .ref ((mA M) 0)), (1, .int tk), (2, .int (sv.1 1))]) hx hb dX7_pass_51 hl (k := 3) rfl (tr_inc _) (by decide) rfl (fun ls hl => ?_)
      refine lv_goto (tgt := 32) hx hb dX7_pass_54 (by decide) ?_
      have e9 : itI (i + 1) (bX7_pass_32 mv sv nv tk) sv = fX6_pass (lSc mv 0 0) (fX6_turn (lSc mv 0 0) (itI i (bX7_pass_32 mv sv nv tk) sv)) := by rw [itI_s, bX7_pass_32]
      exact ih H locs ls hlt ⟨⟨by rw [e9]; exact hM, hN, hS⟩, lv_sub hl [1, 2, 3, 0] rfl⟩
  · refine lv_aload_n hx hb dX7_pass_16 rfl (lv_at hl 0 rfl) ?_
    refine lv_iconst (v := 1) hx hb dX7_pass_17 (by decide) ?_
    refine tr_ci (va_runV (As := [.int 1]) (rest := []) ⟨hx, hb, hml, hown, hts⟩ (c_X7_no l D cI M hMi (lSc mv 0 0) sv nv 1 ) (cwV 1 hts gX7_pass_X7_no rfl rfl rfl (by decide +kernel) ⟨Nat.le_of_ble_eq_true rfl, Nat.le_of_ble_eq_true rfl⟩) (tr_preV hK hM.c0 rfl ⟨hM, hN⟩) rfl rfl hl.1 rfl (lv_room (Nat.le_of_ble_eq_true rfl)) dX7_pass_18 ⟨Nat.zero_le _, Nat.zero_le _⟩) hS (fun _ h => h) (fun H locs h9 hS => ?_)
    have hM : STA D cI (mA M) (lSc (lSc mv 0 0) 0 1) sv H := h9.1
    have hN : STA D cI (nA M) (lSc (lSc mv 0 0) 0 1) nv H := h9.2
    clear h9
    exact W.iret hx hb hr (hS.endr (by rw [rX7_pass, if_pos c_13]) (by rw [fX7_pass, if_pos c_13]; exact ⟨hM, hN⟩)) hS.2.2 dX7_pass_21
def bX7_look_2 (mv : LV) (sv : LV) (nv : LV) (tk : Int32) (i : Nat) (a : LV) : LV :=
  fX6_pass mv (fX6_turn mv a)
def fX7_look (mv : LV) (sv : LV) (nv : LV) (tk : Int32) : LV × LV × LV :=
  (mv, sv, itI tk.toNatClampNeg (bX7_look_2 mv sv nv tk) nv)
set_option maxHeartbeats 4000000 in
set_option maxRecDepth 100000 in
theorem c_X7_look (l : Launch) (D : va_G) (cI : ClassId) (M : Nat → Nat) (hMi : MInj M) (mv sv nv : LV) (tk : Int32) (hm : mOK mv) (hsafe : ∀ k, k < tk.toNatClampNeg → TSafe mv (itI k (tickM mv) nv)) : Met l yX7_look wsX7_look ({ frames := 4, cells := 0, slots := 0, locals := 88 }) (tr_Pc D cI [.ref ((mA M) 0), .int tk] (MPT D cI M (mv, sv, nv))) (tr_Q none (MPT D cI M (fX7_look mv sv nv tk)) (mOwn M)) 0 0 (mOwn M) := by
  refine Met.ofW (cc := cX7_look) (maxL := 3) (ret := none) (by decide) rfl ?_
  intro p e s m args below meth c s₁ B hml hv
  obtain ⟨rfl, ⟨hM, hN⟩, hK⟩ := hv
  have hx := B.exec
  have hb := B.bytes
  have hr := B.returns
  have hts := atoms_spec (ws := wsX7_look) B.pre
  have hown : s.vm.findClass RX7 = some m.cls := findClass_of_methodNamed B.named
  have hlocks := B.notSynchronized
  have hd := mn_dis hMi
  have hds := nm_dis hMi
  replace hM : STA D cI (mA M) mv sv s.heap := hM
  replace hN : STA D cI (nA M) mv nv s.heap := hN
  have hiX7 : ∀ w ∈ u_ws RX7 TX7 6, w ∈ wsX7_look := by decide +kernel
  have f26 := hts (.fieldLink RX7 26 "TramRibbonModel" "next" "LTramRibbonModel$State;") (by decide +kernel)
  have hl := lv_entry ([.ref ((mA M) 0), .int tk]) (n := 3) (Nat.le_of_ble_eq_true rfl)
  rw [lg_entry_eq]
  generalize (lg_sl ([.ref ((mA M) 0), .int tk]) ++ List.replicate (3 - (lg_sl ([.ref ((mA M) 0), .int tk])).length) Slot.unset).toArray = ls at hl ⊢
  replace hl : lv_has ls 3 [(0, .ref ((mA M) 0)), (1, .int tk)] := hl
  have hS : tr_S (mOwn M) s.heap s.heap [] := tr_S.rf
  generalize h1 : s.heap = H, h2 : ([] : List Loc) = locs
  replace hS : tr_S (mOwn M) s.heap H locs := by rw [← h1, ← h2]; exact hS
  rw [h1] at hM hN
  clear h1 h2
  refine lv_iconst (v := 0) hx hb dX7_look_0 (by decide) ?_
  refine lv_istore_n (lv' := [(2, .int 0), (0, .ref ((mA M) 0)), (1, .int tk)]) hx hb dX7_look_1 rfl hl (by decide) rfl (fun ls hl => ?_)
  have hinv := And.intro (show STA D cI (nA M) mv nv H ∧ STA D cI (mA M) mv sv H ∧ tr_S (mOwn M) s.heap H locs from ⟨hN, hM, hS⟩) hl
  clear hN hM hS hl
  revert hinv; revert ls; revert locs; revert H
  refine tr_forw (fun i H locs ls => (STA D cI (nA M) mv (itI i (bX7_look_2 mv sv nv tk) nv) H ∧ STA D cI (mA M) mv sv H ∧ tr_S (mOwn M) s.heap H locs) ∧ lv_has ls 3 [(0, .ref ((mA M) 0)), (1, .int tk), (2, .int (nI i))]) (tk.toNatClampNeg) (fun H locs ls hinv => ?_) ?_
  · obtain ⟨⟨hN, hM, hS⟩, hl⟩ := hinv
    exact ⟨⟨by rw [itI_0]; exact hN, hM, hS⟩, lv_sub hl [1, 2, 0] rfl⟩
  intro i H locs ls hi hinv ih
  obtain ⟨⟨hN, hM, hS⟩, hl⟩ := hinv
  refine lv_iload_n hx hb dX7_look_2 rfl (lv_at hl 2 rfl) ?_
  refine lv_iload_n hx hb dX7_look_3 rfl (lv_at hl 1 rfl) ?_
  refine lv_icmp_ge (tgt := 27) hx hb dX7_look_4 (by decide) (fun c_4 => ?_) (fun c_4 => ?_)
  · have hN : i = tk.toNatClampNeg := tr_over rfl hi c_4
    subst hN
    exact W.vret hx hb hr (hS.end (by rw [fX7_look]; exact ⟨hM, hN⟩)) hS.2.2 dX7_look_27
  · have hlt : i < tk.toNatClampNeg := tr_on rfl hi c_4
    refine lv_aload_n hx hb dX7_look_7 rfl (lv_at hl 0 rfl) ?_
    refine tr_get (ci := 7) (C := RX7) (T := TX7) (N := 6) hx hb hts hiX7 hown hK hM.c0 rfl 5 (by decide) f26 (v := .ref ((nA M) 2)) rfl dX7_look_8 ?_
    refine tr_wv (va_runV (As := []) (rest := []) ⟨hx, hb, hml, hown, hts⟩ (c_X6_turn l D cI (nA M) hd.2.1 mv (itI i (bX7_look_2 mv sv nv tk) nv)  hm (hsafe i hlt).1) (cwV 0 hts gX7_look_X6_turn rfl rfl rfl (by decide +kernel) ⟨Nat.le_of_ble_eq_true rfl, Nat.le_of_ble_eq_true rfl⟩) (tr_preV hK hN.c2 rfl hN) rfl rfl hl.1 rfl (lv_room (Nat.le_of_ble_eq_true rfl)) dX7_look_11 ⟨Nat.zero_le _, Nat.zero_le _⟩) hS mOwn_n (fun H locs hN hz hk hS => ?_)
    replace hM := st_keepO hds hM hk
    clear hk hz
    refine lv_aload_n hx hb dX7_look_14 rfl (lv_at hl 0 rfl) ?_
    refine tr_get (ci := 7) (C := RX7) (T := TX7) (N := 6) hx hb hts hiX7 hown hK hM.c0 rfl 5 (by decide) f26 (v := .ref ((nA M) 2)) rfl dX7_look_15 ?_
    refine tr_wv (va_runV (As := []) (rest := []) ⟨hx, hb, hml, hown, hts⟩ (c_X6_pass l D cI (nA M) hd.2.1 mv (fX6_turn mv (itI i (bX7_look_2 mv sv nv tk) nv))  hm (hsafe i hlt).2.1 (hsafe i hlt).2.2.1 (hsafe i hlt).2.2.2.1 (hsafe i hlt).2.2.2.2) (cwV 0 hts gX7_look_X6_pass rfl rfl rfl (by decide +kernel) ⟨Nat.le_of_ble_eq_true rfl, Nat.le_of_ble_eq_true rfl⟩) (tr_preV hK hN.c2 rfl hN) rfl rfl hl.1 rfl (lv_room (Nat.le_of_ble_eq_true rfl)) dX7_look_18 ⟨Nat.zero_le _, Nat.zero_le _⟩) hS mOwn_n (fun H locs hN hz hk hS => ?_)
    replace hM := st_keepO hds hM hk
    clear hk hz
    refine lv_iinc (v := nI (i + 1)) (lv' := [(2, .int (nI (i + 1))), (0, .ref ((mA M) 0)), (1, .int tk)]) hx hb dX7_look_21 hl (k := 2) rfl (tr_inc _) (by decide) rfl (fun ls hl => ?_)
    refine lv_goto (tgt := 2) hx hb dX7_look_24 (by decide) ?_
    have e9 : itI (i + 1) (bX7_look_2 mv sv nv tk) nv = fX6_pass mv (fX6_turn mv (itI i (bX7_look_2 mv sv nv tk) nv)) := by rw [itI_s, bX7_look_2]
    exact ih H locs ls hlt ⟨⟨by rw [e9]; exact hN, hM, hS⟩, lv_sub hl [1, 2, 0] rfl⟩
def fX7_foresee (mv : LV) (sv : LV) (nv : LV) (tk : Int32) (wh : Int32) : LV × LV × LV :=
  (if (fX7_isIn tk 1 150) = 0 then (lSc (lSc mv 0 0) 0 1, sv, nv) else (if (fX7_isIn wh 0 2) = 0 then (lSc (lSc mv 0 0) 0 2, sv, nv) else (if wh = 0 then (lSc mv 0 0, sv, itI tk.toNatClampNeg (tickM (lSc mv 0 0)) (fX6_become (lSc mv 0 0) nv sv)) else (if wh = 1 then (lSc mv 0 0, sv, itI tk.toNatClampNeg (tickM (lSc mv 0 0)) (fX6_become (lSc mv 0 0) nv sv)) else (lSc mv 0 0, sv, itI tk.toNatClampNeg (tickM (lSc mv 0 0)) (fX6_become (lSc mv 0 0) nv sv))))))
def rX7_foresee (mv : LV) (sv : LV) (nv : LV) (tk : Int32) (wh : Int32) : Int32 :=
  (if (fX7_isIn tk 1 150) = 0 then 0 else (if (fX7_isIn wh 0 2) = 0 then 0 else (if wh = 0 then ((itI tk.toNatClampNeg (tickM (lSc mv 0 0)) (fX6_become (lSc mv 0 0) nv sv)).1 1) - (sv.1 1) else (if wh = 1 then fX6_waiting (lSc mv 0 0) (itI tk.toNatClampNeg (tickM (lSc mv 0 0)) (fX6_become (lSc mv 0 0) nv sv)) else fX6_brokenOnes (lSc mv 0 0) (itI tk.toNatClampNeg (tickM (lSc mv 0 0)) (fX6_become (lSc mv 0 0) nv sv))))))
set_option maxHeartbeats 4000000 in
set_option maxRecDepth 100000 in
theorem c_X7_foresee (l : Launch) (D : va_G) (cI : ClassId) (M : Nat → Nat) (hMi : MInj M) (mv sv nv : LV) (tk : Int32) (wh : Int32) (hm : mOK mv) (hsafe : ∀ k, k < tk.toNatClampNeg → TSafe (lSc mv 0 0) (itI k (tickM (lSc mv 0 0)) (fX6_become (lSc mv 0 0) nv sv))) : Met l yX7_foresee wsX7_foresee ({ frames := 5, cells := 0, slots := 0, locals := 110 }) (tr_Pc D cI [.ref ((mA M) 0), .int tk, .int wh] (MPT D cI M (mv, sv, nv))) (tr_Q (some (.int (rX7_foresee mv sv nv tk wh))) (MPT D cI M (fX7_foresee mv sv nv tk wh)) (mOwn M)) 0 0 (mOwn M) := by
  refine Met.ofW (cc := cX7_foresee) (maxL := 3) (ret := (some .int)) (by decide) rfl ?_
  intro p e s m args below meth c s₁ B hml hv
  obtain ⟨rfl, ⟨hM, hN⟩, hK⟩ := hv
  have hx := B.exec
  have hb := B.bytes
  have hr := B.returns
  have hts := atoms_spec (ws := wsX7_foresee) B.pre
  have hown : s.vm.findClass RX7 = some m.cls := findClass_of_methodNamed B.named
  have hlocks := B.notSynchronized
  have hd := mn_dis hMi
  have hds := nm_dis hMi
  replace hM : STA D cI (mA M) mv sv s.heap := hM
  replace hN : STA D cI (nA M) mv nv s.heap := hN
  have hiX6 : ∀ w ∈ u_ws RX6 TX6 19, w ∈ wsX7_foresee := by decide +kernel
  have hiX7 : ∀ w ∈ u_ws RX7 TX7 6, w ∈ wsX7_foresee := by decide +kernel
  have f22 := hts (.fieldLink RX7 22 "TramRibbonModel" "s" "LTramRibbonModel$State;") (by decide +kernel)
  have f26 := hts (.fieldLink RX7 26 "TramRibbonModel" "next" "LTramRibbonModel$State;") (by decide +kernel)
  have f32 := hts (.fieldLink RX7 32 "TramRibbonModel" "thrown" "I") (by decide +kernel)
  have hl := lv_entry ([.ref ((mA M) 0), .int tk, .int wh]) (n := 3) (Nat.le_of_ble_eq_true rfl)
  rw [lg_entry_eq]
  generalize (lg_sl ([.ref ((mA M) 0), .int tk, .int wh]) ++ List.replicate (3 - (lg_sl ([.ref ((mA M) 0), .int tk, .int wh])).length) Slot.unset).toArray = ls at hl ⊢
  replace hl : lv_has ls 3 [(0, .ref ((mA M) 0)), (1, .int tk), (2, .int wh)] := hl
  have hS : tr_S (mOwn M) s.heap s.heap [] := tr_S.rf
  generalize h1 : s.heap = H, h2 : ([] : List Loc) = locs
  replace hS : tr_S (mOwn M) s.heap H locs := by rw [← h1, ← h2]; exact hS
  rw [h1] at hM hN
  clear h1 h2
  refine lv_aload_n hx hb dX7_foresee_0 rfl (lv_at hl 0 rfl) ?_
  refine lv_iconst (v := 0) hx hb dX7_foresee_1 (by decide) ?_
  refine tr_put (ci := 7) (C := RX7) (T := TX7) (N := 6) (ty := .int) (v := .int 0) hx hb hts hiX7 tyX7 tyX7_ok nmX7 hown hK hS (mOwn_k (k := 0) (by decide)) hM.c0 rfl 0 (by decide) f32 rfl (by decide +kernel) rfl rfl (Nat.le_of_ble_eq_true rfl) dX7_foresee_2 (fun H locs hat hz hk hS => ?_)
  have hM : STA D cI (mA M) (lSc mv 0 0) sv H := hM.setM hd.1 0 hat rfl rfl hk
  have hN : STA D cI (nA M) (lSc mv 0 0) nv H := hN.setM hd.2.1 0 hat rfl rfl hk
  clear hat hz hk
  refine lv_iload_n hx hb dX7_foresee_5 rfl (lv_at hl 1 rfl) ?_
  refine lv_iconst (v := 1) hx hb dX7_foresee_6 (by decide) ?_
  refine lv_sipush (v := 150) hx hb dX7_foresee_7 (by decide) ?_
  refine tr_ri (va_runS (As := [.int tk, .int 1, .int 150]) (rest := []) ⟨hx, hb, hml, hown, hts⟩ (c_X7_isIn l D cI tk 1 150) (va_cwS 3 hts gX7_foresee_X7_isIn rfl rfl rfl (by decide +kernel) ⟨Nat.le_of_ble_eq_true rfl, Nat.le_of_ble_eq_true rfl⟩) (tr_preS hK trivial) rfl rfl hl.1 rfl (lv_room (Nat.le_of_ble_eq_true rfl)) dX7_foresee_10 ⟨Nat.zero_le _, Nat.zero_le _⟩) ?_
  refine lv_if_ne (tgt := 22) hx hb dX7_foresee_13 (by decide) (fun c_13 => ?_) (fun c_13 => ?_)
  · refine lv_iload_n hx hb dX7_foresee_22 rfl (lv_at hl 2 rfl) ?_
    refine lv_iconst (v := 0) hx hb dX7_foresee_23 (by decide) ?_
    refine lv_iconst (v := 2) hx hb dX7_foresee_24 (by decide) ?_
    refine tr_ri (va_runS (As := [.int wh, .int 0, .int 2]) (rest := []) ⟨hx, hb, hml, hown, hts⟩ (c_X7_isIn l D cI wh 0 2) (va_cwS 3 hts gX7_foresee_X7_isIn rfl rfl rfl (by decide +kernel) ⟨Nat.le_of_ble_eq_true rfl, Nat.le_of_ble_eq_true rfl⟩) (tr_preS hK trivial) rfl rfl hl.1 rfl (lv_room (Nat.le_of_ble_eq_true rfl)) dX7_foresee_25 ⟨Nat.zero_le _, Nat.zero_le _⟩) ?_
    refine lv_if_ne (tgt := 37) hx hb dX7_foresee_28 (by decide) (fun c_28 => ?_) (fun c_28 => ?_)
    · refine lv_aload_n hx hb dX7_foresee_37 rfl (lv_at hl 0 rfl) ?_
      refine tr_get (ci := 7) (C := RX7) (T := TX7) (N := 6) hx hb hts hiX7 hown hK hM.c0 rfl 5 (by decide) f26 (v := .ref ((nA M) 2)) rfl dX7_foresee_38 ?_
      refine lv_aload_n hx hb dX7_foresee_41 rfl (lv_at hl 0 rfl) ?_
      refine tr_get (ci := 7) (C := RX7) (T := TX7) (N := 6) hx hb hts hiX7 hown hK hM.c0 rfl 4 (by decide) f22 (v := .ref ((mA M) 2)) rfl dX7_foresee_42 ?_
      refine tr_cv (va_runV (As := [.ref ((mA M) 2)]) (rest := []) ⟨hx, hb, hml, hown, hts⟩ (c_X6_become l D cI (nA M) (mA M) hds (lSc mv 0 0) nv sv) (cwV 1 hts gX7_foresee_X6_become rfl rfl rfl (by decide +kernel) ⟨Nat.le_of_ble_eq_true rfl, Nat.le_of_ble_eq_true rfl⟩) (tr_preV hK hN.c2 rfl ⟨hN, hM⟩) rfl rfl hl.1 rfl (lv_room (Nat.le_of_ble_eq_true rfl)) dX7_foresee_45 ⟨Nat.zero_le _, Nat.zero_le _⟩) hS mOwn_b (fun H locs h9 hS => ?_)
      obtain ⟨hN, hM⟩ := h9
      refine lv_aload_n hx hb dX7_foresee_48 rfl (lv_at hl 0 rfl) ?_
      refine lv_iload_n hx hb dX7_foresee_49 rfl (lv_at hl 1 rfl) ?_
      refine tr_cv (va_runV (As := [.int tk]) (rest := []) ⟨hx, hb, hml, hown, hts⟩ (c_X7_look l D cI M hMi (lSc mv 0 0) sv (fX6_become (lSc mv 0 0) nv sv) tk hm hsafe) (cwV 1 hts gX7_foresee_X7_look rfl rfl rfl (by decide +kernel) ⟨Nat.le_of_ble_eq_true rfl, Nat.le_of_ble_eq_true rfl⟩) (tr_preV hK hM.c0 rfl ⟨hM, hN⟩) rfl rfl hl.1 rfl (lv_room (Nat.le_of_ble_eq_true rfl)) dX7_foresee_50 ⟨Nat.zero_le _, Nat.zero_le _⟩) hS (fun _ h => h) (fun H locs h9 hS => ?_)
      have hM : STA D cI (mA M) (lSc mv 0 0) sv H := h9.1
      have hN : STA D cI (nA M) (lSc mv 0 0) (itI tk.toNatClampNeg (tickM (lSc mv 0 0)) (fX6_become (lSc mv 0 0) nv sv)) H := h9.2
      clear h9
      refine lv_iload_n hx hb dX7_foresee_53 rfl (lv_at hl 2 rfl) ?_
      refine lv_if_ne (tgt := 75) hx hb dX7_foresee_54 (by decide) (fun c_54 => ?_) (fun c_54 => ?_)
      · refine lv_iload_n hx hb dX7_foresee_75 rfl (lv_at hl 2 rfl) ?_
        refine lv_iconst (v := 1) hx hb dX7_foresee_76 (by decide) ?_
        refine lv_icmp_ne (tgt := 90) hx hb dX7_foresee_77 (by decide) (fun c_77 => ?_) (fun c_77 => ?_)
        · refine lv_aload_n hx hb dX7_foresee_90 rfl (lv_at hl 0 rfl) ?_
          refine tr_get (ci := 7) (C := RX7) (T := TX7) (N := 6) hx hb hts hiX7 hown hK hM.c0 rfl 5 (by decide) f26 (v := .ref ((nA M) 2)) rfl dX7_foresee_91 ?_
          refine tr_ri (va_runV (As := []) (rest := []) ⟨hx, hb, hml, hown, hts⟩ (c_X6_brokenOnes l D cI (nA M) hd.2.1 (lSc mv 0 0) (itI tk.toNatClampNeg (tickM (lSc mv 0 0)) (fX6_become (lSc mv 0 0) nv sv))  hm) (cwV 0 hts gX7_foresee_X6_brokenOnes rfl rfl rfl (by decide +kernel) ⟨Nat.le_of_ble_eq_true rfl, Nat.le_of_ble_eq_true rfl⟩) (tr_preV hK hN.c2 rfl hN) rfl rfl hl.1 rfl (lv_room (Nat.le_of_ble_eq_true rfl)) dX7_foresee_94 ⟨Nat.zero_le _, Nat.zero_le _⟩) ?_
          exact W.iret hx hb hr (hS.endr (by rw [rX7_foresee, if_neg c_13, if_neg c_28, if_neg c_54, if_neg c_77]) (by rw [fX7_foresee, if_neg c_13, if_neg c_28, if_neg c_54, if_neg c_77]; exact ⟨hM, hN⟩)) hS.2.2 dX7_foresee_97
        · refine lv_aload_n hx hb dX7_foresee_80 rfl (lv_at hl 0 rfl) ?_
          refine tr_get (ci := 7) (C := RX7) (T := TX7) (N := 6) hx hb hts hiX7 hown hK hM.c0 rfl 5 (by decide) f26 (v := .ref ((nA M) 2)) rfl dX7_foresee_81 ?_
          refine tr_ri (va_runV (As := []) (rest := []) ⟨hx, hb, hml, hown, hts⟩ (c_X6_waiting l D cI (nA M) hd.2.1 (lSc mv 0 0) (itI tk.toNatClampNeg (tickM (lSc mv 0 0)) (fX6_become (lSc mv 0 0) nv sv))  hm) (cwV 0 hts gX7_foresee_X6_waiting rfl rfl rfl (by decide +kernel) ⟨Nat.le_of_ble_eq_true rfl, Nat.le_of_ble_eq_true rfl⟩) (tr_preV hK hN.c2 rfl hN) rfl rfl hl.1 rfl (lv_room (Nat.le_of_ble_eq_true rfl)) dX7_foresee_84 ⟨Nat.zero_le _, Nat.zero_le _⟩) ?_
          refine lv_goto (tgt := 97) hx hb dX7_foresee_87 (by decide) ?_
          exact W.iret hx hb hr (hS.endr (by rw [rX7_foresee, if_neg c_13, if_neg c_28, if_neg c_54, if_pos c_77]) (by rw [fX7_foresee, if_neg c_13, if_neg c_28, if_neg c_54, if_pos c_77]; exact ⟨hM, hN⟩)) hS.2.2 dX7_foresee_97
      · refine lv_aload_n hx hb dX7_foresee_57 rfl (lv_at hl 0 rfl) ?_
        refine tr_get (ci := 7) (C := RX7) (T := TX7) (N := 6) hx hb hts hiX7 hown hK hM.c0 rfl 5 (by decide) f26 (v := .ref ((nA M) 2)) rfl dX7_foresee_58 ?_
        refine tr_getN (host := "TramRibbonModel") (ci := 6) (C := RX6) (T := TX6) (N := 19) hx hb hts hiX6 hown hK hN.c2 rfl 1 (by decide) (by decide +kernel) (v := .int ((itI tk.toNatClampNeg (tickM (lSc mv 0 0)) (fX6_become (lSc mv 0 0) nv sv)).1 1)) rfl dX7_foresee_61 ?_
        refine lv_aload_n hx hb dX7_foresee_64 rfl (lv_at hl 0 rfl) ?_
        refine tr_get (ci := 7) (C := RX7) (T := TX7) (N := 6) hx hb hts hiX7 hown hK hM.c0 rfl 4 (by decide) f22 (v := .ref ((mA M) 2)) rfl dX7_foresee_65 ?_
        refine tr_getN (host := "TramRibbonModel") (ci := 6) (C := RX6) (T := TX6) (N := 19) hx hb hts hiX6 hown hK hM.c2 rfl 1 (by decide) (by decide +kernel) (v := .int (sv.1 1)) rfl dX7_foresee_68 ?_
        refine lv_isub hx hb dX7_foresee_71 ?_
        refine lv_goto (tgt := 97) hx hb dX7_foresee_72 (by decide) ?_
        exact W.iret hx hb hr (hS.endr (by rw [rX7_foresee, if_neg c_13, if_neg c_28, if_pos c_54]) (by rw [fX7_foresee, if_neg c_13, if_neg c_28, if_pos c_54]; exact ⟨hM, hN⟩)) hS.2.2 dX7_foresee_97
    · refine lv_aload_n hx hb dX7_foresee_31 rfl (lv_at hl 0 rfl) ?_
      refine lv_iconst (v := 2) hx hb dX7_foresee_32 (by decide) ?_
      refine tr_ci (va_runV (As := [.int 2]) (rest := []) ⟨hx, hb, hml, hown, hts⟩ (c_X7_no l D cI M hMi (lSc mv 0 0) sv nv 2 ) (cwV 1 hts gX7_foresee_X7_no rfl rfl rfl (by decide +kernel) ⟨Nat.le_of_ble_eq_true rfl, Nat.le_of_ble_eq_true rfl⟩) (tr_preV hK hM.c0 rfl ⟨hM, hN⟩) rfl rfl hl.1 rfl (lv_room (Nat.le_of_ble_eq_true rfl)) dX7_foresee_33 ⟨Nat.zero_le _, Nat.zero_le _⟩) hS (fun _ h => h) (fun H locs h9 hS => ?_)
      have hM : STA D cI (mA M) (lSc (lSc mv 0 0) 0 2) sv H := h9.1
      have hN : STA D cI (nA M) (lSc (lSc mv 0 0) 0 2) nv H := h9.2
      clear h9
      exact W.iret hx hb hr (hS.endr (by rw [rX7_foresee, if_neg c_13, if_pos c_28]) (by rw [fX7_foresee, if_neg c_13, if_pos c_28]; exact ⟨hM, hN⟩)) hS.2.2 dX7_foresee_36
  · refine lv_aload_n hx hb dX7_foresee_16 rfl (lv_at hl 0 rfl) ?_
    refine lv_iconst (v := 1) hx hb dX7_foresee_17 (by decide) ?_
    refine tr_ci (va_runV (As := [.int 1]) (rest := []) ⟨hx, hb, hml, hown, hts⟩ (c_X7_no l D cI M hMi (lSc mv 0 0) sv nv 1 ) (cwV 1 hts gX7_foresee_X7_no rfl rfl rfl (by decide +kernel) ⟨Nat.le_of_ble_eq_true rfl, Nat.le_of_ble_eq_true rfl⟩) (tr_preV hK hM.c0 rfl ⟨hM, hN⟩) rfl rfl hl.1 rfl (lv_room (Nat.le_of_ble_eq_true rfl)) dX7_foresee_18 ⟨Nat.zero_le _, Nat.zero_le _⟩) hS (fun _ h => h) (fun H locs h9 hS => ?_)
    have hM : STA D cI (mA M) (lSc (lSc mv 0 0) 0 1) sv H := h9.1
    have hN : STA D cI (nA M) (lSc (lSc mv 0 0) 0 1) nv H := h9.2
    clear h9
    exact W.iret hx hb hr (hS.endr (by rw [rX7_foresee, if_pos c_13]) (by rw [fX7_foresee, if_pos c_13]; exact ⟨hM, hN⟩)) hS.2.2 dX7_foresee_21
def bX7_needs_51 (mv : LV) (sv : LV) (nv : LV) (q : Int32) (tk : Int32) (i : Nat) (a : LV) : LV :=
  fX6_pass (lSc mv 0 0) (fX6_turn (lSc mv 0 0) a)
def bX7_needs_51_3 (mv : LV) (sv : LV) (nv : LV) (q : Int32) (tk : Int32) (i : Nat) (a : Int32) : Int32 :=
  aMax a (fX6_drawn (lSc mv 0 0) (fX6_turn (lSc mv 0 0) (itI i (bX7_needs_51 mv sv nv q tk) (fX6_become (lSc mv 0 0) nv sv))) q)
def fX7_needs (mv : LV) (sv : LV) (nv : LV) (q : Int32) (tk : Int32) : LV × LV × LV :=
  (if (fX7_isSection (lSc mv 0 0) sv nv q) = 0 then (lSc (lSc mv 0 0) 0 1, sv, nv) else (if (fX7_isIn tk 1 100) = 0 then (lSc (lSc mv 0 0) 0 2, sv, nv) else (lSc mv 0 0, sv, itI tk.toNatClampNeg (bX7_needs_51 mv sv nv q tk) (fX6_become (lSc mv 0 0) nv sv))))
def rX7_needs (mv : LV) (sv : LV) (nv : LV) (q : Int32) (tk : Int32) : Int32 :=
  (if (fX7_isSection (lSc mv 0 0) sv nv q) = 0 then 0 else (if (fX7_isIn tk 1 100) = 0 then 0 else itI tk.toNatClampNeg (bX7_needs_51_3 mv sv nv q tk) 0))
set_option maxHeartbeats 4000000 in
set_option maxRecDepth 100000 in
theorem c_X7_needs (l : Launch) (D : va_G) (cI : ClassId) (M : Nat → Nat) (hMi : MInj M) (mv sv nv : LV) (q : Int32) (tk : Int32) (hm : mOK mv) (hsafe : ∀ k, k < tk.toNatClampNeg → TSafe (lSc mv 0 0) (itI k (tickM (lSc mv 0 0)) (fX6_become (lSc mv 0 0) nv sv))) : Met l yX7_needs wsX7_needs ({ frames := 4, cells := 0, slots := 0, locals := 88 }) (tr_Pc D cI [.ref ((mA M) 0), .int q, .int tk] (MPT D cI M (mv, sv, nv))) (tr_Q (some (.int (rX7_needs mv sv nv q tk))) (MPT D cI M (fX7_needs mv sv nv q tk)) (mOwn M)) 0 0 (mOwn M) := by
  refine Met.ofW (cc := cX7_needs) (maxL := 5) (ret := (some .int)) (by decide) rfl ?_
  intro p e s m args below meth c s₁ B hml hv
  obtain ⟨rfl, ⟨hM, hN⟩, hK⟩ := hv
  have hx := B.exec
  have hb := B.bytes
  have hr := B.returns
  have hts := atoms_spec (ws := wsX7_needs) B.pre
  have hown : s.vm.findClass RX7 = some m.cls := findClass_of_methodNamed B.named
  have hlocks := B.notSynchronized
  have hd := mn_dis hMi
  have hds := nm_dis hMi
  replace hM : STA D cI (mA M) mv sv s.heap := hM
  replace hN : STA D cI (nA M) mv nv s.heap := hN
  have hiX7 : ∀ w ∈ u_ws RX7 TX7 6, w ∈ wsX7_needs := by decide +kernel
  have f22 := hts (.fieldLink RX7 22 "TramRibbonModel" "s" "LTramRibbonModel$State;") (by decide +kernel)
  have f26 := hts (.fieldLink RX7 26 "TramRibbonModel" "next" "LTramRibbonModel$State;") (by decide +kernel)
  have f32 := hts (.fieldLink RX7 32 "TramRibbonModel" "thrown" "I") (by decide +kernel)
  have mC_max := hts (.code Lib.Math.max.name Lib.Math.max.code 2 (some .int)) (by decide +kernel)
  have mI := hts (.initialized "java/lang/Math") (by decide +kernel)
  have mL75 := hts (.methodLink RX7 75 Lib.Math.max.name) (by decide +kernel)
  have mS_max := hts (.static Lib.Math.max.name) (by decide +kernel)
  have hl := lv_entry ([.ref ((mA M) 0), .int q, .int tk]) (n := 5) (Nat.le_of_ble_eq_true rfl)
  rw [lg_entry_eq]
  generalize (lg_sl ([.ref ((mA M) 0), .int q, .int tk]) ++ List.replicate (5 - (lg_sl ([.ref ((mA M) 0), .int q, .int tk])).length) Slot.unset).toArray = ls at hl ⊢
  replace hl : lv_has ls 5 [(0, .ref ((mA M) 0)), (1, .int q), (2, .int tk)] := hl
  have hS : tr_S (mOwn M) s.heap s.heap [] := tr_S.rf
  generalize h1 : s.heap = H, h2 : ([] : List Loc) = locs
  replace hS : tr_S (mOwn M) s.heap H locs := by rw [← h1, ← h2]; exact hS
  rw [h1] at hM hN
  clear h1 h2
  refine lv_aload_n hx hb dX7_needs_0 rfl (lv_at hl 0 rfl) ?_
  refine lv_iconst (v := 0) hx hb dX7_needs_1 (by decide) ?_
  refine tr_put (ci := 7) (C := RX7) (T := TX7) (N := 6) (ty := .int) (v := .int 0) hx hb hts hiX7 tyX7 tyX7_ok nmX7 hown hK hS (mOwn_k (k := 0) (by decide)) hM.c0 rfl 0 (by decide) f32 rfl (by decide +kernel) rfl rfl (Nat.le_of_ble_eq_true rfl) dX7_needs_2 (fun H locs hat hz hk hS => ?_)
  have hM : STA D cI (mA M) (lSc mv 0 0) sv H := hM.setM hd.1 0 hat rfl rfl hk
  have hN : STA D cI (nA M) (lSc mv 0 0) nv H := hN.setM hd.2.1 0 hat rfl rfl hk
  clear hat hz hk
  refine lv_aload_n hx hb dX7_needs_5 rfl (lv_at hl 0 rfl) ?_
  refine lv_iload_n hx hb dX7_needs_6 rfl (lv_at hl 1 rfl) ?_
  refine tr_ri (va_runV (As := [.int q]) (rest := []) ⟨hx, hb, hml, hown, hts⟩ (c_X7_isSection l D cI M hMi (lSc mv 0 0) sv nv q ) (cwV 1 hts gX7_needs_X7_isSection rfl rfl rfl (by decide +kernel) ⟨Nat.le_of_ble_eq_true rfl, Nat.le_of_ble_eq_true rfl⟩) (tr_preV hK hM.c0 rfl ⟨hM, hN⟩) rfl rfl hl.1 rfl (lv_room (Nat.le_of_ble_eq_true rfl)) dX7_needs_7 ⟨Nat.zero_le _, Nat.zero_le _⟩) ?_
  refine lv_if_ne (tgt := 19) hx hb dX7_needs_10 (by decide) (fun c_10 => ?_) (fun c_10 => ?_)
  · refine lv_iload_n hx hb dX7_needs_19 rfl (lv_at hl 2 rfl) ?_
    refine lv_iconst (v := 1) hx hb dX7_needs_20 (by decide) ?_
    refine lv_bipush (v := 100) hx hb dX7_needs_21 (by decide) ?_
    refine tr_ri (va_runS (As := [.int tk, .int 1, .int 100]) (rest := []) ⟨hx, hb, hml, hown, hts⟩ (c_X7_isIn l D cI tk 1 100) (va_cwS 3 hts gX7_needs_X7_isIn rfl rfl rfl (by decide +kernel) ⟨Nat.le_of_ble_eq_true rfl, Nat.le_of_ble_eq_true rfl⟩) (tr_preS hK trivial) rfl rfl hl.1 rfl (lv_room (Nat.le_of_ble_eq_true rfl)) dX7_needs_23 ⟨Nat.zero_le _, Nat.zero_le _⟩) ?_
    refine lv_if_ne (tgt := 35) hx hb dX7_needs_26 (by decide) (fun c_26 => ?_) (fun c_26 => ?_)
    · refine lv_aload_n hx hb dX7_needs_35 rfl (lv_at hl 0 rfl) ?_
      refine tr_get (ci := 7) (C := RX7) (T := TX7) (N := 6) hx hb hts hiX7 hown hK hM.c0 rfl 5 (by decide) f26 (v := .ref ((nA M) 2)) rfl dX7_needs_36 ?_
      refine lv_aload_n hx hb dX7_needs_39 rfl (lv_at hl 0 rfl) ?_
      refine tr_get (ci := 7) (C := RX7) (T := TX7) (N := 6) hx hb hts hiX7 hown hK hM.c0 rfl 4 (by decide) f22 (v := .ref ((mA M) 2)) rfl dX7_needs_40 ?_
      refine tr_cv (va_runV (As := [.ref ((mA M) 2)]) (rest := []) ⟨hx, hb, hml, hown, hts⟩ (c_X6_become l D cI (nA M) (mA M) hds (lSc mv 0 0) nv sv) (cwV 1 hts gX7_needs_X6_become rfl rfl rfl (by decide +kernel) ⟨Nat.le_of_ble_eq_true rfl, Nat.le_of_ble_eq_true rfl⟩) (tr_preV hK hN.c2 rfl ⟨hN, hM⟩) rfl rfl hl.1 rfl (lv_room (Nat.le_of_ble_eq_true rfl)) dX7_needs_43 ⟨Nat.zero_le _, Nat.zero_le _⟩) hS mOwn_b (fun H locs h9 hS => ?_)
      obtain ⟨hN, hM⟩ := h9
      refine lv_iconst (v := 0) hx hb dX7_needs_46 (by decide) ?_
      refine lv_istore_n (lv' := [(3, .int 0), (0, .ref ((mA M) 0)), (1, .int q), (2, .int tk)]) hx hb dX7_needs_47 rfl hl (by decide) rfl (fun ls hl => ?_)
      refine lv_iconst (v := 0) hx hb dX7_needs_48 (by decide) ?_
      refine lv_istore (lv' := [(4, .int 0), (3, .int 0), (0, .ref ((mA M) 0)), (1, .int q), (2, .int tk)]) hx hb dX7_needs_49 hl (by decide) rfl (fun ls hl => ?_)
      have hinv := And.intro (show STA D cI (nA M) (lSc mv 0 0) (fX6_become (lSc mv 0 0) nv sv) H ∧ STA D cI (mA M) (lSc mv 0 0) sv H ∧ tr_S (mOwn M) s.heap H locs from ⟨hN, hM, hS⟩) hl
      clear hN hM hS hl
      revert hinv; revert ls; revert locs; revert H
      refine tr_forw (fun i H locs ls => (STA D cI (nA M) (lSc mv 0 0) (itI i (bX7_needs_51 mv sv nv q tk) (fX6_become (lSc mv 0 0) nv sv)) H ∧ STA D cI (mA M) (lSc mv 0 0) sv H ∧ tr_S (mOwn M) s.heap H locs) ∧ lv_has ls 5 [(0, .ref ((mA M) 0)), (1, .int q), (2, .int tk), (3, .int (itI i (bX7_needs_51_3 mv sv nv q tk) 0)), (4, .int (nI i))]) (tk.toNatClampNeg) (fun H locs ls hinv => ?_) ?_
      · obtain ⟨⟨hN, hM, hS⟩, hl⟩ := hinv
        exact ⟨⟨by rw [itI_0]; exact hN, hM, hS⟩, lv_sub hl [2, 3, 4, 1, 0] rfl⟩
      intro i H locs ls hi hinv ih
      obtain ⟨⟨hN, hM, hS⟩, hl⟩ := hinv
      refine lv_iload hx hb dX7_needs_51 (lv_at hl 4 rfl) ?_
      refine lv_iload_n hx hb dX7_needs_53 rfl (lv_at hl 2 rfl) ?_
      refine lv_icmp_ge (tgt := 90) hx hb dX7_needs_54 (by decide) (fun c_54 => ?_) (fun c_54 => ?_)
      · have hN : i = tk.toNatClampNeg := tr_over rfl hi c_54
        subst hN
        refine lv_iload_n hx hb dX7_needs_90 rfl (lv_at hl 3 rfl) ?_
        exact W.iret hx hb hr (hS.endr (by rw [rX7_needs, if_neg c_10, if_neg c_26]) (by rw [fX7_needs, if_neg c_10, if_neg c_26]; exact ⟨hM, hN⟩)) hS.2.2 dX7_needs_91
      · have hlt : i < tk.toNatClampNeg := tr_on rfl hi c_54
        refine lv_aload_n hx hb dX7_needs_57 rfl (lv_at hl 0 rfl) ?_
        refine tr_get (ci := 7) (C := RX7) (T := TX7) (N := 6) hx hb hts hiX7 hown hK hM.c0 rfl 5 (by decide) f26 (v := .ref ((nA M) 2)) rfl dX7_needs_58 ?_
        refine tr_wv (va_runV (As := []) (rest := []) ⟨hx, hb, hml, hown, hts⟩ (c_X6_turn l D cI (nA M) hd.2.1 (lSc mv 0 0) (itI i (bX7_needs_51 mv sv nv q tk) (fX6_become (lSc mv 0 0) nv sv))  hm (hsafe i hlt).1) (cwV 0 hts gX7_needs_X6_turn rfl rfl rfl (by decide +kernel) ⟨Nat.le_of_ble_eq_true rfl, Nat.le_of_ble_eq_true rfl⟩) (tr_preV hK hN.c2 rfl hN) rfl rfl hl.1 rfl (lv_room (Nat.le_of_ble_eq_true rfl)) dX7_needs_61 ⟨Nat.zero_le _, Nat.zero_le _⟩) hS mOwn_n (fun H locs hN hz hk hS => ?_)
        replace hM := st_keepO hds hM hk
        clear hk hz
        refine lv_iload_n hx hb dX7_needs_64 rfl (lv_at hl 3 rfl) ?_
        refine lv_aload_n hx hb dX7_needs_65 rfl (lv_at hl 0 rfl) ?_
        refine tr_get (ci := 7) (C := RX7) (T := TX7) (N := 6) hx hb hts hiX7 hown hK hM.c0 rfl 5 (by decide) f26 (v := .ref ((nA M) 2)) rfl dX7_needs_66 ?_
        refine lv_iload_n hx hb dX7_needs_69 rfl (lv_at hl 1 rfl) ?_
        refine tr_ri (va_runV (As := [.int q]) (rest := [.int (itI i (bX7_needs_51_3 mv sv nv q tk) 0)]) ⟨hx, hb, hml, hown, hts⟩ (c_X6_drawn l D cI (nA M) hd.2.1 (lSc mv 0 0) (fX6_turn (lSc mv 0 0) (itI i (bX7_needs_51 mv sv nv q tk) (fX6_become (lSc mv 0 0) nv sv))) q hm) (cwV 1 hts gX7_needs_X6_drawn rfl rfl rfl (by decide +kernel) ⟨Nat.le_of_ble_eq_true rfl, Nat.le_of_ble_eq_true rfl⟩) (tr_preV hK hN.c2 rfl hN) rfl rfl hl.1 rfl (lv_room (Nat.le_of_ble_eq_true rfl)) dX7_needs_70 ⟨Nat.zero_le _, Nat.zero_le _⟩) ?_
        refine tr_max hx hb (by rw [hml]; exact hl.1.symm) hown mL75 mS_max mI mC_max (Nat.le_of_ble_eq_true rfl) (Nat.le_of_ble_eq_true rfl) (Nat.zero_le _) (Nat.zero_le _) dX7_needs_73 ?_
        refine lv_istore_n (lv' := [(3, .int (aMax (itI i (bX7_needs_51_3 mv sv nv q tk) 0) (fX6_drawn (lSc mv 0 0) (fX6_turn (lSc mv 0 0) (itI i (bX7_needs_51 mv sv nv q tk) (fX6_become (lSc mv 0 0) nv sv))) q))), (0, .ref ((mA M) 0)), (1, .int q), (2, .int tk), (4, .int (nI i))]) hx hb dX7_needs_76 rfl hl (by decide) rfl (fun ls hl => ?_)
        refine lv_aload_n hx hb dX7_needs_77 rfl (lv_at hl 1 rfl) ?_
        refine tr_get (ci := 7) (C := RX7) (T := TX7) (N := 6) hx hb hts hiX7 hown hK hM.c0 rfl 5 (by decide) f26 (v := .ref ((nA M) 2)) rfl dX7_needs_78 ?_
        refine tr_wv (va_runV (As := []) (rest := []) ⟨hx, hb, hml, hown, hts⟩ (c_X6_pass l D cI (nA M) hd.2.1 (lSc mv 0 0) (fX6_turn (lSc mv 0 0) (itI i (bX7_needs_51 mv sv nv q tk) (fX6_become (lSc mv 0 0) nv sv)))  hm (hsafe i hlt).2.1 (hsafe i hlt).2.2.1 (hsafe i hlt).2.2.2.1 (hsafe i hlt).2.2.2.2) (cwV 0 hts gX7_needs_X6_pass rfl rfl rfl (by decide +kernel) ⟨Nat.le_of_ble_eq_true rfl, Nat.le_of_ble_eq_true rfl⟩) (tr_preV hK hN.c2 rfl hN) rfl rfl hl.1 rfl (lv_room (Nat.le_of_ble_eq_true rfl)) dX7_needs_81 ⟨Nat.zero_le _, Nat.zero_le _⟩) hS mOwn_n (fun H locs hN hz hk hS => ?_)
        replace hM := st_keepO hds hM hk
        clear hk hz
        refine lv_iinc (v := nI (i + 1)) (lv' := [(4, .int (nI (i + 1))), (3, .int (aMax (itI i (bX7_needs_51_3 mv sv nv q tk) 0) (fX6_drawn (lSc mv 0 0) (fX6_turn (lSc mv 0 0) (itI i (bX7_needs_51 mv sv nv q tk) (fX6_become (lSc mv 0 0) nv sv))) q))), (0, .ref ((mA M) 0)), (1, .int q), (2, .int tk)]) hx hb dX7_needs_84 hl (k := 4) rfl (tr_inc _) (by decide) rfl (fun ls hl => ?_)
        refine lv_goto (tgt := 51) hx hb dX7_needs_87 (by decide) ?_
        have e_3 : itI (i + 1) (bX7_needs_51_3 mv sv nv q tk) 0 = aMax (itI i (bX7_needs_51_3 mv sv nv q tk) 0) (fX6_drawn (lSc mv 0 0) (fX6_turn (lSc mv 0 0) (itI i (bX7_needs_51 mv sv nv q tk) (fX6_become (lSc mv 0 0) nv sv))) q) := by rw [itI_s, bX7_needs_51_3]
        have e9 : itI (i + 1) (bX7_needs_51 mv sv nv q tk) (fX6_become (lSc mv 0 0) nv sv) = fX6_pass (lSc mv 0 0) (fX6_turn (lSc mv 0 0) (itI i (bX7_needs_51 mv sv nv q tk) (fX6_become (lSc mv 0 0) nv sv))) := by rw [itI_s, bX7_needs_51]
        exact ih H locs ls hlt ⟨⟨by rw [e9]; exact hN, hM, hS⟩, by rw [e_3]; exact lv_sub hl [2, 3, 4, 1, 0] rfl⟩
    · refine lv_aload_n hx hb dX7_needs_29 rfl (lv_at hl 0 rfl) ?_
      refine lv_iconst (v := 2) hx hb dX7_needs_30 (by decide) ?_
      refine tr_ci (va_runV (As := [.int 2]) (rest := []) ⟨hx, hb, hml, hown, hts⟩ (c_X7_no l D cI M hMi (lSc mv 0 0) sv nv 2 ) (cwV 1 hts gX7_needs_X7_no rfl rfl rfl (by decide +kernel) ⟨Nat.le_of_ble_eq_true rfl, Nat.le_of_ble_eq_true rfl⟩) (tr_preV hK hM.c0 rfl ⟨hM, hN⟩) rfl rfl hl.1 rfl (lv_room (Nat.le_of_ble_eq_true rfl)) dX7_needs_31 ⟨Nat.zero_le _, Nat.zero_le _⟩) hS (fun _ h => h) (fun H locs h9 hS => ?_)
      have hM : STA D cI (mA M) (lSc (lSc mv 0 0) 0 2) sv H := h9.1
      have hN : STA D cI (nA M) (lSc (lSc mv 0 0) 0 2) nv H := h9.2
      clear h9
      exact W.iret hx hb hr (hS.endr (by rw [rX7_needs, if_neg c_10, if_pos c_26]) (by rw [fX7_needs, if_neg c_10, if_pos c_26]; exact ⟨hM, hN⟩)) hS.2.2 dX7_needs_34
  · refine lv_aload_n hx hb dX7_needs_13 rfl (lv_at hl 0 rfl) ?_
    refine lv_iconst (v := 1) hx hb dX7_needs_14 (by decide) ?_
    refine tr_ci (va_runV (As := [.int 1]) (rest := []) ⟨hx, hb, hml, hown, hts⟩ (c_X7_no l D cI M hMi (lSc mv 0 0) sv nv 1 ) (cwV 1 hts gX7_needs_X7_no rfl rfl rfl (by decide +kernel) ⟨Nat.le_of_ble_eq_true rfl, Nat.le_of_ble_eq_true rfl⟩) (tr_preV hK hM.c0 rfl ⟨hM, hN⟩) rfl rfl hl.1 rfl (lv_room (Nat.le_of_ble_eq_true rfl)) dX7_needs_15 ⟨Nat.zero_le _, Nat.zero_le _⟩) hS (fun _ h => h) (fun H locs h9 hS => ?_)
    have hM : STA D cI (mA M) (lSc (lSc mv 0 0) 0 1) sv H := h9.1
    have hN : STA D cI (nA M) (lSc (lSc mv 0 0) 0 1) nv H := h9.2
    clear h9
    exact W.iret hx hb hr (hS.endr (by rw [rX7_needs, if_pos c_10]) (by rw [fX7_needs, if_pos c_10]; exact ⟨hM, hN⟩)) hS.2.2 dX7_needs_18
theorem canCut_in {mv sv nv : LV} {k : Int32} (hm : mOK mv) (h : ¬ fX7_canCut mv sv nv k = 0) : vp_in k 16 := by
  unfold fX7_canCut at h
  by_cases h1 : k ≤ 0
  · rw [if_pos h1] at h; exact absurd rfl h
  · rw [if_neg h1] at h
    by_cases h2 : (mv.1 1) - 1 ≤ k
    · rw [if_pos h2] at h; exact absurd rfl h
    · exact canCut_ix hm h1 h2
def bX7_advise_50 (mv : LV) (sv : LV) (nv : LV) (tk : Int32) (i : Nat) (a : LV) : LV :=
  (if (fX7_canCut (lSc mv 0 0) sv a (nI i)) = 0 then a else itI tk.toNatClampNeg (tickM (lSc mv 0 0)) (fX6_cut (lSc mv 0 0) (fX6_become (lSc mv 0 0) a sv) (nI i)))
def bX7_advise_50_2 (mv : LV) (sv : LV) (nv : LV) (tk : Int32) (i : Nat) (a : Int32) : Int32 :=
  (if (fX7_canCut (lSc mv 0 0) sv (itI i (bX7_advise_50 mv sv nv tk) (itI tk.toNatClampNeg (tickM (lSc mv 0 0)) (fX6_become (lSc mv 0 0) nv sv))) (nI i)) = 0 then a else (if a < ((itI tk.toNatClampNeg (tickM (lSc mv 0 0)) (fX6_cut (lSc mv 0 0) (fX6_become (lSc mv 0 0) (itI i (bX7_advise_50 mv sv nv tk) (itI tk.toNatClampNeg (tickM (lSc mv 0 0)) (fX6_become (lSc mv 0 0) nv sv))) sv) (nI i))).1 1) then (itI tk.toNatClampNeg (tickM (lSc mv 0 0)) (fX6_cut (lSc mv 0 0) (fX6_become (lSc mv 0 0) (itI i (bX7_advise_50 mv sv nv tk) (itI tk.toNatClampNeg (tickM (lSc mv 0 0)) (fX6_become (lSc mv 0 0) nv sv))) sv) (nI i))).1 1 else a))
def bX7_advise_50_3 (mv : LV) (sv : LV) (nv : LV) (tk : Int32) (i : Nat) (a : Int32) : Int32 :=
  (if (fX7_canCut (lSc mv 0 0) sv (itI i (bX7_advise_50 mv sv nv tk) (itI tk.toNatClampNeg (tickM (lSc mv 0 0)) (fX6_become (lSc mv 0 0) nv sv))) (nI i)) = 0 then a else (if (itI i (bX7_advise_50_2 mv sv nv tk) ((itI tk.toNatClampNeg (tickM (lSc mv 0 0)) (fX6_become (lSc mv 0 0) nv sv)).1 1)) < ((itI tk.toNatClampNeg (tickM (lSc mv 0 0)) (fX6_cut (lSc mv 0 0) (fX6_become (lSc mv 0 0) (itI i (bX7_advise_50 mv sv nv tk) (itI tk.toNatClampNeg (tickM (lSc mv 0 0)) (fX6_become (lSc mv 0 0) nv sv))) sv) (nI i))).1 1) then nI i else a))
def fX7_advise (mv : LV) (sv : LV) (nv : LV) (tk : Int32) : LV × LV × LV :=
  (if (fX7_isIn tk 1 100) = 0 then (lSc (lSc mv 0 0) 0 1, sv, nv) else (lSc mv 0 0, sv, itI ((mv.1 1).toNatClampNeg) (bX7_advise_50 mv sv nv tk) (itI tk.toNatClampNeg (tickM (lSc mv 0 0)) (fX6_become (lSc mv 0 0) nv sv))))
def rX7_advise (mv : LV) (sv : LV) (nv : LV) (tk : Int32) : Int32 :=
  (if (fX7_isIn tk 1 100) = 0 then 0 else itI ((mv.1 1).toNatClampNeg) (bX7_advise_50_3 mv sv nv tk) (-1))
set_option maxHeartbeats 4000000 in
set_option maxRecDepth 100000 in
theorem c_X7_advise (l : Launch) (D : va_G) (cI : ClassId) (M : Nat → Nat) (hMi : MInj M) (mv sv nv : LV) (tk : Int32) (hm : mOK mv) (hcut : cOK sv) (hn : nOK sv) (hq : ∀ (mv a : LV) (k : Int32), ¬ fX7_canCut mv sv a k = 0 → ∀ a : LV, (fX6_sectionOf mv (fX6_become mv a sv) k).toInt < (sv.1 3).toInt) (hsafe0 : ∀ k, k < tk.toNatClampNeg → TSafe (lSc mv 0 0) (itI k (tickM (lSc mv 0 0)) (fX6_become (lSc mv 0 0) nv sv))) (hsafe1 : ∀ (a : LV) (po : Int32) k, k < tk.toNatClampNeg → ¬ fX7_canCut (lSc mv 0 0) sv a po = 0 → TSafe (lSc mv 0 0) (itI k (tickM (lSc mv 0 0)) (fX6_cut (lSc mv 0 0) (fX6_become (lSc mv 0 0) a sv) po))) : Met l yX7_advise wsX7_advise ({ frames := 5, cells := 0, slots := 0, locals := 110 }) (tr_Pc D cI [.ref ((mA M) 0), .int tk] (MPT D cI M (mv, sv, nv))) (tr_Q (some (.int (rX7_advise mv sv nv tk))) (MPT D cI M (fX7_advise mv sv nv tk)) (mOwn M)) 0 0 (mOwn M) := by
  refine Met.ofW (cc := cX7_advise) (maxL := 5) (ret := (some .int)) (by decide) rfl ?_
  intro p e s m args below meth c s₁ B hml hv
  obtain ⟨rfl, ⟨hM, hN⟩, hK⟩ := hv
  have hx := B.exec
  have hb := B.bytes
  have hr := B.returns
  have hts := atoms_spec (ws := wsX7_advise) B.pre
  have hown : s.vm.findClass RX7 = some m.cls := findClass_of_methodNamed B.named
  have hlocks := B.notSynchronized
  have hd := mn_dis hMi
  have hds := nm_dis hMi
  replace hM : STA D cI (mA M) mv sv s.heap := hM
  replace hN : STA D cI (nA M) mv nv s.heap := hN
  have hiX6 : ∀ w ∈ u_ws RX6 TX6 19, w ∈ wsX7_advise := by decide +kernel
  have hiX7 : ∀ w ∈ u_ws RX7 TX7 6, w ∈ wsX7_advise := by decide +kernel
  have f22 := hts (.fieldLink RX7 22 "TramRibbonModel" "s" "LTramRibbonModel$State;") (by decide +kernel)
  have f26 := hts (.fieldLink RX7 26 "TramRibbonModel" "next" "LTramRibbonModel$State;") (by decide +kernel)
  have f32 := hts (.fieldLink RX7 32 "TramRibbonModel" "thrown" "I") (by decide +kernel)
  have f7 := hts (.fieldLink RX7 7 "TramRibbonModel" "poles" "I") (by decide +kernel)
  have hl := lv_entry ([.ref ((mA M) 0), .int tk]) (n := 5) (Nat.le_of_ble_eq_true rfl)
  rw [lg_entry_eq]
  generalize (lg_sl ([.ref ((mA M) 0), .int tk]) ++ List.replicate (5 - (lg_sl ([.ref ((mA M) 0), .int tk])).length) Slot.unset).toArray = ls at hl ⊢
  replace hl : lv_has ls 5 [(0, .ref ((mA M) 0)), (1, .int tk)] := hl
  have hS : tr_S (mOwn M) s.heap s.heap [] := tr_S.rf
  generalize h1 : s.heap = H, h2 : ([] : List Loc) = locs
  replace hS : tr_S (mOwn M) s.heap H locs := by rw [← h1, ← h2]; exact hS
  rw [h1] at hM hN
  clear h1 h2
  refine lv_aload_n hx hb dX7_advise_0 rfl (lv_at hl 0 rfl) ?_
  refine lv_iconst (v := 0) hx hb dX7_advise_1 (by decide) ?_
  refine tr_put (ci := 7) (C := RX7) (T := TX7) (N := 6) (ty := .int) (v := .int 0) hx hb hts hiX7 tyX7 tyX7_ok nmX7 hown hK hS (mOwn_k (k := 0) (by decide)) hM.c0 rfl 0 (by decide) f32 rfl (by decide +kernel) rfl rfl (Nat.le_of_ble_eq_true rfl) dX7_advise_2 (fun H locs hat hz hk hS => ?_)
  have hM : STA D cI (mA M) (lSc mv 0 0) sv H := hM.setM hd.1 0 hat rfl rfl hk
  have hN : STA D cI (nA M) (lSc mv 0 0) nv H := hN.setM hd.2.1 0 hat rfl rfl hk
  clear hat hz hk
  refine lv_iload_n hx hb dX7_advise_5 rfl (lv_at hl 1 rfl) ?_
  refine lv_iconst (v := 1) hx hb dX7_advise_6 (by decide) ?_
  refine lv_bipush (v := 100) hx hb dX7_advise_7 (by decide) ?_
  refine tr_ri (va_runS (As := [.int tk, .int 1, .int 100]) (rest := []) ⟨hx, hb, hml, hown, hts⟩ (c_X7_isIn l D cI tk 1 100) (va_cwS 3 hts gX7_advise_X7_isIn rfl rfl rfl (by decide +kernel) ⟨Nat.le_of_ble_eq_true rfl, Nat.le_of_ble_eq_true rfl⟩) (tr_preS hK trivial) rfl rfl hl.1 rfl (lv_room (Nat.le_of_ble_eq_true rfl)) dX7_advise_9 ⟨Nat.zero_le _, Nat.zero_le _⟩) ?_
  refine lv_if_ne (tgt := 21) hx hb dX7_advise_12 (by decide) (fun c_12 => ?_) (fun c_12 => ?_)
  · refine lv_aload_n hx hb dX7_advise_21 rfl (lv_at hl 0 rfl) ?_
    refine tr_get (ci := 7) (C := RX7) (T := TX7) (N := 6) hx hb hts hiX7 hown hK hM.c0 rfl 5 (by decide) f26 (v := .ref ((nA M) 2)) rfl dX7_advise_22 ?_
    refine lv_aload_n hx hb dX7_advise_25 rfl (lv_at hl 0 rfl) ?_
    refine tr_get (ci := 7) (C := RX7) (T := TX7) (N := 6) hx hb hts hiX7 hown hK hM.c0 rfl 4 (by decide) f22 (v := .ref ((mA M) 2)) rfl dX7_advise_26 ?_
    refine tr_cv (va_runV (As := [.ref ((mA M) 2)]) (rest := []) ⟨hx, hb, hml, hown, hts⟩ (c_X6_become l D cI (nA M) (mA M) hds (lSc mv 0 0) nv sv) (cwV 1 hts gX7_advise_X6_become rfl rfl rfl (by decide +kernel) ⟨Nat.le_of_ble_eq_true rfl, Nat.le_of_ble_eq_true rfl⟩) (tr_preV hK hN.c2 rfl ⟨hN, hM⟩) rfl rfl hl.1 rfl (lv_room (Nat.le_of_ble_eq_true rfl)) dX7_advise_29 ⟨Nat.zero_le _, Nat.zero_le _⟩) hS mOwn_b (fun H locs h9 hS => ?_)
    obtain ⟨hN, hM⟩ := h9
    refine lv_aload_n hx hb dX7_advise_32 rfl (lv_at hl 0 rfl) ?_
    refine lv_iload_n hx hb dX7_advise_33 rfl (lv_at hl 1 rfl) ?_
    refine tr_cv (va_runV (As := [.int tk]) (rest := []) ⟨hx, hb, hml, hown, hts⟩ (c_X7_look l D cI M hMi (lSc mv 0 0) sv (fX6_become (lSc mv 0 0) nv sv) tk hm hsafe0) (cwV 1 hts gX7_advise_X7_look rfl rfl rfl (by decide +kernel) ⟨Nat.le_of_ble_eq_true rfl, Nat.le_of_ble_eq_true rfl⟩) (tr_preV hK hM.c0 rfl ⟨hM, hN⟩) rfl rfl hl.1 rfl (lv_room (Nat.le_of_ble_eq_true rfl)) dX7_advise_34 ⟨Nat.zero_le _, Nat.zero_le _⟩) hS (fun _ h => h) (fun H locs h9 hS => ?_)
    have hM : STA D cI (mA M) (lSc mv 0 0) sv H := h9.1
    have hN : STA D cI (nA M) (lSc mv 0 0) (itI tk.toNatClampNeg (tickM (lSc mv 0 0)) (fX6_become (lSc mv 0 0) nv sv)) H := h9.2
    clear h9
    refine lv_aload_n hx hb dX7_advise_37 rfl (lv_at hl 0 rfl) ?_
    refine tr_get (ci := 7) (C := RX7) (T := TX7) (N := 6) hx hb hts hiX7 hown hK hM.c0 rfl 5 (by decide) f26 (v := .ref ((nA M) 2)) rfl dX7_advise_38 ?_
    refine tr_getN (host := "TramRibbonModel") (ci := 6) (C := RX6) (T := TX6) (N := 19) hx hb hts hiX6 hown hK hN.c2 rfl 1 (by decide) (by decide +kernel) (v := .int ((itI tk.toNatClampNeg (tickM (lSc mv 0 0)) (fX6_become (lSc mv 0 0) nv sv)).1 1)) rfl dX7_advise_41 ?_
    refine lv_istore_n (lv' := [(2, .int ((itI tk.toNatClampNeg (tickM (lSc mv 0 0)) (fX6_become (lSc mv 0 0) nv sv)).1 1)), (0, .ref ((mA M) 0)), (1, .int tk)]) hx hb dX7_advise_44 rfl hl (by decide) rfl (fun ls hl => ?_)
    refine lv_iconst (v := -1) hx hb dX7_advise_45 (by decide) ?_
    refine lv_istore_n (lv' := [(3, .int (-1)), (2, .int ((itI tk.toNatClampNeg (tickM (lSc mv 0 0)) (fX6_become (lSc mv 0 0) nv sv)).1 1)), (0, .ref ((mA M) 0)), (1, .int tk)]) hx hb dX7_advise_46 rfl hl (by decide) rfl (fun ls hl => ?_)
    refine lv_iconst (v := 0) hx hb dX7_advise_47 (by decide) ?_
    refine lv_istore (lv' := [(4, .int 0), (3, .int (-1)), (2, .int ((itI tk.toNatClampNeg (tickM (lSc mv 0 0)) (fX6_become (lSc mv 0 0) nv sv)).1 1)), (0, .ref ((mA M) 0)), (1, .int tk)]) hx hb dX7_advise_48 hl (by decide) rfl (fun ls hl => ?_)
    have hinv := And.intro (show STA D cI (nA M) (lSc mv 0 0) (itI tk.toNatClampNeg (tickM (lSc mv 0 0)) (fX6_become (lSc mv 0 0) nv sv)) H ∧ STA D cI (mA M) (lSc mv 0 0) sv H ∧ tr_S (mOwn M) s.heap H locs from ⟨hN, hM, hS⟩) hl
    clear hN hM hS hl
    revert hinv; revert ls; revert locs; revert H
    refine tr_forw (fun i H locs ls => (STA D cI (nA M) (lSc mv 0 0) (itI i (bX7_advise_50 mv sv nv tk) (itI tk.toNatClampNeg (tickM (lSc mv 0 0)) (fX6_become (lSc mv 0 0) nv sv))) H ∧ STA D cI (mA M) (lSc mv 0 0) sv H ∧ tr_S (mOwn M) s.heap H locs) ∧ lv_has ls 5 [(0, .ref ((mA M) 0)), (1, .int tk), (2, .int (itI i (bX7_advise_50_2 mv sv nv tk) ((itI tk.toNatClampNeg (tickM (lSc mv 0 0)) (fX6_become (lSc mv 0 0) nv sv)).1 1))), (3, .int (itI i (bX7_advise_50_3 mv sv nv tk) (-1))), (4, .int (nI i))]) ((mv.1 1).toNatClampNeg) (fun H locs ls hinv => ?_) ?_
    · obtain ⟨⟨hN, hM, hS⟩, hl⟩ := hinv
      exact ⟨⟨by rw [itI_0]; exact hN, hM, hS⟩, lv_sub hl [3, 4, 2, 1, 0] rfl⟩
    intro i H locs ls hi hinv ih
    obtain ⟨⟨hN, hM, hS⟩, hl⟩ := hinv
    refine lv_iload hx hb dX7_advise_50 (lv_at hl 4 rfl) ?_
    refine lv_aload_n hx hb dX7_advise_52 rfl (lv_at hl 0 rfl) ?_
    refine tr_get (ci := 7) (C := RX7) (T := TX7) (N := 6) hx hb hts hiX7 hown hK hM.c0 rfl 1 (by decide) f7 (v := .int (mv.1 1)) rfl dX7_advise_53 ?_
    refine lv_icmp_ge (tgt := 127) hx hb dX7_advise_56 (by decide) (fun c_56 => ?_) (fun c_56 => ?_)
    · have hN : i = (mv.1 1).toNatClampNeg := tr_over rfl hi c_56
      subst hN
      refine lv_iload_n hx hb dX7_advise_127 rfl (lv_at hl 3 rfl) ?_
      exact W.iret hx hb hr (hS.endr (by rw [rX7_advise, if_neg c_12]) (by rw [fX7_advise, if_neg c_12]; exact ⟨hM, hN⟩)) hS.2.2 dX7_advise_128
    · have hlt : i < (mv.1 1).toNatClampNeg := tr_on rfl hi c_56
      refine lv_aload_n hx hb dX7_advise_59 rfl (lv_at hl 0 rfl) ?_
      refine lv_iload hx hb dX7_advise_60 (lv_at hl 4 rfl) ?_
      refine tr_ri (va_runV (As := [.int (nI i)]) (rest := []) ⟨hx, hb, hml, hown, hts⟩ (c_X7_canCut l D cI M hMi (lSc mv 0 0) sv (itI i (bX7_advise_50 mv sv nv tk) (itI tk.toNatClampNeg (tickM (lSc mv 0 0)) (fX6_become (lSc mv 0 0) nv sv))) (nI i) hm) (cwV 1 hts gX7_advise_X7_canCut rfl rfl rfl (by decide +kernel) ⟨Nat.le_of_ble_eq_true rfl, Nat.le_of_ble_eq_true rfl⟩) (tr_preV hK hM.c0 rfl ⟨hM, hN⟩) rfl rfl hl.1 rfl (lv_room (Nat.le_of_ble_eq_true rfl)) dX7_advise_62 ⟨Nat.zero_le _, Nat.zero_le _⟩) ?_
      refine lv_if_ne (tgt := 71) hx hb dX7_advise_65 (by decide) (fun c_65 => ?_) (fun c_65 => ?_)
      · refine lv_aload_n hx hb dX7_advise_71 rfl (lv_at hl 0 rfl) ?_
        refine tr_get (ci := 7) (C := RX7) (T := TX7) (N := 6) hx hb hts hiX7 hown hK hM.c0 rfl 5 (by decide) f26 (v := .ref ((nA M) 2)) rfl dX7_advise_72 ?_
        refine lv_aload_n hx hb dX7_advise_75 rfl (lv_at hl 0 rfl) ?_
        refine tr_get (ci := 7) (C := RX7) (T := TX7) (N := 6) hx hb hts hiX7 hown hK hM.c0 rfl 4 (by decide) f22 (v := .ref ((mA M) 2)) rfl dX7_advise_76 ?_
        refine tr_cv (va_runV (As := [.ref ((mA M) 2)]) (rest := []) ⟨hx, hb, hml, hown, hts⟩ (c_X6_become l D cI (nA M) (mA M) hds (lSc mv 0 0) (itI i (bX7_advise_50 mv sv nv tk) (itI tk.toNatClampNeg (tickM (lSc mv 0 0)) (fX6_become (lSc mv 0 0) nv sv))) sv) (cwV 1 hts gX7_advise_X6_become rfl rfl rfl (by decide +kernel) ⟨Nat.le_of_ble_eq_true rfl, Nat.le_of_ble_eq_true rfl⟩) (tr_preV hK hN.c2 rfl ⟨hN, hM⟩) rfl rfl hl.1 rfl (lv_room (Nat.le_of_ble_eq_true rfl)) dX7_advise_79 ⟨Nat.zero_le _, Nat.zero_le _⟩) hS mOwn_b (fun H locs h9 hS => ?_)
        obtain ⟨hN, hM⟩ := h9
        refine lv_aload_n hx hb dX7_advise_82 rfl (lv_at hl 0 rfl) ?_
        refine tr_get (ci := 7) (C := RX7) (T := TX7) (N := 6) hx hb hts hiX7 hown hK hM.c0 rfl 5 (by decide) f26 (v := .ref ((nA M) 2)) rfl dX7_advise_83 ?_
        refine lv_iload hx hb dX7_advise_86 (lv_at hl 4 rfl) ?_
        refine tr_wv (va_runV (As := [.int (nI i)]) (rest := []) ⟨hx, hb, hml, hown, hts⟩ (c_X6_cut l D cI (nA M) hd.2.1 (lSc mv 0 0) (fX6_become (lSc mv 0 0) (itI i (bX7_advise_50 mv sv nv tk) (itI tk.toNatClampNeg (tickM (lSc mv 0 0)) (fX6_become (lSc mv 0 0) nv sv))) sv) (nI i) (cOK_of rfl hcut) (canCut_in (mv := lSc mv 0 0) (sv := sv) hm c_65) hn.2 (hq _ _ _ c_65 _)) (cwV 1 hts gX7_advise_X6_cut rfl rfl rfl (by decide +kernel) ⟨Nat.le_of_ble_eq_true rfl, Nat.le_of_ble_eq_true rfl⟩) (tr_preV hK hN.c2 rfl hN) rfl rfl hl.1 rfl (lv_room (Nat.le_of_ble_eq_true rfl)) dX7_advise_88 ⟨Nat.zero_le _, Nat.zero_le _⟩) hS mOwn_n (fun H locs hN hz hk hS => ?_)
        replace hM := st_keepO hds hM hk
        clear hk hz
        refine lv_aload_n hx hb dX7_advise_91 rfl (lv_at hl 0 rfl) ?_
        refine lv_iload_n hx hb dX7_advise_92 rfl (lv_at hl 1 rfl) ?_
        refine tr_cv (va_runV (As := [.int tk]) (rest := []) ⟨hx, hb, hml, hown, hts⟩ (c_X7_look l D cI M hMi (lSc mv 0 0) sv (fX6_cut (lSc mv 0 0) (fX6_become (lSc mv 0 0) (itI i (bX7_advise_50 mv sv nv tk) (itI tk.toNatClampNeg (tickM (lSc mv 0 0)) (fX6_become (lSc mv 0 0) nv sv))) sv) (nI i)) tk hm (fun k hk => hsafe1 _ _ k hk c_65)) (cwV 1 hts gX7_advise_X7_look rfl rfl rfl (by decide +kernel) ⟨Nat.le_of_ble_eq_true rfl, Nat.le_of_ble_eq_true rfl⟩) (tr_preV hK hM.c0 rfl ⟨hM, hN⟩) rfl rfl hl.1 rfl (lv_room (Nat.le_of_ble_eq_true rfl)) dX7_advise_93 ⟨Nat.zero_le _, Nat.zero_le _⟩) hS (fun _ h => h) (fun H locs h9 hS => ?_)
        have hM : STA D cI (mA M) (lSc mv 0 0) sv H := h9.1
        have hN : STA D cI (nA M) (lSc mv 0 0) (itI tk.toNatClampNeg (tickM (lSc mv 0 0)) (fX6_cut (lSc mv 0 0) (fX6_become (lSc mv 0 0) (itI i (bX7_advise_50 mv sv nv tk) (itI tk.toNatClampNeg (tickM (lSc mv 0 0)) (fX6_become (lSc mv 0 0) nv sv))) sv) (nI i))) H := h9.2
        clear h9
        refine lv_aload_n hx hb dX7_advise_96 rfl (lv_at hl 0 rfl) ?_
        refine tr_get (ci := 7) (C := RX7) (T := TX7) (N := 6) hx hb hts hiX7 hown hK hM.c0 rfl 5 (by decide) f26 (v := .ref ((nA M) 2)) rfl dX7_advise_97 ?_
        refine tr_getN (host := "TramRibbonModel") (ci := 6) (C := RX6) (T := TX6) (N := 19) hx hb hts hiX6 hown hK hN.c2 rfl 1 (by decide) (by decide +kernel) (v := .int ((itI tk.toNatClampNeg (tickM (lSc mv 0 0)) (fX6_cut (lSc mv 0 0) (fX6_become (lSc mv 0 0) (itI i (bX7_advise_50 mv sv nv tk) (itI tk.toNatClampNeg (tickM (lSc mv 0 0)) (fX6_become (lSc mv 0 0) nv sv))) sv) (nI i))).1 1)) rfl dX7_advise_100 ?_
        refine lv_iload_n hx hb dX7_advise_103 rfl (lv_at hl 2 rfl) ?_
        refine lv_icmp_gt (tgt := 110) hx hb dX7_advise_104 (by decide) (fun c_104 => ?_) (fun c_104 => ?_)
        · refine lv_aload_n hx hb dX7_advise_110 rfl (lv_at hl 0 rfl) ?_
          refine tr_get (ci := 7) (C := RX7) (T := TX7) (N := 6) hx hb hts hiX7 hown hK hM.c0 rfl 5 (by decide) f26 (v := .ref ((nA M) 2)) rfl dX7_advise_111 ?_
          refine tr_getN (host := "TramRibbonModel") (ci := 6) (C := RX6) (T := TX6) (N := 19) hx hb hts hiX6 hown hK hN.c2 rfl 1 (by decide) (by decide +kernel) (v := .int ((itI tk.toNatClampNeg (tickM (lSc mv 0 0)) (fX6_cut (lSc mv 0 0) (fX6_become (lSc mv 0 0) (itI i (bX7_advise_50 mv sv nv tk) (itI tk.toNatClampNeg (tickM (lSc mv 0 0)) (fX6_become (lSc mv 0 0) nv sv))) sv) (nI i))).1 1)) rfl dX7_advise_114 ?_
          refine lv_istore_n (lv' := [(2, .int ((itI tk.toNatClampNeg (tickM (lSc mv 0 0)) (fX6_cut (lSc mv 0 0) (fX6_become (lSc mv 0 0) (itI i (bX7_advise_50 mv sv nv tk) (itI tk.toNatClampNeg (tickM (lSc mv 0 0)) (fX6_become (lSc mv 0 0) nv sv))) sv) (nI i))).1 1)), (0, .ref ((mA M) 0)), (1, .int tk), (3, .int (itI i (bX7_advise_50_3 mv sv nv tk) (-1))), (4, .int (nI i))]) hx hb dX7_advise_117 rfl hl (by decide) rfl (fun ls hl => ?_)
          refine lv_iload hx hb dX7_advise_118 (lv_at hl 4 rfl) ?_
          refine lv_istore_n (lv' := [(3, .int (nI i)), (2, .int ((itI tk.toNatClampNeg (tickM (lSc mv 0 0)) (fX6_cut (lSc mv 0 0) (fX6_become (lSc mv 0 0) (itI i (bX7_advise_50 mv sv nv tk) (itI tk.toNatClampNeg (tickM (lSc mv 0 0)) (fX6_become (lSc mv 0 0) nv sv))) sv) (nI i))).1 1)), (0, .ref ((mA M) 0)), (1, .int tk), (4, .int (nI i))]) hx hb dX7_advise_120 rfl hl (by decide) rfl (fun ls hl => ?_)
          refine lv_iinc (v := nI (i + 1)) (lv' := [(4, .int (nI (i + 1))), (3, .int (nI i)), (2, .int ((itI tk.toNatClampNeg (tickM (lSc mv 0 0)) (fX6_cut (lSc mv 0 0) (fX6_become (lSc mv 0 0) (itI i (bX7_advise_50 mv sv nv tk) (itI tk.toNatClampNeg (tickM (lSc mv 0 0)) (fX6_become (lSc mv 0 0) nv sv))) sv) (nI i))).1 1)), (0, .ref ((mA M) 0)), (1, .int tk)]) hx hb dX7_advise_121 hl (k := 4) rfl (tr_inc _) (by decide) rfl (fun ls hl => ?_)
          refine lv_goto (tgt := 50) hx hb dX7_advise_124 (by decide) ?_
          have e_2 : itI (i + 1) (bX7_advise_50_2 mv sv nv tk) ((itI tk.toNatClampNeg (tickM (lSc mv 0 0)) (fX6_become (lSc mv 0 0) nv sv)).1 1) = (itI tk.toNatClampNeg (tickM (lSc mv 0 0)) (fX6_cut (lSc mv 0 0) (fX6_become (lSc mv 0 0) (itI i (bX7_advise_50 mv sv nv tk) (itI tk.toNatClampNeg (tickM (lSc mv 0 0)) (fX6_become (lSc mv 0 0) nv sv))) sv) (nI i))).1 1 := by first | rw [itI_s, bX7_advise_50_2, if_neg c_65, if_pos c_104] | (rw [itI_s, bX7_advise_50_2]; simp only [if_neg c_65, if_pos c_104])
          have e_3 : itI (i + 1) (bX7_advise_50_3 mv sv nv tk) (-1) = nI i := by first | rw [itI_s, bX7_advise_50_3, if_neg c_65, if_pos c_104] | (rw [itI_s, bX7_advise_50_3]; simp only [if_neg c_65, if_pos c_104])
          have e9 : itI (i + 1) (bX7_advise_50 mv sv nv tk) (itI tk.toNatClampNeg (tickM (lSc mv 0 0)) (fX6_become (lSc mv 0 0) nv sv)) = itI tk.toNatClampNeg (tickM (lSc mv 0 0)) (fX6_cut (lSc mv 0 0) (fX6_become (lSc mv 0 0) (itI i (bX7_advise_50 mv sv nv tk) (itI tk.toNatClampNeg (tickM (lSc mv 0 0)) (fX6_become (lSc mv 0 0) nv sv))) sv) (nI i)) := by first | rw [itI_s, bX7_advise_50, if_neg c_65, if_pos c_104] | (rw [itI_s, bX7_advise_50]; simp only [if_neg c_65, if_pos c_104])
          exact ih H locs ls hlt ⟨⟨by rw [e9]; exact hN, hM, hS⟩, by rw [e_2, e_3]; exact lv_sub hl [3, 4, 2, 1, 0] rfl⟩
        · refine lv_goto (tgt := 121) hx hb dX7_advise_107 (by decide) ?_
          refine lv_iinc (v := nI (i + 1)) (lv' := [(4, .int (nI (i + 1))), (0, .ref ((mA M) 0)), (1, .int tk), (2, .int (itI i (bX7_advise_50_2 mv sv nv tk) ((itI tk.toNatClampNeg (tickM (lSc mv 0 0)) (fX6_become (lSc mv 0 0) nv sv)).1 1))), (3, .int (itI i (bX7_advise_50_3 mv sv nv tk) (-1)))]) hx hb dX7_advise_121 hl (k := 4) rfl (tr_inc _) (by decide) rfl (fun ls hl => ?_)
          refine lv_goto (tgt := 50) hx hb dX7_advise_124 (by decide) ?_
          have e_2 : itI (i + 1) (bX7_advise_50_2 mv sv nv tk) ((itI tk.toNatClampNeg (tickM (lSc mv 0 0)) (fX6_become (lSc mv 0 0) nv sv)).1 1) = itI i (bX7_advise_50_2 mv sv nv tk) ((itI tk.toNatClampNeg (tickM (lSc mv 0 0)) (fX6_become (lSc mv 0 0) nv sv)).1 1) := by first | rw [itI_s, bX7_advise_50_2, if_neg c_65, if_neg c_104] | (rw [itI_s, bX7_advise_50_2]; simp only [if_neg c_65, if_neg c_104])
          have e_3 : itI (i + 1) (bX7_advise_50_3 mv sv nv tk) (-1) = itI i (bX7_advise_50_3 mv sv nv tk) (-1) := by first | rw [itI_s, bX7_advise_50_3, if_neg c_65, if_neg c_104] | (rw [itI_s, bX7_advise_50_3]; simp only [if_neg c_65, if_neg c_104])
          have e9 : itI (i + 1) (bX7_advise_50 mv sv nv tk) (itI tk.toNatClampNeg (tickM (lSc mv 0 0)) (fX6_become (lSc mv 0 0) nv sv)) = itI tk.toNatClampNeg (tickM (lSc mv 0 0)) (fX6_cut (lSc mv 0 0) (fX6_become (lSc mv 0 0) (itI i (bX7_advise_50 mv sv nv tk) (itI tk.toNatClampNeg (tickM (lSc mv 0 0)) (fX6_become (lSc mv 0 0) nv sv))) sv) (nI i)) := by first | rw [itI_s, bX7_advise_50, if_neg c_65, if_neg c_104] | (rw [itI_s, bX7_advise_50]; simp only [if_neg c_65, if_neg c_104])
          exact ih H locs ls hlt ⟨⟨by rw [e9]; exact hN, hM, hS⟩, by rw [e_2, e_3]; exact lv_sub hl [1, 2, 3, 4, 0] rfl⟩
      · refine lv_goto (tgt := 121) hx hb dX7_advise_68 (by decide) ?_
        refine lv_iinc (v := nI (i + 1)) (lv' := [(4, .int (nI (i + 1))), (0, .ref ((mA M) 0)), (1, .int tk), (2, .int (itI i (bX7_advise_50_2 mv sv nv tk) ((itI tk.toNatClampNeg (tickM (lSc mv 0 0)) (fX6_become (lSc mv 0 0) nv sv)).1 1))), (3, .int (itI i (bX7_advise_50_3 mv sv nv tk) (-1)))]) hx hb dX7_advise_121 hl (k := 4) rfl (tr_inc _) (by decide) rfl (fun ls hl => ?_)
        refine lv_goto (tgt := 50) hx hb dX7_advise_124 (by decide) ?_
        have e_2 : itI (i + 1) (bX7_advise_50_2 mv sv nv tk) ((itI tk.toNatClampNeg (tickM (lSc mv 0 0)) (fX6_become (lSc mv 0 0) nv sv)).1 1) = itI i (bX7_advise_50_2 mv sv nv tk) ((itI tk.toNatClampNeg (tickM (lSc mv 0 0)) (fX6_become (lSc mv 0 0) nv sv)).1 1) := by first | rw [itI_s, bX7_advise_50_2, if_pos c_65] | (rw [itI_s, bX7_advise_50_2]; simp only [if_pos c_65])
        have e_3 : itI (i + 1) (bX7_advise_50_3 mv sv nv tk) (-1) = itI i (bX7_advise_50_3 mv sv nv tk) (-1) := by first | rw [itI_s, bX7_advise_50_3, if_pos c_65] | (rw [itI_s, bX7_advise_50_3]; simp only [if_pos c_65])
        have e9 : itI (i + 1) (bX7_advise_50 mv sv nv tk) (itI tk.toNatClampNeg (tickM (lSc mv 0 0)) (fX6_become (lSc mv 0 0) nv sv)) = itI i (bX7_advise_50 mv sv nv tk) (itI tk.toNatClampNeg (tickM (lSc mv 0 0)) (fX6_become (lSc mv 0 0) nv sv)) := by first | rw [itI_s, bX7_advise_50, if_pos c_65] | (rw [itI_s, bX7_advise_50]; simp only [if_pos c_65])
        exact ih H locs ls hlt ⟨⟨by rw [e9]; exact hN, hM, hS⟩, by rw [e_2, e_3]; exact lv_sub hl [1, 2, 3, 4, 0] rfl⟩
  · refine lv_aload_n hx hb dX7_advise_15 rfl (lv_at hl 0 rfl) ?_
    refine lv_iconst (v := 1) hx hb dX7_advise_16 (by decide) ?_
    refine tr_ci (va_runV (As := [.int 1]) (rest := []) ⟨hx, hb, hml, hown, hts⟩ (c_X7_no l D cI M hMi (lSc mv 0 0) sv nv 1 ) (cwV 1 hts gX7_advise_X7_no rfl rfl rfl (by decide +kernel) ⟨Nat.le_of_ble_eq_true rfl, Nat.le_of_ble_eq_true rfl⟩) (tr_preV hK hM.c0 rfl ⟨hM, hN⟩) rfl rfl hl.1 rfl (lv_room (Nat.le_of_ble_eq_true rfl)) dX7_advise_17 ⟨Nat.zero_le _, Nat.zero_le _⟩) hS (fun _ h => h) (fun H locs h9 hS => ?_)
    have hM : STA D cI (mA M) (lSc (lSc mv 0 0) 0 1) sv H := h9.1
    have hN : STA D cI (nA M) (lSc (lSc mv 0 0) 0 1) nv H := h9.2
    clear h9
    exact W.iret hx hb hr (hS.endr (by rw [rX7_advise, if_pos c_12]) (by rw [fX7_advise, if_pos c_12]; exact ⟨hM, hN⟩)) hS.2.2 dX7_advise_20
