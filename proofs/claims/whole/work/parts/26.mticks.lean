/-! The Model: ticks -/
def bX7_pass_32 (mv : LV) (sv : LV) (nv : LV) (tk : Int32) (i : Nat) (a : LV) : LV :=
  fX6_pass (lSc mv 0 0) (fX6_turn (lSc mv 0 0) a)
def fX7_pass (mv : LV) (sv : LV) (nv : LV) (tk : Int32) : LV × LV × LV :=
  (if (fX7_isIn tk 1 200) = 0 then (lSc (lSc mv 0 0) 0 1, sv, nv) else (lSc mv 0 0, itI tk.toNatClampNeg (bX7_pass_32 mv sv nv tk) sv, nv))
def rX7_pass (mv : LV) (sv : LV) (nv : LV) (tk : Int32) : Int32 :=
  (if (fX7_isIn tk 1 200) = 0 then 0 else ((itI tk.toNatClampNeg (bX7_pass_32 mv sv nv tk) sv).1 1) - (sv.1 1))
set_option maxHeartbeats 4000000 in
set_option maxRecDepth 100000 in
theorem c_X7_pass (l : Launch) (D : va_G) (cI : ClassId) (M : Nat → Nat) (hMi : MInj M) (mv sv nv : LV) (tk : Int32) (hm : mOK mv) (hsafe : ∀ k, k < tk.toNatClampNeg → TSafe (lSc mv 0 0) (itI k (tickM (lSc mv 0 0)) sv)) : Met l yX7_pass wsX7_pass ({ frames := 4, cells := 0, slots := 0, locals := 88 }) (tr_Pc D cI [.ref ((mA M) 0), .int tk] (MPT D cI M (mv, sv, nv))) (tr_Q (some (.int (rX7_pass mv sv nv tk))) (MPT D cI M (fX7_pass mv sv nv tk)) (mOwn M)) 0 0 (mOwn M) := by
  refine Met.ofW (cc := cX7_pass) (maxL := 4) (ret := (some .int)) (by decide) rfl ?_
  intro p e s m args below meth c s₁ B hml hv
  obtain ⟨rfl, ⟨hM, hN⟩, hK⟩ := hv
  have hx := B.exec
  have hb := B.bytes
  have hr := B.returns
  have hts := atoms_spec (ws := wsX7_pass) B.pre
  have hown : s.vm.findClass RX7 = some m.cls := findClass_of_methodNamed B.named
  have hlocks := B.notSynchronized
  have hd := mn_dis hMi
  have hds := nm_dis hMi
  replace hM : STA D cI (mA M) mv sv s.heap := hM
  replace hN : STA D cI (nA M) mv nv s.heap := hN
  have hiX6 : ∀ w ∈ u_ws RX6 TX6 19, w ∈ wsX7_pass := by decide +kernel
  have hiX7 : ∀ w ∈ u_ws RX7 TX7 6, w ∈ wsX7_pass := by decide +kernel
  have f22 := hts (.fieldLink RX7 22 "TramRibbonModel" "s" "LTramRibbonModel$State;") (by decide +kernel)
  have f32 := hts (.fieldLink RX7 32 "TramRibbonModel" "thrown" "I") (by decide +kernel)
  have hl := lv_entry ([.ref ((mA M) 0), .int tk]) (n := 4) (Nat.le_of_ble_eq_true rfl)
  rw [lg_entry_eq]
  generalize (lg_sl ([.ref ((mA M) 0), .int tk]) ++ List.replicate (4 - (lg_sl ([.ref ((mA M) 0), .int tk])).length) Slot.unset).toArray = ls at hl ⊢
  replace hl : lv_has ls 4 [(0, .ref ((mA M) 0)), (1, .int tk)] := hl
  have hS : tr_S (mOwn M) s.heap s.heap [] := tr_S.rf
  generalize h1 : s.heap = H, h2 : ([] : List Loc) = locs
  replace hS : tr_S (mOwn M) s.heap H locs := by rw [← h1, ← h2]; exact hS
  rw [h1] at hM hN
  clear h1 h2
  refine lv_aload_n hx hb dX7_pass_0 rfl (lv_at hl 0 rfl) ?_
  refine lv_iconst (v := 0) hx hb dX7_pass_1 (by decide) ?_
  refine tr_put (ci := 7) (C := RX7) (T := TX7) (N := 6) (ty := .int) (v := .int 0) hx hb hts hiX7 tyX7 tyX7_ok nmX7 hown hK hS (mOwn_k (k := 0) (by decide)) hM.c0 rfl 0 (by decide) f32 rfl (by decide +kernel) rfl rfl (Nat.le_of_ble_eq_true rfl) dX7_pass_2 (fun H locs hat hz hk hS => ?_)
  have hM : STA D cI (mA M) (lSc mv 0 0) sv H := hM.setM hd.1 0 hat rfl rfl hk
  have hN : STA D cI (nA M) (lSc mv 0 0) nv H := hN.setM hd.2.1 0 hat rfl rfl hk
  clear hat hz hk
  refine lv_iload_n hx hb dX7_pass_5 rfl (lv_at hl 1 rfl) ?_
  refine lv_iconst (v := 1) hx hb dX7_pass_6 (by decide) ?_
  refine lv_sipush (v := 200) hx hb dX7_pass_7 (by decide) ?_
  refine tr_ri (va_runS (As := [.int tk, .int 1, .int 200]) (rest := []) ⟨hx, hb, hml, hown, hts⟩ (c_X7_isIn l D cI tk 1 200) (va_cwS 3 hts gX7_pass_X7_isIn rfl rfl rfl (by decide +kernel) ⟨Nat.le_of_ble_eq_true rfl, Nat.le_of_ble_eq_true rfl⟩) (tr_preS hK trivial) rfl rfl hl.1 rfl (lv_room (Nat.le_of_ble_eq_true rfl)) dX7_pass_10 ⟨Nat.zero_le _, Nat.zero_le _⟩) ?_
  refine lv_if_ne (tgt := 22) hx hb dX7_pass_13 (by decide) (fun c_13 => ?_) (fun c_13 => ?_)
  · refine lv_aload_n hx hb dX7_pass_22 rfl (lv_at hl 0 rfl) ?_
    refine tr_get (ci := 7) (C := RX7) (T := TX7) (N := 6) hx hb hts hiX7 hown hK hM.c0 rfl 4 (by decide) f22 (v := .ref ((mA M) 2)) rfl dX7_pass_23 ?_
    refine tr_getN (host := "TramRibbonModel") (ci := 6) (C := RX6) (T := TX6) (N := 19) hx hb hts hiX6 hown hK hM.c2 rfl 1 (by decide) (by decide +kernel) (v := .int (sv.1 1)) rfl dX7_pass_26 ?_
    refine lv_istore_n (lv' := [(2, .int (sv.1 1)), (0, .ref ((mA M) 0)), (1, .int tk)]) hx hb dX7_pass_29 rfl hl (by decide) rfl (fun ls hl => ?_)
    refine lv_iconst (v := 0) hx hb dX7_pass_30 (by decide) ?_
    refine lv_istore_n (lv' := [(3, .int 0), (2, .int (sv.1 1)), (0, .ref ((mA M) 0)), (1, .int tk)]) hx hb dX7_pass_31 rfl hl (by decide) rfl (fun ls hl => ?_)
    have hinv := And.intro (show STA D cI (mA M) (lSc mv 0 0) sv H ∧ STA D cI (nA M) (lSc mv 0 0) nv H ∧ tr_S (mOwn M) s.heap H locs from ⟨hM, hN, hS⟩) hl
    clear hM hN hS hl
    revert hinv; revert ls; revert locs; revert H
    refine tr_forw (fun i H locs ls => (STA D cI (mA M) (lSc mv 0 0) (itI i (bX7_pass_32 mv sv nv tk) sv) H ∧ STA D cI (nA M) (lSc mv 0 0) nv H ∧ tr_S (mOwn M) s.heap H locs) ∧ lv_has ls 4 [(0, .ref ((mA M) 0)), (1, .int tk), (2, .int (sv.1 1)), (3, .int (nI i))]) (tk.toNatClampNeg) (fun H locs ls hinv => ?_) ?_
    · obtain ⟨⟨hM, hN, hS⟩, hl⟩ := hinv
      exact ⟨⟨by rw [itI_0]; exact hM, hN, hS⟩, lv_sub hl [2, 3, 1, 0] rfl⟩
    intro i H locs ls hi hinv ih
    obtain ⟨⟨hM, hN, hS⟩, hl⟩ := hinv
    refine lv_iload_n hx hb dX7_pass_32 rfl (lv_at hl 3 rfl) ?_
    refine lv_iload_n hx hb dX7_pass_33 rfl (lv_at hl 1 rfl) ?_
    refine lv_icmp_ge (tgt := 57) hx hb dX7_pass_34 (by decide) (fun c_34 => ?_) (fun c_34 => ?_)
    · have hN : i = tk.toNatClampNeg := tr_over rfl hi c_34
      subst hN
      refine lv_aload_n hx hb dX7_pass_57 rfl (lv_at hl 0 rfl) ?_
      refine tr_get (ci := 7) (C := RX7) (T := TX7) (N := 6) hx hb hts hiX7 hown hK hM.c0 rfl 4 (by decide) f22 (v := .ref ((mA M) 2)) rfl dX7_pass_58 ?_
      refine tr_getN (host := "TramRibbonModel") (ci := 6) (C := RX6) (T := TX6) (N := 19) hx hb hts hiX6 hown hK hM.c2 rfl 1 (by decide) (by decide +kernel) (v := .int ((itI tk.toNatClampNeg (bX7_pass_32 mv sv nv tk) sv).1 1)) rfl dX7_pass_61 ?_
      refine lv_iload_n hx hb dX7_pass_64 rfl (lv_at hl 2 rfl) ?_
      refine lv_isub hx hb dX7_pass_65 ?_
      exact W.iret hx hb hr (hS.endr (by rw [rX7_pass, if_neg c_13]) (by rw [fX7_pass, if_neg c_13]; exact ⟨hM, hN⟩)) hS.2.2 dX7_pass_66
    · have hlt : i < tk.toNatClampNeg := tr_on rfl hi c_34
      refine lv_aload_n hx hb dX7_pass_37 rfl (lv_at hl 0 rfl) ?_
      refine tr_get (ci := 7) (C := RX7) (T := TX7) (N := 6) hx hb hts hiX7 hown hK hM.c0 rfl 4 (by decide) f22 (v := .ref ((mA M) 2)) rfl dX7_pass_38 ?_
      refine tr_wv (va_runV (As := []) (rest := []) ⟨hx, hb, hml, hown, hts⟩ (c_X6_turn l D cI (mA M) hd.1 (lSc mv 0 0) (itI i (bX7_pass_32 mv sv nv tk) sv)  hm (hsafe i hlt).1) (cwV 0 hts gX7_pass_X6_turn rfl rfl rfl (by decide +kernel) ⟨Nat.le_of_ble_eq_true rfl, Nat.le_of_ble_eq_true rfl⟩) (tr_preV hK hM.c2 rfl hM) rfl rfl hl.1 rfl (lv_room (Nat.le_of_ble_eq_true rfl)) dX7_pass_41 ⟨Nat.zero_le _, Nat.zero_le _⟩) hS mOwn_s (fun H locs hM hz hk hS => ?_)
      replace hN := st_keepO hd hN hk
      clear hk hz
      refine lv_aload_n hx hb dX7_pass_44 rfl (lv_at hl 0 rfl) ?_
      refine tr_get (ci := 7) (C := RX7) (T := TX7) (N := 6) hx hb hts hiX7 hown hK hM.c0 rfl 4 (by decide) f22 (v := .ref ((mA M) 2)) rfl dX7_pass_45 ?_
      refine tr_wv (va_runV (As := []) (rest := []) ⟨hx, hb, hml, hown, hts⟩ (c_X6_pass l D cI (mA M) hd.1 (lSc mv 0 0) (fX6_turn (lSc mv 0 0) (itI i (bX7_pass_32 mv sv nv tk) sv))  hm (hsafe i hlt).2.1 (hsafe i hlt).2.2.1 (hsafe i hlt).2.2.2.1 (hsafe i hlt).2.2.2.2) (cwV 0 hts gX7_pass_X6_pass rfl rfl rfl (by decide +kernel) ⟨Nat.le_of_ble_eq_true rfl, Nat.le_of_ble_eq_true rfl⟩) (tr_preV hK hM.c2 rfl hM) rfl rfl hl.1 rfl (lv_room (Nat.le_of_ble_eq_true rfl)) dX7_pass_48 ⟨Nat.zero_le _, Nat.zero_le _⟩) hS mOwn_s (fun H locs hM hz hk hS => ?_)
      replace hN := st_keepO hd hN hk
      clear hk hz
      refine lv_iinc (v := nI (i + 1)) (lv' := [(3, .int (nI (i + 1))), (0, .ref ((mA M) 0)), (1, .int tk), (2, .int (sv.1 1))]) hx hb dX7_pass_51 hl (k := 3) rfl (tr_inc _) (by decide) rfl (fun ls hl => ?_)
      refine lv_goto (tgt := 32) hx hb dX7_pass_54 (by decide) ?_
      have e9 : itI (i + 1) (bX7_pass_32 mv sv nv tk) sv = fX6_pass (lSc mv 0 0) (fX6_turn (lSc mv 0 0) (itI i (bX7_pass_32 mv sv nv tk) sv)) := by rw [itI_s, bX7_pass_32]
      exact ih H locs ls hlt ⟨⟨by rw [e9]; exact hM, hN, hS⟩, lv_sub hl [1, 2, 3, 0] rfl⟩
  · refine lv_aload_n hx hb dX7_pass_16 rfl (lv_at hl 0 rfl) ?_
    refine lv_iconst (v := 1) hx hb dX7_pass_17 (by decide) ?_
    refine tr_ci (va_runV (As := [.int 1]) (rest := []) ⟨hx, hb, hml, hown, hts⟩ (c_X7_no l D cI M hMi (lSc mv 0 0) sv nv 1 ) (cwV 1 hts gX7_pass_X7_no rfl rfl rfl (by decide +kernel) ⟨Nat.le_of_ble_eq_true rfl, Nat.le_of_ble_eq_true rfl⟩) (tr_preV hK hM.c0 rfl ⟨hM, hN⟩) rfl rfl hl.1 rfl (lv_room (Nat.le_of_ble_eq_true rfl)) dX7_pass_18 ⟨Nat.zero_le _, Nat.zero_le _⟩) hS (fun _ h => h) (fun H locs h9 hS => ?_)
    have hM : STA D cI (mA M) (lSc (lSc mv 0 0) 0 1) sv H := h9.1
    have hN : STA D cI (nA M) (lSc (lSc mv 0 0) 0 1) nv H := h9.2
    clear h9
    exact W.iret hx hb hr (hS.endr (by rw [rX7_pass, if_pos c_13]) (by rw [fX7_pass, if_pos c_13]; exact ⟨hM, hN⟩)) hS.2.2 dX7_pass_21
def bX7_look_2 (mv : LV) (sv : LV) (nv : LV) (tk : Int32) (i : Nat) (a : LV) : LV :=
  fX6_pass mv (fX6_turn mv a)
def fX7_look (mv : LV) (sv : LV) (nv : LV) (tk : Int32) : LV × LV × LV :=
  (mv, sv, itI tk.toNatClampNeg (bX7_look_2 mv sv nv tk) nv)
set_option maxHeartbeats 4000000 in
set_option maxRecDepth 100000 in
theorem c_X7_look (l : Launch) (D : va_G) (cI : ClassId) (M : Nat → Nat) (hMi : MInj M) (mv sv nv : LV) (tk : Int32) (hm : mOK mv) (hsafe : ∀ k, k < tk.toNatClampNeg → TSafe mv (itI k (tickM mv) nv)) : Met l yX7_look wsX7_look ({ frames := 4, cells := 0, slots := 0, locals := 88 }) (tr_Pc D cI [.ref ((mA M) 0), .int tk] (MPT D cI M (mv, sv, nv))) (tr_Q none (MPT D cI M (fX7_look mv sv nv tk)) (mOwn M)) 0 0 (mOwn M) := by
  refine Met.ofW (cc := cX7_look) (maxL := 3) (ret := none) (by decide) rfl ?_
  intro p e s m args below meth c s₁ B hml hv
  obtain ⟨rfl, ⟨hM, hN⟩, hK⟩ := hv
  have hx := B.exec
  have hb := B.bytes
  have hr := B.returns
  have hts := atoms_spec (ws := wsX7_look) B.pre
  have hown : s.vm.findClass RX7 = some m.cls := findClass_of_methodNamed B.named
  have hlocks := B.notSynchronized
  have hd := mn_dis hMi
  have hds := nm_dis hMi
  replace hM : STA D cI (mA M) mv sv s.heap := hM
  replace hN : STA D cI (nA M) mv nv s.heap := hN
  have hiX7 : ∀ w ∈ u_ws RX7 TX7 6, w ∈ wsX7_look := by decide +kernel
  have f26 := hts (.fieldLink RX7 26 "TramRibbonModel" "next" "LTramRibbonModel$State;") (by decide +kernel)
  have hl := lv_entry ([.ref ((mA M) 0), .int tk]) (n := 3) (Nat.le_of_ble_eq_true rfl)
  rw [lg_entry_eq]
  generalize (lg_sl ([.ref ((mA M) 0), .int tk]) ++ List.replicate (3 - (lg_sl ([.ref ((mA M) 0), .int tk])).length) Slot.unset).toArray = ls at hl ⊢
  replace hl : lv_has ls 3 [(0, .ref ((mA M) 0)), (1, .int tk)] := hl
  have hS : tr_S (mOwn M) s.heap s.heap [] := tr_S.rf
  generalize h1 : s.heap = H, h2 : ([] : List Loc) = locs
  replace hS : tr_S (mOwn M) s.heap H locs := by rw [← h1, ← h2]; exact hS
  rw [h1] at hM hN
  clear h1 h2
  refine lv_iconst (v := 0) hx hb dX7_look_0 (by decide) ?_
  refine lv_istore_n (lv' := [(2, .int 0), (0, .ref ((mA M) 0)), (1, .int tk)]) hx hb dX7_look_1 rfl hl (by decide) rfl (fun ls hl => ?_)
  have hinv := And.intro (show STA D cI (nA M) mv nv H ∧ STA D cI (mA M) mv sv H ∧ tr_S (mOwn M) s.heap H locs from ⟨hN, hM, hS⟩) hl
  clear hN hM hS hl
  revert hinv; revert ls; revert locs; revert H
  refine tr_forw (fun i H locs ls => (STA D cI (nA M) mv (itI i (bX7_look_2 mv sv nv tk) nv) H ∧ STA D cI (mA M) mv sv H ∧ tr_S (mOwn M) s.heap H locs) ∧ lv_has ls 3 [(0, .ref ((mA M) 0)), (1, .int tk), (2, .int (nI i))]) (tk.toNatClampNeg) (fun H locs ls hinv => ?_) ?_
  · obtain ⟨⟨hN, hM, hS⟩, hl⟩ := hinv
    exact ⟨⟨by rw [itI_0]; exact hN, hM, hS⟩, lv_sub hl [1, 2, 0] rfl⟩
  intro i H locs ls hi hinv ih
  obtain ⟨⟨hN, hM, hS⟩, hl⟩ := hinv
  refine lv_iload_n hx hb dX7_look_2 rfl (lv_at hl 2 rfl) ?_
  refine lv_iload_n hx hb dX7_look_3 rfl (lv_at hl 1 rfl) ?_
  refine lv_icmp_ge (tgt := 27) hx hb dX7_look_4 (by decide) (fun c_4 => ?_) (fun c_4 => ?_)
  · have hN : i = tk.toNatClampNeg := tr_over rfl hi c_4
    subst hN
    exact W.vret hx hb hr (hS.end (by rw [fX7_look]; exact ⟨hM, hN⟩)) hS.2.2 dX7_look_27
  · have hlt : i < tk.toNatClampNeg := tr_on rfl hi c_4
    refine lv_aload_n hx hb dX7_look_7 rfl (lv_at hl 0 rfl) ?_
    refine tr_get (ci := 7) (C := RX7) (T := TX7) (N := 6) hx hb hts hiX7 hown hK hM.c0 rfl 5 (by decide) f26 (v := .ref ((nA M) 2)) rfl dX7_look_8 ?_
    refine tr_wv (va_runV (As := []) (rest := []) ⟨hx, hb, hml, hown, hts⟩ (c_X6_turn l D cI (nA M) hd.2.1 mv (itI i (bX7_look_2 mv sv nv tk) nv)  hm (hsafe i hlt).1) (cwV 0 hts gX7_look_X6_turn rfl rfl rfl (by decide +kernel) ⟨Nat.le_of_ble_eq_true rfl, Nat.le_of_ble_eq_true rfl⟩) (tr_preV hK hN.c2 rfl hN) rfl rfl hl.1 rfl (lv_room (Nat.le_of_ble_eq_true rfl)) dX7_look_11 ⟨Nat.zero_le _, Nat.zero_le _⟩) hS mOwn_n (fun H locs hN hz hk hS => ?_)
    replace hM := st_keepO hds hM hk
    clear hk hz
    refine lv_aload_n hx hb dX7_look_14 rfl (lv_at hl 0 rfl) ?_
    refine tr_get (ci := 7) (C := RX7) (T := TX7) (N := 6) hx hb hts hiX7 hown hK hM.c0 rfl 5 (by decide) f26 (v := .ref ((nA M) 2)) rfl dX7_look_15 ?_
    refine tr_wv (va_runV (As := []) (rest := []) ⟨hx, hb, hml, hown, hts⟩ (c_X6_pass l D cI (nA M) hd.2.1 mv (fX6_turn mv (itI i (bX7_look_2 mv sv nv tk) nv))  hm (hsafe i hlt).2.1 (hsafe i hlt).2.2.1 (hsafe i hlt).2.2.2.1 (hsafe i hlt).2.2.2.2) (cwV 0 hts gX7_look_X6_pass rfl rfl rfl (by decide +kernel) ⟨Nat.le_of_ble_eq_true rfl, Nat.le_of_ble_eq_true rfl⟩) (tr_preV hK hN.c2 rfl hN) rfl rfl hl.1 rfl (lv_room (Nat.le_of_ble_eq_true rfl)) dX7_look_18 ⟨Nat.zero_le _, Nat.zero_le _⟩) hS mOwn_n (fun H locs hN hz hk hS => ?_)
    replace hM := st_keepO hds hM hk
    clear hk hz
    refine lv_iinc (v := nI (i + 1)) (lv' := [(2, .int (nI (i + 1))), (0, .ref ((mA M) 0)), (1, .int tk)]) hx hb dX7_look_21 hl (k := 2) rfl (tr_inc _) (by decide) rfl (fun ls hl => ?_)
    refine lv_goto (tgt := 2) hx hb dX7_look_24 (by decide) ?_
    have e9 : itI (i + 1) (bX7_look_2 mv sv nv tk) nv = fX6_pass mv (fX6_turn mv (itI i (bX7_look_2 mv sv nv tk) nv)) := by rw [itI_s, bX7_look_2]
    exact ih H locs ls hlt ⟨⟨by rw [e9]; exact hN, hM, hS⟩, lv_sub hl [1, 2, 0] rfl⟩
def fX7_foresee (mv : LV) (sv : LV) (nv : LV) (tk : Int32) (wh : Int32) : LV × LV × LV :=
  (if (fX7_isIn tk 1 150) = 0 then (lSc (lSc mv 0 0) 0 1, sv, nv) else (if (fX7_isIn wh 0 2) = 0 then (lSc (lSc mv 0 0) 0 2, sv, nv) else (if wh = 0 then (lSc mv 0 0, sv, itI tk.toNatClampNeg (tickM (lSc mv 0 0)) (fX6_become (lSc mv 0 0) nv sv)) else (if wh = 1 then (lSc mv 0 0, sv, itI tk.toNatClampNeg (tickM (lSc mv 0 0)) (fX6_become (lSc mv 0 0) nv sv)) else (lSc mv 0 0, sv, itI tk.toNatClampNeg (tickM (lSc mv 0 0)) (fX6_become (lSc mv 0 0) nv sv))))))
def rX7_foresee (mv : LV) (sv : LV) (nv : LV) (tk : Int32) (wh : Int32) : Int32 :=
  (if (fX7_isIn tk 1 150) = 0 then 0 else (if (fX7_isIn wh 0 2) = 0 then 0 else (if wh = 0 then ((itI tk.toNatClampNeg (tickM (lSc mv 0 0)) (fX6_become (lSc mv 0 0) nv sv)).1 1) - (sv.1 1) else (if wh = 1 then fX6_waiting (lSc mv 0 0) (itI tk.toNatClampNeg (tickM (lSc mv 0 0)) (fX6_become (lSc mv 0 0) nv sv)) else fX6_brokenOnes (lSc mv 0 0) (itI tk.toNatClampNeg (tickM (lSc mv 0 0)) (fX6_become (lSc mv 0 0) nv sv))))))
set_option maxHeartbeats 4000000 in
set_option maxRecDepth 100000 in
theorem c_X7_foresee (l : Launch) (D : va_G) (cI : ClassId) (M : Nat → Nat) (hMi : MInj M) (mv sv nv : LV) (tk : Int32) (wh : Int32) (hm : mOK mv) (hsafe : ∀ k, k < tk.toNatClampNeg → TSafe (lSc mv 0 0) (itI k (tickM (lSc mv 0 0)) (fX6_become (lSc mv 0 0) nv sv))) : Met l yX7_foresee wsX7_foresee ({ frames := 5, cells := 0, slots := 0, locals := 110 }) (tr_Pc D cI [.ref ((mA M) 0), .int tk, .int wh] (MPT D cI M (mv, sv, nv))) (tr_Q (some (.int (rX7_foresee mv sv nv tk wh))) (MPT D cI M (fX7_foresee mv sv nv tk wh)) (mOwn M)) 0 0 (mOwn M) := by
  refine Met.ofW (cc := cX7_foresee) (maxL := 3) (ret := (some .int)) (by decide) rfl ?_
  intro p e s m args below meth c s₁ B hml hv
  obtain ⟨rfl, ⟨hM, hN⟩, hK⟩ := hv
  have hx := B.exec
  have hb := B.bytes
  have hr := B.returns
  have hts := atoms_spec (ws := wsX7_foresee) B.pre
  have hown : s.vm.findClass RX7 = some m.cls := findClass_of_methodNamed B.named
  have hlocks := B.notSynchronized
  have hd := mn_dis hMi
  have hds := nm_dis hMi
  replace hM : STA D cI (mA M) mv sv s.heap := hM
  replace hN : STA D cI (nA M) mv nv s.heap := hN
  have hiX6 : ∀ w ∈ u_ws RX6 TX6 19, w ∈ wsX7_foresee := by decide +kernel
  have hiX7 : ∀ w ∈ u_ws RX7 TX7 6, w ∈ wsX7_foresee := by decide +kernel
  have f22 := hts (.fieldLink RX7 22 "TramRibbonModel" "s" "LTramRibbonModel$State;") (by decide +kernel)
  have f26 := hts (.fieldLink RX7 26 "TramRibbonModel" "next" "LTramRibbonModel$State;") (by decide +kernel)
  have f32 := hts (.fieldLink RX7 32 "TramRibbonModel" "thrown" "I") (by decide +kernel)
  have hl := lv_entry ([.ref ((mA M) 0), .int tk, .int wh]) (n := 3) (Nat.le_of_ble_eq_true rfl)
  rw [lg_entry_eq]
  generalize (lg_sl ([.ref ((mA M) 0), .int tk, .int wh]) ++ List.replicate (3 - (lg_sl ([.ref ((mA M) 0), .int tk, .int wh])).length) Slot.unset).toArray = ls at hl ⊢
  replace hl : lv_has ls 3 [(0, .ref ((mA M) 0)), (1, .int tk), (2, .int wh)] := hl
  have hS : tr_S (mOwn M) s.heap s.heap [] := tr_S.rf
  generalize h1 : s.heap = H, h2 : ([] : List Loc) = locs
  replace hS : tr_S (mOwn M) s.heap H locs := by rw [← h1, ← h2]; exact hS
  rw [h1] at hM hN
  clear h1 h2
  refine lv_aload_n hx hb dX7_foresee_0 rfl (lv_at hl 0 rfl) ?_
  refine lv_iconst (v := 0) hx hb dX7_foresee_1 (by decide) ?_
  refine tr_put (ci := 7) (C := RX7) (T := TX7) (N := 6) (ty := .int) (v := .int 0) hx hb hts hiX7 tyX7 tyX7_ok nmX7 hown hK hS (mOwn_k (k := 0) (by decide)) hM.c0 rfl 0 (by decide) f32 rfl (by decide +kernel) rfl rfl (Nat.le_of_ble_eq_true rfl) dX7_foresee_2 (fun H locs hat hz hk hS => ?_)
  have hM : STA D cI (mA M) (lSc mv 0 0) sv H := hM.setM hd.1 0 hat rfl rfl hk
  have hN : STA D cI (nA M) (lSc mv 0 0) nv H := hN.setM hd.2.1 0 hat rfl rfl hk
  clear hat hz hk
  refine lv_iload_n hx hb dX7_foresee_5 rfl (lv_at hl 1 rfl) ?_
  refine lv_iconst (v := 1) hx hb dX7_foresee_6 (by decide) ?_
  refine lv_sipush (v := 150) hx hb dX7_foresee_7 (by decide) ?_
  refine tr_ri (va_runS (As := [.int tk, .int 1, .int 150]) (rest := []) ⟨hx, hb, hml, hown, hts⟩ (c_X7_isIn l D cI tk 1 150) (va_cwS 3 hts gX7_foresee_X7_isIn rfl rfl rfl (by decide +kernel) ⟨Nat.le_of_ble_eq_true rfl, Nat.le_of_ble_eq_true rfl⟩) (tr_preS hK trivial) rfl rfl hl.1 rfl (lv_room (Nat.le_of_ble_eq_true rfl)) dX7_foresee_10 ⟨Nat.zero_le _, Nat.zero_le _⟩) ?_
  refine lv_if_ne (tgt := 22) hx hb dX7_foresee_13 (by decide) (fun c_13 => ?_) (fun c_13 => ?_)
  · refine lv_iload_n hx hb dX7_foresee_22 rfl (lv_at hl 2 rfl) ?_
    refine lv_iconst (v := 0) hx hb dX7_foresee_23 (by decide) ?_
    refine lv_iconst (v := 2) hx hb dX7_foresee_24 (by decide) ?_
    refine tr_ri (va_runS (As := [.int wh, .int 0, .int 2]) (rest := []) ⟨hx, hb, hml, hown, hts⟩ (c_X7_isIn l D cI wh 0 2) (va_cwS 3 hts gX7_foresee_X7_isIn rfl rfl rfl (by decide +kernel) ⟨Nat.le_of_ble_eq_true rfl, Nat.le_of_ble_eq_true rfl⟩) (tr_preS hK trivial) rfl rfl hl.1 rfl (lv_room (Nat.le_of_ble_eq_true rfl)) dX7_foresee_25 ⟨Nat.zero_le _, Nat.zero_le _⟩) ?_
    refine lv_if_ne (tgt := 37) hx hb dX7_foresee_28 (by decide) (fun c_28 => ?_) (fun c_28 => ?_)
    · refine lv_aload_n hx hb dX7_foresee_37 rfl (lv_at hl 0 rfl) ?_
      refine tr_get (ci := 7) (C := RX7) (T := TX7) (N := 6) hx hb hts hiX7 hown hK hM.c0 rfl 5 (by decide) f26 (v := .ref ((nA M) 2)) rfl dX7_foresee_38 ?_
      refine lv_aload_n hx hb dX7_foresee_41 rfl (lv_at hl 0 rfl) ?_
      refine tr_get (ci := 7) (C := RX7) (T := TX7) (N := 6) hx hb hts hiX7 hown hK hM.c0 rfl 4 (by decide) f22 (v := .ref ((mA M) 2)) rfl dX7_foresee_42 ?_
      refine tr_cv (va_runV (As := [.ref ((mA M) 2)]) (rest := []) ⟨hx, hb, hml, hown, hts⟩ (c_X6_become l D cI (nA M) (mA M) hds (lSc mv 0 0) nv sv) (cwV 1 hts gX7_foresee_X6_become rfl rfl rfl (by decide +kernel) ⟨Nat.le_of_ble_eq_true rfl, Nat.le_of_ble_eq_true rfl⟩) (tr_preV hK hN.c2 rfl ⟨hN, hM⟩) rfl rfl hl.1 rfl (lv_room (Nat.le_of_ble_eq_true rfl)) dX7_foresee_45 ⟨Nat.zero_le _, Nat.zero_le _⟩) hS mOwn_b (fun H locs ⟨hN, hM⟩ hS => ?_)
      refine lv_aload_n hx hb dX7_foresee_48 rfl (lv_at hl 0 rfl) ?_
      refine lv_iload_n hx hb dX7_foresee_49 rfl (lv_at hl 1 rfl) ?_
      refine tr_cv (va_runV (As := [.int tk]) (rest := []) ⟨hx, hb, hml, hown, hts⟩ (c_X7_look l D cI M hMi (lSc mv 0 0) sv (fX6_become (lSc mv 0 0) nv sv) tk hm hsafe) (cwV 1 hts gX7_foresee_X7_look rfl rfl rfl (by decide +kernel) ⟨Nat.le_of_ble_eq_true rfl, Nat.le_of_ble_eq_true rfl⟩) (tr_preV hK hM.c0 rfl ⟨hM, hN⟩) rfl rfl hl.1 rfl (lv_room (Nat.le_of_ble_eq_true rfl)) dX7_foresee_50 ⟨Nat.zero_le _, Nat.zero_le _⟩) hS (fun _ h => h) (fun H locs h9 hS => ?_)
      have hM : STA D cI (mA M) (lSc mv 0 0) sv H := h9.1
      have hN : STA D cI (nA M) (lSc mv 0 0) (itI tk.toNatClampNeg (tickM (lSc mv 0 0)) (fX6_become (lSc mv 0 0) nv sv)) H := h9.2
      clear h9
      refine lv_iload_n hx hb dX7_foresee_53 rfl (lv_at hl 2 rfl) ?_
      refine lv_if_ne (tgt := 75) hx hb dX7_foresee_54 (by decide) (fun c_54 => ?_) (fun c_54 => ?_)
      · refine lv_iload_n hx hb dX7_foresee_75 rfl (lv_at hl 2 rfl) ?_
        refine lv_iconst (v := 1) hx hb dX7_foresee_76 (by decide) ?_
        refine lv_icmp_ne (tgt := 90) hx hb dX7_foresee_77 (by decide) (fun c_77 => ?_) (fun c_77 => ?_)
        · refine lv_aload_n hx hb dX7_foresee_90 rfl (lv_at hl 0 rfl) ?_
          refine tr_get (ci := 7) (C := RX7) (T := TX7) (N := 6) hx hb hts hiX7 hown hK hM.c0 rfl 5 (by decide) f26 (v := .ref ((nA M) 2)) rfl dX7_foresee_91 ?_
          refine tr_ri (va_runV (As := []) (rest := []) ⟨hx, hb, hml, hown, hts⟩ (c_X6_brokenOnes l D cI (nA M) hd.2.1 (lSc mv 0 0) (itI tk.toNatClampNeg (tickM (lSc mv 0 0)) (fX6_become (lSc mv 0 0) nv sv))  hm) (cwV 0 hts gX7_foresee_X6_brokenOnes rfl rfl rfl (by decide +kernel) ⟨Nat.le_of_ble_eq_true rfl, Nat.le_of_ble_eq_true rfl⟩) (tr_preV hK hN.c2 rfl hN) rfl rfl hl.1 rfl (lv_room (Nat.le_of_ble_eq_true rfl)) dX7_foresee_94 ⟨Nat.zero_le _, Nat.zero_le _⟩) ?_
          exact W.iret hx hb hr (hS.endr (by rw [rX7_foresee, if_neg c_13, if_neg c_28, if_neg c_54, if_neg c_77]) (by rw [fX7_foresee, if_neg c_13, if_neg c_28, if_neg c_54, if_neg c_77]; exact ⟨hM, hN⟩)) hS.2.2 dX7_foresee_97
        · refine lv_aload_n hx hb dX7_foresee_80 rfl (lv_at hl 0 rfl) ?_
          refine tr_get (ci := 7) (C := RX7) (T := TX7) (N := 6) hx hb hts hiX7 hown hK hM.c0 rfl 5 (by decide) f26 (v := .ref ((nA M) 2)) rfl dX7_foresee_81 ?_
          refine tr_ri (va_runV (As := []) (rest := []) ⟨hx, hb, hml, hown, hts⟩ (c_X6_waiting l D cI (nA M) hd.2.1 (lSc mv 0 0) (itI tk.toNatClampNeg (tickM (lSc mv 0 0)) (fX6_become (lSc mv 0 0) nv sv))  hm) (cwV 0 hts gX7_foresee_X6_waiting rfl rfl rfl (by decide +kernel) ⟨Nat.le_of_ble_eq_true rfl, Nat.le_of_ble_eq_true rfl⟩) (tr_preV hK hN.c2 rfl hN) rfl rfl hl.1 rfl (lv_room (Nat.le_of_ble_eq_true rfl)) dX7_foresee_84 ⟨Nat.zero_le _, Nat.zero_le _⟩) ?_
          refine lv_goto (tgt := 97) hx hb dX7_foresee_87 (by decide) ?_
          exact W.iret hx hb hr (hS.endr (by rw [rX7_foresee, if_neg c_13, if_neg c_28, if_neg c_54, if_pos c_77]) (by rw [fX7_foresee, if_neg c_13, if_neg c_28, if_neg c_54, if_pos c_77]; exact ⟨hM, hN⟩)) hS.2.2 dX7_foresee_97
      · refine lv_aload_n hx hb dX7_foresee_57 rfl (lv_at hl 0 rfl) ?_
        refine tr_get (ci := 7) (C := RX7) (T := TX7) (N := 6) hx hb hts hiX7 hown hK hM.c0 rfl 5 (by decide) f26 (v := .ref ((nA M) 2)) rfl dX7_foresee_58 ?_
        refine tr_getN (host := "TramRibbonModel") (ci := 6) (C := RX6) (T := TX6) (N := 19) hx hb hts hiX6 hown hK hN.c2 rfl 1 (by decide) (by decide +kernel) (v := .int ((itI tk.toNatClampNeg (tickM (lSc mv 0 0)) (fX6_become (lSc mv 0 0) nv sv)).1 1)) rfl dX7_foresee_61 ?_
        refine lv_aload_n hx hb dX7_foresee_64 rfl (lv_at hl 0 rfl) ?_
        refine tr_get (ci := 7) (C := RX7) (T := TX7) (N := 6) hx hb hts hiX7 hown hK hM.c0 rfl 4 (by decide) f22 (v := .ref ((mA M) 2)) rfl dX7_foresee_65 ?_
        refine tr_getN (host := "TramRibbonModel") (ci := 6) (C := RX6) (T := TX6) (N := 19) hx hb hts hiX6 hown hK hM.c2 rfl 1 (by decide) (by decide +kernel) (v := .int (sv.1 1)) rfl dX7_foresee_68 ?_
        refine lv_isub hx hb dX7_foresee_71 ?_
        refine lv_goto (tgt := 97) hx hb dX7_foresee_72 (by decide) ?_
        exact W.iret hx hb hr (hS.endr (by rw [rX7_foresee, if_neg c_13, if_neg c_28, if_pos c_54]) (by rw [fX7_foresee, if_neg c_13, if_neg c_28, if_pos c_54]; exact ⟨hM, hN⟩)) hS.2.2 dX7_foresee_97
    · refine lv_aload_n hx hb dX7_foresee_31 rfl (lv_at hl 0 rfl) ?_
      refine lv_iconst (v := 2) hx hb dX7_foresee_32 (by decide) ?_
      refine tr_ci (va_runV (As := [.int 2]) (rest := []) ⟨hx, hb, hml, hown, hts⟩ (c_X7_no l D cI M hMi (lSc mv 0 0) sv nv 2 ) (cwV 1 hts gX7_foresee_X7_no rfl rfl rfl (by decide +kernel) ⟨Nat.le_of_ble_eq_true rfl, Nat.le_of_ble_eq_true rfl⟩) (tr_preV hK hM.c0 rfl ⟨hM, hN⟩) rfl rfl hl.1 rfl (lv_room (Nat.le_of_ble_eq_true rfl)) dX7_foresee_33 ⟨Nat.zero_le _, Nat.zero_le _⟩) hS (fun _ h => h) (fun H locs h9 hS => ?_)
      have hM : STA D cI (mA M) (lSc (lSc mv 0 0) 0 2) sv H := h9.1
      have hN : STA D cI (nA M) (lSc (lSc mv 0 0) 0 2) nv H := h9.2
      clear h9
      exact W.iret hx hb hr (hS.endr (by rw [rX7_foresee, if_neg c_13, if_pos c_28]) (by rw [fX7_foresee, if_neg c_13, if_pos c_28]; exact ⟨hM, hN⟩)) hS.2.2 dX7_foresee_36
  · refine lv_aload_n hx hb dX7_foresee_16 rfl (lv_at hl 0 rfl) ?_
    refine lv_iconst (v := 1) hx hb dX7_foresee_17 (by decide) ?_
    refine tr_ci (va_runV (As := [.int 1]) (rest := []) ⟨hx, hb, hml, hown, hts⟩ (c_X7_no l D cI M hMi (lSc mv 0 0) sv nv 1 ) (cwV 1 hts gX7_foresee_X7_no rfl rfl rfl (by decide +kernel) ⟨Nat.le_of_ble_eq_true rfl, Nat.le_of_ble_eq_true rfl⟩) (tr_preV hK hM.c0 rfl ⟨hM, hN⟩) rfl rfl hl.1 rfl (lv_room (Nat.le_of_ble_eq_true rfl)) dX7_foresee_18 ⟨Nat.zero_le _, Nat.zero_le _⟩) hS (fun _ h => h) (fun H locs h9 hS => ?_)
    have hM : STA D cI (mA M) (lSc (lSc mv 0 0) 0 1) sv H := h9.1
    have hN : STA D cI (nA M) (lSc (lSc mv 0 0) 0 1) nv H := h9.2
    clear h9
    exact W.iret hx hb hr (hS.endr (by rw [rX7_foresee, if_pos c_13]) (by rw [fX7_foresee, if_pos c_13]; exact ⟨hM, hN⟩)) hS.2.2 dX7_foresee_21
