/-! The Model: next -/
def bX7_next_32 (mv : LV) (sv : LV) (nv : LV) (po : Int32) (i : Nat) (a : LV) : LV :=
  fX6_pass (lSc mv 0 0) (fX6_turn (lSc mv 0 0) a)
def bX7_next_55 (mv : LV) (sv : LV) (nv : LV) (po : Int32) (i : Nat) (i1 : Nat) : Option Int32 :=
  (if (aAt (fX6_pass (lSc mv 0 0) (fX6_turn (lSc mv 0 0) (itI i (bX7_next_32 mv sv nv po) (fX6_become (lSc mv 0 0) nv sv)))) 13 (nI i1)) = 1 then (if (aAt (fX6_pass (lSc mv 0 0) (fX6_turn (lSc mv 0 0) (itI i (bX7_next_32 mv sv nv po) (fX6_become (lSc mv 0 0) nv sv)))) 6 (nI i1)) = po then some (nI (i + 1)) else none) else none)
def bX7_next_32_g (mv : LV) (sv : LV) (nv : LV) (po : Int32) (i : Nat) : Option Int32 :=
  fstI ((mv.1 2).toNatClampNeg) (bX7_next_55 mv sv nv po i)
def fX7_next (mv : LV) (sv : LV) (nv : LV) (po : Int32) : LV :=
  (if (fX7_isPole (lSc mv 0 0) sv nv po) = 0 then lSc (lSc mv 0 0) 0 1 else lSc mv 0 0)
def rX7_next (mv : LV) (sv : LV) (nv : LV) (po : Int32) : Int32 :=
  (if (fX7_isPole (lSc mv 0 0) sv nv po) = 0 then 0 else ((fstI (150) (bX7_next_32_g mv sv nv po)).getD (-1)))
set_option maxHeartbeats 4000000 in
set_option maxRecDepth 100000 in
theorem c_X7_next (l : Launch) (D : va_G) (cI : ClassId) (M : Nat → Nat) (hMi : MInj M) (mv sv nv : LV) (po : Int32) (hm : mOK mv) (hsafe : ∀ k, k < 150 → TSafe (lSc mv 0 0) (itI k (tickM (lSc mv 0 0)) (fX6_become (lSc mv 0 0) nv sv))) : Met l yX7_next wsX7_next ({ frames := 4, cells := 0, slots := 0, locals := 88 }) (tr_Pc D cI [.ref ((mA M) 0), .int po] (MPT D cI M (mv, sv, nv))) (tr_Q (some (.int (rX7_next mv sv nv po))) (fun H => ∃ n2, MPT D cI M (fX7_next mv sv nv po, sv, n2) H) (mOwn M)) 0 0 (mOwn M) := by
  refine Met.ofW (cc := cX7_next) (maxL := 4) (ret := (some .int)) (by decide) rfl ?_
  intro p e s m args below meth c s₁ B hml hv
  obtain ⟨rfl, ⟨hM, hN⟩, hK⟩ := hv
  have hx := B.exec
  have hb := B.bytes
  have hr := B.returns
  have hts := atoms_spec (ws := wsX7_next) B.pre
  have hown : s.vm.findClass RX7 = some m.cls := findClass_of_methodNamed B.named
  have hlocks := B.notSynchronized
  have hd := mn_dis hMi
  have hds := nm_dis hMi
  replace hM : STA D cI (mA M) mv sv s.heap := hM
  replace hN : STA D cI (nA M) mv nv s.heap := hN
  have hiX6 : ∀ w ∈ u_ws RX6 TX6 19, w ∈ wsX7_next := by decide +kernel
  have hiX7 : ∀ w ∈ u_ws RX7 TX7 6, w ∈ wsX7_next := by decide +kernel
  have f22 := hts (.fieldLink RX7 22 "TramRibbonModel" "s" "LTramRibbonModel$State;") (by decide +kernel)
  have f26 := hts (.fieldLink RX7 26 "TramRibbonModel" "next" "LTramRibbonModel$State;") (by decide +kernel)
  have f32 := hts (.fieldLink RX7 32 "TramRibbonModel" "thrown" "I") (by decide +kernel)
  have f46 := hts (.fieldLink RX7 46 "TramRibbonModel" "cars" "I") (by decide +kernel)
  have hl := lv_entry ([.ref ((mA M) 0), .int po]) (n := 4) (Nat.le_of_ble_eq_true rfl)
  rw [lg_entry_eq]
  generalize (lg_sl ([.ref ((mA M) 0), .int po]) ++ List.replicate (4 - (lg_sl ([.ref ((mA M) 0), .int po])).length) Slot.unset).toArray = ls at hl ⊢
  replace hl : lv_has ls 4 [(0, .ref ((mA M) 0)), (1, .int po)] := hl
  have hS : tr_S (mOwn M) s.heap s.heap [] := tr_S.rf
  generalize h1 : s.heap = H, h2 : ([] : List Loc) = locs
  replace hS : tr_S (mOwn M) s.heap H locs := by rw [← h1, ← h2]; exact hS
  rw [h1] at hM hN
  clear h1 h2
  refine lv_aload_n hx hb dX7_next_0 rfl (lv_at hl 0 rfl) ?_
  refine lv_iconst (v := 0) hx hb dX7_next_1 (by decide) ?_
  refine tr_put (ci := 7) (C := RX7) (T := TX7) (N := 6) (ty := .int) (v := .int 0) hx hb hts hiX7 tyX7 tyX7_ok nmX7 hown hK hS (mOwn_k (k := 0) (by decide)) hM.c0 rfl 0 (by decide) f32 rfl (by decide +kernel) rfl rfl (Nat.le_of_ble_eq_true rfl) dX7_next_2 (fun H locs hat hz hk hS => ?_)
  have hM : STA D cI (mA M) (lSc mv 0 0) sv H := hM.setM hd.1 0 hat rfl rfl hk
  have hN : STA D cI (nA M) (lSc mv 0 0) nv H := hN.setM hd.2.1 0 hat rfl rfl hk
  clear hat hz hk
  refine lv_aload_n hx hb dX7_next_5 rfl (lv_at hl 0 rfl) ?_
  refine lv_iload_n hx hb dX7_next_6 rfl (lv_at hl 1 rfl) ?_
  refine tr_ri (va_runV (As := [.int po]) (rest := []) ⟨hx, hb, hml, hown, hts⟩ (c_X7_isPole l D cI M hMi (lSc mv 0 0) sv nv po ) (cwV 1 hts gX7_next_X7_isPole rfl rfl rfl (by decide +kernel) ⟨Nat.le_of_ble_eq_true rfl, Nat.le_of_ble_eq_true rfl⟩) (tr_preV hK hM.c0 rfl ⟨hM, hN⟩) rfl rfl hl.1 rfl (lv_room (Nat.le_of_ble_eq_true rfl)) dX7_next_7 ⟨Nat.zero_le _, Nat.zero_le _⟩) ?_
  refine lv_if_ne (tgt := 19) hx hb dX7_next_10 (by decide) (fun c_10 => ?_) (fun c_10 => ?_)
  · refine lv_aload_n hx hb dX7_next_19 rfl (lv_at hl 0 rfl) ?_
    refine tr_get (ci := 7) (C := RX7) (T := TX7) (N := 6) hx hb hts hiX7 hown hK hM.c0 rfl 5 (by decide) f26 (v := .ref ((nA M) 2)) rfl dX7_next_20 ?_
    refine lv_aload_n hx hb dX7_next_23 rfl (lv_at hl 0 rfl) ?_
    refine tr_get (ci := 7) (C := RX7) (T := TX7) (N := 6) hx hb hts hiX7 hown hK hM.c0 rfl 4 (by decide) f22 (v := .ref ((mA M) 2)) rfl dX7_next_24 ?_
    refine tr_cv (va_runV (As := [.ref ((mA M) 2)]) (rest := []) ⟨hx, hb, hml, hown, hts⟩ (c_X6_become l D cI (nA M) (mA M) hds (lSc mv 0 0) nv sv) (cwV 1 hts gX7_next_X6_become rfl rfl rfl (by decide +kernel) ⟨Nat.le_of_ble_eq_true rfl, Nat.le_of_ble_eq_true rfl⟩) (tr_preV hK hN.c2 rfl ⟨hN, hM⟩) rfl rfl hl.1 rfl (lv_room (Nat.le_of_ble_eq_true rfl)) dX7_next_27 ⟨Nat.zero_le _, Nat.zero_le _⟩) hS mOwn_b (fun H locs h9 hS => ?_)
    obtain ⟨hN, hM⟩ := h9
    refine lv_iconst (v := 1) hx hb dX7_next_30 (by decide) ?_
    refine lv_istore_n (lv' := [(2, .int 1), (0, .ref ((mA M) 0)), (1, .int po)]) hx hb dX7_next_31 rfl hl (by decide) rfl (fun ls hl => ?_)
    have hinv := And.intro (show STA D cI (nA M) (lSc mv 0 0) (fX6_become (lSc mv 0 0) nv sv) H ∧ STA D cI (mA M) (lSc mv 0 0) sv H ∧ tr_S (mOwn M) s.heap H locs from ⟨hN, hM, hS⟩) hl
    clear hN hM hS hl
    revert hinv; revert ls; revert locs; revert H
    refine tr_forw (fun i H locs ls => fstI i (bX7_next_32_g mv sv nv po) = none ∧ (STA D cI (nA M) (lSc mv 0 0) (itI i (bX7_next_32 mv sv nv po) (fX6_become (lSc mv 0 0) nv sv)) H ∧ STA D cI (mA M) (lSc mv 0 0) sv H ∧ tr_S (mOwn M) s.heap H locs) ∧ lv_has ls 4 [(0, .ref ((mA M) 0)), (1, .int po), (2, .int (nI (i + 1)))]) (150) (fun H locs ls hinv => ?_) ?_
    · obtain ⟨⟨hN, hM, hS⟩, hl⟩ := hinv
      exact ⟨rfl, ⟨by rw [itI_0]; exact hN, hM, hS⟩, lv_sub hl [1, 2, 0] rfl⟩
    intro i H locs ls hi hinv ih
    obtain ⟨hex, ⟨hN, hM, hS⟩, hl⟩ := hinv
    refine lv_iload_n hx hb dX7_next_32 rfl (lv_at hl 2 rfl) ?_
    refine lv_sipush (v := 150) hx hb dX7_next_33 (by decide) ?_
    refine lv_icmp_gt (tgt := 103) hx hb dX7_next_36 (by decide) (fun c_36 => ?_) (fun c_36 => ?_)
    · have hN : i = 150 := tr_overG (rfl : (150 : Int32).toNatClampNeg = 150) hi c_36
      subst hN
      refine lv_iconst (v := -1) hx hb dX7_next_103 (by decide) ?_
      exact W.iret hx hb hr (hS.endr (by rw [rX7_next, if_neg c_10, hex]; rfl) (by rw [fX7_next, if_neg c_10]; exact ⟨_, hM, hN⟩)) hS.2.2 dX7_next_104
    · have hlt : i < 150 := (fun h1 h2 h3 => tr_onG h1 h2 (by decide) h3) (rfl : (150 : Int32).toNatClampNeg = 150) hi c_36
      refine lv_aload_n hx hb dX7_next_39 rfl (lv_at hl 0 rfl) ?_
      refine tr_get (ci := 7) (C := RX7) (T := TX7) (N := 6) hx hb hts hiX7 hown hK hM.c0 rfl 5 (by decide) f26 (v := .ref ((nA M) 2)) rfl dX7_next_40 ?_
      refine tr_wv (va_runV (As := []) (rest := []) ⟨hx, hb, hml, hown, hts⟩ (c_X6_turn l D cI (nA M) hd.2.1 (lSc mv 0 0) (itI i (bX7_next_32 mv sv nv po) (fX6_become (lSc mv 0 0) nv sv))  hm (hsafe i hlt).1) (cwV 0 hts gX7_next_X6_turn rfl rfl rfl (by decide +kernel) ⟨Nat.le_of_ble_eq_true rfl, Nat.le_of_ble_eq_true rfl⟩) (tr_preV hK hN.c2 rfl hN) rfl rfl hl.1 rfl (lv_room (Nat.le_of_ble_eq_true rfl)) dX7_next_43 ⟨Nat.zero_le _, Nat.zero_le _⟩) hS mOwn_n (fun H locs hN hz hk hS => ?_)
      replace hM := st_keepO hds hM hk
      clear hk hz
      refine lv_aload_n hx hb dX7_next_46 rfl (lv_at hl 0 rfl) ?_
      refine tr_get (ci := 7) (C := RX7) (T := TX7) (N := 6) hx hb hts hiX7 hown hK hM.c0 rfl 5 (by decide) f26 (v := .ref ((nA M) 2)) rfl dX7_next_47 ?_
      refine tr_wv (va_runV (As := []) (rest := []) ⟨hx, hb, hml, hown, hts⟩ (c_X6_pass l D cI (nA M) hd.2.1 (lSc mv 0 0) (fX6_turn (lSc mv 0 0) (itI i (bX7_next_32 mv sv nv po) (fX6_become (lSc mv 0 0) nv sv)))  hm (hsafe i hlt).2.1 (hsafe i hlt).2.2.1 (hsafe i hlt).2.2.2.1 (hsafe i hlt).2.2.2.2) (cwV 0 hts gX7_next_X6_pass rfl rfl rfl (by decide +kernel) ⟨Nat.le_of_ble_eq_true rfl, Nat.le_of_ble_eq_true rfl⟩) (tr_preV hK hN.c2 rfl hN) rfl rfl hl.1 rfl (lv_room (Nat.le_of_ble_eq_true rfl)) dX7_next_50 ⟨Nat.zero_le _, Nat.zero_le _⟩) hS mOwn_n (fun H locs hN hz hk hS => ?_)
      replace hM := st_keepO hds hM hk
      clear hk hz
      refine lv_iconst (v := 0) hx hb dX7_next_53 (by decide) ?_
      refine lv_istore_n (lv' := [(3, .int 0), (0, .ref ((mA M) 0)), (1, .int po), (2, .int (nI (i + 1)))]) hx hb dX7_next_54 rfl hl (by decide) rfl (fun ls hl => ?_)
      have hinv1 := And.intro (show STA D cI (nA M) (lSc mv 0 0) (fX6_pass (lSc mv 0 0) (fX6_turn (lSc mv 0 0) (itI i (bX7_next_32 mv sv nv po) (fX6_become (lSc mv 0 0) nv sv)))) H ∧ STA D cI (mA M) (lSc mv 0 0) sv H ∧ tr_S (mOwn M) s.heap H locs from ⟨hN, hM, hS⟩) hl
      clear hN hM hS hl
      revert hinv1; revert ls; revert locs; revert H
      refine tr_forw (fun i1 H locs ls => fstI i1 (bX7_next_55 mv sv nv po i) = none ∧ (STA D cI (nA M) (lSc mv 0 0) (fX6_pass (lSc mv 0 0) (fX6_turn (lSc mv 0 0) (itI i (bX7_next_32 mv sv nv po) (fX6_become (lSc mv 0 0) nv sv)))) H ∧ STA D cI (mA M) (lSc mv 0 0) sv H ∧ tr_S (mOwn M) s.heap H locs) ∧ lv_has ls 4 [(0, .ref ((mA M) 0)), (1, .int po), (2, .int (nI (i + 1))), (3, .int (nI i1))]) ((mv.1 2).toNatClampNeg) (fun H locs ls hinv1 => ?_) ?_
      · obtain ⟨⟨hN, hM, hS⟩, hl⟩ := hinv1
        exact ⟨rfl, ⟨hN, hM, hS⟩, lv_sub hl [1, 2, 3, 0] rfl⟩
      intro i1 H locs ls hi1 hinv1 ih1
      obtain ⟨hex1, ⟨hN, hM, hS⟩, hl⟩ := hinv1
      refine lv_iload_n hx hb dX7_next_55 rfl (lv_at hl 3 rfl) ?_
      refine lv_aload_n hx hb dX7_next_56 rfl (lv_at hl 0 rfl) ?_
      refine tr_get (ci := 7) (C := RX7) (T := TX7) (N := 6) hx hb hts hiX7 hown hK hM.c0 rfl 2 (by decide) f46 (v := .int (mv.1 2)) rfl dX7_next_57 ?_
      refine lv_icmp_ge (tgt := 97) hx hb dX7_next_60 (by decide) (fun c_60 => ?_) (fun c_60 => ?_)
      · have hN1 : i1 = (mv.1 2).toNatClampNeg := tr_over rfl hi1 c_60
        subst hN1
        refine lv_iinc (v := nI ((i + 1) + 1)) (lv' := [(2, .int (nI ((i + 1) + 1))), (0, .ref ((mA M) 0)), (1, .int po), (3, .int (nI ((mv.1 2).toNatClampNeg)))]) hx hb dX7_next_97 hl (k := 2) rfl (tr_inc _) (by decide) rfl (fun ls hl => ?_)
        refine lv_goto (tgt := 32) hx hb dX7_next_100 (by decide) ?_
        have e9 : itI (i + 1) (bX7_next_32 mv sv nv po) (fX6_become (lSc mv 0 0) nv sv) = fX6_pass (lSc mv 0 0) (fX6_turn (lSc mv 0 0) (itI i (bX7_next_32 mv sv nv po) (fX6_become (lSc mv 0 0) nv sv))) := by rw [itI_s, bX7_next_32]
        exact ih H locs ls hlt ⟨(fstI_n hex (by rw [bX7_next_32_g, hex1])), ⟨by rw [e9]; exact hN, hM, hS⟩, lv_sub hl [1, 2, 0] rfl⟩
      · have hlt1 : i1 < (mv.1 2).toNatClampNeg := tr_on rfl hi1 c_60
        refine lv_aload_n hx hb dX7_next_63 rfl (lv_at hl 0 rfl) ?_
        refine tr_get (ci := 7) (C := RX7) (T := TX7) (N := 6) hx hb hts hiX7 hown hK hM.c0 rfl 5 (by decide) f26 (v := .ref ((nA M) 2)) rfl dX7_next_64 ?_
        refine tr_getN (host := "TramRibbonModel") (ci := 6) (C := RX6) (T := TX6) (N := 19) hx hb hts hiX6 hown hK hN.c2 rfl 17 (by decide) (by decide +kernel) (v := .ref ((nA M) 16)) rfl dX7_next_67 ?_
        refine lv_iload_n hx hb dX7_next_70 rfl (lv_at hl 3 rfl) ?_
        refine tr_sald (sv := fX6_pass (lSc mv 0 0) (fX6_turn (lSc mv 0 0) (itI i (bX7_next_32 mv sv nv po) (fX6_become (lSc mv 0 0) nv sv)))) hx hb hK 13 (hN.arr 13 (by decide)) (tr_vl rfl hlt1 hm.2.2 (by decide)) dX7_next_71 ?_
        refine lv_iconst (v := 1) hx hb dX7_next_72 (by decide) ?_
        refine lv_icmp_ne (tgt := 91) hx hb dX7_next_73 (by decide) (fun c_73 => ?_) (fun c_73 => ?_)
        · refine lv_iinc (v := nI (i1 + 1)) (lv' := [(3, .int (nI (i1 + 1))), (0, .ref ((mA M) 0)), (1, .int po), (2, .int (nI (i + 1)))]) hx hb dX7_next_91 hl (k := 3) rfl (tr_inc _) (by decide) rfl (fun ls hl => ?_)
          refine lv_goto (tgt := 55) hx hb dX7_next_94 (by decide) ?_
          exact ih1 H locs ls hlt1 ⟨(fstI_n hex1 (by rw [bX7_next_55, if_neg c_73])), ⟨hN, hM, hS⟩, lv_sub hl [1, 2, 3, 0] rfl⟩
        · refine lv_aload_n hx hb dX7_next_76 rfl (lv_at hl 0 rfl) ?_
          refine tr_get (ci := 7) (C := RX7) (T := TX7) (N := 6) hx hb hts hiX7 hown hK hM.c0 rfl 5 (by decide) f26 (v := .ref ((nA M) 2)) rfl dX7_next_77 ?_
          refine tr_getN (host := "TramRibbonModel") (ci := 6) (C := RX6) (T := TX6) (N := 19) hx hb hts hiX6 hown hK hN.c2 rfl 10 (by decide) (by decide +kernel) (v := .ref ((nA M) 9)) rfl dX7_next_80 ?_
          refine lv_iload_n hx hb dX7_next_83 rfl (lv_at hl 3 rfl) ?_
          refine tr_sald (sv := fX6_pass (lSc mv 0 0) (fX6_turn (lSc mv 0 0) (itI i (bX7_next_32 mv sv nv po) (fX6_become (lSc mv 0 0) nv sv)))) hx hb hK 6 (hN.arr 6 (by decide)) (tr_vl rfl hlt1 hm.2.2 (by decide)) dX7_next_84 ?_
          refine lv_iload_n hx hb dX7_next_85 rfl (lv_at hl 1 rfl) ?_
          refine lv_icmp_ne (tgt := 91) hx hb dX7_next_86 (by decide) (fun c_86 => ?_) (fun c_86 => ?_)
          · refine lv_iinc (v := nI (i1 + 1)) (lv' := [(3, .int (nI (i1 + 1))), (0, .ref ((mA M) 0)), (1, .int po), (2, .int (nI (i + 1)))]) hx hb dX7_next_91 hl (k := 3) rfl (tr_inc _) (by decide) rfl (fun ls hl => ?_)
            refine lv_goto (tgt := 55) hx hb dX7_next_94 (by decide) ?_
            exact ih1 H locs ls hlt1 ⟨(fstI_n hex1 (by rw [bX7_next_55, if_pos c_73, if_neg c_86])), ⟨hN, hM, hS⟩, lv_sub hl [1, 2, 3, 0] rfl⟩
          · refine lv_iload_n hx hb dX7_next_89 rfl (lv_at hl 2 rfl) ?_
            have e9 := fstI_s (N := (mv.1 2).toNatClampNeg) hex1 (f := bX7_next_55 mv sv nv po i) (r := nI (i + 1)) (by rw [bX7_next_55, if_pos c_73, if_pos c_86]) hlt1
            have e10 := fstI_s (N := 150) hex (f := bX7_next_32_g mv sv nv po) (r := nI (i + 1)) (by rw [bX7_next_32_g]; exact e9) hlt
            exact W.iret hx hb hr (hS.endr (by rw [rX7_next, if_neg c_10, e10]; rfl) (by rw [fX7_next, if_neg c_10]; exact ⟨_, hM, hN⟩)) hS.2.2 dX7_next_90
  · refine lv_aload_n hx hb dX7_next_13 rfl (lv_at hl 0 rfl) ?_
    refine lv_iconst (v := 1) hx hb dX7_next_14 (by decide) ?_
    refine tr_ci (va_runV (As := [.int 1]) (rest := []) ⟨hx, hb, hml, hown, hts⟩ (c_X7_no l D cI M hMi (lSc mv 0 0) sv nv 1 ) (cwV 1 hts gX7_next_X7_no rfl rfl rfl (by decide +kernel) ⟨Nat.le_of_ble_eq_true rfl, Nat.le_of_ble_eq_true rfl⟩) (tr_preV hK hM.c0 rfl ⟨hM, hN⟩) rfl rfl hl.1 rfl (lv_room (Nat.le_of_ble_eq_true rfl)) dX7_next_15 ⟨Nat.zero_le _, Nat.zero_le _⟩) hS (fun _ h => h) (fun H locs h9 hS => ?_)
    have hM : STA D cI (mA M) (lSc (lSc mv 0 0) 0 1) sv H := h9.1
    have hN : STA D cI (nA M) (lSc (lSc mv 0 0) 0 1) nv H := h9.2
    clear h9
    exact W.iret hx hb hr (hS.endr (by rw [rX7_next, if_pos c_10]) (by rw [fX7_next, if_pos c_10]; exact ⟨_, hM, hN⟩)) hS.2.2 dX7_next_18
