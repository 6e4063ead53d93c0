/-! The Model: what is told out of a new array -/
theorem nOK16 {sv : LV} (hn : nOK sv) : (sv.1 3).toInt ≤ (16 : Nat) := Int.le_trans hn.2 (by decide)
def bX7_sectionTold_13_3 (mv : LV) (sv : LV) (nv : LV) (q : Int32) (wh : Int32) (i : Nat) (a : Int32) : Int32 :=
  (if (fX6_sectionOf mv sv ((mv.1 1) - 2 - nI i)) = q then (mv.1 1) - 2 - nI i else a)
def bX7_sectionTold_13_4 (mv : LV) (sv : LV) (nv : LV) (q : Int32) (wh : Int32) (i : Nat) (a : Int32) : Int32 :=
  (if (fX6_sectionOf mv sv ((mv.1 1) - 2 - nI i)) = q then a + 1 else a)
def fX7_sectionTold (mv : LV) (sv : LV) (nv : LV) (q : Int32) (wh : Int32) : LV × LV × LV :=
  (mv, sv, nv)
def rX7_sectionTold (mv : LV) (sv : LV) (nv : LV) (q : Int32) (wh : Int32) : Int32 :=
  (upd (upd (upd (upd (upd (upd (fun _ => 0) (0 : Int32).toNatClampNeg (itI ((((mv.1 1) - 2).toInt + 1).toNat) (bX7_sectionTold_13_3 mv sv nv q wh) (-1))) (1 : Int32).toNatClampNeg (itI ((((mv.1 1) - 2).toInt + 1).toNat) (bX7_sectionTold_13_4 mv sv nv q wh) 0)) (2 : Int32).toNatClampNeg (aAt sv 3 q)) (3 : Int32).toNatClampNeg (aAt sv 4 q)) (4 : Int32).toNatClampNeg (fX6_drawn mv sv q)) (5 : Int32).toNatClampNeg (aAt sv 5 q)) wh.toNatClampNeg
set_option maxHeartbeats 4000000 in
set_option maxRecDepth 100000 in
theorem c_X7_sectionTold (l : Launch) (D : va_G) (cI : ClassId) (M : Nat → Nat) (hMi : MInj M) (mv sv nv : LV) (sz : Nat) (q : Int32) (wh : Int32) (hm : mOK mv) (hqv : vp_in q 16) (hwh : vp_in wh 6) : Met l yX7_sectionTold wsX7_sectionTold ({ frames := 3, cells := 1, slots := 6, locals := 67 }) (tr_Pc D cI [.ref ((mA M) 0), .int q, .int wh] (fun H => sz ≤ H.size ∧ MPT D cI M (mv, sv, nv) H)) (tr_Q (some (.int (rX7_sectionTold mv sv nv q wh))) (MPT D cI M (fX7_sectionTold mv sv nv q wh)) (nOwn M sz)) 1 6 (nOwn M sz) := by
  refine Met.ofW (cc := cX7_sectionTold) (maxL := 6) (ret := (some .int)) (by decide) rfl ?_
  intro p e s m args below meth c s₁ B hml hv
  obtain ⟨rfl, ⟨hZ0, hM, hN⟩, hK⟩ := hv
  have hx := B.exec
  have hb := B.bytes
  have hr := B.returns
  have hts := atoms_spec (ws := wsX7_sectionTold) B.pre
  have hown : s.vm.findClass RX7 = some m.cls := findClass_of_methodNamed B.named
  have hlocks := B.notSynchronized
  have hd := mn_dis hMi
  have hds := nm_dis hMi
  replace hM : STA D cI (mA M) mv sv s.heap := hM
  replace hN : STA D cI (nA M) mv nv s.heap := hN
  have hiX6 : ∀ w ∈ u_ws RX6 TX6 19, w ∈ wsX7_sectionTold := by decide +kernel
  have hiX7 : ∀ w ∈ u_ws RX7 TX7 6, w ∈ wsX7_sectionTold := by decide +kernel
  have f22 := hts (.fieldLink RX7 22 "TramRibbonModel" "s" "LTramRibbonModel$State;") (by decide +kernel)
  have f7 := hts (.fieldLink RX7 7 "TramRibbonModel" "poles" "I") (by decide +kernel)
  have harr := hts (.arrayClass .int) (by decide +kernel)
  have hl := lv_entry ([.ref ((mA M) 0), .int q, .int wh]) (n := 6) (Nat.le_of_ble_eq_true rfl)
  rw [lg_entry_eq]
  generalize (lg_sl ([.ref ((mA M) 0), .int q, .int wh]) ++ List.replicate (6 - (lg_sl ([.ref ((mA M) 0), .int q, .int wh])).length) Slot.unset).toArray = ls at hl ⊢
  replace hl : lv_has ls 6 [(0, .ref ((mA M) 0)), (1, .int q), (2, .int wh)] := hl
  have hS : tr_S (nOwn M sz) s.heap s.heap [] := tr_S.rf
  generalize h1 : s.heap = H, h2 : ([] : List Loc) = locs
  replace hS : tr_S (nOwn M sz) s.heap H locs := by rw [← h1, ← h2]; exact hS
  rw [h1] at hM hN
  clear h1 h2
  refine lv_iconst (v := -1) hx hb dX7_sectionTold_0 (by decide) ?_
  refine lv_istore_n (lv' := [(3, .int (-1)), (0, .ref ((mA M) 0)), (1, .int q), (2, .int wh)]) hx hb dX7_sectionTold_1 rfl hl (by decide) rfl (fun ls hl => ?_)
  refine lv_iconst (v := 0) hx hb dX7_sectionTold_2 (by decide) ?_
  refine lv_istore (lv' := [(4, .int 0), (3, .int (-1)), (0, .ref ((mA M) 0)), (1, .int q), (2, .int wh)]) hx hb dX7_sectionTold_3 hl (by decide) rfl (fun ls hl => ?_)
  refine lv_aload_n hx hb dX7_sectionTold_5 rfl (lv_at hl 2 rfl) ?_
  refine tr_get (ci := 7) (C := RX7) (T := TX7) (N := 6) hx hb hts hiX7 hown hK hM.c0 rfl 1 (by decide) f7 (v := .int (mv.1 1)) rfl dX7_sectionTold_6 ?_
  refine lv_iconst (v := 2) hx hb dX7_sectionTold_9 (by decide) ?_
  refine lv_isub hx hb dX7_sectionTold_10 ?_
  refine lv_istore (lv' := [(5, .int ((mv.1 1) - 2)), (4, .int 0), (3, .int (-1)), (0, .ref ((mA M) 0)), (1, .int q), (2, .int wh)]) hx hb dX7_sectionTold_11 hl (by decide) rfl (fun ls hl => ?_)
  have hinv := And.intro (show STA D cI (mA M) mv sv H ∧ STA D cI (nA M) mv nv H ∧ tr_S (nOwn M sz) s.heap H locs from ⟨hM, hN, hS⟩) hl
  clear hM hN hS hl
  revert hinv; revert ls; revert locs; revert H
  refine tr_forw (fun i H locs ls => (STA D cI (mA M) mv sv H ∧ STA D cI (nA M) mv nv H ∧ tr_S (nOwn M sz) s.heap H locs) ∧ lv_has ls 6 [(0, .ref ((mA M) 0)), (1, .int q), (2, .int wh), (3, .int (itI i (bX7_sectionTold_13_3 mv sv nv q wh) (-1))), (4, .int (itI i (bX7_sectionTold_13_4 mv sv nv q wh) 0)), (5, .int ((mv.1 1) - 2 - nI i))]) ((((mv.1 1) - 2).toInt + 1).toNat) (fun H locs ls hinv => ?_) ?_
  · obtain ⟨⟨hM, hN, hS⟩, hl⟩ := hinv
    exact ⟨⟨hM, hN, hS⟩, by rw [tr_x0]; exact lv_sub hl [3, 4, 5, 2, 1, 0] rfl⟩
  intro i H locs ls hi hinv ih
  obtain ⟨⟨hM, hN, hS⟩, hl⟩ := hinv
  refine lv_iload hx hb dX7_sectionTold_13 (lv_at hl 5 rfl) ?_
  refine lv_if_lt (tgt := 46) hx hb dX7_sectionTold_15 (by decide) (fun c_15 => ?_) (fun c_15 => ?_)
  · have hN : i = (((mv.1 1) - 2).toInt + 1).toNat := tr_overZ rfl hi c_15
    subst hN
    refine lv_bipush (v := 6) hx hb dX7_sectionTold_46 (by decide) ?_
    refine tr_newa (n := 6) (N := 6) hx hb harr hK hS (by decide) rfl (Nat.le_of_ble_eq_true rfl) (show 0 + 1 ≤ 1 by omega) (show 0 + 6 ≤ 6 by omega) dX7_sectionTold_48 (fun q48 H1 hq48 hQ48 hz hk hS1 => ?_)
    have hqs : sz ≤ q48 := by rw [hq48]; exact Nat.le_trans hZ0 hS.1
    have hqM := hM.below hq48
    have hqN := hN.below hq48
    replace hM := hM.keepL hk
    replace hN := hN.keepL hk
    replace hS := hS1
    clear hS1 hk hz
    clear hq48
    refine lv_dup hx hb dX7_sectionTold_50 rfl ?_
    refine lv_iconst (v := 0) hx hb dX7_sectionTold_51 (by decide) ?_
    refine lv_iload_n hx hb dX7_sectionTold_52 rfl (lv_at hl 3 rfl) ?_
    refine tr_iast hx hb hK hS (Or.inr hqs) hQ48 (by unfold vp_in; decide) dX7_sectionTold_53 (fun H locs hQ48 hz hk hS => ?_)
    replace hM := hM.keepNe hqM hk
    replace hN := hN.keepNe hqN hk
    clear hz hk
    refine lv_dup hx hb dX7_sectionTold_54 rfl ?_
    refine lv_iconst (v := 1) hx hb dX7_sectionTold_55 (by decide) ?_
    refine lv_iload hx hb dX7_sectionTold_56 (lv_at hl 4 rfl) ?_
    refine tr_iast hx hb hK hS (Or.inr hqs) hQ48 (by unfold vp_in; decide) dX7_sectionTold_58 (fun H locs hQ48 hz hk hS => ?_)
    replace hM := hM.keepNe hqM hk
    replace hN := hN.keepNe hqN hk
    clear hz hk
    refine lv_dup hx hb dX7_sectionTold_59 rfl ?_
    refine lv_iconst (v := 2) hx hb dX7_sectionTold_60 (by decide) ?_
    refine lv_aload_n hx hb dX7_sectionTold_61 rfl (lv_at hl 0 rfl) ?_
    refine tr_get (ci := 7) (C := RX7) (T := TX7) (N := 6) hx hb hts hiX7 hown hK hM.c0 rfl 4 (by decide) f22 (v := .ref ((mA M) 2)) rfl dX7_sectionTold_62 ?_
    refine tr_getN (host := "TramRibbonModel") (ci := 6) (C := RX6) (T := TX6) (N := 19) hx hb hts hiX6 hown hK hM.c2 rfl 7 (by decide) (by decide +kernel) (v := .ref ((mA M) 6)) rfl dX7_sectionTold_65 ?_
    refine lv_iload_n hx hb dX7_sectionTold_68 rfl (lv_at hl 1 rfl) ?_
    refine tr_sald (sv := sv) hx hb hK 3 (hM.arr 3 (by decide)) hqv dX7_sectionTold_69 ?_
    refine tr_iast hx hb hK hS (Or.inr hqs) hQ48 (by unfold vp_in; decide) dX7_sectionTold_70 (fun H locs hQ48 hz hk hS => ?_)
    replace hM := hM.keepNe hqM hk
    replace hN := hN.keepNe hqN hk
    clear hz hk
    refine lv_dup hx hb dX7_sectionTold_71 rfl ?_
    refine lv_iconst (v := 3) hx hb dX7_sectionTold_72 (by decide) ?_
    refine lv_aload_n hx hb dX7_sectionTold_73 rfl (lv_at hl 0 rfl) ?_
    refine tr_get (ci := 7) (C := RX7) (T := TX7) (N := 6) hx hb hts hiX7 hown hK hM.c0 rfl 4 (by decide) f22 (v := .ref ((mA M) 2)) rfl dX7_sectionTold_74 ?_
    refine tr_getN (host := "TramRibbonModel") (ci := 6) (C := RX6) (T := TX6) (N := 19) hx hb hts hiX6 hown hK hM.c2 rfl 8 (by decide) (by decide +kernel) (v := .ref ((mA M) 7)) rfl dX7_sectionTold_77 ?_
    refine lv_iload_n hx hb dX7_sectionTold_80 rfl (lv_at hl 1 rfl) ?_
    refine tr_sald (sv := sv) hx hb hK 4 (hM.arr 4 (by decide)) hqv dX7_sectionTold_81 ?_
    refine tr_iast hx hb hK hS (Or.inr hqs) hQ48 (by unfold vp_in; decide) dX7_sectionTold_82 (fun H locs hQ48 hz hk hS => ?_)
    replace hM := hM.keepNe hqM hk
    replace hN := hN.keepNe hqN hk
    clear hz hk
    refine lv_dup hx hb dX7_sectionTold_83 rfl ?_
    refine lv_iconst (v := 4) hx hb dX7_sectionTold_84 (by decide) ?_
    refine lv_aload_n hx hb dX7_sectionTold_85 rfl (lv_at hl 0 rfl) ?_
    refine tr_get (ci := 7) (C := RX7) (T := TX7) (N := 6) hx hb hts hiX7 hown hK hM.c0 rfl 4 (by decide) f22 (v := .ref ((mA M) 2)) rfl dX7_sectionTold_86 ?_
    refine lv_iload_n hx hb dX7_sectionTold_89 rfl (lv_at hl 1 rfl) ?_
    refine tr_ri (va_runV (As := [.int q]) (rest := [.int 4, .ref q48, .ref q48]) ⟨hx, hb, hml, hown, hts⟩ (c_X6_drawn l D cI (mA M) hd.1 mv sv q hm) (cwV 1 hts gX7_sectionTold_X6_drawn rfl rfl rfl (by decide +kernel) ⟨Nat.le_of_ble_eq_true rfl, Nat.le_of_ble_eq_true rfl⟩) (tr_preV hK hM.c2 rfl hM) rfl rfl hl.1 rfl (lv_room (Nat.le_of_ble_eq_true rfl)) dX7_sectionTold_90 ⟨show 0 + 1 + 0 ≤ 1 by omega, show 0 + 6 + 0 ≤ 6 by omega⟩) ?_
    refine tr_iast hx hb hK hS (Or.inr hqs) hQ48 (by unfold vp_in; decide) dX7_sectionTold_93 (fun H locs hQ48 hz hk hS => ?_)
    replace hM := hM.keepNe hqM hk
    replace hN := hN.keepNe hqN hk
    clear hz hk
    refine lv_dup hx hb dX7_sectionTold_94 rfl ?_
    refine lv_iconst (v := 5) hx hb dX7_sectionTold_95 (by decide) ?_
    refine lv_aload_n hx hb dX7_sectionTold_96 rfl (lv_at hl 0 rfl) ?_
    refine tr_get (ci := 7) (C := RX7) (T := TX7) (N := 6) hx hb hts hiX7 hown hK hM.c0 rfl 4 (by decide) f22 (v := .ref ((mA M) 2)) rfl dX7_sectionTold_97 ?_
    refine tr_getN (host := "TramRibbonModel") (ci := 6) (C := RX6) (T := TX6) (N := 19) hx hb hts hiX6 hown hK hM.c2 rfl 9 (by decide) (by decide +kernel) (v := .ref ((mA M) 8)) rfl dX7_sectionTold_100 ?_
    refine lv_iload_n hx hb dX7_sectionTold_103 rfl (lv_at hl 1 rfl) ?_
    refine tr_sald (sv := sv) hx hb hK 5 (hM.arr 5 (by decide)) hqv dX7_sectionTold_104 ?_
    refine tr_iast hx hb hK hS (Or.inr hqs) hQ48 (by unfold vp_in; decide) dX7_sectionTold_105 (fun H locs hQ48 hz hk hS => ?_)
    replace hM := hM.keepNe hqM hk
    replace hN := hN.keepNe hqN hk
    clear hz hk
    refine lv_astore (lv' := [(5, .ref q48), (0, .ref ((mA M) 0)), (1, .int q), (2, .int wh), (3, .int (itI ((((mv.1 1) - 2).toInt + 1).toNat) (bX7_sectionTold_13_3 mv sv nv q wh) (-1))), (4, .int (itI ((((mv.1 1) - 2).toInt + 1).toNat) (bX7_sectionTold_13_4 mv sv nv q wh) 0))]) hx hb dX7_sectionTold_106 hl (by decide) rfl (fun ls hl => ?_)
    refine lv_aload hx hb dX7_sectionTold_108 (lv_at hl 0 rfl) ?_
    refine lv_iload_n hx hb dX7_sectionTold_110 rfl (lv_at hl 3 rfl) ?_
    refine tr_iald hx hb hK hQ48 hwh dX7_sectionTold_111 ?_
    exact W.iret hx hb hr (hS.endr (by rw [rX7_sectionTold]) (by rw [fX7_sectionTold]; exact ⟨hM, hN⟩)) hS.2.2 dX7_sectionTold_112
  · have hlt : i < (((mv.1 1) - 2).toInt + 1).toNat := tr_onZ rfl hi c_15
    refine lv_aload_n hx hb dX7_sectionTold_18 rfl (lv_at hl 0 rfl) ?_
    refine tr_get (ci := 7) (C := RX7) (T := TX7) (N := 6) hx hb hts hiX7 hown hK hM.c0 rfl 4 (by decide) f22 (v := .ref ((mA M) 2)) rfl dX7_sectionTold_19 ?_
    refine lv_iload hx hb dX7_sectionTold_22 (lv_at hl 5 rfl) ?_
    refine tr_ri (va_runV (As := [.int ((mv.1 1) - 2 - nI i)]) (rest := []) ⟨hx, hb, hml, hown, hts⟩ (c_X6_sectionOf l D cI (mA M) hd.1 mv sv ((mv.1 1) - 2 - nI i) (tr_z15 hm hlt)) (cwV 1 hts gX7_sectionTold_X6_sectionOf rfl rfl rfl (by decide +kernel) ⟨Nat.le_of_ble_eq_true rfl, Nat.le_of_ble_eq_true rfl⟩) (tr_preV hK hM.c2 rfl hM) rfl rfl hl.1 rfl (lv_room (Nat.le_of_ble_eq_true rfl)) dX7_sectionTold_24 ⟨show 0 + 0 ≤ 1 by omega, show 0 + 0 ≤ 6 by omega⟩) ?_
    refine lv_iload_n hx hb dX7_sectionTold_27 rfl (lv_at hl 1 rfl) ?_
    refine lv_icmp_eq (tgt := 34) hx hb dX7_sectionTold_28 (by decide) (fun c_28 => ?_) (fun c_28 => ?_)
    · refine lv_iload hx hb dX7_sectionTold_34 (lv_at hl 5 rfl) ?_
      refine lv_istore_n (lv' := [(3, .int ((mv.1 1) - 2 - nI i)), (0, .ref ((mA M) 0)), (1, .int q), (2, .int wh), (4, .int (itI i (bX7_sectionTold_13_4 mv sv nv q wh) 0)), (5, .int ((mv.1 1) - 2 - nI i))]) hx hb dX7_sectionTold_36 rfl hl (by decide) rfl (fun ls hl => ?_)
      refine lv_iinc (v := (itI i (bX7_sectionTold_13_4 mv sv nv q wh) 0) + 1) (lv' := [(4, .int ((itI i (bX7_sectionTold_13_4 mv sv nv q wh) 0) + 1)), (3, .int ((mv.1 1) - 2 - nI i)), (0, .ref ((mA M) 0)), (1, .int q), (2, .int wh), (5, .int ((mv.1 1) - 2 - nI i))]) hx hb dX7_sectionTold_37 hl (k := 4) rfl rfl (by decide) rfl (fun ls hl => ?_)
      refine lv_iinc (v := (mv.1 1) - 2 - nI (i + 1)) (lv' := [(5, .int ((mv.1 1) - 2 - nI (i + 1))), (4, .int ((itI i (bX7_sectionTold_13_4 mv sv nv q wh) 0) + 1)), (3, .int ((mv.1 1) - 2 - nI i)), (0, .ref ((mA M) 0)), (1, .int q), (2, .int wh)]) hx hb dX7_sectionTold_40 hl (k := 5) rfl (tr_dec _ _) (by decide) rfl (fun ls hl => ?_)
      refine lv_goto (tgt := 13) hx hb dX7_sectionTold_43 (by decide) ?_
      have e_3 : itI (i + 1) (bX7_sectionTold_13_3 mv sv nv q wh) (-1) = (mv.1 1) - 2 - nI i := by first | rw [itI_s, bX7_sectionTold_13_3, if_pos c_28] | (rw [itI_s, bX7_sectionTold_13_3]; done) | (rw [itI_s, bX7_sectionTold_13_3]; simp only [if_pos c_28])
      have e_4 : itI (i + 1) (bX7_sectionTold_13_4 mv sv nv q wh) 0 = (itI i (bX7_sectionTold_13_4 mv sv nv q wh) 0) + 1 := by first | rw [itI_s, bX7_sectionTold_13_4, if_pos c_28] | (rw [itI_s, bX7_sectionTold_13_4]; done) | (rw [itI_s, bX7_sectionTold_13_4]; simp only [if_pos c_28])
      exact ih H locs ls hlt ⟨⟨hM, hN, hS⟩, by rw [e_3, e_4]; exact lv_sub hl [3, 4, 5, 2, 1, 0] rfl⟩
    · refine lv_goto (tgt := 40) hx hb dX7_sectionTold_31 (by decide) ?_
      refine lv_iinc (v := (mv.1 1) - 2 - nI (i + 1)) (lv' := [(5, .int ((mv.1 1) - 2 - nI (i + 1))), (0, .ref ((mA M) 0)), (1, .int q), (2, .int wh), (3, .int (itI i (bX7_sectionTold_13_3 mv sv nv q wh) (-1))), (4, .int (itI i (bX7_sectionTold_13_4 mv sv nv q wh) 0))]) hx hb dX7_sectionTold_40 hl (k := 5) rfl (tr_dec _ _) (by decide) rfl (fun ls hl => ?_)
      refine lv_goto (tgt := 13) hx hb dX7_sectionTold_43 (by decide) ?_
      have e_3 : itI (i + 1) (bX7_sectionTold_13_3 mv sv nv q wh) (-1) = itI i (bX7_sectionTold_13_3 mv sv nv q wh) (-1) := by first | rw [itI_s, bX7_sectionTold_13_3, if_neg c_28] | (rw [itI_s, bX7_sectionTold_13_3]; done) | (rw [itI_s, bX7_sectionTold_13_3]; simp only [if_neg c_28])
      have e_4 : itI (i + 1) (bX7_sectionTold_13_4 mv sv nv q wh) 0 = itI i (bX7_sectionTold_13_4 mv sv nv q wh) 0 := by first | rw [itI_s, bX7_sectionTold_13_4, if_neg c_28] | (rw [itI_s, bX7_sectionTold_13_4]; done) | (rw [itI_s, bX7_sectionTold_13_4]; simp only [if_neg c_28])
      exact ih H locs ls hlt ⟨⟨hM, hN, hS⟩, by rw [e_3, e_4]; exact lv_sub hl [1, 2, 3, 4, 5, 0] rfl⟩
def fX7_carTold (mv : LV) (sv : LV) (nv : LV) (cr : Int32) (wh : Int32) : LV × LV × LV :=
  (mv, sv, nv)
def rX7_carTold (mv : LV) (sv : LV) (nv : LV) (cr : Int32) (wh : Int32) : Int32 :=
  (if (aAt sv 7 cr) ≤ 0 then (upd (upd (upd (upd (upd (upd (upd (upd (fun _ => 0) (0 : Int32).toNatClampNeg (aAt sv 6 cr)) (1 : Int32).toNatClampNeg 0) (2 : Int32).toNatClampNeg (aAt sv 8 cr)) (3 : Int32).toNatClampNeg (aAt sv 9 cr)) (4 : Int32).toNatClampNeg (aAt sv 10 cr)) (5 : Int32).toNatClampNeg (aAt sv 11 cr)) (6 : Int32).toNatClampNeg (fX6_draws mv sv cr)) (7 : Int32).toNatClampNeg (aAt sv 12 cr)) wh.toNatClampNeg else (upd (upd (upd (upd (upd (upd (upd (upd (fun _ => 0) (0 : Int32).toNatClampNeg (aAt sv 6 cr)) (1 : Int32).toNatClampNeg 1) (2 : Int32).toNatClampNeg (aAt sv 8 cr)) (3 : Int32).toNatClampNeg (aAt sv 9 cr)) (4 : Int32).toNatClampNeg (aAt sv 10 cr)) (5 : Int32).toNatClampNeg (aAt sv 11 cr)) (6 : Int32).toNatClampNeg (fX6_draws mv sv cr)) (7 : Int32).toNatClampNeg (aAt sv 12 cr)) wh.toNatClampNeg)
set_option maxHeartbeats 4000000 in
set_option maxRecDepth 100000 in
theorem c_X7_carTold (l : Launch) (D : va_G) (cI : ClassId) (M : Nat → Nat) (hMi : MInj M) (mv sv nv : LV) (sz : Nat) (cr : Int32) (wh : Int32) (hm : mOK mv) (hcr : vp_in cr 6) (hwh : vp_in wh 8) : Met l yX7_carTold wsX7_carTold ({ frames := 2, cells := 1, slots := 8, locals := 44 }) (tr_Pc D cI [.ref ((mA M) 0), .int cr, .int wh] (fun H => sz ≤ H.size ∧ MPT D cI M (mv, sv, nv) H)) (tr_Q (some (.int (rX7_carTold mv sv nv cr wh))) (MPT D cI M (fX7_carTold mv sv nv cr wh)) (nOwn M sz)) 1 8 (nOwn M sz) := by
  refine Met.ofW (cc := cX7_carTold) (maxL := 4) (ret := (some .int)) (by decide) rfl ?_
  intro p e s m args below meth c s₁ B hml hv
  obtain ⟨rfl, ⟨hZ0, hM, hN⟩, hK⟩ := hv
  have hx := B.exec
  have hb := B.bytes
  have hr := B.returns
  have hts := atoms_spec (ws := wsX7_carTold) B.pre
  have hown : s.vm.findClass RX7 = some m.cls := findClass_of_methodNamed B.named
  have hlocks := B.notSynchronized
  have hd := mn_dis hMi
  have hds := nm_dis hMi
  replace hM : STA D cI (mA M) mv sv s.heap := hM
  replace hN : STA D cI (nA M) mv nv s.heap := hN
  have hiX6 : ∀ w ∈ u_ws RX6 TX6 19, w ∈ wsX7_carTold := by decide +kernel
  have hiX7 : ∀ w ∈ u_ws RX7 TX7 6, w ∈ wsX7_carTold := by decide +kernel
  have f22 := hts (.fieldLink RX7 22 "TramRibbonModel" "s" "LTramRibbonModel$State;") (by decide +kernel)
  have harr := hts (.arrayClass .int) (by decide +kernel)
  have hl := lv_entry ([.ref ((mA M) 0), .int cr, .int wh]) (n := 4) (Nat.le_of_ble_eq_true rfl)
  rw [lg_entry_eq]
  generalize (lg_sl ([.ref ((mA M) 0), .int cr, .int wh]) ++ List.replicate (4 - (lg_sl ([.ref ((mA M) 0), .int cr, .int wh])).length) Slot.unset).toArray = ls at hl ⊢
  replace hl : lv_has ls 4 [(0, .ref ((mA M) 0)), (1, .int cr), (2, .int wh)] := hl
  have hS : tr_S (nOwn M sz) s.heap s.heap [] := tr_S.rf
  generalize h1 : s.heap = H, h2 : ([] : List Loc) = locs
  replace hS : tr_S (nOwn M sz) s.heap H locs := by rw [← h1, ← h2]; exact hS
  rw [h1] at hM hN
  clear h1 h2
  refine lv_bipush (v := 8) hx hb dX7_carTold_0 (by decide) ?_
  refine tr_newa (n := 8) (N := 8) hx hb harr hK hS (by decide) rfl (Nat.le_of_ble_eq_true rfl) (show 0 + 1 ≤ 1 by omega) (show 0 + 8 ≤ 8 by omega) dX7_carTold_2 (fun q2 H1 hq2 hQ2 hz hk hS1 => ?_)
  have hqs : sz ≤ q2 := by rw [hq2]; exact Nat.le_trans hZ0 hS.1
  have hqM := hM.below hq2
  have hqN := hN.below hq2
  replace hM := hM.keepL hk
  replace hN := hN.keepL hk
  replace hS := hS1
  clear hS1 hk hz
  clear hq2
  refine lv_dup hx hb dX7_carTold_4 rfl ?_
  refine lv_iconst (v := 0) hx hb dX7_carTold_5 (by decide) ?_
  refine lv_aload_n hx hb dX7_carTold_6 rfl (lv_at hl 0 rfl) ?_
  refine tr_get (ci := 7) (C := RX7) (T := TX7) (N := 6) hx hb hts hiX7 hown hK hM.c0 rfl 4 (by decide) f22 (v := .ref ((mA M) 2)) rfl dX7_carTold_7 ?_
  refine tr_getN (host := "TramRibbonModel") (ci := 6) (C := RX6) (T := TX6) (N := 19) hx hb hts hiX6 hown hK hM.c2 rfl 10 (by decide) (by decide +kernel) (v := .ref ((mA M) 9)) rfl dX7_carTold_10 ?_
  refine lv_iload_n hx hb dX7_carTold_13 rfl (lv_at hl 1 rfl) ?_
  refine tr_sald (sv := sv) hx hb hK 6 (hM.arr 6 (by decide)) hcr dX7_carTold_14 ?_
  refine tr_iast hx hb hK hS (Or.inr hqs) hQ2 (by unfold vp_in; decide) dX7_carTold_15 (fun H locs hQ2 hz hk hS => ?_)
  replace hM := hM.keepNe hqM hk
  replace hN := hN.keepNe hqN hk
  clear hz hk
  refine lv_dup hx hb dX7_carTold_16 rfl ?_
  refine lv_iconst (v := 1) hx hb dX7_carTold_17 (by decide) ?_
  refine lv_aload_n hx hb dX7_carTold_18 rfl (lv_at hl 0 rfl) ?_
  refine tr_get (ci := 7) (C := RX7) (T := TX7) (N := 6) hx hb hts hiX7 hown hK hM.c0 rfl 4 (by decide) f22 (v := .ref ((mA M) 2)) rfl dX7_carTold_19 ?_
  refine tr_getN (host := "TramRibbonModel") (ci := 6) (C := RX6) (T := TX6) (N := 19) hx hb hts hiX6 hown hK hM.c2 rfl 11 (by decide) (by decide +kernel) (v := .ref ((mA M) 10)) rfl dX7_carTold_22 ?_
  refine lv_iload_n hx hb dX7_carTold_25 rfl (lv_at hl 1 rfl) ?_
  refine tr_sald (sv := sv) hx hb hK 7 (hM.arr 7 (by decide)) hcr dX7_carTold_26 ?_
  refine lv_if_le (tgt := 34) hx hb dX7_carTold_27 (by decide) (fun c_27 => ?_) (fun c_27 => ?_)
  · refine lv_iconst (v := 0) hx hb dX7_carTold_34 (by decide) ?_
    refine tr_iast hx hb hK hS (Or.inr hqs) hQ2 (by unfold vp_in; decide) dX7_carTold_35 (fun H locs hQ2 hz hk hS => ?_)
    replace hM := hM.keepNe hqM hk
    replace hN := hN.keepNe hqN hk
    clear hz hk
    refine lv_dup hx hb dX7_carTold_36 rfl ?_
    refine lv_iconst (v := 2) hx hb dX7_carTold_37 (by decide) ?_
    refine lv_aload_n hx hb dX7_carTold_38 rfl (lv_at hl 0 rfl) ?_
    refine tr_get (ci := 7) (C := RX7) (T := TX7) (N := 6) hx hb hts hiX7 hown hK hM.c0 rfl 4 (by decide) f22 (v := .ref ((mA M) 2)) rfl dX7_carTold_39 ?_
    refine tr_getN (host := "TramRibbonModel") (ci := 6) (C := RX6) (T := TX6) (N := 19) hx hb hts hiX6 hown hK hM.c2 rfl 12 (by decide) (by decide +kernel) (v := .ref ((mA M) 11)) rfl dX7_carTold_42 ?_
    refine lv_iload_n hx hb dX7_carTold_45 rfl (lv_at hl 1 rfl) ?_
    refine tr_sald (sv := sv) hx hb hK 8 (hM.arr 8 (by decide)) hcr dX7_carTold_46 ?_
    refine tr_iast hx hb hK hS (Or.inr hqs) hQ2 (by unfold vp_in; decide) dX7_carTold_47 (fun H locs hQ2 hz hk hS => ?_)
    replace hM := hM.keepNe hqM hk
    replace hN := hN.keepNe hqN hk
    clear hz hk
    refine lv_dup hx hb dX7_carTold_48 rfl ?_
    refine lv_iconst (v := 3) hx hb dX7_carTold_49 (by decide) ?_
    refine lv_aload_n hx hb dX7_carTold_50 rfl (lv_at hl 0 rfl) ?_
    refine tr_get (ci := 7) (C := RX7) (T := TX7) (N := 6) hx hb hts hiX7 hown hK hM.c0 rfl 4 (by decide) f22 (v := .ref ((mA M) 2)) rfl dX7_carTold_51 ?_
    refine tr_getN (host := "TramRibbonModel") (ci := 6) (C := RX6) (T := TX6) (N := 19) hx hb hts hiX6 hown hK hM.c2 rfl 13 (by decide) (by decide +kernel) (v := .ref ((mA M) 12)) rfl dX7_carTold_54 ?_
    refine lv_iload_n hx hb dX7_carTold_57 rfl (lv_at hl 1 rfl) ?_
    refine tr_sald (sv := sv) hx hb hK 9 (hM.arr 9 (by decide)) hcr dX7_carTold_58 ?_
    refine tr_iast hx hb hK hS (Or.inr hqs) hQ2 (by unfold vp_in; decide) dX7_carTold_59 (fun H locs hQ2 hz hk hS => ?_)
    replace hM := hM.keepNe hqM hk
    replace hN := hN.keepNe hqN hk
    clear hz hk
    refine lv_dup hx hb dX7_carTold_60 rfl ?_
    refine lv_iconst (v := 4) hx hb dX7_carTold_61 (by decide) ?_
    refine lv_aload_n hx hb dX7_carTold_62 rfl (lv_at hl 0 rfl) ?_
    refine tr_get (ci := 7) (C := RX7) (T := TX7) (N := 6) hx hb hts hiX7 hown hK hM.c0 rfl 4 (by decide) f22 (v := .ref ((mA M) 2)) rfl dX7_carTold_63 ?_
    refine tr_getN (host := "TramRibbonModel") (ci := 6) (C := RX6) (T := TX6) (N := 19) hx hb hts hiX6 hown hK hM.c2 rfl 14 (by decide) (by decide +kernel) (v := .ref ((mA M) 13)) rfl dX7_carTold_66 ?_
    refine lv_iload_n hx hb dX7_carTold_69 rfl (lv_at hl 1 rfl) ?_
    refine tr_sald (sv := sv) hx hb hK 10 (hM.arr 10 (by decide)) hcr dX7_carTold_70 ?_
    refine tr_iast hx hb hK hS (Or.inr hqs) hQ2 (by unfold vp_in; decide) dX7_carTold_71 (fun H locs hQ2 hz hk hS => ?_)
    replace hM := hM.keepNe hqM hk
    replace hN := hN.keepNe hqN hk
    clear hz hk
    refine lv_dup hx hb dX7_carTold_72 rfl ?_
    refine lv_iconst (v := 5) hx hb dX7_carTold_73 (by decide) ?_
    refine lv_aload_n hx hb dX7_carTold_74 rfl (lv_at hl 0 rfl) ?_
    refine tr_get (ci := 7) (C := RX7) (T := TX7) (N := 6) hx hb hts hiX7 hown hK hM.c0 rfl 4 (by decide) f22 (v := .ref ((mA M) 2)) rfl dX7_carTold_75 ?_
    refine tr_getN (host := "TramRibbonModel") (ci := 6) (C := RX6) (T := TX6) (N := 19) hx hb hts hiX6 hown hK hM.c2 rfl 15 (by decide) (by decide +kernel) (v := .ref ((mA M) 14)) rfl dX7_carTold_78 ?_
    refine lv_iload_n hx hb dX7_carTold_81 rfl (lv_at hl 1 rfl) ?_
    refine tr_sald (sv := sv) hx hb hK 11 (hM.arr 11 (by decide)) hcr dX7_carTold_82 ?_
    refine tr_iast hx hb hK hS (Or.inr hqs) hQ2 (by unfold vp_in; decide) dX7_carTold_83 (fun H locs hQ2 hz hk hS => ?_)
    replace hM := hM.keepNe hqM hk
    replace hN := hN.keepNe hqN hk
    clear hz hk
    refine lv_dup hx hb dX7_carTold_84 rfl ?_
    refine lv_bipush (v := 6) hx hb dX7_carTold_85 (by decide) ?_
    refine lv_aload_n hx hb dX7_carTold_87 rfl (lv_at hl 0 rfl) ?_
    refine tr_get (ci := 7) (C := RX7) (T := TX7) (N := 6) hx hb hts hiX7 hown hK hM.c0 rfl 4 (by decide) f22 (v := .ref ((mA M) 2)) rfl dX7_carTold_88 ?_
    refine lv_iload_n hx hb dX7_carTold_91 rfl (lv_at hl 1 rfl) ?_
    refine tr_ri (va_runV (As := [.int cr]) (rest := [.int 6, .ref q2, .ref q2]) ⟨hx, hb, hml, hown, hts⟩ (c_X6_draws l D cI (mA M) hd.1 mv sv cr hm hcr) (cwV 1 hts gX7_carTold_X6_draws rfl rfl rfl (by decide +kernel) ⟨Nat.le_of_ble_eq_true rfl, Nat.le_of_ble_eq_true rfl⟩) (tr_preV hK hM.c2 rfl hM) rfl rfl hl.1 rfl (lv_room (Nat.le_of_ble_eq_true rfl)) dX7_carTold_92 ⟨show 0 + 1 + 0 ≤ 1 by omega, show 0 + 8 + 0 ≤ 8 by omega⟩) ?_
    refine tr_iast hx hb hK hS (Or.inr hqs) hQ2 (by unfold vp_in; decide) dX7_carTold_95 (fun H locs hQ2 hz hk hS => ?_)
    replace hM := hM.keepNe hqM hk
    replace hN := hN.keepNe hqN hk
    clear hz hk
    refine lv_dup hx hb dX7_carTold_96 rfl ?_
    refine lv_bipush (v := 7) hx hb dX7_carTold_97 (by decide) ?_
    refine lv_aload_n hx hb dX7_carTold_99 rfl (lv_at hl 0 rfl) ?_
    refine tr_get (ci := 7) (C := RX7) (T := TX7) (N := 6) hx hb hts hiX7 hown hK hM.c0 rfl 4 (by decide) f22 (v := .ref ((mA M) 2)) rfl dX7_carTold_100 ?_
    refine tr_getN (host := "TramRibbonModel") (ci := 6) (C := RX6) (T := TX6) (N := 19) hx hb hts hiX6 hown hK hM.c2 rfl 16 (by decide) (by decide +kernel) (v := .ref ((mA M) 15)) rfl dX7_carTold_103 ?_
    refine lv_iload_n hx hb dX7_carTold_106 rfl (lv_at hl 1 rfl) ?_
    refine tr_sald (sv := sv) hx hb hK 12 (hM.arr 12 (by decide)) hcr dX7_carTold_107 ?_
    refine tr_iast hx hb hK hS (Or.inr hqs) hQ2 (by unfold vp_in; decide) dX7_carTold_108 (fun H locs hQ2 hz hk hS => ?_)
    replace hM := hM.keepNe hqM hk
    replace hN := hN.keepNe hqN hk
    clear hz hk
    refine lv_astore_n (lv' := [(3, .ref q2), (0, .ref ((mA M) 0)), (1, .int cr), (2, .int wh)]) hx hb dX7_carTold_109 rfl hl (by decide) rfl (fun ls hl => ?_)
    refine lv_aload_n hx hb dX7_carTold_110 rfl (lv_at hl 0 rfl) ?_
    refine lv_iload_n hx hb dX7_carTold_111 rfl (lv_at hl 3 rfl) ?_
    refine tr_iald hx hb hK hQ2 hwh dX7_carTold_112 ?_
    exact W.iret hx hb hr (hS.endr (by rw [rX7_carTold, if_pos c_27]) (by rw [fX7_carTold]; exact ⟨hM, hN⟩)) hS.2.2 dX7_carTold_113
  · refine lv_iconst (v := 1) hx hb dX7_carTold_30 (by decide) ?_
    refine lv_goto (tgt := 35) hx hb dX7_carTold_31 (by decide) ?_
    refine tr_iast hx hb hK hS (Or.inr hqs) hQ2 (by unfold vp_in; decide) dX7_carTold_35 (fun H locs hQ2 hz hk hS => ?_)
    replace hM := hM.keepNe hqM hk
    replace hN := hN.keepNe hqN hk
    clear hz hk
    refine lv_dup hx hb dX7_carTold_36 rfl ?_
    refine lv_iconst (v := 2) hx hb dX7_carTold_37 (by decide) ?_
    refine lv_aload_n hx hb dX7_carTold_38 rfl (lv_at hl 0 rfl) ?_
    refine tr_get (ci := 7) (C := RX7) (T := TX7) (N := 6) hx hb hts hiX7 hown hK hM.c0 rfl 4 (by decide) f22 (v := .ref ((mA M) 2)) rfl dX7_carTold_39 ?_
    refine tr_getN (host := "TramRibbonModel") (ci := 6) (C := RX6) (T := TX6) (N := 19) hx hb hts hiX6 hown hK hM.c2 rfl 12 (by decide) (by decide +kernel) (v := .ref ((mA M) 11)) rfl dX7_carTold_42 ?_
    refine lv_iload_n hx hb dX7_carTold_45 rfl (lv_at hl 1 rfl) ?_
    refine tr_sald (sv := sv) hx hb hK 8 (hM.arr 8 (by decide)) hcr dX7_carTold_46 ?_
    refine tr_iast hx hb hK hS (Or.inr hqs) hQ2 (by unfold vp_in; decide) dX7_carTold_47 (fun H locs hQ2 hz hk hS => ?_)
    replace hM := hM.keepNe hqM hk
    replace hN := hN.keepNe hqN hk
    clear hz hk
    refine lv_dup hx hb dX7_carTold_48 rfl ?_
    refine lv_iconst (v := 3) hx hb dX7_carTold_49 (by decide) ?_
    refine lv_aload_n hx hb dX7_carTold_50 rfl (lv_at hl 0 rfl) ?_
    refine tr_get (ci := 7) (C := RX7) (T := TX7) (N := 6) hx hb hts hiX7 hown hK hM.c0 rfl 4 (by decide) f22 (v := .ref ((mA M) 2)) rfl dX7_carTold_51 ?_
    refine tr_getN (host := "TramRibbonModel") (ci := 6) (C := RX6) (T := TX6) (N := 19) hx hb hts hiX6 hown hK hM.c2 rfl 13 (by decide) (by decide +kernel) (v := .ref ((mA M) 12)) rfl dX7_carTold_54 ?_
    refine lv_iload_n hx hb dX7_carTold_57 rfl (lv_at hl 1 rfl) ?_
    refine tr_sald (sv := sv) hx hb hK 9 (hM.arr 9 (by decide)) hcr dX7_carTold_58 ?_
    refine tr_iast hx hb hK hS (Or.inr hqs) hQ2 (by unfold vp_in; decide) dX7_carTold_59 (fun H locs hQ2 hz hk hS => ?_)
    replace hM := hM.keepNe hqM hk
    replace hN := hN.keepNe hqN hk
    clear hz hk
    refine lv_dup hx hb dX7_carTold_60 rfl ?_
    refine lv_iconst (v := 4) hx hb dX7_carTold_61 (by decide) ?_
    refine lv_aload_n hx hb dX7_carTold_62 rfl (lv_at hl 0 rfl) ?_
    refine tr_get (ci := 7) (C := RX7) (T := TX7) (N := 6) hx hb hts hiX7 hown hK hM.c0 rfl 4 (by decide) f22 (v := .ref ((mA M) 2)) rfl dX7_carTold_63 ?_
    refine tr_getN (host := "TramRibbonModel") (ci := 6) (C := RX6) (T := TX6) (N := 19) hx hb hts hiX6 hown hK hM.c2 rfl 14 (by decide) (by decide +kernel) (v := .ref ((mA M) 13)) rfl dX7_carTold_66 ?_
    refine lv_iload_n hx hb dX7_carTold_69 rfl (lv_at hl 1 rfl) ?_
    refine tr_sald (sv := sv) hx hb hK 10 (hM.arr 10 (by decide)) hcr dX7_carTold_70 ?_
    refine tr_iast hx hb hK hS (Or.inr hqs) hQ2 (by unfold vp_in; decide) dX7_carTold_71 (fun H locs hQ2 hz hk hS => ?_)
    replace hM := hM.keepNe hqM hk
    replace hN := hN.keepNe hqN hk
    clear hz hk
    refine lv_dup hx hb dX7_carTold_72 rfl ?_
    refine lv_iconst (v := 5) hx hb dX7_carTold_73 (by decide) ?_
    refine lv_aload_n hx hb dX7_carTold_74 rfl (lv_at hl 0 rfl) ?_
    refine tr_get (ci := 7) (C := RX7) (T := TX7) (N := 6) hx hb hts hiX7 hown hK hM.c0 rfl 4 (by decide) f22 (v := .ref ((mA M) 2)) rfl dX7_carTold_75 ?_
    refine tr_getN (host := "TramRibbonModel") (ci := 6) (C := RX6) (T := TX6) (N := 19) hx hb hts hiX6 hown hK hM.c2 rfl 15 (by decide) (by decide +kernel) (v := .ref ((mA M) 14)) rfl dX7_carTold_78 ?_
    refine lv_iload_n hx hb dX7_carTold_81 rfl (lv_at hl 1 rfl) ?_
    refine tr_sald (sv := sv) hx hb hK 11 (hM.arr 11 (by decide)) hcr dX7_carTold_82 ?_
    refine tr_iast hx hb hK hS (Or.inr hqs) hQ2 (by unfold vp_in; decide) dX7_carTold_83 (fun H locs hQ2 hz hk hS => ?_)
    replace hM := hM.keepNe hqM hk
    replace hN := hN.keepNe hqN hk
    clear hz hk
    refine lv_dup hx hb dX7_carTold_84 rfl ?_
    refine lv_bipush (v := 6) hx hb dX7_carTold_85 (by decide) ?_
    refine lv_aload_n hx hb dX7_carTold_87 rfl (lv_at hl 0 rfl) ?_
    refine tr_get (ci := 7) (C := RX7) (T := TX7) (N := 6) hx hb hts hiX7 hown hK hM.c0 rfl 4 (by decide) f22 (v := .ref ((mA M) 2)) rfl dX7_carTold_88 ?_
    refine lv_iload_n hx hb dX7_carTold_91 rfl (lv_at hl 1 rfl) ?_
    refine tr_ri (va_runV (As := [.int cr]) (rest := [.int 6, .ref q2, .ref q2]) ⟨hx, hb, hml, hown, hts⟩ (c_X6_draws l D cI (mA M) hd.1 mv sv cr hm hcr) (cwV 1 hts gX7_carTold_X6_draws rfl rfl rfl (by decide +kernel) ⟨Nat.le_of_ble_eq_true rfl, Nat.le_of_ble_eq_true rfl⟩) (tr_preV hK hM.c2 rfl hM) rfl rfl hl.1 rfl (lv_room (Nat.le_of_ble_eq_true rfl)) dX7_carTold_92 ⟨show 0 + 1 + 0 ≤ 1 by omega, show 0 + 8 + 0 ≤ 8 by omega⟩) ?_
    refine tr_iast hx hb hK hS (Or.inr hqs) hQ2 (by unfold vp_in; decide) dX7_carTold_95 (fun H locs hQ2 hz hk hS => ?_)
    replace hM := hM.keepNe hqM hk
    replace hN := hN.keepNe hqN hk
    clear hz hk
    refine lv_dup hx hb dX7_carTold_96 rfl ?_
    refine lv_bipush (v := 7) hx hb dX7_carTold_97 (by decide) ?_
    refine lv_aload_n hx hb dX7_carTold_99 rfl (lv_at hl 0 rfl) ?_
    refine tr_get (ci := 7) (C := RX7) (T := TX7) (N := 6) hx hb hts hiX7 hown hK hM.c0 rfl 4 (by decide) f22 (v := .ref ((mA M) 2)) rfl dX7_carTold_100 ?_
    refine tr_getN (host := "TramRibbonModel") (ci := 6) (C := RX6) (T := TX6) (N := 19) hx hb hts hiX6 hown hK hM.c2 rfl 16 (by decide) (by decide +kernel) (v := .ref ((mA M) 15)) rfl dX7_carTold_103 ?_
    refine lv_iload_n hx hb dX7_carTold_106 rfl (lv_at hl 1 rfl) ?_
    refine tr_sald (sv := sv) hx hb hK 12 (hM.arr 12 (by decide)) hcr dX7_carTold_107 ?_
    refine tr_iast hx hb hK hS (Or.inr hqs) hQ2 (by unfold vp_in; decide) dX7_carTold_108 (fun H locs hQ2 hz hk hS => ?_)
    replace hM := hM.keepNe hqM hk
    replace hN := hN.keepNe hqN hk
    clear hz hk
    refine lv_astore_n (lv' := [(3, .ref q2), (0, .ref ((mA M) 0)), (1, .int cr), (2, .int wh)]) hx hb dX7_carTold_109 rfl hl (by decide) rfl (fun ls hl => ?_)
    refine lv_aload_n hx hb dX7_carTold_110 rfl (lv_at hl 0 rfl) ?_
    refine lv_iload_n hx hb dX7_carTold_111 rfl (lv_at hl 3 rfl) ?_
    refine tr_iald hx hb hK hQ2 hwh dX7_carTold_112 ?_
    exact W.iret hx hb hr (hS.endr (by rw [rX7_carTold, if_neg c_27]) (by rw [fX7_carTold]; exact ⟨hM, hN⟩)) hS.2.2 dX7_carTold_113
def bX7_counted_10 (mv : LV) (sv : LV) (nv : LV) (wh : Int32) (i : Nat) (a : Int32) : Int32 :=
  (if (aAt sv 4 (nI i)) ≤ 0 then a + 0 else a + 1)
def bX7_counted_52 (mv : LV) (sv : LV) (nv : LV) (wh : Int32) (i : Nat) (a : Int32) : Int32 :=
  a + (aAt sv 8 (nI i))
def bX7_counted_83 (mv : LV) (sv : LV) (nv : LV) (wh : Int32) (i : Nat) (a : Int32) : Int32 :=
  a + (aMax 0 (aAt sv 2 (nI i)))
def fX7_counted (mv : LV) (sv : LV) (nv : LV) (wh : Int32) : LV × LV × LV :=
  (mv, sv, nv)
def rX7_counted (mv : LV) (sv : LV) (nv : LV) (wh : Int32) : Int32 :=
  (upd (upd (upd (upd (upd (upd (upd (upd (upd (upd (upd (fun _ => 0) (0 : Int32).toNatClampNeg (sv.1 0)) (1 : Int32).toNatClampNeg (mv.1 1)) (2 : Int32).toNatClampNeg (sv.1 3)) (3 : Int32).toNatClampNeg (itI ((sv.1 3).toNatClampNeg) (bX7_counted_10 mv sv nv wh) 0)) (4 : Int32).toNatClampNeg (mv.1 2)) (5 : Int32).toNatClampNeg (fX6_brokenOnes mv sv)) (6 : Int32).toNatClampNeg (fX6_waiting mv sv)) (7 : Int32).toNatClampNeg (itI ((mv.1 2).toNatClampNeg) (bX7_counted_52 mv sv nv wh) 0)) (8 : Int32).toNatClampNeg (sv.1 1)) (9 : Int32).toNatClampNeg (sv.1 2)) (10 : Int32).toNatClampNeg (itI ((mv.1 1).toNatClampNeg) (bX7_counted_83 mv sv nv wh) 0)) wh.toNatClampNeg
set_option maxHeartbeats 4000000 in
set_option maxRecDepth 100000 in
theorem c_X7_counted (l : Launch) (D : va_G) (cI : ClassId) (M : Nat → Nat) (hMi : MInj M) (mv sv nv : LV) (sz : Nat) (wh : Int32) (hm : mOK mv) (hn : nOK sv) (hwh : vp_in wh 11) : Met l yX7_counted wsX7_counted ({ frames := 1, cells := 1, slots := 11, locals := 22 }) (tr_Pc D cI [.ref ((mA M) 0), .int wh] (fun H => sz ≤ H.size ∧ MPT D cI M (mv, sv, nv) H)) (tr_Q (some (.int (rX7_counted mv sv nv wh))) (MPT D cI M (fX7_counted mv sv nv wh)) (nOwn M sz)) 1 11 (nOwn M sz) := by
  refine Met.ofW (cc := cX7_counted) (maxL := 6) (ret := (some .int)) (by decide) rfl ?_
  intro p e s m args below meth c s₁ B hml hv
  obtain ⟨rfl, ⟨hZ0, hM, hN⟩, hK⟩ := hv
  have hx := B.exec
  have hb := B.bytes
  have hr := B.returns
  have hts := atoms_spec (ws := wsX7_counted) B.pre
  have hown : s.vm.findClass RX7 = some m.cls := findClass_of_methodNamed B.named
  have hlocks := B.notSynchronized
  have hd := mn_dis hMi
  have hds := nm_dis hMi
  replace hM : STA D cI (mA M) mv sv s.heap := hM
  replace hN : STA D cI (nA M) mv nv s.heap := hN
  have hiX6 : ∀ w ∈ u_ws RX6 TX6 19, w ∈ wsX7_counted := by decide +kernel
  have hiX7 : ∀ w ∈ u_ws RX7 TX7 6, w ∈ wsX7_counted := by decide +kernel
  have f22 := hts (.fieldLink RX7 22 "TramRibbonModel" "s" "LTramRibbonModel$State;") (by decide +kernel)
  have f46 := hts (.fieldLink RX7 46 "TramRibbonModel" "cars" "I") (by decide +kernel)
  have f7 := hts (.fieldLink RX7 7 "TramRibbonModel" "poles" "I") (by decide +kernel)
  have harr := hts (.arrayClass .int) (by decide +kernel)
  have mC_max := hts (.code Lib.Math.max.name Lib.Math.max.code 2 (some .int)) (by decide +kernel)
  have mI := hts (.initialized "java/lang/Math") (by decide +kernel)
  have mL75 := hts (.methodLink RX7 75 Lib.Math.max.name) (by decide +kernel)
  have mS_max := hts (.static Lib.Math.max.name) (by decide +kernel)
  have hl := lv_entry ([.ref ((mA M) 0), .int wh]) (n := 6) (Nat.le_of_ble_eq_true rfl)
  rw [lg_entry_eq]
  generalize (lg_sl ([.ref ((mA M) 0), .int wh]) ++ List.replicate (6 - (lg_sl ([.ref ((mA M) 0), .int wh])).length) Slot.unset).toArray = ls at hl ⊢
  replace hl : lv_has ls 6 [(0, .ref ((mA M) 0)), (1, .int wh)] := hl
  have hS : tr_S (nOwn M sz) s.heap s.heap [] := tr_S.rf
  generalize h1 : s.heap = H, h2 : ([] : List Loc) = locs
  replace hS : tr_S (nOwn M sz) s.heap H locs := by rw [← h1, ← h2]; exact hS
  rw [h1] at hM hN
  clear h1 h2
  refine lv_iconst (v := 0) hx hb dX7_counted_0 (by decide) ?_
  refine lv_istore_n (lv' := [(2, .int 0), (0, .ref ((mA M) 0)), (1, .int wh)]) hx hb dX7_counted_1 rfl hl (by decide) rfl (fun ls hl => ?_)
  refine lv_iconst (v := 0) hx hb dX7_counted_2 (by decide) ?_
  refine lv_istore_n (lv' := [(3, .int 0), (2, .int 0), (0, .ref ((mA M) 0)), (1, .int wh)]) hx hb dX7_counted_3 rfl hl (by decide) rfl (fun ls hl => ?_)
  refine lv_iconst (v := 0) hx hb dX7_counted_4 (by decide) ?_
  refine lv_istore (lv' := [(4, .int 0), (3, .int 0), (2, .int 0), (0, .ref ((mA M) 0)), (1, .int wh)]) hx hb dX7_counted_5 hl (by decide) rfl (fun ls hl => ?_)
  refine lv_iconst (v := 0) hx hb dX7_counted_7 (by decide) ?_
  refine lv_istore (lv' := [(5, .int 0), (4, .int 0), (3, .int 0), (2, .int 0), (0, .ref ((mA M) 0)), (1, .int wh)]) hx hb dX7_counted_8 hl (by decide) rfl (fun ls hl => ?_)
  have hinv := And.intro (show STA D cI (mA M) mv sv H ∧ STA D cI (nA M) mv nv H ∧ tr_S (nOwn M sz) s.heap H locs from ⟨hM, hN, hS⟩) hl
  clear hM hN hS hl
  revert hinv; revert ls; revert locs; revert H
  refine tr_forw (fun i H locs ls => (STA D cI (mA M) mv sv H ∧ STA D cI (nA M) mv nv H ∧ tr_S (nOwn M sz) s.heap H locs) ∧ lv_has ls 6 [(0, .ref ((mA M) 0)), (1, .int wh), (2, .int (itI i (bX7_counted_10 mv sv nv wh) 0)), (3, .int 0), (4, .int 0), (5, .int (nI i))]) ((sv.1 3).toNatClampNeg) (fun H locs ls hinv => ?_) ?_
  · obtain ⟨⟨hM, hN, hS⟩, hl⟩ := hinv
    exact ⟨⟨hM, hN, hS⟩, lv_sub hl [4, 5, 3, 2, 1, 0] rfl⟩
  intro i H locs ls hi hinv ih
  obtain ⟨⟨hM, hN, hS⟩, hl⟩ := hinv
  refine lv_iload hx hb dX7_counted_10 (lv_at hl 5 rfl) ?_
  refine lv_aload_n hx hb dX7_counted_12 rfl (lv_at hl 0 rfl) ?_
  refine tr_get (ci := 7) (C := RX7) (T := TX7) (N := 6) hx hb hts hiX7 hown hK hM.c0 rfl 4 (by decide) f22 (v := .ref ((mA M) 2)) rfl dX7_counted_13 ?_
  refine tr_getN (host := "TramRibbonModel") (ci := 6) (C := RX6) (T := TX6) (N := 19) hx hb hts hiX6 hown hK hM.c2 rfl 3 (by decide) (by decide +kernel) (v := .int (sv.1 3)) rfl dX7_counted_16 ?_
  refine lv_icmp_ge (tgt := 49) hx hb dX7_counted_19 (by decide) (fun c_19 => ?_) (fun c_19 => ?_)
  · have hN : i = (sv.1 3).toNatClampNeg := tr_over rfl hi c_19
    subst hN
    refine lv_iconst (v := 0) hx hb dX7_counted_49 (by decide) ?_
    refine lv_istore (lv' := [(5, .int 0), (0, .ref ((mA M) 0)), (1, .int wh), (2, .int (itI ((sv.1 3).toNatClampNeg) (bX7_counted_10 mv sv nv wh) 0)), (3, .int 0), (4, .int 0)]) hx hb dX7_counted_50 hl (by decide) rfl (fun ls hl => ?_)
    have hinv := And.intro (show STA D cI (mA M) mv sv H ∧ STA D cI (nA M) mv nv H ∧ tr_S (nOwn M sz) s.heap H locs from ⟨hM, hN, hS⟩) hl
    clear hM hN hS hl
    revert hinv; revert ls; revert locs; revert H
    refine tr_forw (fun i H locs ls => (STA D cI (mA M) mv sv H ∧ STA D cI (nA M) mv nv H ∧ tr_S (nOwn M sz) s.heap H locs) ∧ lv_has ls 6 [(0, .ref ((mA M) 0)), (1, .int wh), (2, .int (itI ((sv.1 3).toNatClampNeg) (bX7_counted_10 mv sv nv wh) 0)), (3, .int (itI i (bX7_counted_52 mv sv nv wh) 0)), (4, .int 0), (5, .int (nI i))]) ((mv.1 2).toNatClampNeg) (fun H locs ls hinv => ?_) ?_
    · obtain ⟨⟨hM, hN, hS⟩, hl⟩ := hinv
      exact ⟨⟨hM, hN, hS⟩, lv_sub hl [1, 2, 3, 4, 5, 0] rfl⟩
    intro i H locs ls hi hinv ih
    obtain ⟨⟨hM, hN, hS⟩, hl⟩ := hinv
    refine lv_iload hx hb dX7_counted_52 (lv_at hl 5 rfl) ?_
    refine lv_aload_n hx hb dX7_counted_54 rfl (lv_at hl 0 rfl) ?_
    refine tr_get (ci := 7) (C := RX7) (T := TX7) (N := 6) hx hb hts hiX7 hown hK hM.c0 rfl 2 (by decide) f46 (v := .int (mv.1 2)) rfl dX7_counted_55 ?_
    refine lv_icmp_ge (tgt := 80) hx hb dX7_counted_58 (by decide) (fun c_58 => ?_) (fun c_58 => ?_)
    · have hN : i = (mv.1 2).toNatClampNeg := tr_over rfl hi c_58
      subst hN
      refine lv_iconst (v := 0) hx hb dX7_counted_80 (by decide) ?_
      refine lv_istore (lv' := [(5, .int 0), (0, .ref ((mA M) 0)), (1, .int wh), (2, .int (itI ((sv.1 3).toNatClampNeg) (bX7_counted_10 mv sv nv wh) 0)), (3, .int (itI ((mv.1 2).toNatClampNeg) (bX7_counted_52 mv sv nv wh) 0)), (4, .int 0)]) hx hb dX7_counted_81 hl (by decide) rfl (fun ls hl => ?_)
      have hinv := And.intro (show STA D cI (mA M) mv sv H ∧ STA D cI (nA M) mv nv H ∧ tr_S (nOwn M sz) s.heap H locs from ⟨hM, hN, hS⟩) hl
      clear hM hN hS hl
      revert hinv; revert ls; revert locs; revert H
      refine tr_forw (fun i H locs ls => (STA D cI (mA M) mv sv H ∧ STA D cI (nA M) mv nv H ∧ tr_S (nOwn M sz) s.heap H locs) ∧ lv_has ls 6 [(0, .ref ((mA M) 0)), (1, .int wh), (2, .int (itI ((sv.1 3).toNatClampNeg) (bX7_counted_10 mv sv nv wh) 0)), (3, .int (itI ((mv.1 2).toNatClampNeg) (bX7_counted_52 mv sv nv wh) 0)), (4, .int (itI i (bX7_counted_83 mv sv nv wh) 0)), (5, .int (nI i))]) ((mv.1 1).toNatClampNeg) (fun H locs ls hinv => ?_) ?_
      · obtain ⟨⟨hM, hN, hS⟩, hl⟩ := hinv
        exact ⟨⟨hM, hN, hS⟩, lv_sub hl [1, 2, 3, 4, 5, 0] rfl⟩
      intro i H locs ls hi hinv ih
      obtain ⟨⟨hM, hN, hS⟩, hl⟩ := hinv
      refine lv_iload hx hb dX7_counted_83 (lv_at hl 5 rfl) ?_
      refine lv_aload_n hx hb dX7_counted_85 rfl (lv_at hl 0 rfl) ?_
      refine tr_get (ci := 7) (C := RX7) (T := TX7) (N := 6) hx hb hts hiX7 hown hK hM.c0 rfl 1 (by decide) f7 (v := .int (mv.1 1)) rfl dX7_counted_86 ?_
      refine lv_icmp_ge (tgt := 117) hx hb dX7_counted_89 (by decide) (fun c_89 => ?_) (fun c_89 => ?_)
      · have hN : i = (mv.1 1).toNatClampNeg := tr_over rfl hi c_89
        subst hN
        refine lv_bipush (v := 11) hx hb dX7_counted_117 (by decide) ?_
        refine tr_newa (n := 11) (N := 11) hx hb harr hK hS (by decide) rfl (Nat.le_of_ble_eq_true rfl) (show 0 + 1 ≤ 1 by omega) (show 0 + 11 ≤ 11 by omega) dX7_counted_119 (fun q119 H1 hq119 hQ119 hz hk hS1 => ?_)
        have hqs : sz ≤ q119 := by rw [hq119]; exact Nat.le_trans hZ0 hS.1
        have hqM := hM.below hq119
        have hqN := hN.below hq119
        replace hM := hM.keepL hk
        replace hN := hN.keepL hk
        replace hS := hS1
        clear hS1 hk hz
        clear hq119
        refine lv_dup hx hb dX7_counted_121 rfl ?_
        refine lv_iconst (v := 0) hx hb dX7_counted_122 (by decide) ?_
        refine lv_aload_n hx hb dX7_counted_123 rfl (lv_at hl 0 rfl) ?_
        refine tr_get (ci := 7) (C := RX7) (T := TX7) (N := 6) hx hb hts hiX7 hown hK hM.c0 rfl 4 (by decide) f22 (v := .ref ((mA M) 2)) rfl dX7_counted_124 ?_
        refine tr_getN (host := "TramRibbonModel") (ci := 6) (C := RX6) (T := TX6) (N := 19) hx hb hts hiX6 hown hK hM.c2 rfl 0 (by decide) (by decide +kernel) (v := .int (sv.1 0)) rfl dX7_counted_127 ?_
        refine tr_iast hx hb hK hS (Or.inr hqs) hQ119 (by unfold vp_in; decide) dX7_counted_130 (fun H locs hQ119 hz hk hS => ?_)
        replace hM := hM.keepNe hqM hk
        replace hN := hN.keepNe hqN hk
        clear hz hk
        refine lv_dup hx hb dX7_counted_131 rfl ?_
        refine lv_iconst (v := 1) hx hb dX7_counted_132 (by decide) ?_
        refine lv_aload_n hx hb dX7_counted_133 rfl (lv_at hl 0 rfl) ?_
        refine tr_get (ci := 7) (C := RX7) (T := TX7) (N := 6) hx hb hts hiX7 hown hK hM.c0 rfl 1 (by decide) f7 (v := .int (mv.1 1)) rfl dX7_counted_134 ?_
        refine tr_iast hx hb hK hS (Or.inr hqs) hQ119 (by unfold vp_in; decide) dX7_counted_137 (fun H locs hQ119 hz hk hS => ?_)
        replace hM := hM.keepNe hqM hk
        replace hN := hN.keepNe hqN hk
        clear hz hk
        refine lv_dup hx hb dX7_counted_138 rfl ?_
        refine lv_iconst (v := 2) hx hb dX7_counted_139 (by decide) ?_
        refine lv_aload_n hx hb dX7_counted_140 rfl (lv_at hl 0 rfl) ?_
        refine tr_get (ci := 7) (C := RX7) (T := TX7) (N := 6) hx hb hts hiX7 hown hK hM.c0 rfl 4 (by decide) f22 (v := .ref ((mA M) 2)) rfl dX7_counted_141 ?_
        refine tr_getN (host := "TramRibbonModel") (ci := 6) (C := RX6) (T := TX6) (N := 19) hx hb hts hiX6 hown hK hM.c2 rfl 3 (by decide) (by decide +kernel) (v := .int (sv.1 3)) rfl dX7_counted_144 ?_
        refine tr_iast hx hb hK hS (Or.inr hqs) hQ119 (by unfold vp_in; decide) dX7_counted_147 (fun H locs hQ119 hz hk hS => ?_)
        replace hM := hM.keepNe hqM hk
        replace hN := hN.keepNe hqN hk
        clear hz hk
        refine lv_dup hx hb dX7_counted_148 rfl ?_
        refine lv_iconst (v := 3) hx hb dX7_counted_149 (by decide) ?_
        refine lv_iload_n hx hb dX7_counted_150 rfl (lv_at hl 2 rfl) ?_
        refine tr_iast hx hb hK hS (Or.inr hqs) hQ119 (by unfold vp_in; decide) dX7_counted_151 (fun H locs hQ119 hz hk hS => ?_)
        replace hM := hM.keepNe hqM hk
        replace hN := hN.keepNe hqN hk
        clear hz hk
        refine lv_dup hx hb dX7_counted_152 rfl ?_
        refine lv_iconst (v := 4) hx hb dX7_counted_153 (by decide) ?_
        refine lv_aload_n hx hb dX7_counted_154 rfl (lv_at hl 0 rfl) ?_
        refine tr_get (ci := 7) (C := RX7) (T := TX7) (N := 6) hx hb hts hiX7 hown hK hM.c0 rfl 2 (by decide) f46 (v := .int (mv.1 2)) rfl dX7_counted_155 ?_
        refine tr_iast hx hb hK hS (Or.inr hqs) hQ119 (by unfold vp_in; decide) dX7_counted_158 (fun H locs hQ119 hz hk hS => ?_)
        replace hM := hM.keepNe hqM hk
        replace hN := hN.keepNe hqN hk
        clear hz hk
        refine lv_dup hx hb dX7_counted_159 rfl ?_
        refine lv_iconst (v := 5) hx hb dX7_counted_160 (by decide) ?_
        refine lv_aload_n hx hb dX7_counted_161 rfl (lv_at hl 0 rfl) ?_
        refine tr_get (ci := 7) (C := RX7) (T := TX7) (N := 6) hx hb hts hiX7 hown hK hM.c0 rfl 4 (by decide) f22 (v := .ref ((mA M) 2)) rfl dX7_counted_162 ?_
        refine tr_ri (va_runV (As := []) (rest := [.int 5, .ref q119, .ref q119]) ⟨hx, hb, hml, hown, hts⟩ (c_X6_brokenOnes l D cI (mA M) hd.1 mv sv  hm) (cwV 0 hts gX7_counted_X6_brokenOnes rfl rfl rfl (by decide +kernel) ⟨Nat.le_of_ble_eq_true rfl, Nat.le_of_ble_eq_true rfl⟩) (tr_preV hK hM.c2 rfl hM) rfl rfl hl.1 rfl (lv_room (Nat.le_of_ble_eq_true rfl)) dX7_counted_165 ⟨show 0 + 1 + 0 ≤ 1 by omega, show 0 + 11 + 0 ≤ 11 by omega⟩) ?_
        refine tr_iast hx hb hK hS (Or.inr hqs) hQ119 (by unfold vp_in; decide) dX7_counted_168 (fun H locs hQ119 hz hk hS => ?_)
        replace hM := hM.keepNe hqM hk
        replace hN := hN.keepNe hqN hk
        clear hz hk
        refine lv_dup hx hb dX7_counted_169 rfl ?_
        refine lv_bipush (v := 6) hx hb dX7_counted_170 (by decide) ?_
        refine lv_aload_n hx hb dX7_counted_172 rfl (lv_at hl 0 rfl) ?_
        refine tr_get (ci := 7) (C := RX7) (T := TX7) (N := 6) hx hb hts hiX7 hown hK hM.c0 rfl 4 (by decide) f22 (v := .ref ((mA M) 2)) rfl dX7_counted_173 ?_
        refine tr_ri (va_runV (As := []) (rest := [.int 6, .ref q119, .ref q119]) ⟨hx, hb, hml, hown, hts⟩ (c_X6_waiting l D cI (mA M) hd.1 mv sv  hm) (cwV 0 hts gX7_counted_X6_waiting rfl rfl rfl (by decide +kernel) ⟨Nat.le_of_ble_eq_true rfl, Nat.le_of_ble_eq_true rfl⟩) (tr_preV hK hM.c2 rfl hM) rfl rfl hl.1 rfl (lv_room (Nat.le_of_ble_eq_true rfl)) dX7_counted_176 ⟨show 0 + 1 + 0 ≤ 1 by omega, show 0 + 11 + 0 ≤ 11 by omega⟩) ?_
        refine tr_iast hx hb hK hS (Or.inr hqs) hQ119 (by unfold vp_in; decide) dX7_counted_179 (fun H locs hQ119 hz hk hS => ?_)
        replace hM := hM.keepNe hqM hk
        replace hN := hN.keepNe hqN hk
        clear hz hk
        refine lv_dup hx hb dX7_counted_180 rfl ?_
        refine lv_bipush (v := 7) hx hb dX7_counted_181 (by decide) ?_
        refine lv_iload_n hx hb dX7_counted_183 rfl (lv_at hl 3 rfl) ?_
        refine tr_iast hx hb hK hS (Or.inr hqs) hQ119 (by unfold vp_in; decide) dX7_counted_184 (fun H locs hQ119 hz hk hS => ?_)
        replace hM := hM.keepNe hqM hk
        replace hN := hN.keepNe hqN hk
        clear hz hk
        refine lv_dup hx hb dX7_counted_185 rfl ?_
        refine lv_bipush (v := 8) hx hb dX7_counted_186 (by decide) ?_
        refine lv_aload_n hx hb dX7_counted_188 rfl (lv_at hl 0 rfl) ?_
        refine tr_get (ci := 7) (C := RX7) (T := TX7) (N := 6) hx hb hts hiX7 hown hK hM.c0 rfl 4 (by decide) f22 (v := .ref ((mA M) 2)) rfl dX7_counted_189 ?_
        refine tr_getN (host := "TramRibbonModel") (ci := 6) (C := RX6) (T := TX6) (N := 19) hx hb hts hiX6 hown hK hM.c2 rfl 1 (by decide) (by decide +kernel) (v := .int (sv.1 1)) rfl dX7_counted_192 ?_
        refine tr_iast hx hb hK hS (Or.inr hqs) hQ119 (by unfold vp_in; decide) dX7_counted_195 (fun H locs hQ119 hz hk hS => ?_)
        replace hM := hM.keepNe hqM hk
        replace hN := hN.keepNe hqN hk
        clear hz hk
        refine lv_dup hx hb dX7_counted_196 rfl ?_
        refine lv_bipush (v := 9) hx hb dX7_counted_197 (by decide) ?_
        refine lv_aload_n hx hb dX7_counted_199 rfl (lv_at hl 0 rfl) ?_
        refine tr_get (ci := 7) (C := RX7) (T := TX7) (N := 6) hx hb hts hiX7 hown hK hM.c0 rfl 4 (by decide) f22 (v := .ref ((mA M) 2)) rfl dX7_counted_200 ?_
        refine tr_getN (host := "TramRibbonModel") (ci := 6) (C := RX6) (T := TX6) (N := 19) hx hb hts hiX6 hown hK hM.c2 rfl 2 (by decide) (by decide +kernel) (v := .int (sv.1 2)) rfl dX7_counted_203 ?_
        refine tr_iast hx hb hK hS (Or.inr hqs) hQ119 (by unfold vp_in; decide) dX7_counted_206 (fun H locs hQ119 hz hk hS => ?_)
        replace hM := hM.keepNe hqM hk
        replace hN := hN.keepNe hqN hk
        clear hz hk
        refine lv_dup hx hb dX7_counted_207 rfl ?_
        refine lv_bipush (v := 10) hx hb dX7_counted_208 (by decide) ?_
        refine lv_iload hx hb dX7_counted_210 (lv_at hl 4 rfl) ?_
        refine tr_iast hx hb hK hS (Or.inr hqs) hQ119 (by unfold vp_in; decide) dX7_counted_212 (fun H locs hQ119 hz hk hS => ?_)
        replace hM := hM.keepNe hqM hk
        replace hN := hN.keepNe hqN hk
        clear hz hk
        refine lv_astore (lv' := [(5, .ref q119), (0, .ref ((mA M) 0)), (1, .int wh), (2, .int (itI ((sv.1 3).toNatClampNeg) (bX7_counted_10 mv sv nv wh) 0)), (3, .int (itI ((mv.1 2).toNatClampNeg) (bX7_counted_52 mv sv nv wh) 0)), (4, .int (itI ((mv.1 1).toNatClampNeg) (bX7_counted_83 mv sv nv wh) 0))]) hx hb dX7_counted_213 hl (by decide) rfl (fun ls hl => ?_)
        refine lv_aload hx hb dX7_counted_215 (lv_at hl 0 rfl) ?_
        refine lv_iload_n hx hb dX7_counted_217 rfl (lv_at hl 2 rfl) ?_
        refine tr_iald hx hb hK hQ119 hwh dX7_counted_218 ?_
        exact W.iret hx hb hr (hS.endr (by rw [rX7_counted]) (by rw [fX7_counted]; exact ⟨hM, hN⟩)) hS.2.2 dX7_counted_219
      · have hlt : i < (mv.1 1).toNatClampNeg := tr_on rfl hi c_89
        refine lv_iload hx hb dX7_counted_92 (lv_at hl 4 rfl) ?_
        refine lv_iconst (v := 0) hx hb dX7_counted_94 (by decide) ?_
        refine lv_aload_n hx hb dX7_counted_95 rfl (lv_at hl 0 rfl) ?_
        refine tr_get (ci := 7) (C := RX7) (T := TX7) (N := 6) hx hb hts hiX7 hown hK hM.c0 rfl 4 (by decide) f22 (v := .ref ((mA M) 2)) rfl dX7_counted_96 ?_
        refine tr_getN (host := "TramRibbonModel") (ci := 6) (C := RX6) (T := TX6) (N := 19) hx hb hts hiX6 hown hK hM.c2 rfl 6 (by decide) (by decide +kernel) (v := .ref ((mA M) 5)) rfl dX7_counted_99 ?_
        refine lv_iload hx hb dX7_counted_102 (lv_at hl 5 rfl) ?_
        refine tr_sald (sv := sv) hx hb hK 2 (hM.arr 2 (by decide)) (tr_vl rfl hlt hm.1.2 (by decide)) dX7_counted_104 ?_
        refine tr_max hx hb (by rw [hml]; exact hl.1.symm) hown mL75 mS_max mI mC_max (Nat.le_of_ble_eq_true rfl) (Nat.le_of_ble_eq_true rfl) (Nat.zero_le _) (Nat.zero_le _) dX7_counted_105 ?_
        refine lv_iadd hx hb dX7_counted_108 ?_
        refine lv_istore (lv' := [(4, .int ((itI i (bX7_counted_83 mv sv nv wh) 0) + (aMax 0 (aAt sv 2 (nI i))))), (0, .ref ((mA M) 0)), (1, .int wh), (2, .int (itI ((sv.1 3).toNatClampNeg) (bX7_counted_10 mv sv nv wh) 0)), (3, .int (itI ((mv.1 2).toNatClampNeg) (bX7_counted_52 mv sv nv wh) 0)), (5, .int (nI i))]) hx hb dX7_counted_109 hl (by decide) rfl (fun ls hl => ?_)
        refine lv_iinc (v := nI (i + 1)) (lv' := [(5, .int (nI (i + 1))), (4, .int ((itI i (bX7_counted_83 mv sv nv wh) 0) + (aMax 0 (aAt sv 2 (nI i))))), (0, .ref ((mA M) 0)), (1, .int wh), (2, .int (itI ((sv.1 3).toNatClampNeg) (bX7_counted_10 mv sv nv wh) 0)), (3, .int (itI ((mv.1 2).toNatClampNeg) (bX7_counted_52 mv sv nv wh) 0))]) hx hb dX7_counted_111 hl (k := 5) rfl (tr_inc _) (by decide) rfl (fun ls hl => ?_)
        refine lv_goto (tgt := 83) hx hb dX7_counted_114 (by decide) ?_
        have e9 : itI (i + 1) (bX7_counted_83 mv sv nv wh) 0 = (itI i (bX7_counted_83 mv sv nv wh) 0) + (aMax 0 (aAt sv 2 (nI i))) := by rw [itI_s, bX7_counted_83]
        exact ih H locs ls hlt ⟨⟨hM, hN, hS⟩, (by rw [e9]; exact lv_sub hl [2, 3, 4, 5, 1, 0] rfl)⟩
    · have hlt : i < (mv.1 2).toNatClampNeg := tr_on rfl hi c_58
      refine lv_iload_n hx hb dX7_counted_61 rfl (lv_at hl 3 rfl) ?_
      refine lv_aload_n hx hb dX7_counted_62 rfl (lv_at hl 0 rfl) ?_
      refine tr_get (ci := 7) (C := RX7) (T := TX7) (N := 6) hx hb hts hiX7 hown hK hM.c0 rfl 4 (by decide) f22 (v := .ref ((mA M) 2)) rfl dX7_counted_63 ?_
      refine tr_getN (host := "TramRibbonModel") (ci := 6) (C := RX6) (T := TX6) (N := 19) hx hb hts hiX6 hown hK hM.c2 rfl 12 (by decide) (by decide +kernel) (v := .ref ((mA M) 11)) rfl dX7_counted_66 ?_
      refine lv_iload hx hb dX7_counted_69 (lv_at hl 5 rfl) ?_
      refine tr_sald (sv := sv) hx hb hK 8 (hM.arr 8 (by decide)) (tr_vl rfl hlt hm.2.2 (by decide)) dX7_counted_71 ?_
      refine lv_iadd hx hb dX7_counted_72 ?_
      refine lv_istore_n (lv' := [(3, .int ((itI i (bX7_counted_52 mv sv nv wh) 0) + (aAt sv 8 (nI i)))), (0, .ref ((mA M) 0)), (1, .int wh), (2, .int (itI ((sv.1 3).toNatClampNeg) (bX7_counted_10 mv sv nv wh) 0)), (4, .int 0), (5, .int (nI i))]) hx hb dX7_counted_73 rfl hl (by decide) rfl (fun ls hl => ?_)
      refine lv_iinc (v := nI (i + 1)) (lv' := [(5, .int (nI (i + 1))), (3, .int ((itI i (bX7_counted_52 mv sv nv wh) 0) + (aAt sv 8 (nI i)))), (0, .ref ((mA M) 0)), (1, .int wh), (2, .int (itI ((sv.1 3).toNatClampNeg) (bX7_counted_10 mv sv nv wh) 0)), (4, .int 0)]) hx hb dX7_counted_74 hl (k := 5) rfl (tr_inc _) (by decide) rfl (fun ls hl => ?_)
      refine lv_goto (tgt := 52) hx hb dX7_counted_77 (by decide) ?_
      have e9 : itI (i + 1) (bX7_counted_52 mv sv nv wh) 0 = (itI i (bX7_counted_52 mv sv nv wh) 0) + (aAt sv 8 (nI i)) := by rw [itI_s, bX7_counted_52]
      exact ih H locs ls hlt ⟨⟨hM, hN, hS⟩, (by rw [e9]; exact lv_sub hl [2, 3, 4, 1, 5, 0] rfl)⟩
  · have hlt : i < (sv.1 3).toNatClampNeg := tr_on rfl hi c_19
    refine lv_iload_n hx hb dX7_counted_22 rfl (lv_at hl 2 rfl) ?_
    refine lv_aload_n hx hb dX7_counted_23 rfl (lv_at hl 0 rfl) ?_
    refine tr_get (ci := 7) (C := RX7) (T := TX7) (N := 6) hx hb hts hiX7 hown hK hM.c0 rfl 4 (by decide) f22 (v := .ref ((mA M) 2)) rfl dX7_counted_24 ?_
    refine tr_getN (host := "TramRibbonModel") (ci := 6) (C := RX6) (T := TX6) (N := 19) hx hb hts hiX6 hown hK hM.c2 rfl 8 (by decide) (by decide +kernel) (v := .ref ((mA M) 7)) rfl dX7_counted_27 ?_
    refine lv_iload hx hb dX7_counted_30 (lv_at hl 5 rfl) ?_
    refine tr_sald (sv := sv) hx hb hK 4 (hM.arr 4 (by decide)) (tr_vl rfl hlt (nOK16 hn) (by decide)) dX7_counted_32 ?_
    refine lv_if_le (tgt := 40) hx hb dX7_counted_33 (by decide) (fun c_33 => ?_) (fun c_33 => ?_)
    · refine lv_iconst (v := 0) hx hb dX7_counted_40 (by decide) ?_
      refine lv_iadd hx hb dX7_counted_41 ?_
      refine lv_istore_n (lv' := [(2, .int ((itI i (bX7_counted_10 mv sv nv wh) 0) + 0)), (0, .ref ((mA M) 0)), (1, .int wh), (3, .int 0), (4, .int 0), (5, .int (nI i))]) hx hb dX7_counted_42 rfl hl (by decide) rfl (fun ls hl => ?_)
      refine lv_iinc (v := nI (i + 1)) (lv' := [(5, .int (nI (i + 1))), (2, .int ((itI i (bX7_counted_10 mv sv nv wh) 0) + 0)), (0, .ref ((mA M) 0)), (1, .int wh), (3, .int 0), (4, .int 0)]) hx hb dX7_counted_43 hl (k := 5) rfl (tr_inc _) (by decide) rfl (fun ls hl => ?_)
      refine lv_goto (tgt := 10) hx hb dX7_counted_46 (by decide) ?_
      have e9 : itI (i + 1) (bX7_counted_10 mv sv nv wh) 0 = (itI i (bX7_counted_10 mv sv nv wh) 0) + 0 := by rw [itI_s, bX7_counted_10, if_pos c_33]
      exact ih H locs ls hlt ⟨⟨hM, hN, hS⟩, (by rw [e9]; exact lv_sub hl [2, 3, 1, 4, 5, 0] rfl)⟩
    · refine lv_iconst (v := 1) hx hb dX7_counted_36 (by decide) ?_
      refine lv_goto (tgt := 41) hx hb dX7_counted_37 (by decide) ?_
      refine lv_iadd hx hb dX7_counted_41 ?_
      refine lv_istore_n (lv' := [(2, .int ((itI i (bX7_counted_10 mv sv nv wh) 0) + 1)), (0, .ref ((mA M) 0)), (1, .int wh), (3, .int 0), (4, .int 0), (5, .int (nI i))]) hx hb dX7_counted_42 rfl hl (by decide) rfl (fun ls hl => ?_)
      refine lv_iinc (v := nI (i + 1)) (lv' := [(5, .int (nI (i + 1))), (2, .int ((itI i (bX7_counted_10 mv sv nv wh) 0) + 1)), (0, .ref ((mA M) 0)), (1, .int wh), (3, .int 0), (4, .int 0)]) hx hb dX7_counted_43 hl (k := 5) rfl (tr_inc _) (by decide) rfl (fun ls hl => ?_)
      refine lv_goto (tgt := 10) hx hb dX7_counted_46 (by decide) ?_
      have e9 : itI (i + 1) (bX7_counted_10 mv sv nv wh) 0 = (itI i (bX7_counted_10 mv sv nv wh) 0) + 1 := by rw [itI_s, bX7_counted_10, if_neg c_33]
      exact ih H locs ls hlt ⟨⟨hM, hN, hS⟩, (by rw [e9]; exact lv_sub hl [2, 3, 1, 4, 5, 0] rfl)⟩
