/-! State: what is written -/
theorem tr_nIm1 {i : Nat} (h : i < 2 ^ 31) : ¬ nI i = -1 := by
  intro e
  have h1 := congrArg Int32.toInt e
  rw [nI_toInt h, show (-1 : Int32).toInt = -1 from rfl] at h1
  omega
/-- the cuts are 0 or 1; who pushes, pushes a car -/
def cOK (sv : LV) : Prop := ∀ k, k < 16 → sv.2 1 k = 0 ∨ sv.2 1 k = 1
def pOK (sv : LV) : Prop := ∀ i : Int32, vp_in i 6 → ¬ aAt sv 11 i = -1 → vp_in (aAt sv 11 i) 6
theorem sec_in {mv sv : LV} (hc : cOK sv) : ∀ n, n ≤ 15 → 0 ≤ (itI n (bX6_sectionOf_4 mv sv (nI n)) 0).toInt ∧ (itI n (bX6_sectionOf_4 mv sv (nI n)) 0).toInt ≤ n := by
  have key : ∀ (sp : Int32) (n : Nat), n ≤ 15 → 0 ≤ (itI n (bX6_sectionOf_4 mv sv sp) 0).toInt ∧ (itI n (bX6_sectionOf_4 mv sv sp) 0).toInt ≤ n := by
    intro sp n
    induction n with
    | zero => intro _; show 0 ≤ (0 : Int32).toInt ∧ (0 : Int32).toInt ≤ ((0 : Nat) : Int); exact ⟨by decide, by decide⟩
    | succ n ih =>
      intro hn
      have h1 := ih (by omega)
      rw [itI_s, bX6_sectionOf_4]
      have h2 : aAt sv 1 (nI (n + 1)) = sv.2 1 (n + 1) := by unfold aAt; rw [tr_cl (by omega)]
      rw [h2, Int32.toInt_add]
      rcases hc (n + 1) (by omega) with h3 | h3
      · rw [h3, show (0 : Int32).toInt = 0 from rfl, Int.bmod_eq_of_le (by omega) (by omega)]; omega
      · rw [h3, show (1 : Int32).toInt = 1 from rfl, Int.bmod_eq_of_le (by omega) (by omega)]; omega
  exact fun n hn => key _ n hn
theorem sec_rng {mv sv : LV} {sp : Int32} (hc : cOK sv) (h : sp.toInt ≤ 15) : 0 ≤ (fX6_sectionOf mv sv sp).toInt ∧ (fX6_sectionOf mv sv sp).toInt ≤ 15 := by
  have h2 : sp.toInt.toNat = sp.toNatClampNeg := rfl
  by_cases e : sp.toInt ≤ 0
  · have h3 : sp.toNatClampNeg = 0 := by omega
    unfold fX6_sectionOf
    rw [h3]
    show 0 ≤ (0 : Int32).toInt ∧ (0 : Int32).toInt ≤ 15
    exact ⟨by decide, by decide⟩
  · have h4 : nI sp.toNatClampNeg = sp := by
      apply Int32.toInt_inj.mp
      rw [nI_toInt (by omega)]; omega
    have h5 := sec_in (mv := mv) hc sp.toNatClampNeg (by omega)
    rw [h4] at h5
    unfold fX6_sectionOf
    omega
theorem sec_vp {mv sv : LV} {sp : Int32} (hc : cOK sv) (h : sp.toInt ≤ 15) : vp_in (fX6_sectionOf mv sv sp) 16 := tr_vi (sec_rng hc h).1 (by have := (sec_rng (mv := mv) hc h).2; omega)
def bX6_turn_2 (mv : LV) (sv : LV) (i : Nat) (a : LV) : LV :=
  (if (aAt a 10 (nI i)) = 1 then a else (if (fX6_ahead mv a (nI i)) = (-1) then (if (aAt a 11 (nI i)) = (-1) then aSet a 7 (nI i) (-(aAt a 7 (nI i))) else aSet (aSet a 7 (nI i) (-(aAt a 7 (nI i)))) 7 (aAt a 11 (nI i)) (-(aAt a 7 (nI i)))) else a))
def fX6_turn (mv : LV) (sv : LV) : LV :=
  itI ((mv.1 2).toNatClampNeg) (bX6_turn_2 mv sv) sv
theorem rk11_bX6_turn_2 (mv sv : LV) (i : Nat) (a : LV) : (bX6_turn_2 mv sv i a).2 11 = a.2 11 := by
  unfold bX6_turn_2
  (repeat' split) <;> first | rfl
theorem rki11_bX6_turn_2 (mv sv : LV) (a : LV) : ∀ i, (itI i (bX6_turn_2 mv sv) a).2 11 = a.2 11
  | 0 => rfl
  | i + 1 => (rk11_bX6_turn_2 mv sv i _).trans (rki11_bX6_turn_2 mv sv a i)
set_option maxHeartbeats 4000000 in
set_option maxRecDepth 100000 in
theorem c_X6_turn (l : Launch) (D : va_G) (cI : ClassId) (C : Nat → Nat) (hC : SInj C) (mv sv : LV)  (hm : mOK mv) (hp : pOK sv) : Met l yX6_turn wsX6_turn ({ frames := 1, cells := 0, slots := 0, locals := 22 }) (tr_Pc D cI [.ref (C 2)] (STA D cI C mv sv)) (tr_Q none (STA D cI C mv (fX6_turn mv sv)) (sOwn C)) 0 0 (sOwn C) := by
  refine Met.ofW (cc := cX6_turn) (maxL := 2) (ret := none) (by decide) rfl ?_
  intro p e s m args below meth c s₁ B hml hv
  obtain ⟨rfl, hM, hK⟩ := hv
  have hx := B.exec
  have hb := B.bytes
  have hr := B.returns
  have hts := atoms_spec (ws := wsX6_turn) B.pre
  have hown : s.vm.findClass RX6 = some m.cls := findClass_of_methodNamed B.named
  have hlocks := B.notSynchronized
  have hiX6 : ∀ w ∈ u_ws RX6 TX6 19, w ∈ wsX6_turn := by decide +kernel
  have hiX7 : ∀ w ∈ u_ws RX7 TX7 6, w ∈ wsX6_turn := by decide +kernel
  have f3 := hts (.fieldLink RX6 3 "TramRibbonModel$State" "this$0" "LTramRibbonModel;") (by decide +kernel)
  have f41 := hts (.fieldLink RX6 41 "TramRibbonModel$State" "way" "[I") (by decide +kernel)
  have f50 := hts (.fieldLink RX6 50 "TramRibbonModel$State" "broken" "[I") (by decide +kernel)
  have f53 := hts (.fieldLink RX6 53 "TramRibbonModel$State" "pushes" "[I") (by decide +kernel)
  have hl := lv_entry ([.ref (C 2)]) (n := 2) (Nat.le_of_ble_eq_true rfl)
  rw [lg_entry_eq]
  generalize (lg_sl ([.ref (C 2)]) ++ List.replicate (2 - (lg_sl ([.ref (C 2)])).length) Slot.unset).toArray = ls at hl ⊢
  replace hl : lv_has ls 2 [(0, .ref (C 2))] := hl
  have hS : tr_S (sOwn C) s.heap s.heap [] := tr_S.rf
  generalize h1 : s.heap = H, h2 : ([] : List Loc) = locs
  replace hS : tr_S (sOwn C) s.heap H locs := by rw [← h1, ← h2]; exact hS
  rw [h1] at hM
  clear h1 h2
  refine lv_iconst (v := 0) hx hb dX6_turn_0 (by decide) ?_
  refine lv_istore_n (lv' := [(1, .int 0), (0, .ref (C 2))]) hx hb dX6_turn_1 rfl hl (by decide) rfl (fun ls hl => ?_)
  have hinv := And.intro (show STA D cI C mv sv H ∧ tr_S (sOwn C) s.heap H locs from ⟨hM, hS⟩) hl
  clear hM hS hl
  revert hinv; revert ls; revert locs; revert H
  refine tr_forw (fun i H locs ls => (STA D cI C mv (itI i (bX6_turn_2 mv sv) sv) H ∧ tr_S (sOwn C) s.heap H locs) ∧ lv_has ls 2 [(0, .ref (C 2)), (1, .int (nI i))]) ((mv.1 2).toNatClampNeg) (fun H locs ls hinv => ?_) ?_
  · obtain ⟨⟨hM, hS⟩, hl⟩ := hinv
    exact ⟨⟨by rw [itI_0]; exact hM, hS⟩, lv_sub hl [1, 0] rfl⟩
  intro i H locs ls hi hinv ih
  obtain ⟨⟨hM, hS⟩, hl⟩ := hinv
  refine lv_iload_n hx hb dX6_turn_2 rfl (lv_at hl 1 rfl) ?_
  refine lv_aload_n hx hb dX6_turn_3 rfl (lv_at hl 0 rfl) ?_
  refine tr_get (ci := 6) (C := RX6) (T := TX6) (N := 19) hx hb hts hiX6 hown hK hM.c2 rfl 18 (by decide) f3 (v := .ref (C 0)) rfl dX6_turn_4 ?_
  refine tr_getN (host := "TramRibbonModel") (ci := 7) (C := RX7) (T := TX7) (N := 6) hx hb hts hiX7 hown hK hM.c0 rfl 2 (by decide) (by decide +kernel) (v := .int (mv.1 2)) rfl dX6_turn_7 ?_
  refine lv_icmp_ge (tgt := 81) hx hb dX6_turn_10 (by decide) (fun c_10 => ?_) (fun c_10 => ?_)
  · have hN : i = (mv.1 2).toNatClampNeg := tr_over rfl hi c_10
    subst hN
    exact W.vret hx hb hr (hS.end (by rw [fX6_turn]; exact hM)) hS.2.2 dX6_turn_81
  · have hlt : i < (mv.1 2).toNatClampNeg := tr_on rfl hi c_10
    refine lv_aload_n hx hb dX6_turn_13 rfl (lv_at hl 0 rfl) ?_
    refine tr_get (ci := 6) (C := RX6) (T := TX6) (N := 19) hx hb hts hiX6 hown hK hM.c2 rfl 14 (by decide) f50 (v := .ref (C 13)) rfl dX6_turn_14 ?_
    refine lv_iload_n hx hb dX6_turn_17 rfl (lv_at hl 1 rfl) ?_
    refine tr_sald (sv := itI i (bX6_turn_2 mv sv) sv) hx hb hK 10 (hM.arr 10 (by decide)) (tr_vl rfl hlt hm.2.2 (by decide)) dX6_turn_18 ?_
    refine lv_iconst (v := 1) hx hb dX6_turn_19 (by decide) ?_
    refine lv_icmp_eq (tgt := 75) hx hb dX6_turn_20 (by decide) (fun c_20 => ?_) (fun c_20 => ?_)
    · refine lv_iinc (v := nI (i + 1)) (lv' := [(1, .int (nI (i + 1))), (0, .ref (C 2))]) hx hb dX6_turn_75 hl (k := 1) rfl (tr_inc _) (by decide) rfl (fun ls hl => ?_)
      refine lv_goto (tgt := 2) hx hb dX6_turn_78 (by decide) ?_
      have e9 : itI (i + 1) (bX6_turn_2 mv sv) sv = itI i (bX6_turn_2 mv sv) sv := by rw [itI_s, bX6_turn_2, if_pos c_20]
      exact ih H locs ls hlt ⟨⟨by rw [e9]; exact hM, hS⟩, lv_sub hl [1, 0] rfl⟩
    · refine lv_aload_n hx hb dX6_turn_23 rfl (lv_at hl 0 rfl) ?_
      refine lv_iload_n hx hb dX6_turn_24 rfl (lv_at hl 1 rfl) ?_
      refine tr_ri (va_runV (As := [.int (nI i)]) (rest := []) ⟨hx, hb, hml, hown, hts⟩ (c_X6_ahead l D cI C hC mv (itI i (bX6_turn_2 mv sv) sv) (nI i) (tr_vl rfl hlt hm.2.2 (by decide))) (cwV 1 hts gX6_turn_X6_ahead rfl rfl rfl (by decide +kernel) ⟨Nat.le_of_ble_eq_true rfl, Nat.le_of_ble_eq_true rfl⟩) (tr_preV hK hM.c2 rfl hM) rfl rfl hl.1 rfl (lv_room (Nat.le_of_ble_eq_true rfl)) dX6_turn_25 ⟨Nat.zero_le _, Nat.zero_le _⟩) ?_
      refine lv_iconst (v := -1) hx hb dX6_turn_28 (by decide) ?_
      refine lv_icmp_eq (tgt := 35) hx hb dX6_turn_29 (by decide) (fun c_29 => ?_) (fun c_29 => ?_)
      · refine lv_aload_n hx hb dX6_turn_35 rfl (lv_at hl 0 rfl) ?_
        refine tr_get (ci := 6) (C := RX6) (T := TX6) (N := 19) hx hb hts hiX6 hown hK hM.c2 rfl 11 (by decide) f41 (v := .ref (C 10)) rfl dX6_turn_36 ?_
        refine lv_iload_n hx hb dX6_turn_39 rfl (lv_at hl 1 rfl) ?_
        refine lv_aload_n hx hb dX6_turn_40 rfl (lv_at hl 0 rfl) ?_
        refine tr_get (ci := 6) (C := RX6) (T := TX6) (N := 19) hx hb hts hiX6 hown hK hM.c2 rfl 11 (by decide) f41 (v := .ref (C 10)) rfl dX6_turn_41 ?_
        refine lv_iload_n hx hb dX6_turn_44 rfl (lv_at hl 1 rfl) ?_
        refine tr_sald (sv := itI i (bX6_turn_2 mv sv) sv) hx hb hK 7 (hM.arr 7 (by decide)) (tr_vl rfl hlt hm.2.2 (by decide)) dX6_turn_45 ?_
        refine lv_ineg hx hb dX6_turn_46 ?_
        refine tr_sast hx hb hK hS hC hM (fun _ h => h) 7 (by decide) (tr_vl rfl hlt hm.2.2 (by decide)) dX6_turn_47 (fun H locs hM hk hS => ?_)
        clear hk
        refine lv_aload_n hx hb dX6_turn_48 rfl (lv_at hl 0 rfl) ?_
        refine tr_get (ci := 6) (C := RX6) (T := TX6) (N := 19) hx hb hts hiX6 hown hK hM.c2 rfl 15 (by decide) f53 (v := .ref (C 14)) rfl dX6_turn_49 ?_
        refine lv_iload_n hx hb dX6_turn_52 rfl (lv_at hl 1 rfl) ?_
        refine tr_sald (sv := itI i (bX6_turn_2 mv sv) sv) hx hb hK 11 (hM.arr 11 (by decide)) (tr_vl rfl hlt hm.2.2 (by decide)) dX6_turn_53 ?_
        refine lv_iconst (v := -1) hx hb dX6_turn_54 (by decide) ?_
        refine lv_icmp_eq (tgt := 75) hx hb dX6_turn_55 (by decide) (fun c_55 => ?_) (fun c_55 => ?_)
        · refine lv_iinc (v := nI (i + 1)) (lv' := [(1, .int (nI (i + 1))), (0, .ref (C 2))]) hx hb dX6_turn_75 hl (k := 1) rfl (tr_inc _) (by decide) rfl (fun ls hl => ?_)
          refine lv_goto (tgt := 2) hx hb dX6_turn_78 (by decide) ?_
          have e9 : itI (i + 1) (bX6_turn_2 mv sv) sv = aSet (itI i (bX6_turn_2 mv sv) sv) 7 (nI i) (-(aAt (itI i (bX6_turn_2 mv sv) sv) 7 (nI i))) := by rw [itI_s, bX6_turn_2, if_neg c_20, if_pos c_29, if_pos c_55]
          exact ih H locs ls hlt ⟨⟨by rw [e9]; exact hM, hS⟩, lv_sub hl [1, 0] rfl⟩
        · refine lv_aload_n hx hb dX6_turn_58 rfl (lv_at hl 0 rfl) ?_
          refine tr_get (ci := 6) (C := RX6) (T := TX6) (N := 19) hx hb hts hiX6 hown hK hM.c2 rfl 11 (by decide) f41 (v := .ref (C 10)) rfl dX6_turn_59 ?_
          refine lv_aload_n hx hb dX6_turn_62 rfl (lv_at hl 0 rfl) ?_
          refine tr_get (ci := 6) (C := RX6) (T := TX6) (N := 19) hx hb hts hiX6 hown hK hM.c2 rfl 15 (by decide) f53 (v := .ref (C 14)) rfl dX6_turn_63 ?_
          refine lv_iload_n hx hb dX6_turn_66 rfl (lv_at hl 1 rfl) ?_
          refine tr_sald (sv := itI i (bX6_turn_2 mv sv) sv) hx hb hK 11 (hM.arr 11 (by decide)) (tr_vl rfl hlt hm.2.2 (by decide)) dX6_turn_67 ?_
          refine lv_aload_n hx hb dX6_turn_68 rfl (lv_at hl 0 rfl) ?_
          refine tr_get (ci := 6) (C := RX6) (T := TX6) (N := 19) hx hb hts hiX6 hown hK hM.c2 rfl 11 (by decide) f41 (v := .ref (C 10)) rfl dX6_turn_69 ?_
          refine lv_iload_n hx hb dX6_turn_72 rfl (lv_at hl 1 rfl) ?_
          refine tr_sald (sv := aSet (itI i (bX6_turn_2 mv sv) sv) 7 (nI i) (-(aAt (itI i (bX6_turn_2 mv sv) sv) 7 (nI i)))) hx hb hK 7 (hM.arr 7 (by decide)) (tr_vl rfl hlt hm.2.2 (by decide)) dX6_turn_73 ?_
          rw [aAt_same (v := itI i (bX6_turn_2 mv sv) sv) (r := 7) (i := nI i) (x := -(aAt (itI i (bX6_turn_2 mv sv) sv) 7 (nI i)))]
          refine tr_sast hx hb hK hS hC hM (fun _ h => h) 7 (by decide) (by rw [show aAt _ 11 _ = aAt sv 11 (nI i) from congrFun (rki11_bX6_turn_2 mv sv sv i) _]; exact hp _ (tr_vl rfl hlt hm.2.2 (by decide)) (by rw [← show aAt (itI i (bX6_turn_2 mv sv) sv) 11 (nI i) = aAt sv 11 (nI i) from congrFun (rki11_bX6_turn_2 mv sv sv i) _]; exact c_55)) dX6_turn_74 (fun H locs hM hk hS => ?_)
          clear hk
          refine lv_iinc (v := nI (i + 1)) (lv' := [(1, .int (nI (i + 1))), (0, .ref (C 2))]) hx hb dX6_turn_75 hl (k := 1) rfl (tr_inc _) (by decide) rfl (fun ls hl => ?_)
          refine lv_goto (tgt := 2) hx hb dX6_turn_78 (by decide) ?_
          have e9 : itI (i + 1) (bX6_turn_2 mv sv) sv = aSet (aSet (itI i (bX6_turn_2 mv sv) sv) 7 (nI i) (-(aAt (itI i (bX6_turn_2 mv sv) sv) 7 (nI i)))) 7 (aAt (itI i (bX6_turn_2 mv sv) sv) 11 (nI i)) (-(aAt (itI i (bX6_turn_2 mv sv) sv) 7 (nI i))) := by rw [itI_s, bX6_turn_2, if_neg c_20, if_pos c_29, if_neg c_55]
          exact ih H locs ls hlt ⟨⟨by rw [e9]; exact hM, hS⟩, lv_sub hl [1, 0] rfl⟩
      · refine lv_goto (tgt := 75) hx hb dX6_turn_32 (by decide) ?_
        refine lv_iinc (v := nI (i + 1)) (lv' := [(1, .int (nI (i + 1))), (0, .ref (C 2))]) hx hb dX6_turn_75 hl (k := 1) rfl (tr_inc _) (by decide) rfl (fun ls hl => ?_)
        refine lv_goto (tgt := 2) hx hb dX6_turn_78 (by decide) ?_
        have e9 : itI (i + 1) (bX6_turn_2 mv sv) sv = itI i (bX6_turn_2 mv sv) sv := by rw [itI_s, bX6_turn_2, if_neg c_20, if_neg c_29]
        exact ih H locs ls hlt ⟨⟨by rw [e9]; exact hM, hS⟩, lv_sub hl [1, 0] rfl⟩
def fX6_go (mv : LV) (sv : LV) (cr : Int32) : LV :=
  (if (aAt sv 10 cr) = 1 then aSet sv 13 cr 0 else (if (aAt sv 4 (fX6_sectionOf mv (aSet sv 13 cr 0) (fX6_ahead mv (aSet sv 13 cr 0) cr))) ≤ 0 then (if (aAt sv 11 cr) = (-1) then (if 2 ≤ (fX6_carsAt mv (aSet sv 13 cr 0) ((aAt sv 6 cr) + (aAt sv 7 cr))) then aSet sv 13 cr 0 else (if (aAt sv 11 cr) = (-1) then aSet (aSet (aSet (aSet sv 13 cr 0) 13 cr 1) 12 cr ((aAt sv 12 cr) + 1)) 6 cr ((aAt sv 6 cr) + (aAt sv 7 cr)) else aSet (aSet (aSet (aSet (aSet (aSet sv 13 cr 0) 13 cr 1) 12 cr ((aAt sv 12 cr) + 1)) 6 cr ((aAt sv 6 cr) + (aAt sv 7 cr))) 6 (aAt sv 11 cr) ((aAt sv 6 cr) + (aAt sv 7 cr))) 12 (aAt sv 11 cr) ((aAt (aSet (aSet (aSet sv 13 cr 0) 13 cr 1) 12 cr ((aAt sv 12 cr) + 1)) 12 (aAt sv 11 cr)) + 1))) else (if (fX6_carsAt mv (aSet sv 13 cr 0) ((aAt sv 6 cr) + (aAt sv 7 cr))) = 0 then (if ((sv.1 0) - (sv.1 0) / 2 * 2) = 0 then (if (aAt sv 11 cr) = (-1) then aSet (aSet (aSet (aSet sv 13 cr 0) 13 cr 1) 12 cr ((aAt sv 12 cr) + 1)) 6 cr ((aAt sv 6 cr) + (aAt sv 7 cr)) else aSet (aSet (aSet (aSet (aSet (aSet sv 13 cr 0) 13 cr 1) 12 cr ((aAt sv 12 cr) + 1)) 6 cr ((aAt sv 6 cr) + (aAt sv 7 cr))) 6 (aAt sv 11 cr) ((aAt sv 6 cr) + (aAt sv 7 cr))) 12 (aAt sv 11 cr) ((aAt (aSet (aSet (aSet sv 13 cr 0) 13 cr 1) 12 cr ((aAt sv 12 cr) + 1)) 12 (aAt sv 11 cr)) + 1)) else aSet sv 13 cr 0) else aSet sv 13 cr 0)) else aSet sv 13 cr 0))
set_option maxHeartbeats 4000000 in
set_option maxRecDepth 100000 in
theorem c_X6_go (l : Launch) (D : va_G) (cI : ClassId) (C : Nat → Nat) (hC : SInj C) (mv sv : LV) (cr : Int32) (hm : mOK mv) (hcut : cOK sv) (hp : pOK sv) (hcr : vp_in cr 6) : Met l yX6_go wsX6_go ({ frames := 1, cells := 0, slots := 0, locals := 23 }) (tr_Pc D cI [.ref (C 2), .int cr] (STA D cI C mv sv)) (tr_Q none (STA D cI C mv (fX6_go mv sv cr)) (sOwn C)) 0 0 (sOwn C) := by
  refine Met.ofW (cc := cX6_go) (maxL := 4) (ret := none) (by decide) rfl ?_
  intro p e s m args below meth c s₁ B hml hv
  obtain ⟨rfl, hM, hK⟩ := hv
  have hx := B.exec
  have hb := B.bytes
  have hr := B.returns
  have hts := atoms_spec (ws := wsX6_go) B.pre
  have hown : s.vm.findClass RX6 = some m.cls := findClass_of_methodNamed B.named
  have hlocks := B.notSynchronized
  have hiX6 : ∀ w ∈ u_ws RX6 TX6 19, w ∈ wsX6_go := by decide +kernel
  have f32 := hts (.fieldLink RX6 32 "TramRibbonModel$State" "dead" "[I") (by decide +kernel)
  have f38 := hts (.fieldLink RX6 38 "TramRibbonModel$State" "at" "[I") (by decide +kernel)
  have f41 := hts (.fieldLink RX6 41 "TramRibbonModel$State" "way" "[I") (by decide +kernel)
  have f50 := hts (.fieldLink RX6 50 "TramRibbonModel$State" "broken" "[I") (by decide +kernel)
  have f53 := hts (.fieldLink RX6 53 "TramRibbonModel$State" "pushes" "[I") (by decide +kernel)
  have f56 := hts (.fieldLink RX6 56 "TramRibbonModel$State" "came" "[I") (by decide +kernel)
  have f59 := hts (.fieldLink RX6 59 "TramRibbonModel$State" "went" "[I") (by decide +kernel)
  have f68 := hts (.fieldLink RX6 68 "TramRibbonModel$State" "tick" "I") (by decide +kernel)
  have hl := lv_entry ([.ref (C 2), .int cr]) (n := 4) (Nat.le_of_ble_eq_true rfl)
  rw [lg_entry_eq]
  generalize (lg_sl ([.ref (C 2), .int cr]) ++ List.replicate (4 - (lg_sl ([.ref (C 2), .int cr])).length) Slot.unset).toArray = ls at hl ⊢
  replace hl : lv_has ls 4 [(0, .ref (C 2)), (1, .int cr)] := hl
  have hS : tr_S (sOwn C) s.heap s.heap [] := tr_S.rf
  generalize h1 : s.heap = H, h2 : ([] : List Loc) = locs
  replace hS : tr_S (sOwn C) s.heap H locs := by rw [← h1, ← h2]; exact hS
  rw [h1] at hM
  clear h1 h2
  refine lv_aload_n hx hb dX6_go_0 rfl (lv_at hl 0 rfl) ?_
  refine tr_get (ci := 6) (C := RX6) (T := TX6) (N := 19) hx hb hts hiX6 hown hK hM.c2 rfl 17 (by decide) f59 (v := .ref (C 16)) rfl dX6_go_1 ?_
  refine lv_iload_n hx hb dX6_go_4 rfl (lv_at hl 1 rfl) ?_
  refine lv_iconst (v := 0) hx hb dX6_go_5 (by decide) ?_
  refine tr_sast hx hb hK hS hC hM (fun _ h => h) 13 (by decide) hcr dX6_go_6 (fun H locs hM hk hS => ?_)
  clear hk
  refine lv_aload_n hx hb dX6_go_7 rfl (lv_at hl 0 rfl) ?_
  refine tr_get (ci := 6) (C := RX6) (T := TX6) (N := 19) hx hb hts hiX6 hown hK hM.c2 rfl 14 (by decide) f50 (v := .ref (C 13)) rfl dX6_go_8 ?_
  refine lv_iload_n hx hb dX6_go_11 rfl (lv_at hl 1 rfl) ?_
  refine tr_sald (sv := sv) hx hb hK 10 (hM.arr 10 (by decide)) hcr dX6_go_12 ?_
  refine lv_iconst (v := 1) hx hb dX6_go_13 (by decide) ?_
  refine lv_icmp_eq (tgt := 34) hx hb dX6_go_14 (by decide) (fun c_14 => ?_) (fun c_14 => ?_)
  · exact W.vret hx hb hr (hS.end (by rw [fX6_go, if_pos c_14]; exact hM)) hS.2.2 dX6_go_34
  · refine lv_aload_n hx hb dX6_go_17 rfl (lv_at hl 0 rfl) ?_
    refine tr_get (ci := 6) (C := RX6) (T := TX6) (N := 19) hx hb hts hiX6 hown hK hM.c2 rfl 8 (by decide) f32 (v := .ref (C 7)) rfl dX6_go_18 ?_
    refine lv_aload_n hx hb dX6_go_21 rfl (lv_at hl 0 rfl) ?_
    refine lv_aload_n hx hb dX6_go_22 rfl (lv_at hl 0 rfl) ?_
    refine lv_iload_n hx hb dX6_go_23 rfl (lv_at hl 1 rfl) ?_
    refine tr_ri (va_runV (As := [.int cr]) (rest := [.ref (C 2), .ref (C 7)]) ⟨hx, hb, hml, hown, hts⟩ (c_X6_ahead l D cI C hC mv (aSet sv 13 cr 0) cr hcr) (cwV 1 hts gX6_go_X6_ahead rfl rfl rfl (by decide +kernel) ⟨Nat.le_of_ble_eq_true rfl, Nat.le_of_ble_eq_true rfl⟩) (tr_preV hK hM.c2 rfl hM) rfl rfl hl.1 rfl (lv_room (Nat.le_of_ble_eq_true rfl)) dX6_go_24 ⟨Nat.zero_le _, Nat.zero_le _⟩) ?_
    refine tr_ri (va_runV (As := [.int (fX6_ahead mv (aSet sv 13 cr 0) cr)]) (rest := [.ref (C 7)]) ⟨hx, hb, hml, hown, hts⟩ (c_X6_sectionOf l D cI C hC mv (aSet sv 13 cr 0) (fX6_ahead mv (aSet sv 13 cr 0) cr) (ahead_le hm)) (cwV 1 hts gX6_go_X6_sectionOf rfl rfl rfl (by decide +kernel) ⟨Nat.le_of_ble_eq_true rfl, Nat.le_of_ble_eq_true rfl⟩) (tr_preV hK hM.c2 rfl hM) rfl rfl hl.1 rfl (lv_room (Nat.le_of_ble_eq_true rfl)) dX6_go_27 ⟨Nat.zero_le _, Nat.zero_le _⟩) ?_
    refine tr_sald (sv := sv) hx hb hK 4 (hM.arr 4 (by decide)) (sec_vp hcut (ahead_le hm)) dX6_go_30 ?_
    refine lv_if_le (tgt := 35) hx hb dX6_go_31 (by decide) (fun c_31 => ?_) (fun c_31 => ?_)
    · refine lv_aload_n hx hb dX6_go_35 rfl (lv_at hl 0 rfl) ?_
      refine lv_aload_n hx hb dX6_go_36 rfl (lv_at hl 0 rfl) ?_
      refine tr_get (ci := 6) (C := RX6) (T := TX6) (N := 19) hx hb hts hiX6 hown hK hM.c2 rfl 10 (by decide) f38 (v := .ref (C 9)) rfl dX6_go_37 ?_
      refine lv_iload_n hx hb dX6_go_40 rfl (lv_at hl 1 rfl) ?_
      refine tr_sald (sv := sv) hx hb hK 6 (hM.arr 6 (by decide)) hcr dX6_go_41 ?_
      refine lv_aload_n hx hb dX6_go_42 rfl (lv_at hl 0 rfl) ?_
      refine tr_get (ci := 6) (C := RX6) (T := TX6) (N := 19) hx hb hts hiX6 hown hK hM.c2 rfl 11 (by decide) f41 (v := .ref (C 10)) rfl dX6_go_43 ?_
      refine lv_iload_n hx hb dX6_go_46 rfl (lv_at hl 1 rfl) ?_
      refine tr_sald (sv := sv) hx hb hK 7 (hM.arr 7 (by decide)) hcr dX6_go_47 ?_
      refine lv_iadd hx hb dX6_go_48 ?_
      refine tr_ri (va_runV (As := [.int ((aAt sv 6 cr) + (aAt sv 7 cr))]) (rest := []) ⟨hx, hb, hml, hown, hts⟩ (c_X6_carsAt l D cI C hC mv (aSet sv 13 cr 0) ((aAt sv 6 cr) + (aAt sv 7 cr)) hm) (cwV 1 hts gX6_go_X6_carsAt rfl rfl rfl (by decide +kernel) ⟨Nat.le_of_ble_eq_true rfl, Nat.le_of_ble_eq_true rfl⟩) (tr_preV hK hM.c2 rfl hM) rfl rfl hl.1 rfl (lv_room (Nat.le_of_ble_eq_true rfl)) dX6_go_49 ⟨Nat.zero_le _, Nat.zero_le _⟩) ?_
      refine lv_istore_n (lv' := [(2, .int (fX6_carsAt mv (aSet sv 13 cr 0) ((aAt sv 6 cr) + (aAt sv 7 cr)))), (0, .ref (C 2)), (1, .int cr)]) hx hb dX6_go_52 rfl hl (by decide) rfl (fun ls hl => ?_)
      refine lv_aload_n hx hb dX6_go_53 rfl (lv_at hl 1 rfl) ?_
      refine tr_get (ci := 6) (C := RX6) (T := TX6) (N := 19) hx hb hts hiX6 hown hK hM.c2 rfl 15 (by decide) f53 (v := .ref (C 14)) rfl dX6_go_54 ?_
      refine lv_iload_n hx hb dX6_go_57 rfl (lv_at hl 2 rfl) ?_
      refine tr_sald (sv := sv) hx hb hK 11 (hM.arr 11 (by decide)) hcr dX6_go_58 ?_
      refine lv_iconst (v := -1) hx hb dX6_go_59 (by decide) ?_
      refine lv_icmp_ne (tgt := 76) hx hb dX6_go_60 (by decide) (fun c_60 => ?_) (fun c_60 => ?_)
      · refine lv_iload_n hx hb dX6_go_76 rfl (lv_at hl 0 rfl) ?_
        refine lv_if_ne (tgt := 93) hx hb dX6_go_77 (by decide) (fun c_77 => ?_) (fun c_77 => ?_)
        · refine lv_iconst (v := 0) hx hb dX6_go_93 (by decide) ?_
          refine lv_istore_n (lv' := [(3, .int 0), (2, .int (fX6_carsAt mv (aSet sv 13 cr 0) ((aAt sv 6 cr) + (aAt sv 7 cr)))), (0, .ref (C 2)), (1, .int cr)]) hx hb dX6_go_94 rfl hl (by decide) rfl (fun ls hl => ?_)
          refine lv_iload_n hx hb dX6_go_95 rfl (lv_at hl 0 rfl) ?_
          refine lv_if_ne (tgt := 100) hx hb dX6_go_96 (by decide) (fun h9 => absurd h9 (by decide)) (fun _ => ?_)
          exact W.vret hx hb hr (hS.end (by rw [fX6_go, if_neg c_14, if_pos c_31, if_neg c_60, if_neg c_77]; exact hM)) hS.2.2 dX6_go_99
        · refine lv_aload_n hx hb dX6_go_80 rfl (lv_at hl 1 rfl) ?_
          refine tr_get (ci := 6) (C := RX6) (T := TX6) (N := 19) hx hb hts hiX6 hown hK hM.c2 rfl 0 (by decide) f68 (v := .int (sv.1 0)) rfl dX6_go_81 ?_
          refine lv_iconst (v := 2) hx hb dX6_go_84 (by decide) ?_
          refine lv_irem hx hb dX6_go_85 (by decide) ?_
          refine lv_if_ne (tgt := 93) hx hb dX6_go_86 (by decide) (fun c_86 => ?_) (fun c_86 => ?_)
          · refine lv_iconst (v := 0) hx hb dX6_go_93 (by decide) ?_
            refine lv_istore_n (lv' := [(3, .int 0), (2, .int (fX6_carsAt mv (aSet sv 13 cr 0) ((aAt sv 6 cr) + (aAt sv 7 cr)))), (0, .ref (C 2)), (1, .int cr)]) hx hb dX6_go_94 rfl hl (by decide) rfl (fun ls hl => ?_)
            refine lv_iload_n hx hb dX6_go_95 rfl (lv_at hl 0 rfl) ?_
            refine lv_if_ne (tgt := 100) hx hb dX6_go_96 (by decide) (fun h9 => absurd h9 (by decide)) (fun _ => ?_)
            exact W.vret hx hb hr (hS.end (by rw [fX6_go, if_neg c_14, if_pos c_31, if_neg c_60, if_pos c_77, if_neg c_86]; exact hM)) hS.2.2 dX6_go_99
          · refine lv_iconst (v := 1) hx hb dX6_go_89 (by decide) ?_
            refine lv_goto (tgt := 94) hx hb dX6_go_90 (by decide) ?_
            refine lv_istore_n (lv' := [(3, .int 1), (2, .int (fX6_carsAt mv (aSet sv 13 cr 0) ((aAt sv 6 cr) + (aAt sv 7 cr)))), (0, .ref (C 2)), (1, .int cr)]) hx hb dX6_go_94 rfl hl (by decide) rfl (fun ls hl => ?_)
            refine lv_iload_n hx hb dX6_go_95 rfl (lv_at hl 0 rfl) ?_
            refine lv_if_ne (tgt := 100) hx hb dX6_go_96 (by decide) (fun _ => ?_) (fun h9 => absurd h9 (by decide))
            refine lv_aload_n hx hb dX6_go_100 rfl (lv_at hl 2 rfl) ?_
            refine tr_get (ci := 6) (C := RX6) (T := TX6) (N := 19) hx hb hts hiX6 hown hK hM.c2 rfl 17 (by decide) f59 (v := .ref (C 16)) rfl dX6_go_101 ?_
            refine lv_iload_n hx hb dX6_go_104 rfl (lv_at hl 3 rfl) ?_
            refine lv_iconst (v := 1) hx hb dX6_go_105 (by decide) ?_
            refine tr_sast hx hb hK hS hC hM (fun _ h => h) 13 (by decide) hcr dX6_go_106 (fun H locs hM hk hS => ?_)
            clear hk
            refine lv_aload_n hx hb dX6_go_107 rfl (lv_at hl 2 rfl) ?_
            refine tr_get (ci := 6) (C := RX6) (T := TX6) (N := 19) hx hb hts hiX6 hown hK hM.c2 rfl 16 (by decide) f56 (v := .ref (C 15)) rfl dX6_go_108 ?_
            refine lv_iload_n hx hb dX6_go_111 rfl (lv_at hl 3 rfl) ?_
            refine lv_dup2_11 hx hb dX6_go_112 rfl rfl ?_
            refine tr_sald (sv := sv) hx hb hK 12 (hM.arr 12 (by decide)) hcr dX6_go_113 ?_
            refine lv_iconst (v := 1) hx hb dX6_go_114 (by decide) ?_
            refine lv_iadd hx hb dX6_go_115 ?_
            refine tr_sast hx hb hK hS hC hM (fun _ h => h) 12 (by decide) hcr dX6_go_116 (fun H locs hM hk hS => ?_)
            clear hk
            refine lv_aload_n hx hb dX6_go_117 rfl (lv_at hl 2 rfl) ?_
            refine tr_get (ci := 6) (C := RX6) (T := TX6) (N := 19) hx hb hts hiX6 hown hK hM.c2 rfl 10 (by decide) f38 (v := .ref (C 9)) rfl dX6_go_118 ?_
            refine lv_iload_n hx hb dX6_go_121 rfl (lv_at hl 3 rfl) ?_
            refine lv_dup2_11 hx hb dX6_go_122 rfl rfl ?_
            refine tr_sald (sv := sv) hx hb hK 6 (hM.arr 6 (by decide)) hcr dX6_go_123 ?_
            refine lv_aload_n hx hb dX6_go_124 rfl (lv_at hl 2 rfl) ?_
            refine tr_get (ci := 6) (C := RX6) (T := TX6) (N := 19) hx hb hts hiX6 hown hK hM.c2 rfl 11 (by decide) f41 (v := .ref (C 10)) rfl dX6_go_125 ?_
            refine lv_iload_n hx hb dX6_go_128 rfl (lv_at hl 3 rfl) ?_
            refine tr_sald (sv := sv) hx hb hK 7 (hM.arr 7 (by decide)) hcr dX6_go_129 ?_
            refine lv_iadd hx hb dX6_go_130 ?_
            refine tr_sast hx hb hK hS hC hM (fun _ h => h) 6 (by decide) hcr dX6_go_131 (fun H locs hM hk hS => ?_)
            clear hk
            refine lv_aload_n hx hb dX6_go_132 rfl (lv_at hl 2 rfl) ?_
            refine tr_get (ci := 6) (C := RX6) (T := TX6) (N := 19) hx hb hts hiX6 hown hK hM.c2 rfl 15 (by decide) f53 (v := .ref (C 14)) rfl dX6_go_133 ?_
            refine lv_iload_n hx hb dX6_go_136 rfl (lv_at hl 3 rfl) ?_
            refine tr_sald (sv := sv) hx hb hK 11 (hM.arr 11 (by decide)) hcr dX6_go_137 ?_
            refine lv_iconst (v := -1) hx hb dX6_go_138 (by decide) ?_
            refine lv_icmp_ne (tgt := 143) hx hb dX6_go_139 (by decide) (fun c_139 => ?_) (fun c_139 => ?_)
            · refine lv_aload_n hx hb dX6_go_143 rfl (lv_at hl 2 rfl) ?_
              refine tr_get (ci := 6) (C := RX6) (T := TX6) (N := 19) hx hb hts hiX6 hown hK hM.c2 rfl 10 (by decide) f38 (v := .ref (C 9)) rfl dX6_go_144 ?_
              refine lv_aload_n hx hb dX6_go_147 rfl (lv_at hl 2 rfl) ?_
              refine tr_get (ci := 6) (C := RX6) (T := TX6) (N := 19) hx hb hts hiX6 hown hK hM.c2 rfl 15 (by decide) f53 (v := .ref (C 14)) rfl dX6_go_148 ?_
              refine lv_iload_n hx hb dX6_go_151 rfl (lv_at hl 3 rfl) ?_
              refine tr_sald (sv := sv) hx hb hK 11 (hM.arr 11 (by decide)) hcr dX6_go_152 ?_
              refine lv_aload_n hx hb dX6_go_153 rfl (lv_at hl 2 rfl) ?_
              refine tr_get (ci := 6) (C := RX6) (T := TX6) (N := 19) hx hb hts hiX6 hown hK hM.c2 rfl 10 (by decide) f38 (v := .ref (C 9)) rfl dX6_go_154 ?_
              refine lv_iload_n hx hb dX6_go_157 rfl (lv_at hl 3 rfl) ?_
              refine tr_sald (sv := aSet (aSet (aSet (aSet sv 13 cr 0) 13 cr 1) 12 cr ((aAt sv 12 cr) + 1)) 6 cr ((aAt sv 6 cr) + (aAt sv 7 cr))) hx hb hK 6 (hM.arr 6 (by decide)) hcr dX6_go_158 ?_
              rw [aAt_same (v := aSet (aSet (aSet sv 13 cr 0) 13 cr 1) 12 cr ((aAt sv 12 cr) + 1)) (r := 6) (i := cr) (x := (aAt sv 6 cr) + (aAt sv 7 cr))]
              refine tr_sast hx hb hK hS hC hM (fun _ h => h) 6 (by decide) (hp _ hcr c_139) dX6_go_159 (fun H locs hM hk hS => ?_)
              clear hk
              refine lv_aload_n hx hb dX6_go_160 rfl (lv_at hl 2 rfl) ?_
              refine tr_get (ci := 6) (C := RX6) (T := TX6) (N := 19) hx hb hts hiX6 hown hK hM.c2 rfl 16 (by decide) f56 (v := .ref (C 15)) rfl dX6_go_161 ?_
              refine lv_aload_n hx hb dX6_go_164 rfl (lv_at hl 2 rfl) ?_
              refine tr_get (ci := 6) (C := RX6) (T := TX6) (N := 19) hx hb hts hiX6 hown hK hM.c2 rfl 15 (by decide) f53 (v := .ref (C 14)) rfl dX6_go_165 ?_
              refine lv_iload_n hx hb dX6_go_168 rfl (lv_at hl 3 rfl) ?_
              refine tr_sald (sv := sv) hx hb hK 11 (hM.arr 11 (by decide)) hcr dX6_go_169 ?_
              refine lv_dup2_11 hx hb dX6_go_170 rfl rfl ?_
              refine tr_sald (sv := aSet (aSet (aSet sv 13 cr 0) 13 cr 1) 12 cr ((aAt sv 12 cr) + 1)) hx hb hK 12 (hM.arr 12 (by decide)) (hp _ hcr c_139) dX6_go_171 ?_
              refine lv_iconst (v := 1) hx hb dX6_go_172 (by decide) ?_
              refine lv_iadd hx hb dX6_go_173 ?_
              refine tr_sast hx hb hK hS hC hM (fun _ h => h) 12 (by decide) (hp _ hcr c_139) dX6_go_174 (fun H locs hM hk hS => ?_)
              clear hk
              exact W.vret hx hb hr (hS.end (by rw [fX6_go, if_neg c_14, if_pos c_31, if_neg c_60, if_pos c_77, if_pos c_86, if_neg c_139]; exact hM)) hS.2.2 dX6_go_175
            · exact W.vret hx hb hr (hS.end (by rw [fX6_go, if_neg c_14, if_pos c_31, if_neg c_60, if_pos c_77, if_pos c_86, if_pos c_139]; exact hM)) hS.2.2 dX6_go_142
      · refine lv_iload_n hx hb dX6_go_63 rfl (lv_at hl 0 rfl) ?_
        refine lv_iconst (v := 2) hx hb dX6_go_64 (by decide) ?_
        refine lv_icmp_ge (tgt := 72) hx hb dX6_go_65 (by decide) (fun c_65 => ?_) (fun c_65 => ?_)
        · refine lv_iconst (v := 0) hx hb dX6_go_72 (by decide) ?_
          refine lv_goto (tgt := 94) hx hb dX6_go_73 (by decide) ?_
          refine lv_istore_n (lv' := [(3, .int 0), (2, .int (fX6_carsAt mv (aSet sv 13 cr 0) ((aAt sv 6 cr) + (aAt sv 7 cr)))), (0, .ref (C 2)), (1, .int cr)]) hx hb dX6_go_94 rfl hl (by decide) rfl (fun ls hl => ?_)
          refine lv_iload_n hx hb dX6_go_95 rfl (lv_at hl 0 rfl) ?_
          refine lv_if_ne (tgt := 100) hx hb dX6_go_96 (by decide) (fun h9 => absurd h9 (by decide)) (fun _ => ?_)
          exact W.vret hx hb hr (hS.end (by rw [fX6_go, if_neg c_14, if_pos c_31, if_pos c_60, if_pos c_65]; exact hM)) hS.2.2 dX6_go_99
        · refine lv_iconst (v := 1) hx hb dX6_go_68 (by decide) ?_
          refine lv_goto (tgt := 94) hx hb dX6_go_69 (by decide) ?_
          refine lv_istore_n (lv' := [(3, .int 1), (2, .int (fX6_carsAt mv (aSet sv 13 cr 0) ((aAt sv 6 cr) + (aAt sv 7 cr)))), (0, .ref (C 2)), (1, .int cr)]) hx hb dX6_go_94 rfl hl (by decide) rfl (fun ls hl => ?_)
          refine lv_iload_n hx hb dX6_go_95 rfl (lv_at hl 0 rfl) ?_
          refine lv_if_ne (tgt := 100) hx hb dX6_go_96 (by decide) (fun _ => ?_) (fun h9 => absurd h9 (by decide))
          refine lv_aload_n hx hb dX6_go_100 rfl (lv_at hl 2 rfl) ?_
          refine tr_get (ci := 6) (C := RX6) (T := TX6) (N := 19) hx hb hts hiX6 hown hK hM.c2 rfl 17 (by decide) f59 (v := .ref (C 16)) rfl dX6_go_101 ?_
          refine lv_iload_n hx hb dX6_go_104 rfl (lv_at hl 3 rfl) ?_
          refine lv_iconst (v := 1) hx hb dX6_go_105 (by decide) ?_
          refine tr_sast hx hb hK hS hC hM (fun _ h => h) 13 (by decide) hcr dX6_go_106 (fun H locs hM hk hS => ?_)
          clear hk
          refine lv_aload_n hx hb dX6_go_107 rfl (lv_at hl 2 rfl) ?_
          refine tr_get (ci := 6) (C := RX6) (T := TX6) (N := 19) hx hb hts hiX6 hown hK hM.c2 rfl 16 (by decide) f56 (v := .ref (C 15)) rfl dX6_go_108 ?_
          refine lv_iload_n hx hb dX6_go_111 rfl (lv_at hl 3 rfl) ?_
          refine lv_dup2_11 hx hb dX6_go_112 rfl rfl ?_
          refine tr_sald (sv := sv) hx hb hK 12 (hM.arr 12 (by decide)) hcr dX6_go_113 ?_
          refine lv_iconst (v := 1) hx hb dX6_go_114 (by decide) ?_
          refine lv_iadd hx hb dX6_go_115 ?_
          refine tr_sast hx hb hK hS hC hM (fun _ h => h) 12 (by decide) hcr dX6_go_116 (fun H locs hM hk hS => ?_)
          clear hk
          refine lv_aload_n hx hb dX6_go_117 rfl (lv_at hl 2 rfl) ?_
          refine tr_get (ci := 6) (C := RX6) (T := TX6) (N := 19) hx hb hts hiX6 hown hK hM.c2 rfl 10 (by decide) f38 (v := .ref (C 9)) rfl dX6_go_118 ?_
          refine lv_iload_n hx hb dX6_go_121 rfl (lv_at hl 3 rfl) ?_
          refine lv_dup2_11 hx hb dX6_go_122 rfl rfl ?_
          refine tr_sald (sv := sv) hx hb hK 6 (hM.arr 6 (by decide)) hcr dX6_go_123 ?_
          refine lv_aload_n hx hb dX6_go_124 rfl (lv_at hl 2 rfl) ?_
          refine tr_get (ci := 6) (C := RX6) (T := TX6) (N := 19) hx hb hts hiX6 hown hK hM.c2 rfl 11 (by decide) f41 (v := .ref (C 10)) rfl dX6_go_125 ?_
          refine lv_iload_n hx hb dX6_go_128 rfl (lv_at hl 3 rfl) ?_
          refine tr_sald (sv := sv) hx hb hK 7 (hM.arr 7 (by decide)) hcr dX6_go_129 ?_
          refine lv_iadd hx hb dX6_go_130 ?_
          refine tr_sast hx hb hK hS hC hM (fun _ h => h) 6 (by decide) hcr dX6_go_131 (fun H locs hM hk hS => ?_)
          clear hk
          refine lv_aload_n hx hb dX6_go_132 rfl (lv_at hl 2 rfl) ?_
          refine tr_get (ci := 6) (C := RX6) (T := TX6) (N := 19) hx hb hts hiX6 hown hK hM.c2 rfl 15 (by decide) f53 (v := .ref (C 14)) rfl dX6_go_133 ?_
          refine lv_iload_n hx hb dX6_go_136 rfl (lv_at hl 3 rfl) ?_
          refine tr_sald (sv := sv) hx hb hK 11 (hM.arr 11 (by decide)) hcr dX6_go_137 ?_
          refine lv_iconst (v := -1) hx hb dX6_go_138 (by decide) ?_
          refine lv_icmp_ne (tgt := 143) hx hb dX6_go_139 (by decide) (fun c_139 => ?_) (fun c_139 => ?_)
          · refine lv_aload_n hx hb dX6_go_143 rfl (lv_at hl 2 rfl) ?_
            refine tr_get (ci := 6) (C := RX6) (T := TX6) (N := 19) hx hb hts hiX6 hown hK hM.c2 rfl 10 (by decide) f38 (v := .ref (C 9)) rfl dX6_go_144 ?_
            refine lv_aload_n hx hb dX6_go_147 rfl (lv_at hl 2 rfl) ?_
            refine tr_get (ci := 6) (C := RX6) (T := TX6) (N := 19) hx hb hts hiX6 hown hK hM.c2 rfl 15 (by decide) f53 (v := .ref (C 14)) rfl dX6_go_148 ?_
            refine lv_iload_n hx hb dX6_go_151 rfl (lv_at hl 3 rfl) ?_
            refine tr_sald (sv := sv) hx hb hK 11 (hM.arr 11 (by decide)) hcr dX6_go_152 ?_
            refine lv_aload_n hx hb dX6_go_153 rfl (lv_at hl 2 rfl) ?_
            refine tr_get (ci := 6) (C := RX6) (T := TX6) (N := 19) hx hb hts hiX6 hown hK hM.c2 rfl 10 (by decide) f38 (v := .ref (C 9)) rfl dX6_go_154 ?_
            refine lv_iload_n hx hb dX6_go_157 rfl (lv_at hl 3 rfl) ?_
            refine tr_sald (sv := aSet (aSet (aSet (aSet sv 13 cr 0) 13 cr 1) 12 cr ((aAt sv 12 cr) + 1)) 6 cr ((aAt sv 6 cr) + (aAt sv 7 cr))) hx hb hK 6 (hM.arr 6 (by decide)) hcr dX6_go_158 ?_
            rw [aAt_same (v := aSet (aSet (aSet sv 13 cr 0) 13 cr 1) 12 cr ((aAt sv 12 cr) + 1)) (r := 6) (i := cr) (x := (aAt sv 6 cr) + (aAt sv 7 cr))]
            refine tr_sast hx hb hK hS hC hM (fun _ h => h) 6 (by decide) (hp _ hcr c_139) dX6_go_159 (fun H locs hM hk hS => ?_)
            clear hk
            refine lv_aload_n hx hb dX6_go_160 rfl (lv_at hl 2 rfl) ?_
            refine tr_get (ci := 6) (C := RX6) (T := TX6) (N := 19) hx hb hts hiX6 hown hK hM.c2 rfl 16 (by decide) f56 (v := .ref (C 15)) rfl dX6_go_161 ?_
            refine lv_aload_n hx hb dX6_go_164 rfl (lv_at hl 2 rfl) ?_
            refine tr_get (ci := 6) (C := RX6) (T := TX6) (N := 19) hx hb hts hiX6 hown hK hM.c2 rfl 15 (by decide) f53 (v := .ref (C 14)) rfl dX6_go_165 ?_
            refine lv_iload_n hx hb dX6_go_168 rfl (lv_at hl 3 rfl) ?_
            refine tr_sald (sv := sv) hx hb hK 11 (hM.arr 11 (by decide)) hcr dX6_go_169 ?_
            refine lv_dup2_11 hx hb dX6_go_170 rfl rfl ?_
            refine tr_sald (sv := aSet (aSet (aSet sv 13 cr 0) 13 cr 1) 12 cr ((aAt sv 12 cr) + 1)) hx hb hK 12 (hM.arr 12 (by decide)) (hp _ hcr c_139) dX6_go_171 ?_
            refine lv_iconst (v := 1) hx hb dX6_go_172 (by decide) ?_
            refine lv_iadd hx hb dX6_go_173 ?_
            refine tr_sast hx hb hK hS hC hM (fun _ h => h) 12 (by decide) (hp _ hcr c_139) dX6_go_174 (fun H locs hM hk hS => ?_)
            clear hk
            exact W.vret hx hb hr (hS.end (by rw [fX6_go, if_neg c_14, if_pos c_31, if_pos c_60, if_neg c_65, if_neg c_139]; exact hM)) hS.2.2 dX6_go_175
          · exact W.vret hx hb hr (hS.end (by rw [fX6_go, if_neg c_14, if_pos c_31, if_pos c_60, if_neg c_65, if_pos c_139]; exact hM)) hS.2.2 dX6_go_142
    · exact W.vret hx hb hr (hS.end (by rw [fX6_go, if_neg c_14, if_neg c_31]; exact hM)) hS.2.2 dX6_go_34
def fX6_halt (mv : LV) (sv : LV) (cr : Int32) : LV :=
  (if (aAt sv 13 cr) = 0 then sv else (if (((aAt sv 8 cr) - ((aAt sv 8 cr) / 2)) + (aMin (aAt sv 0 (aAt sv 6 cr)) (30 - ((aAt sv 8 cr) - ((aAt sv 8 cr) / 2))))) ≤ 20 then (if 100 ≤ ((aAt sv 9 cr) + 3) then aSet (aSet (aSet (aSet (aSet (aSet (lSc (aSet (aSet (aSet sv 8 cr ((aAt sv 8 cr) - ((aAt sv 8 cr) / 2))) 0 (aAt sv 6 cr) ((aAt sv 0 (aAt sv 6 cr)) - (aMin (aAt sv 0 (aAt sv 6 cr)) (30 - ((aAt sv 8 cr) - ((aAt sv 8 cr) / 2)))))) 8 cr (((aAt sv 8 cr) - ((aAt sv 8 cr) / 2)) + (aMin (aAt sv 0 (aAt sv 6 cr)) (30 - ((aAt sv 8 cr) - ((aAt sv 8 cr) / 2)))))) 1 ((sv.1 1) + (aMin (aAt sv 0 (aAt sv 6 cr)) (30 - ((aAt sv 8 cr) - ((aAt sv 8 cr) / 2)))))) 9 cr ((aAt sv 9 cr) + 3)) 10 cr 1) 9 cr 99) 11 cr (-1)) 0 (aAt sv 6 cr) (aMin 99 (((aAt sv 0 (aAt sv 6 cr)) - (aMin (aAt sv 0 (aAt sv 6 cr)) (30 - ((aAt sv 8 cr) - ((aAt sv 8 cr) / 2))))) + (((aAt sv 8 cr) - ((aAt sv 8 cr) / 2)) + (aMin (aAt sv 0 (aAt sv 6 cr)) (30 - ((aAt sv 8 cr) - ((aAt sv 8 cr) / 2)))))))) 8 cr 0 else aSet (lSc (aSet (aSet (aSet sv 8 cr ((aAt sv 8 cr) - ((aAt sv 8 cr) / 2))) 0 (aAt sv 6 cr) ((aAt sv 0 (aAt sv 6 cr)) - (aMin (aAt sv 0 (aAt sv 6 cr)) (30 - ((aAt sv 8 cr) - ((aAt sv 8 cr) / 2)))))) 8 cr (((aAt sv 8 cr) - ((aAt sv 8 cr) / 2)) + (aMin (aAt sv 0 (aAt sv 6 cr)) (30 - ((aAt sv 8 cr) - ((aAt sv 8 cr) / 2)))))) 1 ((sv.1 1) + (aMin (aAt sv 0 (aAt sv 6 cr)) (30 - ((aAt sv 8 cr) - ((aAt sv 8 cr) / 2)))))) 9 cr ((aAt sv 9 cr) + 3)) else (if 100 ≤ ((aAt sv 9 cr) + 5) then aSet (aSet (aSet (aSet (aSet (aSet (lSc (aSet (aSet (aSet sv 8 cr ((aAt sv 8 cr) - ((aAt sv 8 cr) / 2))) 0 (aAt sv 6 cr) ((aAt sv 0 (aAt sv 6 cr)) - (aMin (aAt sv 0 (aAt sv 6 cr)) (30 - ((aAt sv 8 cr) - ((aAt sv 8 cr) / 2)))))) 8 cr (((aAt sv 8 cr) - ((aAt sv 8 cr) / 2)) + (aMin (aAt sv 0 (aAt sv 6 cr)) (30 - ((aAt sv 8 cr) - ((aAt sv 8 cr) / 2)))))) 1 ((sv.1 1) + (aMin (aAt sv 0 (aAt sv 6 cr)) (30 - ((aAt sv 8 cr) - ((aAt sv 8 cr) / 2)))))) 9 cr ((aAt sv 9 cr) + 5)) 10 cr 1) 9 cr 99) 11 cr (-1)) 0 (aAt sv 6 cr) (aMin 99 (((aAt sv 0 (aAt sv 6 cr)) - (aMin (aAt sv 0 (aAt sv 6 cr)) (30 - ((aAt sv 8 cr) - ((aAt sv 8 cr) / 2))))) + (((aAt sv 8 cr) - ((aAt sv 8 cr) / 2)) + (aMin (aAt sv 0 (aAt sv 6 cr)) (30 - ((aAt sv 8 cr) - ((aAt sv 8 cr) / 2)))))))) 8 cr 0 else aSet (lSc (aSet (aSet (aSet sv 8 cr ((aAt sv 8 cr) - ((aAt sv 8 cr) / 2))) 0 (aAt sv 6 cr) ((aAt sv 0 (aAt sv 6 cr)) - (aMin (aAt sv 0 (aAt sv 6 cr)) (30 - ((aAt sv 8 cr) - ((aAt sv 8 cr) / 2)))))) 8 cr (((aAt sv 8 cr) - ((aAt sv 8 cr) / 2)) + (aMin (aAt sv 0 (aAt sv 6 cr)) (30 - ((aAt sv 8 cr) - ((aAt sv 8 cr) / 2)))))) 1 ((sv.1 1) + (aMin (aAt sv 0 (aAt sv 6 cr)) (30 - ((aAt sv 8 cr) - ((aAt sv 8 cr) / 2)))))) 9 cr ((aAt sv 9 cr) + 5))))
set_option maxHeartbeats 4000000 in
set_option maxRecDepth 100000 in
theorem c_X6_halt (l : Launch) (D : va_G) (cI : ClassId) (C : Nat → Nat) (hC : SInj C) (mv sv : LV) (cr : Int32) (hcr : vp_in cr 6) (hat : vp_in (aAt sv 6 cr) 16) : Met l yX6_halt wsX6_halt ({ frames := 1, cells := 0, slots := 0, locals := 21 }) (tr_Pc D cI [.ref (C 2), .int cr] (STA D cI C mv sv)) (tr_Q none (STA D cI C mv (fX6_halt mv sv cr)) (sOwn C)) 0 0 (sOwn C) := by
  refine Met.ofW (cc := cX6_halt) (maxL := 4) (ret := none) (by decide) rfl ?_
  intro p e s m args below meth c s₁ B hml hv
  obtain ⟨rfl, hM, hK⟩ := hv
  have hx := B.exec
  have hb := B.bytes
  have hr := B.returns
  have hts := atoms_spec (ws := wsX6_halt) B.pre
  have hown : s.vm.findClass RX6 = some m.cls := findClass_of_methodNamed B.named
  have hlocks := B.notSynchronized
  have hiX6 : ∀ w ∈ u_ws RX6 TX6 19, w ∈ wsX6_halt := by decide +kernel
  have f19 := hts (.fieldLink RX6 19 "TramRibbonModel$State" "wait" "[I") (by decide +kernel)
  have f38 := hts (.fieldLink RX6 38 "TramRibbonModel$State" "at" "[I") (by decide +kernel)
  have f44 := hts (.fieldLink RX6 44 "TramRibbonModel$State" "riders" "[I") (by decide +kernel)
  have f47 := hts (.fieldLink RX6 47 "TramRibbonModel$State" "wear" "[I") (by decide +kernel)
  have f50 := hts (.fieldLink RX6 50 "TramRibbonModel$State" "broken" "[I") (by decide +kernel)
  have f53 := hts (.fieldLink RX6 53 "TramRibbonModel$State" "pushes" "[I") (by decide +kernel)
  have f59 := hts (.fieldLink RX6 59 "TramRibbonModel$State" "went" "[I") (by decide +kernel)
  have f71 := hts (.fieldLink RX6 71 "TramRibbonModel$State" "gotOn" "I") (by decide +kernel)
  have mC_min := hts (.code Lib.Math.min.name Lib.Math.min.code 2 (some .int)) (by decide +kernel)
  have mI := hts (.initialized "java/lang/Math") (by decide +kernel)
  have mL109 := hts (.methodLink RX6 109 Lib.Math.min.name) (by decide +kernel)
  have mS_min := hts (.static Lib.Math.min.name) (by decide +kernel)
  have hl := lv_entry ([.ref (C 2), .int cr]) (n := 4) (Nat.le_of_ble_eq_true rfl)
  rw [lg_entry_eq]
  generalize (lg_sl ([.ref (C 2), .int cr]) ++ List.replicate (4 - (lg_sl ([.ref (C 2), .int cr])).length) Slot.unset).toArray = ls at hl ⊢
  replace hl : lv_has ls 4 [(0, .ref (C 2)), (1, .int cr)] := hl
  have hS : tr_S (sOwn C) s.heap s.heap [] := tr_S.rf
  generalize h1 : s.heap = H, h2 : ([] : List Loc) = locs
  replace hS : tr_S (sOwn C) s.heap H locs := by rw [← h1, ← h2]; exact hS
  rw [h1] at hM
  clear h1 h2
  refine lv_aload_n hx hb dX6_halt_0 rfl (lv_at hl 0 rfl) ?_
  refine tr_get (ci := 6) (C := RX6) (T := TX6) (N := 19) hx hb hts hiX6 hown hK hM.c2 rfl 17 (by decide) f59 (v := .ref (C 16)) rfl dX6_halt_1 ?_
  refine lv_iload_n hx hb dX6_halt_4 rfl (lv_at hl 1 rfl) ?_
  refine tr_sald (sv := sv) hx hb hK 13 (hM.arr 13 (by decide)) hcr dX6_halt_5 ?_
  refine lv_if_ne (tgt := 10) hx hb dX6_halt_6 (by decide) (fun c_6 => ?_) (fun c_6 => ?_)
  · refine lv_aload_n hx hb dX6_halt_10 rfl (lv_at hl 0 rfl) ?_
    refine tr_get (ci := 6) (C := RX6) (T := TX6) (N := 19) hx hb hts hiX6 hown hK hM.c2 rfl 10 (by decide) f38 (v := .ref (C 9)) rfl dX6_halt_11 ?_
    refine lv_iload_n hx hb dX6_halt_14 rfl (lv_at hl 1 rfl) ?_
    refine tr_sald (sv := sv) hx hb hK 6 (hM.arr 6 (by decide)) hcr dX6_halt_15 ?_
    refine lv_istore_n (lv' := [(2, .int (aAt sv 6 cr)), (0, .ref (C 2)), (1, .int cr)]) hx hb dX6_halt_16 rfl hl (by decide) rfl (fun ls hl => ?_)
    refine lv_aload_n hx hb dX6_halt_17 rfl (lv_at hl 1 rfl) ?_
    refine tr_get (ci := 6) (C := RX6) (T := TX6) (N := 19) hx hb hts hiX6 hown hK hM.c2 rfl 12 (by decide) f44 (v := .ref (C 11)) rfl dX6_halt_18 ?_
    refine lv_iload_n hx hb dX6_halt_21 rfl (lv_at hl 2 rfl) ?_
    refine lv_dup2_11 hx hb dX6_halt_22 rfl rfl ?_
    refine tr_sald (sv := sv) hx hb hK 8 (hM.arr 8 (by decide)) hcr dX6_halt_23 ?_
    refine lv_aload_n hx hb dX6_halt_24 rfl (lv_at hl 1 rfl) ?_
    refine tr_get (ci := 6) (C := RX6) (T := TX6) (N := 19) hx hb hts hiX6 hown hK hM.c2 rfl 12 (by decide) f44 (v := .ref (C 11)) rfl dX6_halt_25 ?_
    refine lv_iload_n hx hb dX6_halt_28 rfl (lv_at hl 2 rfl) ?_
    refine tr_sald (sv := sv) hx hb hK 8 (hM.arr 8 (by decide)) hcr dX6_halt_29 ?_
    refine lv_iconst (v := 2) hx hb dX6_halt_30 (by decide) ?_
    refine lv_idiv hx hb dX6_halt_31 (by decide) ?_
    refine lv_isub hx hb dX6_halt_32 ?_
    refine tr_sast hx hb hK hS hC hM (fun _ h => h) 8 (by decide) hcr dX6_halt_33 (fun H locs hM hk hS => ?_)
    clear hk
    refine lv_aload_n hx hb dX6_halt_34 rfl (lv_at hl 1 rfl) ?_
    refine tr_get (ci := 6) (C := RX6) (T := TX6) (N := 19) hx hb hts hiX6 hown hK hM.c2 rfl 4 (by decide) f19 (v := .ref (C 3)) rfl dX6_halt_35 ?_
    refine lv_iload_n hx hb dX6_halt_38 rfl (lv_at hl 0 rfl) ?_
    refine tr_sald (sv := sv) hx hb hK 0 (hM.arr 0 (by decide)) hat dX6_halt_39 ?_
    refine lv_bipush (v := 30) hx hb dX6_halt_40 (by decide) ?_
    refine lv_aload_n hx hb dX6_halt_42 rfl (lv_at hl 1 rfl) ?_
    refine tr_get (ci := 6) (C := RX6) (T := TX6) (N := 19) hx hb hts hiX6 hown hK hM.c2 rfl 12 (by decide) f44 (v := .ref (C 11)) rfl dX6_halt_43 ?_
    refine lv_iload_n hx hb dX6_halt_46 rfl (lv_at hl 2 rfl) ?_
    refine tr_sald (sv := aSet sv 8 cr ((aAt sv 8 cr) - ((aAt sv 8 cr) / 2))) hx hb hK 8 (hM.arr 8 (by decide)) hcr dX6_halt_47 ?_
    rw [aAt_same (v := sv) (r := 8) (i := cr) (x := (aAt sv 8 cr) - ((aAt sv 8 cr) / 2))]
    refine lv_isub hx hb dX6_halt_48 ?_
    refine tr_min hx hb (by rw [hml]; exact hl.1.symm) hown mL109 mS_min mI mC_min (Nat.le_of_ble_eq_true rfl) (Nat.le_of_ble_eq_true rfl) (Nat.zero_le _) (Nat.zero_le _) dX6_halt_49 ?_
    refine lv_istore_n (lv' := [(3, .int (aMin (aAt sv 0 (aAt sv 6 cr)) (30 - ((aAt sv 8 cr) - ((aAt sv 8 cr) / 2))))), (2, .int (aAt sv 6 cr)), (0, .ref (C 2)), (1, .int cr)]) hx hb dX6_halt_52 rfl hl (by decide) rfl (fun ls hl => ?_)
    refine lv_aload_n hx hb dX6_halt_53 rfl (lv_at hl 2 rfl) ?_
    refine tr_get (ci := 6) (C := RX6) (T := TX6) (N := 19) hx hb hts hiX6 hown hK hM.c2 rfl 4 (by decide) f19 (v := .ref (C 3)) rfl dX6_halt_54 ?_
    refine lv_iload_n hx hb dX6_halt_57 rfl (lv_at hl 1 rfl) ?_
    refine lv_dup2_11 hx hb dX6_halt_58 rfl rfl ?_
    refine tr_sald (sv := sv) hx hb hK 0 (hM.arr 0 (by decide)) hat dX6_halt_59 ?_
    refine lv_iload_n hx hb dX6_halt_60 rfl (lv_at hl 0 rfl) ?_
    refine lv_isub hx hb dX6_halt_61 ?_
    refine tr_sast hx hb hK hS hC hM (fun _ h => h) 0 (by decide) hat dX6_halt_62 (fun H locs hM hk hS => ?_)
    clear hk
    refine lv_aload_n hx hb dX6_halt_63 rfl (lv_at hl 2 rfl) ?_
    refine tr_get (ci := 6) (C := RX6) (T := TX6) (N := 19) hx hb hts hiX6 hown hK hM.c2 rfl 12 (by decide) f44 (v := .ref (C 11)) rfl dX6_halt_64 ?_
    refine lv_iload_n hx hb dX6_halt_67 rfl (lv_at hl 3 rfl) ?_
    refine lv_dup2_11 hx hb dX6_halt_68 rfl rfl ?_
    refine tr_sald (sv := aSet sv 8 cr ((aAt sv 8 cr) - ((aAt sv 8 cr) / 2))) hx hb hK 8 (hM.arr 8 (by decide)) hcr dX6_halt_69 ?_
    rw [aAt_same (v := sv) (r := 8) (i := cr) (x := (aAt sv 8 cr) - ((aAt sv 8 cr) / 2))]
    refine lv_iload_n hx hb dX6_halt_70 rfl (lv_at hl 0 rfl) ?_
    refine lv_iadd hx hb dX6_halt_71 ?_
    refine tr_sast hx hb hK hS hC hM (fun _ h => h) 8 (by decide) hcr dX6_halt_72 (fun H locs hM hk hS => ?_)
    clear hk
    refine lv_aload_n hx hb dX6_halt_73 rfl (lv_at hl 2 rfl) ?_
    refine lv_dup hx hb dX6_halt_74 rfl ?_
    refine tr_get (ci := 6) (C := RX6) (T := TX6) (N := 19) hx hb hts hiX6 hown hK hM.c2 rfl 1 (by decide) f71 (v := .int (sv.1 1)) rfl dX6_halt_75 ?_
    refine lv_iload_n hx hb dX6_halt_78 rfl (lv_at hl 0 rfl) ?_
    refine lv_iadd hx hb dX6_halt_79 ?_
    refine tr_put (ci := 6) (C := RX6) (T := TX6) (N := 19) (ty := .int) (v := .int ((sv.1 1) + (aMin (aAt sv 0 (aAt sv 6 cr)) (30 - ((aAt sv 8 cr) - ((aAt sv 8 cr) / 2)))))) hx hb hts hiX6 tyX6 tyX6_ok nmX6 hown hK hS (sOwn_k (by decide) (by decide)) hM.c2 rfl 1 (by decide) f71 rfl (by decide +kernel) rfl rfl (Nat.le_of_ble_eq_true rfl) dX6_halt_80 (fun H locs hat hz hk hS => ?_)
    have hM : STA D cI C mv (lSc (aSet (aSet (aSet sv 8 cr ((aAt sv 8 cr) - ((aAt sv 8 cr) / 2))) 0 (aAt sv 6 cr) ((aAt sv 0 (aAt sv 6 cr)) - (aMin (aAt sv 0 (aAt sv 6 cr)) (30 - ((aAt sv 8 cr) - ((aAt sv 8 cr) / 2)))))) 8 cr (((aAt sv 8 cr) - ((aAt sv 8 cr) / 2)) + (aMin (aAt sv 0 (aAt sv 6 cr)) (30 - ((aAt sv 8 cr) - ((aAt sv 8 cr) / 2)))))) 1 ((sv.1 1) + (aMin (aAt sv 0 (aAt sv 6 cr)) (30 - ((aAt sv 8 cr) - ((aAt sv 8 cr) / 2)))))) H := hM.setSc hC 1 hat rfl hk
    clear hat hz hk
    refine lv_aload_n hx hb dX6_halt_83 rfl (lv_at hl 2 rfl) ?_
    refine tr_get (ci := 6) (C := RX6) (T := TX6) (N := 19) hx hb hts hiX6 hown hK hM.c2 rfl 13 (by decide) f47 (v := .ref (C 12)) rfl dX6_halt_84 ?_
    refine lv_iload_n hx hb dX6_halt_87 rfl (lv_at hl 3 rfl) ?_
    refine lv_dup2_11 hx hb dX6_halt_88 rfl rfl ?_
    refine tr_sald (sv := sv) hx hb hK 9 (hM.arr 9 (by decide)) hcr dX6_halt_89 ?_
    refine lv_aload_n hx hb dX6_halt_90 rfl (lv_at hl 2 rfl) ?_
    refine tr_get (ci := 6) (C := RX6) (T := TX6) (N := 19) hx hb hts hiX6 hown hK hM.c2 rfl 12 (by decide) f44 (v := .ref (C 11)) rfl dX6_halt_91 ?_
    refine lv_iload_n hx hb dX6_halt_94 rfl (lv_at hl 3 rfl) ?_
    refine tr_sald (sv := aSet (aSet (aSet sv 8 cr ((aAt sv 8 cr) - ((aAt sv 8 cr) / 2))) 0 (aAt sv 6 cr) ((aAt sv 0 (aAt sv 6 cr)) - (aMin (aAt sv 0 (aAt sv 6 cr)) (30 - ((aAt sv 8 cr) - ((aAt sv 8 cr) / 2)))))) 8 cr (((aAt sv 8 cr) - ((aAt sv 8 cr) / 2)) + (aMin (aAt sv 0 (aAt sv 6 cr)) (30 - ((aAt sv 8 cr) - ((aAt sv 8 cr) / 2)))))) hx hb hK 8 (hM.arr 8 (by decide)) hcr dX6_halt_95 ?_
    rw [aAt_same (v := aSet (aSet sv 8 cr ((aAt sv 8 cr) - ((aAt sv 8 cr) / 2))) 0 (aAt sv 6 cr) ((aAt sv 0 (aAt sv 6 cr)) - (aMin (aAt sv 0 (aAt sv 6 cr)) (30 - ((aAt sv 8 cr) - ((aAt sv 8 cr) / 2)))))) (r := 8) (i := cr) (x := ((aAt sv 8 cr) - ((aAt sv 8 cr) / 2)) + (aMin (aAt sv 0 (aAt sv 6 cr)) (30 - ((aAt sv 8 cr) - ((aAt sv 8 cr) / 2)))))]
    refine lv_bipush (v := 20) hx hb dX6_halt_96 (by decide) ?_
    refine lv_icmp_le (tgt := 105) hx hb dX6_halt_98 (by decide) (fun c_98 => ?_) (fun c_98 => ?_)
    · refine lv_iconst (v := 3) hx hb dX6_halt_105 (by decide) ?_
      refine lv_iadd hx hb dX6_halt_106 ?_
      refine tr_sast hx hb hK hS hC hM (fun _ h => h) 9 (by decide) hcr dX6_halt_107 (fun H locs hM hk hS => ?_)
      clear hk
      refine lv_aload_n hx hb dX6_halt_108 rfl (lv_at hl 2 rfl) ?_
      refine tr_get (ci := 6) (C := RX6) (T := TX6) (N := 19) hx hb hts hiX6 hown hK hM.c2 rfl 13 (by decide) f47 (v := .ref (C 12)) rfl dX6_halt_109 ?_
      refine lv_iload_n hx hb dX6_halt_112 rfl (lv_at hl 3 rfl) ?_
      refine tr_sald (sv := aSet (lSc (aSet (aSet (aSet sv 8 cr ((aAt sv 8 cr) - ((aAt sv 8 cr) / 2))) 0 (aAt sv 6 cr) ((aAt sv 0 (aAt sv 6 cr)) - (aMin (aAt sv 0 (aAt sv 6 cr)) (30 - ((aAt sv 8 cr) - ((aAt sv 8 cr) / 2)))))) 8 cr (((aAt sv 8 cr) - ((aAt sv 8 cr) / 2)) + (aMin (aAt sv 0 (aAt sv 6 cr)) (30 - ((aAt sv 8 cr) - ((aAt sv 8 cr) / 2)))))) 1 ((sv.1 1) + (aMin (aAt sv 0 (aAt sv 6 cr)) (30 - ((aAt sv 8 cr) - ((aAt sv 8 cr) / 2)))))) 9 cr ((aAt sv 9 cr) + 3)) hx hb hK 9 (hM.arr 9 (by decide)) hcr dX6_halt_113 ?_
      rw [aAt_same (v := lSc (aSet (aSet (aSet sv 8 cr ((aAt sv 8 cr) - ((aAt sv 8 cr) / 2))) 0 (aAt sv 6 cr) ((aAt sv 0 (aAt sv 6 cr)) - (aMin (aAt sv 0 (aAt sv 6 cr)) (30 - ((aAt sv 8 cr) - ((aAt sv 8 cr) / 2)))))) 8 cr (((aAt sv 8 cr) - ((aAt sv 8 cr) / 2)) + (aMin (aAt sv 0 (aAt sv 6 cr)) (30 - ((aAt sv 8 cr) - ((aAt sv 8 cr) / 2)))))) 1 ((sv.1 1) + (aMin (aAt sv 0 (aAt sv 6 cr)) (30 - ((aAt sv 8 cr) - ((aAt sv 8 cr) / 2)))))) (r := 9) (i := cr) (x := (aAt sv 9 cr) + 3)]
      refine lv_bipush (v := 100) hx hb dX6_halt_114 (by decide) ?_
      refine lv_icmp_ge (tgt := 120) hx hb dX6_halt_116 (by decide) (fun c_116 => ?_) (fun c_116 => ?_)
      · refine lv_aload_n hx hb dX6_halt_120 rfl (lv_at hl 2 rfl) ?_
        refine tr_get (ci := 6) (C := RX6) (T := TX6) (N := 19) hx hb hts hiX6 hown hK hM.c2 rfl 14 (by decide) f50 (v := .ref (C 13)) rfl dX6_halt_121 ?_
        refine lv_iload_n hx hb dX6_halt_124 rfl (lv_at hl 3 rfl) ?_
        refine lv_iconst (v := 1) hx hb dX6_halt_125 (by decide) ?_
        refine tr_sast hx hb hK hS hC hM (fun _ h => h) 10 (by decide) hcr dX6_halt_126 (fun H locs hM hk hS => ?_)
        clear hk
        refine lv_aload_n hx hb dX6_halt_127 rfl (lv_at hl 2 rfl) ?_
        refine tr_get (ci := 6) (C := RX6) (T := TX6) (N := 19) hx hb hts hiX6 hown hK hM.c2 rfl 13 (by decide) f47 (v := .ref (C 12)) rfl dX6_halt_128 ?_
        refine lv_iload_n hx hb dX6_halt_131 rfl (lv_at hl 3 rfl) ?_
        refine lv_bipush (v := 99) hx hb dX6_halt_132 (by decide) ?_
        refine tr_sast hx hb hK hS hC hM (fun _ h => h) 9 (by decide) hcr dX6_halt_134 (fun H locs hM hk hS => ?_)
        clear hk
        refine lv_aload_n hx hb dX6_halt_135 rfl (lv_at hl 2 rfl) ?_
        refine tr_get (ci := 6) (C := RX6) (T := TX6) (N := 19) hx hb hts hiX6 hown hK hM.c2 rfl 15 (by decide) f53 (v := .ref (C 14)) rfl dX6_halt_136 ?_
        refine lv_iload_n hx hb dX6_halt_139 rfl (lv_at hl 3 rfl) ?_
        refine lv_iconst (v := -1) hx hb dX6_halt_140 (by decide) ?_
        refine tr_sast hx hb hK hS hC hM (fun _ h => h) 11 (by decide) hcr dX6_halt_141 (fun H locs hM hk hS => ?_)
        clear hk
        refine lv_aload_n hx hb dX6_halt_142 rfl (lv_at hl 2 rfl) ?_
        refine tr_get (ci := 6) (C := RX6) (T := TX6) (N := 19) hx hb hts hiX6 hown hK hM.c2 rfl 4 (by decide) f19 (v := .ref (C 3)) rfl dX6_halt_143 ?_
        refine lv_iload_n hx hb dX6_halt_146 rfl (lv_at hl 1 rfl) ?_
        refine lv_bipush (v := 99) hx hb dX6_halt_147 (by decide) ?_
        refine lv_aload_n hx hb dX6_halt_149 rfl (lv_at hl 2 rfl) ?_
        refine tr_get (ci := 6) (C := RX6) (T := TX6) (N := 19) hx hb hts hiX6 hown hK hM.c2 rfl 4 (by decide) f19 (v := .ref (C 3)) rfl dX6_halt_150 ?_
        refine lv_iload_n hx hb dX6_halt_153 rfl (lv_at hl 1 rfl) ?_
        refine tr_sald (sv := aSet (aSet sv 8 cr ((aAt sv 8 cr) - ((aAt sv 8 cr) / 2))) 0 (aAt sv 6 cr) ((aAt sv 0 (aAt sv 6 cr)) - (aMin (aAt sv 0 (aAt sv 6 cr)) (30 - ((aAt sv 8 cr) - ((aAt sv 8 cr) / 2)))))) hx hb hK 0 (hM.arr 0 (by decide)) hat dX6_halt_154 ?_
        rw [aAt_same (v := aSet sv 8 cr ((aAt sv 8 cr) - ((aAt sv 8 cr) / 2))) (r := 0) (i := aAt sv 6 cr) (x := (aAt sv 0 (aAt sv 6 cr)) - (aMin (aAt sv 0 (aAt sv 6 cr)) (30 - ((aAt sv 8 cr) - ((aAt sv 8 cr) / 2)))))]
        refine lv_aload_n hx hb dX6_halt_155 rfl (lv_at hl 2 rfl) ?_
        refine tr_get (ci := 6) (C := RX6) (T := TX6) (N := 19) hx hb hts hiX6 hown hK hM.c2 rfl 12 (by decide) f44 (v := .ref (C 11)) rfl dX6_halt_156 ?_
        refine lv_iload_n hx hb dX6_halt_159 rfl (lv_at hl 3 rfl) ?_
        refine tr_sald (sv := aSet (aSet (aSet sv 8 cr ((aAt sv 8 cr) - ((aAt sv 8 cr) / 2))) 0 (aAt sv 6 cr) ((aAt sv 0 (aAt sv 6 cr)) - (aMin (aAt sv 0 (aAt sv 6 cr)) (30 - ((aAt sv 8 cr) - ((aAt sv 8 cr) / 2)))))) 8 cr (((aAt sv 8 cr) - ((aAt sv 8 cr) / 2)) + (aMin (aAt sv 0 (aAt sv 6 cr)) (30 - ((aAt sv 8 cr) - ((aAt sv 8 cr) / 2)))))) hx hb hK 8 (hM.arr 8 (by decide)) hcr dX6_halt_160 ?_
        rw [aAt_same (v := aSet (aSet sv 8 cr ((aAt sv 8 cr) - ((aAt sv 8 cr) / 2))) 0 (aAt sv 6 cr) ((aAt sv 0 (aAt sv 6 cr)) - (aMin (aAt sv 0 (aAt sv 6 cr)) (30 - ((aAt sv 8 cr) - ((aAt sv 8 cr) / 2)))))) (r := 8) (i := cr) (x := ((aAt sv 8 cr) - ((aAt sv 8 cr) / 2)) + (aMin (aAt sv 0 (aAt sv 6 cr)) (30 - ((aAt sv 8 cr) - ((aAt sv 8 cr) / 2)))))]
        refine lv_iadd hx hb dX6_halt_161 ?_
        refine tr_min hx hb (by rw [hml]; exact hl.1.symm) hown mL109 mS_min mI mC_min (Nat.le_of_ble_eq_true rfl) (Nat.le_of_ble_eq_true rfl) (Nat.zero_le _) (Nat.zero_le _) dX6_halt_162 ?_
        refine tr_sast hx hb hK hS hC hM (fun _ h => h) 0 (by decide) hat dX6_halt_165 (fun H locs hM hk hS => ?_)
        clear hk
        refine lv_aload_n hx hb dX6_halt_166 rfl (lv_at hl 2 rfl) ?_
        refine tr_get (ci := 6) (C := RX6) (T := TX6) (N := 19) hx hb hts hiX6 hown hK hM.c2 rfl 12 (by decide) f44 (v := .ref (C 11)) rfl dX6_halt_167 ?_
        refine lv_iload_n hx hb dX6_halt_170 rfl (lv_at hl 3 rfl) ?_
        refine lv_iconst (v := 0) hx hb dX6_halt_171 (by decide) ?_
        refine tr_sast hx hb hK hS hC hM (fun _ h => h) 8 (by decide) hcr dX6_halt_172 (fun H locs hM hk hS => ?_)
        clear hk
        exact W.vret hx hb hr (hS.end (by rw [fX6_halt, if_neg c_6, if_pos c_98, if_pos c_116]; exact hM)) hS.2.2 dX6_halt_173
      · exact W.vret hx hb hr (hS.end (by rw [fX6_halt, if_neg c_6, if_pos c_98, if_neg c_116]; exact hM)) hS.2.2 dX6_halt_119
    · refine lv_iconst (v := 5) hx hb dX6_halt_101 (by decide) ?_
      refine lv_goto (tgt := 106) hx hb dX6_halt_102 (by decide) ?_
      refine lv_iadd hx hb dX6_halt_106 ?_
      refine tr_sast hx hb hK hS hC hM (fun _ h => h) 9 (by decide) hcr dX6_halt_107 (fun H locs hM hk hS => ?_)
      clear hk
      refine lv_aload_n hx hb dX6_halt_108 rfl (lv_at hl 2 rfl) ?_
      refine tr_get (ci := 6) (C := RX6) (T := TX6) (N := 19) hx hb hts hiX6 hown hK hM.c2 rfl 13 (by decide) f47 (v := .ref (C 12)) rfl dX6_halt_109 ?_
      refine lv_iload_n hx hb dX6_halt_112 rfl (lv_at hl 3 rfl) ?_
      refine tr_sald (sv := aSet (lSc (aSet (aSet (aSet sv 8 cr ((aAt sv 8 cr) - ((aAt sv 8 cr) / 2))) 0 (aAt sv 6 cr) ((aAt sv 0 (aAt sv 6 cr)) - (aMin (aAt sv 0 (aAt sv 6 cr)) (30 - ((aAt sv 8 cr) - ((aAt sv 8 cr) / 2)))))) 8 cr (((aAt sv 8 cr) - ((aAt sv 8 cr) / 2)) + (aMin (aAt sv 0 (aAt sv 6 cr)) (30 - ((aAt sv 8 cr) - ((aAt sv 8 cr) / 2)))))) 1 ((sv.1 1) + (aMin (aAt sv 0 (aAt sv 6 cr)) (30 - ((aAt sv 8 cr) - ((aAt sv 8 cr) / 2)))))) 9 cr ((aAt sv 9 cr) + 5)) hx hb hK 9 (hM.arr 9 (by decide)) hcr dX6_halt_113 ?_
      rw [aAt_same (v := lSc (aSet (aSet (aSet sv 8 cr ((aAt sv 8 cr) - ((aAt sv 8 cr) / 2))) 0 (aAt sv 6 cr) ((aAt sv 0 (aAt sv 6 cr)) - (aMin (aAt sv 0 (aAt sv 6 cr)) (30 - ((aAt sv 8 cr) - ((aAt sv 8 cr) / 2)))))) 8 cr (((aAt sv 8 cr) - ((aAt sv 8 cr) / 2)) + (aMin (aAt sv 0 (aAt sv 6 cr)) (30 - ((aAt sv 8 cr) - ((aAt sv 8 cr) / 2)))))) 1 ((sv.1 1) + (aMin (aAt sv 0 (aAt sv 6 cr)) (30 - ((aAt sv 8 cr) - ((aAt sv 8 cr) / 2)))))) (r := 9) (i := cr) (x := (aAt sv 9 cr) + 5)]
      refine lv_bipush (v := 100) hx hb dX6_halt_114 (by decide) ?_
      refine lv_icmp_ge (tgt := 120) hx hb dX6_halt_116 (by decide) (fun c_116 => ?_) (fun c_116 => ?_)
      · refine lv_aload_n hx hb dX6_halt_120 rfl (lv_at hl 2 rfl) ?_
        refine tr_get (ci := 6) (C := RX6) (T := TX6) (N := 19) hx hb hts hiX6 hown hK hM.c2 rfl 14 (by decide) f50 (v := .ref (C 13)) rfl dX6_halt_121 ?_
        refine lv_iload_n hx hb dX6_halt_124 rfl (lv_at hl 3 rfl) ?_
        refine lv_iconst (v := 1) hx hb dX6_halt_125 (by decide) ?_
        refine tr_sast hx hb hK hS hC hM (fun _ h => h) 10 (by decide) hcr dX6_halt_126 (fun H locs hM hk hS => ?_)
        clear hk
        refine lv_aload_n hx hb dX6_halt_127 rfl (lv_at hl 2 rfl) ?_
        refine tr_get (ci := 6) (C := RX6) (T := TX6) (N := 19) hx hb hts hiX6 hown hK hM.c2 rfl 13 (by decide) f47 (v := .ref (C 12)) rfl dX6_halt_128 ?_
        refine lv_iload_n hx hb dX6_halt_131 rfl (lv_at hl 3 rfl) ?_
        refine lv_bipush (v := 99) hx hb dX6_halt_132 (by decide) ?_
        refine tr_sast hx hb hK hS hC hM (fun _ h => h) 9 (by decide) hcr dX6_halt_134 (fun H locs hM hk hS => ?_)
        clear hk
        refine lv_aload_n hx hb dX6_halt_135 rfl (lv_at hl 2 rfl) ?_
        refine tr_get (ci := 6) (C := RX6) (T := TX6) (N := 19) hx hb hts hiX6 hown hK hM.c2 rfl 15 (by decide) f53 (v := .ref (C 14)) rfl dX6_halt_136 ?_
        refine lv_iload_n hx hb dX6_halt_139 rfl (lv_at hl 3 rfl) ?_
        refine lv_iconst (v := -1) hx hb dX6_halt_140 (by decide) ?_
        refine tr_sast hx hb hK hS hC hM (fun _ h => h) 11 (by decide) hcr dX6_halt_141 (fun H locs hM hk hS => ?_)
        clear hk
        refine lv_aload_n hx hb dX6_halt_142 rfl (lv_at hl 2 rfl) ?_
        refine tr_get (ci := 6) (C := RX6) (T := TX6) (N := 19) hx hb hts hiX6 hown hK hM.c2 rfl 4 (by decide) f19 (v := .ref (C 3)) rfl dX6_halt_143 ?_
        refine lv_iload_n hx hb dX6_halt_146 rfl (lv_at hl 1 rfl) ?_
        refine lv_bipush (v := 99) hx hb dX6_halt_147 (by decide) ?_
        refine lv_aload_n hx hb dX6_halt_149 rfl (lv_at hl 2 rfl) ?_
        refine tr_get (ci := 6) (C := RX6) (T := TX6) (N := 19) hx hb hts hiX6 hown hK hM.c2 rfl 4 (by decide) f19 (v := .ref (C 3)) rfl dX6_halt_150 ?_
        refine lv_iload_n hx hb dX6_halt_153 rfl (lv_at hl 1 rfl) ?_
        refine tr_sald (sv := aSet (aSet sv 8 cr ((aAt sv 8 cr) - ((aAt sv 8 cr) / 2))) 0 (aAt sv 6 cr) ((aAt sv 0 (aAt sv 6 cr)) - (aMin (aAt sv 0 (aAt sv 6 cr)) (30 - ((aAt sv 8 cr) - ((aAt sv 8 cr) / 2)))))) hx hb hK 0 (hM.arr 0 (by decide)) hat dX6_halt_154 ?_
        rw [aAt_same (v := aSet sv 8 cr ((aAt sv 8 cr) - ((aAt sv 8 cr) / 2))) (r := 0) (i := aAt sv 6 cr) (x := (aAt sv 0 (aAt sv 6 cr)) - (aMin (aAt sv 0 (aAt sv 6 cr)) (30 - ((aAt sv 8 cr) - ((aAt sv 8 cr) / 2)))))]
        refine lv_aload_n hx hb dX6_halt_155 rfl (lv_at hl 2 rfl) ?_
        refine tr_get (ci := 6) (C := RX6) (T := TX6) (N := 19) hx hb hts hiX6 hown hK hM.c2 rfl 12 (by decide) f44 (v := .ref (C 11)) rfl dX6_halt_156 ?_
        refine lv_iload_n hx hb dX6_halt_159 rfl (lv_at hl 3 rfl) ?_
        refine tr_sald (sv := aSet (aSet (aSet sv 8 cr ((aAt sv 8 cr) - ((aAt sv 8 cr) / 2))) 0 (aAt sv 6 cr) ((aAt sv 0 (aAt sv 6 cr)) - (aMin (aAt sv 0 (aAt sv 6 cr)) (30 - ((aAt sv 8 cr) - ((aAt sv 8 cr) / 2)))))) 8 cr (((aAt sv 8 cr) - ((aAt sv 8 cr) / 2)) + (aMin (aAt sv 0 (aAt sv 6 cr)) (30 - ((aAt sv 8 cr) - ((aAt sv 8 cr) / 2)))))) hx hb hK 8 (hM.arr 8 (by decide)) hcr dX6_halt_160 ?_
        rw [aAt_same (v := aSet (aSet sv 8 cr ((aAt sv 8 cr) - ((aAt sv 8 cr) / 2))) 0 (aAt sv 6 cr) ((aAt sv 0 (aAt sv 6 cr)) - (aMin (aAt sv 0 (aAt sv 6 cr)) (30 - ((aAt sv 8 cr) - ((aAt sv 8 cr) / 2)))))) (r := 8) (i := cr) (x := ((aAt sv 8 cr) - ((aAt sv 8 cr) / 2)) + (aMin (aAt sv 0 (aAt sv 6 cr)) (30 - ((aAt sv 8 cr) - ((aAt sv 8 cr) / 2)))))]
        refine lv_iadd hx hb dX6_halt_161 ?_
        refine tr_min hx hb (by rw [hml]; exact hl.1.symm) hown mL109 mS_min mI mC_min (Nat.le_of_ble_eq_true rfl) (Nat.le_of_ble_eq_true rfl) (Nat.zero_le _) (Nat.zero_le _) dX6_halt_162 ?_
        refine tr_sast hx hb hK hS hC hM (fun _ h => h) 0 (by decide) hat dX6_halt_165 (fun H locs hM hk hS => ?_)
        clear hk
        refine lv_aload_n hx hb dX6_halt_166 rfl (lv_at hl 2 rfl) ?_
        refine tr_get (ci := 6) (C := RX6) (T := TX6) (N := 19) hx hb hts hiX6 hown hK hM.c2 rfl 12 (by decide) f44 (v := .ref (C 11)) rfl dX6_halt_167 ?_
        refine lv_iload_n hx hb dX6_halt_170 rfl (lv_at hl 3 rfl) ?_
        refine lv_iconst (v := 0) hx hb dX6_halt_171 (by decide) ?_
        refine tr_sast hx hb hK hS hC hM (fun _ h => h) 8 (by decide) hcr dX6_halt_172 (fun H locs hM hk hS => ?_)
        clear hk
        exact W.vret hx hb hr (hS.end (by rw [fX6_halt, if_neg c_6, if_neg c_98, if_pos c_116]; exact hM)) hS.2.2 dX6_halt_173
      · exact W.vret hx hb hr (hS.end (by rw [fX6_halt, if_neg c_6, if_neg c_98, if_neg c_116]; exact hM)) hS.2.2 dX6_halt_119
  · exact W.vret hx hb hr (hS.end (by rw [fX6_halt, if_pos c_6]; exact hM)) hS.2.2 dX6_halt_9
theorem pusher_vp {mv sv : LV} {cr : Int32} (hm : mOK mv) (h : ¬ fX6_pusher mv sv cr = -1) : vp_in (fX6_pusher mv sv cr) 6 := by
  unfold fX6_pusher at h ⊢
  cases e : fstI ((mv.1 2).toNatClampNeg) (bX6_pusher_2 mv sv cr) with
  | none => rw [e] at h; exact absurd rfl h
  | some r =>
    obtain ⟨i, hi, h2⟩ := fstI_ex e
    unfold bX6_pusher_2 at h2
    split at h2
    · cases h2; exact tr_vl rfl hi hm.2.2 (by decide)
    · cases h2
def bX6_mend_84 (mv : LV) (sv : LV) (cr : Int32) (i : Nat) : Option LV :=
  (if (fX6_pusher mv sv cr) = (-1) then (if (aAt sv 10 (nI i)) = 1 then none else (if (aAt sv 11 (nI i)) = (-1) then (if (aAt sv 7 (nI i)) = (aAt sv 7 cr) then (if (aAt sv 6 (nI i)) = (aAt sv 6 cr) then some (aSet sv 11 (nI i) cr) else none) else none) else none)) else some sv)
def fX6_mend (mv : LV) (sv : LV) (cr : Int32) : LV :=
  (if (aAt sv 10 cr) = 0 then sv else (if (aAt sv 2 (aAt sv 6 cr)) ≤ 0 then ((fstI ((mv.1 2).toNatClampNeg) (bX6_mend_84 mv sv cr)).getD sv) else (if (fX6_pusher mv sv cr) = (-1) then aSet (aSet (lSc (aSet sv 2 (aAt sv 6 cr) ((aAt sv 2 (aAt sv 6 cr)) - 1)) 2 ((sv.1 2) + 1)) 10 cr 0) 9 cr 0 else aSet (aSet (aSet (lSc (aSet sv 2 (aAt sv 6 cr) ((aAt sv 2 (aAt sv 6 cr)) - 1)) 2 ((sv.1 2) + 1)) 10 cr 0) 9 cr 0) 11 (fX6_pusher mv sv cr) (-1))))
set_option maxHeartbeats 4000000 in
set_option maxRecDepth 100000 in
theorem c_X6_mend (l : Launch) (D : va_G) (cI : ClassId) (C : Nat → Nat) (hC : SInj C) (mv sv : LV) (cr : Int32) (hm : mOK mv) (hcr : vp_in cr 6) (hat : vp_in (aAt sv 6 cr) 16) : Met l yX6_mend wsX6_mend ({ frames := 1, cells := 0, slots := 0, locals := 22 }) (tr_Pc D cI [.ref (C 2), .int cr] (STA D cI C mv sv)) (tr_Q none (STA D cI C mv (fX6_mend mv sv cr)) (sOwn C)) 0 0 (sOwn C) := by
  refine Met.ofW (cc := cX6_mend) (maxL := 4) (ret := none) (by decide) rfl ?_
  intro p e s m args below meth c s₁ B hml hv
  obtain ⟨rfl, hM, hK⟩ := hv
  have hx := B.exec
  have hb := B.bytes
  have hr := B.returns
  have hts := atoms_spec (ws := wsX6_mend) B.pre
  have hown : s.vm.findClass RX6 = some m.cls := findClass_of_methodNamed B.named
  have hlocks := B.notSynchronized
  have hiX6 : ∀ w ∈ u_ws RX6 TX6 19, w ∈ wsX6_mend := by decide +kernel
  have hiX7 : ∀ w ∈ u_ws RX7 TX7 6, w ∈ wsX6_mend := by decide +kernel
  have f26 := hts (.fieldLink RX6 26 "TramRibbonModel$State" "spares" "[I") (by decide +kernel)
  have f3 := hts (.fieldLink RX6 3 "TramRibbonModel$State" "this$0" "LTramRibbonModel;") (by decide +kernel)
  have f38 := hts (.fieldLink RX6 38 "TramRibbonModel$State" "at" "[I") (by decide +kernel)
  have f41 := hts (.fieldLink RX6 41 "TramRibbonModel$State" "way" "[I") (by decide +kernel)
  have f47 := hts (.fieldLink RX6 47 "TramRibbonModel$State" "wear" "[I") (by decide +kernel)
  have f50 := hts (.fieldLink RX6 50 "TramRibbonModel$State" "broken" "[I") (by decide +kernel)
  have f53 := hts (.fieldLink RX6 53 "TramRibbonModel$State" "pushes" "[I") (by decide +kernel)
  have f74 := hts (.fieldLink RX6 74 "TramRibbonModel$State" "swaps" "I") (by decide +kernel)
  have hl := lv_entry ([.ref (C 2), .int cr]) (n := 4) (Nat.le_of_ble_eq_true rfl)
  rw [lg_entry_eq]
  generalize (lg_sl ([.ref (C 2), .int cr]) ++ List.replicate (4 - (lg_sl ([.ref (C 2), .int cr])).length) Slot.unset).toArray = ls at hl ⊢
  replace hl : lv_has ls 4 [(0, .ref (C 2)), (1, .int cr)] := hl
  have hS : tr_S (sOwn C) s.heap s.heap [] := tr_S.rf
  generalize h1 : s.heap = H, h2 : ([] : List Loc) = locs
  replace hS : tr_S (sOwn C) s.heap H locs := by rw [← h1, ← h2]; exact hS
  rw [h1] at hM
  clear h1 h2
  refine lv_aload_n hx hb dX6_mend_0 rfl (lv_at hl 0 rfl) ?_
  refine tr_get (ci := 6) (C := RX6) (T := TX6) (N := 19) hx hb hts hiX6 hown hK hM.c2 rfl 14 (by decide) f50 (v := .ref (C 13)) rfl dX6_mend_1 ?_
  refine lv_iload_n hx hb dX6_mend_4 rfl (lv_at hl 1 rfl) ?_
  refine tr_sald (sv := sv) hx hb hK 10 (hM.arr 10 (by decide)) hcr dX6_mend_5 ?_
  refine lv_if_ne (tgt := 10) hx hb dX6_mend_6 (by decide) (fun c_6 => ?_) (fun c_6 => ?_)
  · refine lv_aload_n hx hb dX6_mend_10 rfl (lv_at hl 0 rfl) ?_
    refine lv_iload_n hx hb dX6_mend_11 rfl (lv_at hl 1 rfl) ?_
    refine tr_ri (va_runV (As := [.int cr]) (rest := []) ⟨hx, hb, hml, hown, hts⟩ (c_X6_pusher l D cI C hC mv sv cr hm) (cwV 1 hts gX6_mend_X6_pusher rfl rfl rfl (by decide +kernel) ⟨Nat.le_of_ble_eq_true rfl, Nat.le_of_ble_eq_true rfl⟩) (tr_preV hK hM.c2 rfl hM) rfl rfl hl.1 rfl (lv_room (Nat.le_of_ble_eq_true rfl)) dX6_mend_12 ⟨Nat.zero_le _, Nat.zero_le _⟩) ?_
    refine lv_istore_n (lv' := [(2, .int (fX6_pusher mv sv cr)), (0, .ref (C 2)), (1, .int cr)]) hx hb dX6_mend_15 rfl hl (by decide) rfl (fun ls hl => ?_)
    refine lv_aload_n hx hb dX6_mend_16 rfl (lv_at hl 1 rfl) ?_
    refine tr_get (ci := 6) (C := RX6) (T := TX6) (N := 19) hx hb hts hiX6 hown hK hM.c2 rfl 6 (by decide) f26 (v := .ref (C 5)) rfl dX6_mend_17 ?_
    refine lv_aload_n hx hb dX6_mend_20 rfl (lv_at hl 1 rfl) ?_
    refine tr_get (ci := 6) (C := RX6) (T := TX6) (N := 19) hx hb hts hiX6 hown hK hM.c2 rfl 10 (by decide) f38 (v := .ref (C 9)) rfl dX6_mend_21 ?_
    refine lv_iload_n hx hb dX6_mend_24 rfl (lv_at hl 2 rfl) ?_
    refine tr_sald (sv := sv) hx hb hK 6 (hM.arr 6 (by decide)) hcr dX6_mend_25 ?_
    refine tr_sald (sv := sv) hx hb hK 2 (hM.arr 2 (by decide)) hat dX6_mend_26 ?_
    refine lv_if_le (tgt := 82) hx hb dX6_mend_27 (by decide) (fun c_27 => ?_) (fun c_27 => ?_)
    · refine lv_iconst (v := 0) hx hb dX6_mend_82 (by decide) ?_
      refine lv_istore_n (lv' := [(3, .int 0), (2, .int (fX6_pusher mv sv cr)), (0, .ref (C 2)), (1, .int cr)]) hx hb dX6_mend_83 rfl hl (by decide) rfl (fun ls hl => ?_)
      have hinv := And.intro (show STA D cI C mv sv H ∧ tr_S (sOwn C) s.heap H locs from ⟨hM, hS⟩) hl
      clear hM hS hl
      revert hinv; revert ls; revert locs; revert H
      refine tr_forw (fun i H locs ls => fstI i (bX6_mend_84 mv sv cr) = none ∧ (STA D cI C mv sv H ∧ tr_S (sOwn C) s.heap H locs) ∧ lv_has ls 4 [(0, .ref (C 2)), (1, .int cr), (2, .int (fX6_pusher mv sv cr)), (3, .int (nI i))]) ((mv.1 2).toNatClampNeg) (fun H locs ls hinv => ?_) ?_
      · obtain ⟨⟨hM, hS⟩, hl⟩ := hinv
        exact ⟨rfl, ⟨hM, hS⟩, lv_sub hl [2, 3, 1, 0] rfl⟩
      intro i H locs ls hi hinv ih
      obtain ⟨hex, ⟨hM, hS⟩, hl⟩ := hinv
      refine lv_iload_n hx hb dX6_mend_84 rfl (lv_at hl 3 rfl) ?_
      refine lv_aload_n hx hb dX6_mend_85 rfl (lv_at hl 0 rfl) ?_
      refine tr_get (ci := 6) (C := RX6) (T := TX6) (N := 19) hx hb hts hiX6 hown hK hM.c2 rfl 18 (by decide) f3 (v := .ref (C 0)) rfl dX6_mend_86 ?_
      refine tr_getN (host := "TramRibbonModel") (ci := 7) (C := RX7) (T := TX7) (N := 6) hx hb hts hiX7 hown hK hM.c0 rfl 2 (by decide) (by decide +kernel) (v := .int (mv.1 2)) rfl dX6_mend_89 ?_
      refine lv_icmp_ge (tgt := 168) hx hb dX6_mend_92 (by decide) (fun c_92 => ?_) (fun c_92 => ?_)
      · have hN : i = (mv.1 2).toNatClampNeg := tr_over rfl hi c_92
        subst hN
        exact W.vret hx hb hr (hS.end (by rw [fX6_mend, if_neg c_6, if_pos c_27, hex]; exact hM)) hS.2.2 dX6_mend_168
      · have hlt : i < (mv.1 2).toNatClampNeg := tr_on rfl hi c_92
        refine lv_iload_n hx hb dX6_mend_95 rfl (lv_at hl 2 rfl) ?_
        refine lv_iconst (v := -1) hx hb dX6_mend_96 (by decide) ?_
        refine lv_icmp_ne (tgt := 168) hx hb dX6_mend_97 (by decide) (fun c_97 => ?_) (fun c_97 => ?_)
        · have e9 := fstI_s (N := (mv.1 2).toNatClampNeg) hex (f := bX6_mend_84 mv sv cr) (r := sv) (by rw [bX6_mend_84, if_neg c_97]) hlt
          exact W.vret hx hb hr (hS.end (by rw [fX6_mend, if_neg c_6, if_pos c_27, e9]; exact hM)) hS.2.2 dX6_mend_168
        · refine lv_aload_n hx hb dX6_mend_100 rfl (lv_at hl 0 rfl) ?_
          refine tr_get (ci := 6) (C := RX6) (T := TX6) (N := 19) hx hb hts hiX6 hown hK hM.c2 rfl 14 (by decide) f50 (v := .ref (C 13)) rfl dX6_mend_101 ?_
          refine lv_iload_n hx hb dX6_mend_104 rfl (lv_at hl 3 rfl) ?_
          refine tr_sald (sv := sv) hx hb hK 10 (hM.arr 10 (by decide)) (tr_vl rfl hlt hm.2.2 (by decide)) dX6_mend_105 ?_
          refine lv_iconst (v := 1) hx hb dX6_mend_106 (by decide) ?_
          refine lv_icmp_eq (tgt := 162) hx hb dX6_mend_107 (by decide) (fun c_107 => ?_) (fun c_107 => ?_)
          · refine lv_iinc (v := nI (i + 1)) (lv' := [(3, .int (nI (i + 1))), (0, .ref (C 2)), (1, .int cr), (2, .int (fX6_pusher mv sv cr))]) hx hb dX6_mend_162 hl (k := 3) rfl (tr_inc _) (by decide) rfl (fun ls hl => ?_)
            refine lv_goto (tgt := 84) hx hb dX6_mend_165 (by decide) ?_
            exact ih H locs ls hlt ⟨(fstI_n hex (by rw [bX6_mend_84, if_pos c_97, if_pos c_107])), ⟨hM, hS⟩, lv_sub hl [1, 2, 3, 0] rfl⟩
          · refine lv_aload_n hx hb dX6_mend_110 rfl (lv_at hl 0 rfl) ?_
            refine tr_get (ci := 6) (C := RX6) (T := TX6) (N := 19) hx hb hts hiX6 hown hK hM.c2 rfl 15 (by decide) f53 (v := .ref (C 14)) rfl dX6_mend_111 ?_
            refine lv_iload_n hx hb dX6_mend_114 rfl (lv_at hl 3 rfl) ?_
            refine tr_sald (sv := sv) hx hb hK 11 (hM.arr 11 (by decide)) (tr_vl rfl hlt hm.2.2 (by decide)) dX6_mend_115 ?_
            refine lv_iconst (v := -1) hx hb dX6_mend_116 (by decide) ?_
            refine lv_icmp_ne (tgt := 162) hx hb dX6_mend_117 (by decide) (fun c_117 => ?_) (fun c_117 => ?_)
            · refine lv_iinc (v := nI (i + 1)) (lv' := [(3, .int (nI (i + 1))), (0, .ref (C 2)), (1, .int cr), (2, .int (fX6_pusher mv sv cr))]) hx hb dX6_mend_162 hl (k := 3) rfl (tr_inc _) (by decide) rfl (fun ls hl => ?_)
              refine lv_goto (tgt := 84) hx hb dX6_mend_165 (by decide) ?_
              exact ih H locs ls hlt ⟨(fstI_n hex (by rw [bX6_mend_84, if_pos c_97, if_neg c_107, if_neg c_117])), ⟨hM, hS⟩, lv_sub hl [1, 2, 3, 0] rfl⟩
            · refine lv_aload_n hx hb dX6_mend_120 rfl (lv_at hl 0 rfl) ?_
              refine tr_get (ci := 6) (C := RX6) (T := TX6) (N := 19) hx hb hts hiX6 hown hK hM.c2 rfl 11 (by decide) f41 (v := .ref (C 10)) rfl dX6_mend_121 ?_
              refine lv_iload_n hx hb dX6_mend_124 rfl (lv_at hl 3 rfl) ?_
              refine tr_sald (sv := sv) hx hb hK 7 (hM.arr 7 (by decide)) (tr_vl rfl hlt hm.2.2 (by decide)) dX6_mend_125 ?_
              refine lv_aload_n hx hb dX6_mend_126 rfl (lv_at hl 0 rfl) ?_
              refine tr_get (ci := 6) (C := RX6) (T := TX6) (N := 19) hx hb hts hiX6 hown hK hM.c2 rfl 11 (by decide) f41 (v := .ref (C 10)) rfl dX6_mend_127 ?_
              refine lv_iload_n hx hb dX6_mend_130 rfl (lv_at hl 1 rfl) ?_
              refine tr_sald (sv := sv) hx hb hK 7 (hM.arr 7 (by decide)) hcr dX6_mend_131 ?_
              refine lv_icmp_ne (tgt := 162) hx hb dX6_mend_132 (by decide) (fun c_132 => ?_) (fun c_132 => ?_)
              · refine lv_iinc (v := nI (i + 1)) (lv' := [(3, .int (nI (i + 1))), (0, .ref (C 2)), (1, .int cr), (2, .int (fX6_pusher mv sv cr))]) hx hb dX6_mend_162 hl (k := 3) rfl (tr_inc _) (by decide) rfl (fun ls hl => ?_)
                refine lv_goto (tgt := 84) hx hb dX6_mend_165 (by decide) ?_
                exact ih H locs ls hlt ⟨(fstI_n hex (by rw [bX6_mend_84, if_pos c_97, if_neg c_107, if_pos c_117, if_neg c_132])), ⟨hM, hS⟩, lv_sub hl [1, 2, 3, 0] rfl⟩
              · refine lv_aload_n hx hb dX6_mend_135 rfl (lv_at hl 0 rfl) ?_
                refine tr_get (ci := 6) (C := RX6) (T := TX6) (N := 19) hx hb hts hiX6 hown hK hM.c2 rfl 10 (by decide) f38 (v := .ref (C 9)) rfl dX6_mend_136 ?_
                refine lv_iload_n hx hb dX6_mend_139 rfl (lv_at hl 3 rfl) ?_
                refine tr_sald (sv := sv) hx hb hK 6 (hM.arr 6 (by decide)) (tr_vl rfl hlt hm.2.2 (by decide)) dX6_mend_140 ?_
                refine lv_aload_n hx hb dX6_mend_141 rfl (lv_at hl 0 rfl) ?_
                refine tr_get (ci := 6) (C := RX6) (T := TX6) (N := 19) hx hb hts hiX6 hown hK hM.c2 rfl 10 (by decide) f38 (v := .ref (C 9)) rfl dX6_mend_142 ?_
                refine lv_iload_n hx hb dX6_mend_145 rfl (lv_at hl 1 rfl) ?_
                refine tr_sald (sv := sv) hx hb hK 6 (hM.arr 6 (by decide)) hcr dX6_mend_146 ?_
                refine lv_icmp_eq (tgt := 153) hx hb dX6_mend_147 (by decide) (fun c_147 => ?_) (fun c_147 => ?_)
                · refine lv_aload_n hx hb dX6_mend_153 rfl (lv_at hl 0 rfl) ?_
                  refine tr_get (ci := 6) (C := RX6) (T := TX6) (N := 19) hx hb hts hiX6 hown hK hM.c2 rfl 15 (by decide) f53 (v := .ref (C 14)) rfl dX6_mend_154 ?_
                  refine lv_iload_n hx hb dX6_mend_157 rfl (lv_at hl 3 rfl) ?_
                  refine lv_iload_n hx hb dX6_mend_158 rfl (lv_at hl 1 rfl) ?_
                  refine tr_sast hx hb hK hS hC hM (fun _ h => h) 11 (by decide) (tr_vl rfl hlt hm.2.2 (by decide)) dX6_mend_159 (fun H locs hM hk hS => ?_)
                  clear hk
                  refine lv_iload_n hx hb dX6_mend_160 rfl (lv_at hl 3 rfl) ?_
                  refine lv_istore_n (lv' := [(2, .int (nI i)), (0, .ref (C 2)), (1, .int cr), (3, .int (nI i))]) hx hb dX6_mend_161 rfl hl (by decide) rfl (fun ls hl => ?_)
                  refine lv_iinc (v := nI (i + 1)) (lv' := [(3, .int (nI (i + 1))), (2, .int (nI i)), (0, .ref (C 2)), (1, .int cr)]) hx hb dX6_mend_162 hl (k := 3) rfl (tr_inc _) (by decide) rfl (fun ls hl => ?_)
                  refine lv_goto (tgt := 84) hx hb dX6_mend_165 (by decide) ?_
                  refine lv_iload_n hx hb dX6_mend_84 rfl (lv_at hl 0 rfl) ?_
                  refine lv_aload_n hx hb dX6_mend_85 rfl (lv_at hl 2 rfl) ?_
                  refine tr_get (ci := 6) (C := RX6) (T := TX6) (N := 19) hx hb hts hiX6 hown hK hM.c2 rfl 18 (by decide) f3 (v := .ref (C 0)) rfl dX6_mend_86 ?_
                  refine tr_getN (host := "TramRibbonModel") (ci := 7) (C := RX7) (T := TX7) (N := 6) hx hb hts hiX7 hown hK hM.c0 rfl 2 (by decide) (by decide +kernel) (v := .int (mv.1 2)) rfl dX6_mend_89 ?_
                  refine lv_icmp_ge (tgt := 168) hx hb dX6_mend_92 (by decide) (fun _ => ?_) (fun _ => ?_)
                  · have e9 := fstI_s (N := (mv.1 2).toNatClampNeg) hex (f := bX6_mend_84 mv sv cr) (r := aSet sv 11 (nI i) cr) (by rw [bX6_mend_84, if_pos c_97, if_neg c_107, if_pos c_117, if_pos c_132, if_pos c_147]) hlt
                    exact W.vret hx hb hr (hS.end (by rw [fX6_mend, if_neg c_6, if_pos c_27, e9]; exact hM)) hS.2.2 dX6_mend_168
                  · refine lv_iload_n hx hb dX6_mend_95 rfl (lv_at hl 1 rfl) ?_
                    refine lv_iconst (v := -1) hx hb dX6_mend_96 (by decide) ?_
                    refine lv_icmp_ne (tgt := 168) hx hb dX6_mend_97 (by decide) (fun h9 => ?_) (fun h9 => absurd h9 (tr_nIm1 (by have := tr_cl31 (mv.1 2); omega)))
                    have e9 := fstI_s (N := (mv.1 2).toNatClampNeg) hex (f := bX6_mend_84 mv sv cr) (r := aSet sv 11 (nI i) cr) (by rw [bX6_mend_84, if_pos c_97, if_neg c_107, if_pos c_117, if_pos c_132, if_pos c_147]) hlt
                    exact W.vret hx hb hr (hS.end (by rw [fX6_mend, if_neg c_6, if_pos c_27, e9]; exact hM)) hS.2.2 dX6_mend_168
                · refine lv_goto (tgt := 162) hx hb dX6_mend_150 (by decide) ?_
                  refine lv_iinc (v := nI (i + 1)) (lv' := [(3, .int (nI (i + 1))), (0, .ref (C 2)), (1, .int cr), (2, .int (fX6_pusher mv sv cr))]) hx hb dX6_mend_162 hl (k := 3) rfl (tr_inc _) (by decide) rfl (fun ls hl => ?_)
                  refine lv_goto (tgt := 84) hx hb dX6_mend_165 (by decide) ?_
                  exact ih H locs ls hlt ⟨(fstI_n hex (by rw [bX6_mend_84, if_pos c_97, if_neg c_107, if_pos c_117, if_pos c_132, if_neg c_147])), ⟨hM, hS⟩, lv_sub hl [1, 2, 3, 0] rfl⟩
    · refine lv_aload_n hx hb dX6_mend_30 rfl (lv_at hl 1 rfl) ?_
      refine tr_get (ci := 6) (C := RX6) (T := TX6) (N := 19) hx hb hts hiX6 hown hK hM.c2 rfl 6 (by decide) f26 (v := .ref (C 5)) rfl dX6_mend_31 ?_
      refine lv_aload_n hx hb dX6_mend_34 rfl (lv_at hl 1 rfl) ?_
      refine tr_get (ci := 6) (C := RX6) (T := TX6) (N := 19) hx hb hts hiX6 hown hK hM.c2 rfl 10 (by decide) f38 (v := .ref (C 9)) rfl dX6_mend_35 ?_
      refine lv_iload_n hx hb dX6_mend_38 rfl (lv_at hl 2 rfl) ?_
      refine tr_sald (sv := sv) hx hb hK 6 (hM.arr 6 (by decide)) hcr dX6_mend_39 ?_
      refine lv_dup2_11 hx hb dX6_mend_40 rfl rfl ?_
      refine tr_sald (sv := sv) hx hb hK 2 (hM.arr 2 (by decide)) hat dX6_mend_41 ?_
      refine lv_iconst (v := 1) hx hb dX6_mend_42 (by decide) ?_
      refine lv_isub hx hb dX6_mend_43 ?_
      refine tr_sast hx hb hK hS hC hM (fun _ h => h) 2 (by decide) hat dX6_mend_44 (fun H locs hM hk hS => ?_)
      clear hk
      refine lv_aload_n hx hb dX6_mend_45 rfl (lv_at hl 1 rfl) ?_
      refine lv_dup hx hb dX6_mend_46 rfl ?_
      refine tr_get (ci := 6) (C := RX6) (T := TX6) (N := 19) hx hb hts hiX6 hown hK hM.c2 rfl 2 (by decide) f74 (v := .int (sv.1 2)) rfl dX6_mend_47 ?_
      refine lv_iconst (v := 1) hx hb dX6_mend_50 (by decide) ?_
      refine lv_iadd hx hb dX6_mend_51 ?_
      refine tr_put (ci := 6) (C := RX6) (T := TX6) (N := 19) (ty := .int) (v := .int ((sv.1 2) + 1)) hx hb hts hiX6 tyX6 tyX6_ok nmX6 hown hK hS (sOwn_k (by decide) (by decide)) hM.c2 rfl 2 (by decide) f74 rfl (by decide +kernel) rfl rfl (Nat.le_of_ble_eq_true rfl) dX6_mend_52 (fun H locs hat hz hk hS => ?_)
      have hM : STA D cI C mv (lSc (aSet sv 2 (aAt sv 6 cr) ((aAt sv 2 (aAt sv 6 cr)) - 1)) 2 ((sv.1 2) + 1)) H := hM.setSc hC 2 hat rfl hk
      clear hat hz hk
      refine lv_aload_n hx hb dX6_mend_55 rfl (lv_at hl 1 rfl) ?_
      refine tr_get (ci := 6) (C := RX6) (T := TX6) (N := 19) hx hb hts hiX6 hown hK hM.c2 rfl 14 (by decide) f50 (v := .ref (C 13)) rfl dX6_mend_56 ?_
      refine lv_iload_n hx hb dX6_mend_59 rfl (lv_at hl 2 rfl) ?_
      refine lv_iconst (v := 0) hx hb dX6_mend_60 (by decide) ?_
      refine tr_sast hx hb hK hS hC hM (fun _ h => h) 10 (by decide) hcr dX6_mend_61 (fun H locs hM hk hS => ?_)
      clear hk
      refine lv_aload_n hx hb dX6_mend_62 rfl (lv_at hl 1 rfl) ?_
      refine tr_get (ci := 6) (C := RX6) (T := TX6) (N := 19) hx hb hts hiX6 hown hK hM.c2 rfl 13 (by decide) f47 (v := .ref (C 12)) rfl dX6_mend_63 ?_
      refine lv_iload_n hx hb dX6_mend_66 rfl (lv_at hl 2 rfl) ?_
      refine lv_iconst (v := 0) hx hb dX6_mend_67 (by decide) ?_
      refine tr_sast hx hb hK hS hC hM (fun _ h => h) 9 (by decide) hcr dX6_mend_68 (fun H locs hM hk hS => ?_)
      clear hk
      refine lv_iload_n hx hb dX6_mend_69 rfl (lv_at hl 0 rfl) ?_
      refine lv_iconst (v := -1) hx hb dX6_mend_70 (by decide) ?_
      refine lv_icmp_eq (tgt := 81) hx hb dX6_mend_71 (by decide) (fun c_71 => ?_) (fun c_71 => ?_)
      · exact W.vret hx hb hr (hS.end (by rw [fX6_mend, if_neg c_6, if_neg c_27, if_pos c_71]; exact hM)) hS.2.2 dX6_mend_81
      · refine lv_aload_n hx hb dX6_mend_74 rfl (lv_at hl 1 rfl) ?_
        refine tr_get (ci := 6) (C := RX6) (T := TX6) (N := 19) hx hb hts hiX6 hown hK hM.c2 rfl 15 (by decide) f53 (v := .ref (C 14)) rfl dX6_mend_75 ?_
        refine lv_iload_n hx hb dX6_mend_78 rfl (lv_at hl 0 rfl) ?_
        refine lv_iconst (v := -1) hx hb dX6_mend_79 (by decide) ?_
        refine tr_sast hx hb hK hS hC hM (fun _ h => h) 11 (by decide) (pusher_vp hm c_71) dX6_mend_80 (fun H locs hM hk hS => ?_)
        clear hk
        exact W.vret hx hb hr (hS.end (by rw [fX6_mend, if_neg c_6, if_neg c_27, if_neg c_71]; exact hM)) hS.2.2 dX6_mend_81
  · exact W.vret hx hb hr (hS.end (by rw [fX6_mend, if_pos c_6]; exact hM)) hS.2.2 dX6_mend_9
