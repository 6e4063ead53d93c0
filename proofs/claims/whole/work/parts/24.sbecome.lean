/-! State: cut, renew, become -/
theorem cut_ix {S q : Int32} {i : Nat} (h : i < tr_dn S q) (h0 : 0 ≤ q.toInt) (h1 : S.toInt ≤ 15) : vp_in (S - nI i) 16 ∧ vp_in (S - nI i - 1) 16 := by
  have e := tr_dn_int (x := S) (y := q) (i := i) (by omega)
  unfold tr_dn at h
  have e2 : (S - nI i - 1).toInt = S.toInt - i - 1 := by
    rw [Int32.toInt_sub, e, show (1 : Int32).toInt = 1 from rfl]
    exact Int.bmod_eq_of_le (by omega) (by omega)
  exact ⟨tr_vi (by omega) (by omega), tr_vi (by omega) (by omega)⟩
theorem cut_ix2 {S q : Int32} (h0 : 0 ≤ q.toInt) (h1 : q.toInt < S.toInt) (h2 : S.toInt ≤ 15) : vp_in (q + 1) 16 := by
  have e2 : (q + 1).toInt = q.toInt + 1 := by
    rw [Int32.toInt_add, show (1 : Int32).toInt = 1 from rfl]
    exact Int.bmod_eq_of_le (by omega) (by omega)
  exact tr_vi (by omega) (by omega)
theorem vp_in.le15 {x : Int32} (h : vp_in x 16) : x.toInt ≤ 15 := by have := vp_in_iff.mp h; omega
def bX6_cut_11 (mv : LV) (sv : LV) (po : Int32) (i : Nat) (a : LV) : LV :=
  aSet (aSet (aSet a 3 ((sv.1 3) - nI i) (aAt a 3 (((sv.1 3) - nI i) - 1))) 4 ((sv.1 3) - nI i) (aAt a 4 (((sv.1 3) - nI i) - 1))) 5 ((sv.1 3) - nI i) (aAt a 5 (((sv.1 3) - nI i) - 1))
def fX6_cut (mv : LV) (sv : LV) (po : Int32) : LV :=
  lSc (aSet (aSet (itI (tr_dn (sv.1 3) (fX6_sectionOf mv sv po)) (bX6_cut_11 mv sv po) sv) 5 ((fX6_sectionOf mv sv po) + 1) 0) 1 po 1) 3 (((itI (tr_dn (sv.1 3) (fX6_sectionOf mv sv po)) (bX6_cut_11 mv sv po) sv).1 3) + 1)
set_option maxHeartbeats 4000000 in
set_option maxRecDepth 100000 in
theorem c_X6_cut (l : Launch) (D : va_G) (cI : ClassId) (C : Nat → Nat) (hC : SInj C) (mv sv : LV) (po : Int32) (hcut : cOK sv) (hpo : vp_in po 16) (hsec : (sv.1 3).toInt ≤ 15) (hq : (fX6_sectionOf mv sv po).toInt < (sv.1 3).toInt) : Met l yX6_cut wsX6_cut ({ frames := 1, cells := 0, slots := 0, locals := 23 }) (tr_Pc D cI [.ref (C 2), .int po] (STA D cI C mv sv)) (tr_Q none (STA D cI C mv (fX6_cut mv sv po)) (sOwn C)) 0 0 (sOwn C) := by
  refine Met.ofW (cc := cX6_cut) (maxL := 4) (ret := none) (by decide) rfl ?_
  intro p e s m args below meth c s₁ B hml hv
  obtain ⟨rfl, hM, hK⟩ := hv
  have hx := B.exec
  have hb := B.bytes
  have hr := B.returns
  have hts := atoms_spec (ws := wsX6_cut) B.pre
  have hown : s.vm.findClass RX6 = some m.cls := findClass_of_methodNamed B.named
  have hlocks := B.notSynchronized
  have hiX6 : ∀ w ∈ u_ws RX6 TX6 19, w ∈ wsX6_cut := by decide +kernel
  have f15 := hts (.fieldLink RX6 15 "TramRibbonModel$State" "sections" "I") (by decide +kernel)
  have f23 := hts (.fieldLink RX6 23 "TramRibbonModel$State" "isCut" "[I") (by decide +kernel)
  have f29 := hts (.fieldLink RX6 29 "TramRibbonModel$State" "bound" "[I") (by decide +kernel)
  have f32 := hts (.fieldLink RX6 32 "TramRibbonModel$State" "dead" "[I") (by decide +kernel)
  have f35 := hts (.fieldLink RX6 35 "TramRibbonModel$State" "times" "[I") (by decide +kernel)
  have hl := lv_entry ([.ref (C 2), .int po]) (n := 4) (Nat.le_of_ble_eq_true rfl)
  rw [lg_entry_eq]
  generalize (lg_sl ([.ref (C 2), .int po]) ++ List.replicate (4 - (lg_sl ([.ref (C 2), .int po])).length) Slot.unset).toArray = ls at hl ⊢
  replace hl : lv_has ls 4 [(0, .ref (C 2)), (1, .int po)] := hl
  have hS : tr_S (sOwn C) s.heap s.heap [] := tr_S.rf
  generalize h1 : s.heap = H, h2 : ([] : List Loc) = locs
  replace hS : tr_S (sOwn C) s.heap H locs := by rw [← h1, ← h2]; exact hS
  rw [h1] at hM
  clear h1 h2
  refine lv_aload_n hx hb dX6_cut_0 rfl (lv_at hl 0 rfl) ?_
  refine lv_iload_n hx hb dX6_cut_1 rfl (lv_at hl 1 rfl) ?_
  refine tr_ri (va_runV (As := [.int po]) (rest := []) ⟨hx, hb, hml, hown, hts⟩ (c_X6_sectionOf l D cI C hC mv sv po hpo.le15) (cwV 1 hts gX6_cut_X6_sectionOf rfl rfl rfl (by decide +kernel) ⟨Nat.le_of_ble_eq_true rfl, Nat.le_of_ble_eq_true rfl⟩) (tr_preV hK hM.c2 rfl hM) rfl rfl hl.1 rfl (lv_room (Nat.le_of_ble_eq_true rfl)) dX6_cut_2 ⟨Nat.zero_le _, Nat.zero_le _⟩) ?_
  refine lv_istore_n (lv' := [(2, .int (fX6_sectionOf mv sv po)), (0, .ref (C 2)), (1, .int po)]) hx hb dX6_cut_5 rfl hl (by decide) rfl (fun ls hl => ?_)
  refine lv_aload_n hx hb dX6_cut_6 rfl (lv_at hl 1 rfl) ?_
  refine tr_get (ci := 6) (C := RX6) (T := TX6) (N := 19) hx hb hts hiX6 hown hK hM.c2 rfl 3 (by decide) f15 (v := .int (sv.1 3)) rfl dX6_cut_7 ?_
  refine lv_istore_n (lv' := [(3, .int (sv.1 3)), (2, .int (fX6_sectionOf mv sv po)), (0, .ref (C 2)), (1, .int po)]) hx hb dX6_cut_10 rfl hl (by decide) rfl (fun ls hl => ?_)
  have hinv := And.intro (show STA D cI C mv sv H ∧ tr_S (sOwn C) s.heap H locs from ⟨hM, hS⟩) hl
  clear hM hS hl
  revert hinv; revert ls; revert locs; revert H
  refine tr_forw (fun i H locs ls => (STA D cI C mv (itI i (bX6_cut_11 mv sv po) sv) H ∧ tr_S (sOwn C) s.heap H locs) ∧ lv_has ls 4 [(0, .ref (C 2)), (1, .int po), (2, .int (fX6_sectionOf mv sv po)), (3, .int ((sv.1 3) - nI i))]) (tr_dn (sv.1 3) (fX6_sectionOf mv sv po)) (fun H locs ls hinv => ?_) ?_
  · obtain ⟨⟨hM, hS⟩, hl⟩ := hinv
    exact ⟨⟨by rw [itI_0]; exact hM, hS⟩, by rw [tr_sub0]; exact lv_sub hl [2, 3, 1, 0] rfl⟩
  intro i H locs ls hi hinv ih
  obtain ⟨⟨hM, hS⟩, hl⟩ := hinv
  refine lv_iload_n hx hb dX6_cut_11 rfl (lv_at hl 3 rfl) ?_
  refine lv_iload_n hx hb dX6_cut_12 rfl (lv_at hl 2 rfl) ?_
  refine lv_icmp_le (tgt := 64) hx hb dX6_cut_13 (by decide) (fun c_13 => ?_) (fun c_13 => ?_)
  · have hN : i = tr_dn (sv.1 3) (fX6_sectionOf mv sv po) := tr_overD (z := 0) rfl hi c_13
    subst hN
    refine lv_aload_n hx hb dX6_cut_64 rfl (lv_at hl 0 rfl) ?_
    refine tr_get (ci := 6) (C := RX6) (T := TX6) (N := 19) hx hb hts hiX6 hown hK hM.c2 rfl 9 (by decide) f35 (v := .ref (C 8)) rfl dX6_cut_65 ?_
    refine lv_iload_n hx hb dX6_cut_68 rfl (lv_at hl 2 rfl) ?_
    refine lv_iconst (v := 1) hx hb dX6_cut_69 (by decide) ?_
    refine lv_iadd hx hb dX6_cut_70 ?_
    refine lv_iconst (v := 0) hx hb dX6_cut_71 (by decide) ?_
    refine tr_sast hx hb hK hS hC hM (fun _ h => h) 5 (by decide) (cut_ix2 (sec_rng (mv := mv) hcut hpo.le15).1 hq hsec) dX6_cut_72 (fun H locs hM hk hS => ?_)
    clear hk
    refine lv_aload_n hx hb dX6_cut_73 rfl (lv_at hl 0 rfl) ?_
    refine tr_get (ci := 6) (C := RX6) (T := TX6) (N := 19) hx hb hts hiX6 hown hK hM.c2 rfl 5 (by decide) f23 (v := .ref (C 4)) rfl dX6_cut_74 ?_
    refine lv_iload_n hx hb dX6_cut_77 rfl (lv_at hl 1 rfl) ?_
    refine lv_iconst (v := 1) hx hb dX6_cut_78 (by decide) ?_
    refine tr_sast hx hb hK hS hC hM (fun _ h => h) 1 (by decide) hpo dX6_cut_79 (fun H locs hM hk hS => ?_)
    clear hk
    refine lv_aload_n hx hb dX6_cut_80 rfl (lv_at hl 0 rfl) ?_
    refine lv_dup hx hb dX6_cut_81 rfl ?_
    refine tr_get (ci := 6) (C := RX6) (T := TX6) (N := 19) hx hb hts hiX6 hown hK hM.c2 rfl 3 (by decide) f15 (v := .int ((itI (tr_dn (sv.1 3) (fX6_sectionOf mv sv po)) (bX6_cut_11 mv sv po) sv).1 3)) rfl dX6_cut_82 ?_
    refine lv_iconst (v := 1) hx hb dX6_cut_85 (by decide) ?_
    refine lv_iadd hx hb dX6_cut_86 ?_
    refine tr_put (ci := 6) (C := RX6) (T := TX6) (N := 19) (ty := .int) (v := .int (((itI (tr_dn (sv.1 3) (fX6_sectionOf mv sv po)) (bX6_cut_11 mv sv po) sv).1 3) + 1)) hx hb hts hiX6 tyX6 tyX6_ok nmX6 hown hK hS (sOwn_k (by decide) (by decide)) hM.c2 rfl 3 (by decide) f15 rfl (by decide +kernel) rfl rfl (Nat.le_of_ble_eq_true rfl) dX6_cut_87 (fun H locs hat hz hk hS => ?_)
    have hM : STA D cI C mv (lSc (aSet (aSet (itI (tr_dn (sv.1 3) (fX6_sectionOf mv sv po)) (bX6_cut_11 mv sv po) sv) 5 ((fX6_sectionOf mv sv po) + 1) 0) 1 po 1) 3 (((itI (tr_dn (sv.1 3) (fX6_sectionOf mv sv po)) (bX6_cut_11 mv sv po) sv).1 3) + 1)) H := hM.setSc hC 3 hat rfl hk
    clear hat hz hk
    exact W.vret hx hb hr (hS.end (by rw [fX6_cut]; exact hM)) hS.2.2 dX6_cut_90
  · have hlt : i < tr_dn (sv.1 3) (fX6_sectionOf mv sv po) := tr_onD (z := 0) rfl hi c_13
    refine lv_aload_n hx hb dX6_cut_16 rfl (lv_at hl 0 rfl) ?_
    refine tr_get (ci := 6) (C := RX6) (T := TX6) (N := 19) hx hb hts hiX6 hown hK hM.c2 rfl 7 (by decide) f29 (v := .ref (C 6)) rfl dX6_cut_17 ?_
    refine lv_iload_n hx hb dX6_cut_20 rfl (lv_at hl 3 rfl) ?_
    refine lv_aload_n hx hb dX6_cut_21 rfl (lv_at hl 0 rfl) ?_
    refine tr_get (ci := 6) (C := RX6) (T := TX6) (N := 19) hx hb hts hiX6 hown hK hM.c2 rfl 7 (by decide) f29 (v := .ref (C 6)) rfl dX6_cut_22 ?_
    refine lv_iload_n hx hb dX6_cut_25 rfl (lv_at hl 3 rfl) ?_
    refine lv_iconst (v := 1) hx hb dX6_cut_26 (by decide) ?_
    refine lv_isub hx hb dX6_cut_27 ?_
    refine tr_sald (sv := itI i (bX6_cut_11 mv sv po) sv) hx hb hK 3 (hM.arr 3 (by decide)) (cut_ix hlt (sec_rng (mv := mv) hcut hpo.le15).1 hsec).2 dX6_cut_28 ?_
    refine tr_sast hx hb hK hS hC hM (fun _ h => h) 3 (by decide) (cut_ix hlt (sec_rng (mv := mv) hcut hpo.le15).1 hsec).1 dX6_cut_29 (fun H locs hM hk hS => ?_)
    clear hk
    refine lv_aload_n hx hb dX6_cut_30 rfl (lv_at hl 0 rfl) ?_
    refine tr_get (ci := 6) (C := RX6) (T := TX6) (N := 19) hx hb hts hiX6 hown hK hM.c2 rfl 8 (by decide) f32 (v := .ref (C 7)) rfl dX6_cut_31 ?_
    refine lv_iload_n hx hb dX6_cut_34 rfl (lv_at hl 3 rfl) ?_
    refine lv_aload_n hx hb dX6_cut_35 rfl (lv_at hl 0 rfl) ?_
    refine tr_get (ci := 6) (C := RX6) (T := TX6) (N := 19) hx hb hts hiX6 hown hK hM.c2 rfl 8 (by decide) f32 (v := .ref (C 7)) rfl dX6_cut_36 ?_
    refine lv_iload_n hx hb dX6_cut_39 rfl (lv_at hl 3 rfl) ?_
    refine lv_iconst (v := 1) hx hb dX6_cut_40 (by decide) ?_
    refine lv_isub hx hb dX6_cut_41 ?_
    refine tr_sald (sv := itI i (bX6_cut_11 mv sv po) sv) hx hb hK 4 (hM.arr 4 (by decide)) (cut_ix hlt (sec_rng (mv := mv) hcut hpo.le15).1 hsec).2 dX6_cut_42 ?_
    refine tr_sast hx hb hK hS hC hM (fun _ h => h) 4 (by decide) (cut_ix hlt (sec_rng (mv := mv) hcut hpo.le15).1 hsec).1 dX6_cut_43 (fun H locs hM hk hS => ?_)
    clear hk
    refine lv_aload_n hx hb dX6_cut_44 rfl (lv_at hl 0 rfl) ?_
    refine tr_get (ci := 6) (C := RX6) (T := TX6) (N := 19) hx hb hts hiX6 hown hK hM.c2 rfl 9 (by decide) f35 (v := .ref (C 8)) rfl dX6_cut_45 ?_
    refine lv_iload_n hx hb dX6_cut_48 rfl (lv_at hl 3 rfl) ?_
    refine lv_aload_n hx hb dX6_cut_49 rfl (lv_at hl 0 rfl) ?_
    refine tr_get (ci := 6) (C := RX6) (T := TX6) (N := 19) hx hb hts hiX6 hown hK hM.c2 rfl 9 (by decide) f35 (v := .ref (C 8)) rfl dX6_cut_50 ?_
    refine lv_iload_n hx hb dX6_cut_53 rfl (lv_at hl 3 rfl) ?_
    refine lv_iconst (v := 1) hx hb dX6_cut_54 (by decide) ?_
    refine lv_isub hx hb dX6_cut_55 ?_
    refine tr_sald (sv := itI i (bX6_cut_11 mv sv po) sv) hx hb hK 5 (hM.arr 5 (by decide)) (cut_ix hlt (sec_rng (mv := mv) hcut hpo.le15).1 hsec).2 dX6_cut_56 ?_
    refine tr_sast hx hb hK hS hC hM (fun _ h => h) 5 (by decide) (cut_ix hlt (sec_rng (mv := mv) hcut hpo.le15).1 hsec).1 dX6_cut_57 (fun H locs hM hk hS => ?_)
    clear hk
    refine lv_iinc (v := ((sv.1 3) - nI i) + (-1)) (lv' := [(3, .int (((sv.1 3) - nI i) + (-1))), (0, .ref (C 2)), (1, .int po), (2, .int (fX6_sectionOf mv sv po))]) hx hb dX6_cut_58 hl (k := 3) rfl rfl (by decide) rfl (fun ls hl => ?_)
    refine lv_goto (tgt := 11) hx hb dX6_cut_61 (by decide) ?_
    have e9 : itI (i + 1) (bX6_cut_11 mv sv po) sv = aSet (aSet (aSet (itI i (bX6_cut_11 mv sv po) sv) 3 ((sv.1 3) - nI i) (aAt (itI i (bX6_cut_11 mv sv po) sv) 3 (((sv.1 3) - nI i) - 1))) 4 ((sv.1 3) - nI i) (aAt (itI i (bX6_cut_11 mv sv po) sv) 4 (((sv.1 3) - nI i) - 1))) 5 ((sv.1 3) - nI i) (aAt (itI i (bX6_cut_11 mv sv po) sv) 5 (((sv.1 3) - nI i) - 1)) := by rw [itI_s, bX6_cut_11]
    exact ih H locs ls hlt ⟨⟨by rw [e9]; exact hM, hS⟩, by rw [tr_subS]; exact lv_sub hl [1, 2, 3, 0] rfl⟩
def bX6_renew_29 (mv : LV) (sv : LV) (i : Nat) (a : LV) : LV :=
  aSet (aSet (aSet a 0 (nI i) 0) 1 (nI i) 0) 2 (nI i) (-1)
def fX6_renew (mv : LV) (sv : LV) : LV :=
  itI 16 (bX6_renew_29 mv sv) (aSet (aSet (aSet (lSc sv 3 1) 3 0 20) 4 0 0) 5 0 0)
set_option maxHeartbeats 4000000 in
set_option maxRecDepth 100000 in
theorem c_X6_renew (l : Launch) (D : va_G) (cI : ClassId) (C : Nat → Nat) (hC : SInj C) (mv sv : LV)   : Met l yX6_renew wsX6_renew ({ frames := 0, cells := 0, slots := 0, locals := 0 }) (tr_Pc D cI [.ref (C 2)] (STA D cI C mv sv)) (tr_Q none (STA D cI C mv (fX6_renew mv sv)) (sOwn C)) 0 0 (sOwn C) := by
  refine Met.ofW (cc := cX6_renew) (maxL := 2) (ret := none) (by decide) rfl ?_
  intro p e s m args below meth c s₁ B hml hv
  obtain ⟨rfl, hM, hK⟩ := hv
  have hx := B.exec
  have hb := B.bytes
  have hr := B.returns
  have hts := atoms_spec (ws := wsX6_renew) B.pre
  have hown : s.vm.findClass RX6 = some m.cls := findClass_of_methodNamed B.named
  have hlocks := B.notSynchronized
  have hiX6 : ∀ w ∈ u_ws RX6 TX6 19, w ∈ wsX6_renew := by decide +kernel
  have f15 := hts (.fieldLink RX6 15 "TramRibbonModel$State" "sections" "I") (by decide +kernel)
  have f19 := hts (.fieldLink RX6 19 "TramRibbonModel$State" "wait" "[I") (by decide +kernel)
  have f23 := hts (.fieldLink RX6 23 "TramRibbonModel$State" "isCut" "[I") (by decide +kernel)
  have f26 := hts (.fieldLink RX6 26 "TramRibbonModel$State" "spares" "[I") (by decide +kernel)
  have f29 := hts (.fieldLink RX6 29 "TramRibbonModel$State" "bound" "[I") (by decide +kernel)
  have f32 := hts (.fieldLink RX6 32 "TramRibbonModel$State" "dead" "[I") (by decide +kernel)
  have f35 := hts (.fieldLink RX6 35 "TramRibbonModel$State" "times" "[I") (by decide +kernel)
  have hl := lv_entry ([.ref (C 2)]) (n := 2) (Nat.le_of_ble_eq_true rfl)
  rw [lg_entry_eq]
  generalize (lg_sl ([.ref (C 2)]) ++ List.replicate (2 - (lg_sl ([.ref (C 2)])).length) Slot.unset).toArray = ls at hl ⊢
  replace hl : lv_has ls 2 [(0, .ref (C 2))] := hl
  have hS : tr_S (sOwn C) s.heap s.heap [] := tr_S.rf
  generalize h1 : s.heap = H, h2 : ([] : List Loc) = locs
  replace hS : tr_S (sOwn C) s.heap H locs := by rw [← h1, ← h2]; exact hS
  rw [h1] at hM
  clear h1 h2
  refine lv_aload_n hx hb dX6_renew_0 rfl (lv_at hl 0 rfl) ?_
  refine lv_iconst (v := 1) hx hb dX6_renew_1 (by decide) ?_
  refine tr_put (ci := 6) (C := RX6) (T := TX6) (N := 19) (ty := .int) (v := .int 1) hx hb hts hiX6 tyX6 tyX6_ok nmX6 hown hK hS (sOwn_k (by decide) (by decide)) hM.c2 rfl 3 (by decide) f15 rfl (by decide +kernel) rfl rfl (Nat.le_of_ble_eq_true rfl) dX6_renew_2 (fun H locs hat hz hk hS => ?_)
  have hM : STA D cI C mv (lSc sv 3 1) H := hM.setSc hC 3 hat rfl hk
  clear hat hz hk
  refine lv_aload_n hx hb dX6_renew_5 rfl (lv_at hl 0 rfl) ?_
  refine tr_get (ci := 6) (C := RX6) (T := TX6) (N := 19) hx hb hts hiX6 hown hK hM.c2 rfl 7 (by decide) f29 (v := .ref (C 6)) rfl dX6_renew_6 ?_
  refine lv_iconst (v := 0) hx hb dX6_renew_9 (by decide) ?_
  refine lv_bipush (v := 20) hx hb dX6_renew_10 (by decide) ?_
  refine tr_sast hx hb hK hS hC hM (fun _ h => h) 3 (by decide) (tr_vp (i := 0) (by decide) (by decide)) dX6_renew_12 (fun H locs hM hk hS => ?_)
  clear hk
  refine lv_aload_n hx hb dX6_renew_13 rfl (lv_at hl 0 rfl) ?_
  refine tr_get (ci := 6) (C := RX6) (T := TX6) (N := 19) hx hb hts hiX6 hown hK hM.c2 rfl 8 (by decide) f32 (v := .ref (C 7)) rfl dX6_renew_14 ?_
  refine lv_iconst (v := 0) hx hb dX6_renew_17 (by decide) ?_
  refine lv_iconst (v := 0) hx hb dX6_renew_18 (by decide) ?_
  refine tr_sast hx hb hK hS hC hM (fun _ h => h) 4 (by decide) (tr_vp (i := 0) (by decide) (by decide)) dX6_renew_19 (fun H locs hM hk hS => ?_)
  clear hk
  refine lv_aload_n hx hb dX6_renew_20 rfl (lv_at hl 0 rfl) ?_
  refine tr_get (ci := 6) (C := RX6) (T := TX6) (N := 19) hx hb hts hiX6 hown hK hM.c2 rfl 9 (by decide) f35 (v := .ref (C 8)) rfl dX6_renew_21 ?_
  refine lv_iconst (v := 0) hx hb dX6_renew_24 (by decide) ?_
  refine lv_iconst (v := 0) hx hb dX6_renew_25 (by decide) ?_
  refine tr_sast hx hb hK hS hC hM (fun _ h => h) 5 (by decide) (tr_vp (i := 0) (by decide) (by decide)) dX6_renew_26 (fun H locs hM hk hS => ?_)
  clear hk
  refine lv_iconst (v := 0) hx hb dX6_renew_27 (by decide) ?_
  refine lv_istore_n (lv' := [(1, .int 0), (0, .ref (C 2))]) hx hb dX6_renew_28 rfl hl (by decide) rfl (fun ls hl => ?_)
  have hinv := And.intro (show STA D cI C mv (aSet (aSet (aSet (lSc sv 3 1) 3 0 20) 4 0 0) 5 0 0) H ∧ tr_S (sOwn C) s.heap H locs from ⟨hM, hS⟩) hl
  clear hM hS hl
  revert hinv; revert ls; revert locs; revert H
  refine tr_forw (fun i H locs ls => (STA D cI C mv (itI i (bX6_renew_29 mv sv) (aSet (aSet (aSet (lSc sv 3 1) 3 0 20) 4 0 0) 5 0 0)) H ∧ tr_S (sOwn C) s.heap H locs) ∧ lv_has ls 2 [(0, .ref (C 2)), (1, .int (nI i))]) (16) (fun H locs ls hinv => ?_) ?_
  · obtain ⟨⟨hM, hS⟩, hl⟩ := hinv
    exact ⟨⟨by rw [itI_0]; exact hM, hS⟩, lv_sub hl [1, 0] rfl⟩
  intro i H locs ls hi hinv ih
  obtain ⟨⟨hM, hS⟩, hl⟩ := hinv
  refine lv_iload_n hx hb dX6_renew_29 rfl (lv_at hl 1 rfl) ?_
  refine lv_bipush (v := 16) hx hb dX6_renew_30 (by decide) ?_
  refine lv_icmp_ge (tgt := 62) hx hb dX6_renew_32 (by decide) (fun c_32 => ?_) (fun c_32 => ?_)
  · have hN : i = 16 := tr_over rfl hi c_32
    subst hN
    exact W.vret hx hb hr (hS.end (by rw [fX6_renew]; exact hM)) hS.2.2 dX6_renew_62
  · have hlt : i < 16 := tr_on rfl hi c_32
    refine lv_aload_n hx hb dX6_renew_35 rfl (lv_at hl 0 rfl) ?_
    refine tr_get (ci := 6) (C := RX6) (T := TX6) (N := 19) hx hb hts hiX6 hown hK hM.c2 rfl 4 (by decide) f19 (v := .ref (C 3)) rfl dX6_renew_36 ?_
    refine lv_iload_n hx hb dX6_renew_39 rfl (lv_at hl 1 rfl) ?_
    refine lv_iconst (v := 0) hx hb dX6_renew_40 (by decide) ?_
    refine tr_sast hx hb hK hS hC hM (fun _ h => h) 0 (by decide) (tr_vp hlt (by decide)) dX6_renew_41 (fun H locs hM hk hS => ?_)
    clear hk
    refine lv_aload_n hx hb dX6_renew_42 rfl (lv_at hl 0 rfl) ?_
    refine tr_get (ci := 6) (C := RX6) (T := TX6) (N := 19) hx hb hts hiX6 hown hK hM.c2 rfl 5 (by decide) f23 (v := .ref (C 4)) rfl dX6_renew_43 ?_
    refine lv_iload_n hx hb dX6_renew_46 rfl (lv_at hl 1 rfl) ?_
    refine lv_iconst (v := 0) hx hb dX6_renew_47 (by decide) ?_
    refine tr_sast hx hb hK hS hC hM (fun _ h => h) 1 (by decide) (tr_vp hlt (by decide)) dX6_renew_48 (fun H locs hM hk hS => ?_)
    clear hk
    refine lv_aload_n hx hb dX6_renew_49 rfl (lv_at hl 0 rfl) ?_
    refine tr_get (ci := 6) (C := RX6) (T := TX6) (N := 19) hx hb hts hiX6 hown hK hM.c2 rfl 6 (by decide) f26 (v := .ref (C 5)) rfl dX6_renew_50 ?_
    refine lv_iload_n hx hb dX6_renew_53 rfl (lv_at hl 1 rfl) ?_
    refine lv_iconst (v := -1) hx hb dX6_renew_54 (by decide) ?_
    refine tr_sast hx hb hK hS hC hM (fun _ h => h) 2 (by decide) (tr_vp hlt (by decide)) dX6_renew_55 (fun H locs hM hk hS => ?_)
    clear hk
    refine lv_iinc (v := nI (i + 1)) (lv' := [(1, .int (nI (i + 1))), (0, .ref (C 2))]) hx hb dX6_renew_56 hl (k := 1) rfl (tr_inc _) (by decide) rfl (fun ls hl => ?_)
    refine lv_goto (tgt := 29) hx hb dX6_renew_59 (by decide) ?_
    have e9 : itI (i + 1) (bX6_renew_29 mv sv) (aSet (aSet (aSet (lSc sv 3 1) 3 0 20) 4 0 0) 5 0 0) = aSet (aSet (aSet (itI i (bX6_renew_29 mv sv) (aSet (aSet (aSet (lSc sv 3 1) 3 0 20) 4 0 0) 5 0 0)) 0 (nI i) 0) 1 (nI i) 0) 2 (nI i) (-1) := by rw [itI_s, bX6_renew_29]
    exact ih H locs ls hlt ⟨⟨by rw [e9]; exact hM, hS⟩, lv_sub hl [1, 0] rfl⟩
theorem fits_int (x : Int32) : fits .int (.int x) = true := rfl
def cOwn (b1 b2 : Nat) : Nat → Prop := fun q => q = b2 ∨ q = b1
def SDis (C C2 : Nat → Nat) : Prop := SInj C ∧ SInj C2 ∧ C2 0 = C 0 ∧ C2 1 = C 1 ∧ ∀ i, i < 17 → ∀ j, 2 ≤ j → j < 17 → C2 i ≠ C j
theorem cp_step {D : va_G} {cI : ClassId} {C C2 : Nat → Nat} {mv sv ov : LV} {H H1 : Heap} (hd : SDis C C2) (hM : STA D cI C mv sv H) (hO : STA D cI C2 mv ov H) (r : Nat) (hr : r < 14) (hP : va_at D vwCl (C2 (3 + r), .inl (cI, mLen r, .inl (ov.2 r))) H1 ∧ va_at D vwCl (C (3 + r), .inl (cI, mLen r, .inl (ov.2 r))) H1) (hk : ∀ q : Nat, q < H.size → ¬ cOwn (C2 (3 + r)) (C (3 + r)) q → H1[q]? = H[q]?) : STA D cI C mv (lRow sv r (ov.2 r)) H1 ∧ STA D cI C2 mv ov H1 := by
  obtain ⟨hC, hC2, e0, e1, hne⟩ := hd
  have hx : ∀ k, k < 17 → C k ≠ C2 (3 + r) := by
    intro k hk17 e
    by_cases h2 : 2 ≤ k
    · exact hne (3 + r) (by omega) k h2 hk17 e.symm
    · have : k = 0 ∨ k = 1 := by omega
      rcases this with rfl | rfl
      · rw [← e0] at e; have := hC2 _ (by omega) _ (by omega) e; omega
      · rw [← e1] at e; have := hC2 _ (by omega) _ (by omega) e; omega
  constructor
  · intro k hk17
    by_cases e : k = 3 + r
    · subst e
      rw [sE_row]
      show va_at D vwCl (_, .inl (cI, mLen r, .inl (if r = r then ov.2 r else sv.2 r))) H1
      rw [if_pos rfl]
      exact hP.2
    · have e2 : sE cI C mv (lRow sv r (ov.2 r)) k = sE cI C mv sv k := by
        match k, e with
        | 0, _ => rfl
        | 1, _ => rfl
        | 2, _ => rfl
        | k + 3, e =>
          show (Sum.inl (cI, mLen k, .inl (if k = r then ov.2 r else sv.2 k)) : va_E) = _
          rw [if_neg (by omega)]
          rfl
      rw [e2]
      exact (hM k hk17).kept (hk _ (hM k hk17).lt (fun h => h.elim (fun q => e (hC _ hk17 _ (by omega) q)) (fun q => hx k hk17 q)))
  · intro k hk17
    by_cases e : k = 3 + r
    · subst e
      rw [sE_row]
      exact hP.1
    · exact (hO k hk17).kept (hk _ (hO k hk17).lt (fun h => h.elim (fun q => hne k hk17 (3 + r) (by omega) (by omega) q) (fun q => e (hC2 _ hk17 _ (by omega) q))))
theorem st_keep {D : va_G} {cI : ClassId} {C C2 : Nat → Nat} {mv ov : LV} {H H1 : Heap} (hd : SDis C C2) (hO : STA D cI C2 mv ov H) (j : Nat) (h2 : 2 ≤ j) (hj : j < 17) (hk : ∀ q : Nat, q ≠ C j → H1[q]? = H[q]?) : STA D cI C2 mv ov H1 := fun k hk17 => (hO k hk17).kept (hk _ (hd.2.2.2.2 k hk17 j h2 hj))
set_option maxHeartbeats 4000000 in
set_option maxRecDepth 100000 in
theorem c_X6_copy (l : Launch) (D : va_G) (cI : ClassId) (a b1 b2 n : Nat) (hn : n < 2 ^ 31) (hne : b1 ≠ b2) (f g : Nat → Int32) : Met l yX6_copy wsX6_copy ({ frames := 1, cells := 0, slots := 0, locals := 40 }) (tr_Pc D cI [.ref a, .ref b1, .ref b2] (fun H => va_at D vwCl (b1, .inl (cI, n, .inl f)) H ∧ va_at D vwCl (b2, .inl (cI, n, .inl g)) H)) (tr_Q none (fun H => va_at D vwCl (b1, .inl (cI, n, .inl f)) H ∧ va_at D vwCl (b2, .inl (cI, n, .inl f)) H) (cOwn b1 b2)) 0 0 (cOwn b1 b2) := by
  refine Met.ofW (cc := cX6_copy) (maxL := 3) (ret := none) (by decide) rfl ?_
  intro p e s m args below meth c s₁ B hml hv
  obtain ⟨rfl, ⟨hF, hG⟩, hK⟩ := hv
  have hx := B.exec
  have hb := B.bytes
  have hr := B.returns
  have hts := atoms_spec (ws := wsX6_copy) B.pre
  have hown : s.vm.findClass RX6 = some m.cls := findClass_of_methodNamed B.named
  have hlocks := B.notSynchronized
  have hl := lv_entry ([.ref a, .ref b1, .ref b2]) (n := 3) (Nat.le_of_ble_eq_true rfl)
  rw [lg_entry_eq]
  generalize (lg_sl ([.ref a, .ref b1, .ref b2]) ++ List.replicate (3 - (lg_sl ([.ref a, .ref b1, .ref b2])).length) Slot.unset).toArray = ls at hl ⊢
  replace hl : lv_has ls 3 [(0, .ref a), (1, .ref b1), (2, .ref b2)] := hl
  refine lv_aload_n hx hb dX6_copy_0 rfl (lv_at hl 1 rfl) ?_
  refine lv_iconst (v := 0) hx hb dX6_copy_1 (by decide) ?_
  refine lv_aload_n hx hb dX6_copy_2 rfl (lv_at hl 2 rfl) ?_
  refine lv_iconst (v := 0) hx hb dX6_copy_3 (by decide) ?_
  refine lv_aload_n hx hb dX6_copy_4 rfl (lv_at hl 1 rfl) ?_
  refine tr_alen hx hb hK hF dX6_copy_5 ?_
  have hP : va_P D vwCl [(b1, .inl (cI, n, .inl f)), (b2, .inl (cI, n, .inl g))] s.heap := by
    intro k q hk
    match k, hk with
    | 0, hk => cases hk; exact hF
    | 1, hk => cases hk; exact hG
    | k + 2, hk => simp at hk
  have hD : va_D (cOwn b1 b2) [(b1, .inl (cI, n, .inl f)), (b2, .inl (cI, n, .inl g))] := by
    refine ⟨fun i j p q h1 h2 h3 => ?_, fun k q hk => ?_⟩
    · match i, j, h1, h2 with
      | 0, 0, _, _ => rfl
      | 1, 1, _, _ => rfl
      | 0, 1, h1, h2 => cases h1; cases h2; exact absurd h3 hne
      | 1, 0, h1, h2 => cases h1; cases h2; exact absurd h3.symm hne
      | i + 2, _, h1, _ => simp at h1
      | 0, j + 2, _, h2 => simp at h2
      | 1, j + 2, _, h2 => simp at h2
    · match k, hk with
      | 0, hk => cases hk; exact Or.inr rfl
      | 1, hk => cases hk; exact Or.inl rfl
      | k + 2, hk => simp at hk
  have hS : va_S (cOwn b1 b2) s.heap s.heap [] := va_S.rf
  have mI := hts (.initialized "java/lang/System") (by decide +kernel)
  have mS := hts (.static arraycopyName) (by decide +kernel)
  have mN := hts (.native arraycopyName) (by decide +kernel)
  have mL := hts (.methodLink RX6 62 arraycopyName) (by decide +kernel)
  have e0 : (0 : Int32).toNatClampNeg = 0 := rfl
  have e1 : (nI n).toNatClampNeg = n := tr_cl hn
  refine va_copyi (sp := 0) (dp := 0) (n := nI n) (ty := .int) hx hb (by rw [hml]; exact hl.1.symm) hown mL mN mS mI hK.1 hP hD hS 0 1 0 0 rfl rfl rfl rfl rfl (by decide) (by decide) (nI_pos hn) (by rw [e0, e1]; omega) (by rw [e0, e1]; omega) (fun _ _ => rfl) (Nat.le_of_ble_eq_true rfl) (Nat.le_of_ble_eq_true rfl) dX6_copy_6 (fun H locs hP1 hD1 hS1 => ?_)
  rw [e0, e1] at hP1
  have hB : va_at D vwCl (b2, .inl (cI, n, .inl (va_cpy f g 0 0 n))) H := hP1 1 _ rfl
  have hB2 : va_at D vwCl (b2, .inl (cI, n, .inl f)) H := tr_row_eq hB (fun j hj => by
    show (if 0 ≤ j ∧ j < 0 + n then f (0 + (j - 0)) else g j) = f j
    rw [if_pos ⟨by omega, by omega⟩]
    congr 1
    omega)
  have hA1 : va_at D vwCl (b1, .inl (cI, n, .inl f)) H := hP1 0 _ rfl
  have hS2 : tr_S (cOwn b1 b2) s.heap H locs := hS1
  exact W.vret hx hb hr (hS2.end ⟨hA1, hB2⟩) hS2.2.2 dX6_copy_9
def bOwn (C C2 : Nat → Nat) : Nat → Prop := fun q => sOwn C q ∨ sOwn C2 q
theorem bOwn_in {C C2 : Nat → Nat} (r : Nat) (hr : r < 14) : ∀ q, cOwn (C2 (3 + r)) (C (3 + r)) q → bOwn C C2 q := fun _ h => h.elim (fun e => Or.inl ⟨3 + r, by omega, by omega, e⟩) (fun e => Or.inr ⟨3 + r, by omega, by omega, e⟩)
def fX6_become (mv : LV) (sv : LV) (ov : LV) : LV :=
  lRow (lRow (lRow (lRow (lRow (lRow (lRow (lRow (lRow (lRow (lRow (lRow (lRow (lSc (lSc (lSc (lSc sv 0 (ov.1 0)) 1 (ov.1 1)) 2 (ov.1 2)) 3 (ov.1 3)) 0 (ov.2 0)) 1 (ov.2 1)) 2 (ov.2 2)) 3 (ov.2 3)) 4 (ov.2 4)) 5 (ov.2 5)) 6 (ov.2 6)) 7 (ov.2 7)) 8 (ov.2 8)) 9 (ov.2 9)) 10 (ov.2 10)) 11 (ov.2 11)) 12 (ov.2 12)
set_option maxHeartbeats 4000000 in
set_option maxRecDepth 100000 in
theorem c_X6_become (l : Launch) (D : va_G) (cI : ClassId) (C C2 : Nat → Nat) (hd : SDis C C2) (mv sv ov : LV)  : Met l yX6_become wsX6_become ({ frames := 2, cells := 0, slots := 0, locals := 62 }) (tr_Pc D cI [.ref (C 2), .ref (C2 2)] (fun H => STA D cI C mv sv H ∧ STA D cI C2 mv ov H)) (tr_Q none (fun H => STA D cI C mv (fX6_become mv sv ov) H ∧ STA D cI C2 mv ov H) (bOwn C C2)) 0 0 (bOwn C C2) := by
  refine Met.ofW (cc := cX6_become) (maxL := 2) (ret := none) (by decide) rfl ?_
  intro p e s m args below meth c s₁ B hml hv
  obtain ⟨rfl, ⟨hM, hO⟩, hK⟩ := hv
  have hx := B.exec
  have hb := B.bytes
  have hr := B.returns
  have hts := atoms_spec (ws := wsX6_become) B.pre
  have hown : s.vm.findClass RX6 = some m.cls := findClass_of_methodNamed B.named
  have hlocks := B.notSynchronized
  have hiX6 : ∀ w ∈ u_ws RX6 TX6 19, w ∈ wsX6_become := by decide +kernel
  have f15 := hts (.fieldLink RX6 15 "TramRibbonModel$State" "sections" "I") (by decide +kernel)
  have f19 := hts (.fieldLink RX6 19 "TramRibbonModel$State" "wait" "[I") (by decide +kernel)
  have f23 := hts (.fieldLink RX6 23 "TramRibbonModel$State" "isCut" "[I") (by decide +kernel)
  have f26 := hts (.fieldLink RX6 26 "TramRibbonModel$State" "spares" "[I") (by decide +kernel)
  have f29 := hts (.fieldLink RX6 29 "TramRibbonModel$State" "bound" "[I") (by decide +kernel)
  have f32 := hts (.fieldLink RX6 32 "TramRibbonModel$State" "dead" "[I") (by decide +kernel)
  have f35 := hts (.fieldLink RX6 35 "TramRibbonModel$State" "times" "[I") (by decide +kernel)
  have f38 := hts (.fieldLink RX6 38 "TramRibbonModel$State" "at" "[I") (by decide +kernel)
  have f41 := hts (.fieldLink RX6 41 "TramRibbonModel$State" "way" "[I") (by decide +kernel)
  have f44 := hts (.fieldLink RX6 44 "TramRibbonModel$State" "riders" "[I") (by decide +kernel)
  have f47 := hts (.fieldLink RX6 47 "TramRibbonModel$State" "wear" "[I") (by decide +kernel)
  have f50 := hts (.fieldLink RX6 50 "TramRibbonModel$State" "broken" "[I") (by decide +kernel)
  have f53 := hts (.fieldLink RX6 53 "TramRibbonModel$State" "pushes" "[I") (by decide +kernel)
  have f56 := hts (.fieldLink RX6 56 "TramRibbonModel$State" "came" "[I") (by decide +kernel)
  have f68 := hts (.fieldLink RX6 68 "TramRibbonModel$State" "tick" "I") (by decide +kernel)
  have f71 := hts (.fieldLink RX6 71 "TramRibbonModel$State" "gotOn" "I") (by decide +kernel)
  have f74 := hts (.fieldLink RX6 74 "TramRibbonModel$State" "swaps" "I") (by decide +kernel)
  have hl := lv_entry ([.ref (C 2), .ref (C2 2)]) (n := 2) (Nat.le_of_ble_eq_true rfl)
  rw [lg_entry_eq]
  generalize (lg_sl ([.ref (C 2), .ref (C2 2)]) ++ List.replicate (2 - (lg_sl ([.ref (C 2), .ref (C2 2)])).length) Slot.unset).toArray = ls at hl ⊢
  replace hl : lv_has ls 2 [(0, .ref (C 2)), (1, .ref (C2 2))] := hl
  have hS : tr_S (bOwn C C2) s.heap s.heap [] := tr_S.rf
  generalize h1 : s.heap = H, h2 : ([] : List Loc) = locs
  replace hS : tr_S (bOwn C C2) s.heap H locs := by rw [← h1, ← h2]; exact hS
  rw [h1] at hM hO
  clear h1 h2
  refine lv_aload_n hx hb dX6_become_0 rfl (lv_at hl 0 rfl) ?_
  refine lv_aload_n hx hb dX6_become_1 rfl (lv_at hl 1 rfl) ?_
  refine tr_get (ci := 6) (C := RX6) (T := TX6) (N := 19) hx hb hts hiX6 hown hK hO.c2 rfl 0 (by decide) f68 (v := .int (ov.1 0)) rfl dX6_become_2 ?_
  refine tr_put (ci := 6) (C := RX6) (T := TX6) (N := 19) (ty := .int) (v := .int (ov.1 0)) hx hb hts hiX6 tyX6 tyX6_ok nmX6 hown hK hS (Or.inl (sOwn_k (by decide) (by decide))) hM.c2 rfl 0 (by decide) f68 rfl (by decide +kernel) rfl rfl (Nat.le_of_ble_eq_true rfl) dX6_become_5 (fun H locs hat hz hk hS => ?_)
  have hM : STA D cI C mv (lSc sv 0 (ov.1 0)) H := hM.setSc hd.1 0 hat rfl hk
  replace hO := st_keep hd hO 2 (by decide) (by decide) hk
  clear hat hz hk
  refine lv_aload_n hx hb dX6_become_8 rfl (lv_at hl 0 rfl) ?_
  refine lv_aload_n hx hb dX6_become_9 rfl (lv_at hl 1 rfl) ?_
  refine tr_get (ci := 6) (C := RX6) (T := TX6) (N := 19) hx hb hts hiX6 hown hK hO.c2 rfl 1 (by decide) f71 (v := .int (ov.1 1)) rfl dX6_become_10 ?_
  refine tr_put (ci := 6) (C := RX6) (T := TX6) (N := 19) (ty := .int) (v := .int (ov.1 1)) hx hb hts hiX6 tyX6 tyX6_ok nmX6 hown hK hS (Or.inl (sOwn_k (by decide) (by decide))) hM.c2 rfl 1 (by decide) f71 rfl (by decide +kernel) rfl rfl (Nat.le_of_ble_eq_true rfl) dX6_become_13 (fun H locs hat hz hk hS => ?_)
  have hM : STA D cI C mv (lSc (lSc sv 0 (ov.1 0)) 1 (ov.1 1)) H := hM.setSc hd.1 1 hat rfl hk
  replace hO := st_keep hd hO 2 (by decide) (by decide) hk
  clear hat hz hk
  refine lv_aload_n hx hb dX6_become_16 rfl (lv_at hl 0 rfl) ?_
  refine lv_aload_n hx hb dX6_become_17 rfl (lv_at hl 1 rfl) ?_
  refine tr_get (ci := 6) (C := RX6) (T := TX6) (N := 19) hx hb hts hiX6 hown hK hO.c2 rfl 2 (by decide) f74 (v := .int (ov.1 2)) rfl dX6_become_18 ?_
  refine tr_put (ci := 6) (C := RX6) (T := TX6) (N := 19) (ty := .int) (v := .int (ov.1 2)) hx hb hts hiX6 tyX6 tyX6_ok nmX6 hown hK hS (Or.inl (sOwn_k (by decide) (by decide))) hM.c2 rfl 2 (by decide) f74 rfl (by decide +kernel) rfl rfl (Nat.le_of_ble_eq_true rfl) dX6_become_21 (fun H locs hat hz hk hS => ?_)
  have hM : STA D cI C mv (lSc (lSc (lSc sv 0 (ov.1 0)) 1 (ov.1 1)) 2 (ov.1 2)) H := hM.setSc hd.1 2 hat rfl hk
  replace hO := st_keep hd hO 2 (by decide) (by decide) hk
  clear hat hz hk
  refine lv_aload_n hx hb dX6_become_24 rfl (lv_at hl 0 rfl) ?_
  refine lv_aload_n hx hb dX6_become_25 rfl (lv_at hl 1 rfl) ?_
  refine tr_get (ci := 6) (C := RX6) (T := TX6) (N := 19) hx hb hts hiX6 hown hK hO.c2 rfl 3 (by decide) f15 (v := .int (ov.1 3)) rfl dX6_become_26 ?_
  refine tr_put (ci := 6) (C := RX6) (T := TX6) (N := 19) (ty := .int) (v := .int (ov.1 3)) hx hb hts hiX6 tyX6 tyX6_ok nmX6 hown hK hS (Or.inl (sOwn_k (by decide) (by decide))) hM.c2 rfl 3 (by decide) f15 rfl (by decide +kernel) rfl rfl (Nat.le_of_ble_eq_true rfl) dX6_become_29 (fun H locs hat hz hk hS => ?_)
  have hM : STA D cI C mv (lSc (lSc (lSc (lSc sv 0 (ov.1 0)) 1 (ov.1 1)) 2 (ov.1 2)) 3 (ov.1 3)) H := hM.setSc hd.1 3 hat rfl hk
  replace hO := st_keep hd hO 2 (by decide) (by decide) hk
  clear hat hz hk
  refine lv_aload_n hx hb dX6_become_32 rfl (lv_at hl 0 rfl) ?_
  refine lv_aload_n hx hb dX6_become_33 rfl (lv_at hl 1 rfl) ?_
  refine tr_get (ci := 6) (C := RX6) (T := TX6) (N := 19) hx hb hts hiX6 hown hK hO.c2 rfl 4 (by decide) f19 (v := .ref (C2 3)) rfl dX6_become_34 ?_
  refine lv_aload_n hx hb dX6_become_37 rfl (lv_at hl 0 rfl) ?_
  refine tr_get (ci := 6) (C := RX6) (T := TX6) (N := 19) hx hb hts hiX6 hown hK hM.c2 rfl 4 (by decide) f19 (v := .ref (C 3)) rfl dX6_become_38 ?_
  refine tr_wv (va_runV (As := [.ref (C2 3), .ref (C 3)]) (rest := []) ⟨hx, hb, hml, hown, hts⟩ (c_X6_copy l D cI (C 2) (C2 (3 + 0)) (C (3 + 0)) (mLen 0) (mLen_lt 0) (hd.2.2.2.2 (3 + 0) (by decide) (3 + 0) (by decide) (by decide)) (ov.2 0) ((lSc (lSc (lSc (lSc sv 0 (ov.1 0)) 1 (ov.1 1)) 2 (ov.1 2)) 3 (ov.1 3)).2 0)) (cwV 2 hts gX6_become_X6_copy rfl rfl rfl (by decide +kernel) ⟨Nat.le_of_ble_eq_true rfl, Nat.le_of_ble_eq_true rfl⟩) (tr_preV hK hM.c2 rfl ⟨hO.arr 0 (by decide), hM.arr 0 (by decide)⟩) rfl rfl hl.1 rfl (lv_room (Nat.le_of_ble_eq_true rfl)) dX6_become_41 ⟨Nat.zero_le _, Nat.zero_le _⟩) hS (bOwn_in 0 (by decide)) (fun H locs hP9 hz hk hS => ?_)
  obtain ⟨hM, hO⟩ := cp_step hd hM hO 0 (by decide) hP9 hk
  clear hP9 hk hz
  refine lv_aload_n hx hb dX6_become_44 rfl (lv_at hl 0 rfl) ?_
  refine lv_aload_n hx hb dX6_become_45 rfl (lv_at hl 1 rfl) ?_
  refine tr_get (ci := 6) (C := RX6) (T := TX6) (N := 19) hx hb hts hiX6 hown hK hO.c2 rfl 5 (by decide) f23 (v := .ref (C2 4)) rfl dX6_become_46 ?_
  refine lv_aload_n hx hb dX6_become_49 rfl (lv_at hl 0 rfl) ?_
  refine tr_get (ci := 6) (C := RX6) (T := TX6) (N := 19) hx hb hts hiX6 hown hK hM.c2 rfl 5 (by decide) f23 (v := .ref (C 4)) rfl dX6_become_50 ?_
  refine tr_wv (va_runV (As := [.ref (C2 4), .ref (C 4)]) (rest := []) ⟨hx, hb, hml, hown, hts⟩ (c_X6_copy l D cI (C 2) (C2 (3 + 1)) (C (3 + 1)) (mLen 1) (mLen_lt 1) (hd.2.2.2.2 (3 + 1) (by decide) (3 + 1) (by decide) (by decide)) (ov.2 1) ((lRow (lSc (lSc (lSc (lSc sv 0 (ov.1 0)) 1 (ov.1 1)) 2 (ov.1 2)) 3 (ov.1 3)) 0 (ov.2 0)).2 1)) (cwV 2 hts gX6_become_X6_copy rfl rfl rfl (by decide +kernel) ⟨Nat.le_of_ble_eq_true rfl, Nat.le_of_ble_eq_true rfl⟩) (tr_preV hK hM.c2 rfl ⟨hO.arr 1 (by decide), hM.arr 1 (by decide)⟩) rfl rfl hl.1 rfl (lv_room (Nat.le_of_ble_eq_true rfl)) dX6_become_53 ⟨Nat.zero_le _, Nat.zero_le _⟩) hS (bOwn_in 1 (by decide)) (fun H locs hP9 hz hk hS => ?_)
  obtain ⟨hM, hO⟩ := cp_step hd hM hO 1 (by decide) hP9 hk
  clear hP9 hk hz
  refine lv_aload_n hx hb dX6_become_56 rfl (lv_at hl 0 rfl) ?_
  refine lv_aload_n hx hb dX6_become_57 rfl (lv_at hl 1 rfl) ?_
  refine tr_get (ci := 6) (C := RX6) (T := TX6) (N := 19) hx hb hts hiX6 hown hK hO.c2 rfl 6 (by decide) f26 (v := .ref (C2 5)) rfl dX6_become_58 ?_
  refine lv_aload_n hx hb dX6_become_61 rfl (lv_at hl 0 rfl) ?_
  refine tr_get (ci := 6) (C := RX6) (T := TX6) (N := 19) hx hb hts hiX6 hown hK hM.c2 rfl 6 (by decide) f26 (v := .ref (C 5)) rfl dX6_become_62 ?_
  refine tr_wv (va_runV (As := [.ref (C2 5), .ref (C 5)]) (rest := []) ⟨hx, hb, hml, hown, hts⟩ (c_X6_copy l D cI (C 2) (C2 (3 + 2)) (C (3 + 2)) (mLen 2) (mLen_lt 2) (hd.2.2.2.2 (3 + 2) (by decide) (3 + 2) (by decide) (by decide)) (ov.2 2) ((lRow (lRow (lSc (lSc (lSc (lSc sv 0 (ov.1 0)) 1 (ov.1 1)) 2 (ov.1 2)) 3 (ov.1 3)) 0 (ov.2 0)) 1 (ov.2 1)).2 2)) (cwV 2 hts gX6_become_X6_copy rfl rfl rfl (by decide +kernel) ⟨Nat.le_of_ble_eq_true rfl, Nat.le_of_ble_eq_true rfl⟩) (tr_preV hK hM.c2 rfl ⟨hO.arr 2 (by decide), hM.arr 2 (by decide)⟩) rfl rfl hl.1 rfl (lv_room (Nat.le_of_ble_eq_true rfl)) dX6_become_65 ⟨Nat.zero_le _, Nat.zero_le _⟩) hS (bOwn_in 2 (by decide)) (fun H locs hP9 hz hk hS => ?_)
  obtain ⟨hM, hO⟩ := cp_step hd hM hO 2 (by decide) hP9 hk
  clear hP9 hk hz
  refine lv_aload_n hx hb dX6_become_68 rfl (lv_at hl 0 rfl) ?_
  refine lv_aload_n hx hb dX6_become_69 rfl (lv_at hl 1 rfl) ?_
  refine tr_get (ci := 6) (C := RX6) (T := TX6) (N := 19) hx hb hts hiX6 hown hK hO.c2 rfl 7 (by decide) f29 (v := .ref (C2 6)) rfl dX6_become_70 ?_
  refine lv_aload_n hx hb dX6_become_73 rfl (lv_at hl 0 rfl) ?_
  refine tr_get (ci := 6) (C := RX6) (T := TX6) (N := 19) hx hb hts hiX6 hown hK hM.c2 rfl 7 (by decide) f29 (v := .ref (C 6)) rfl dX6_become_74 ?_
  refine tr_wv (va_runV (As := [.ref (C2 6), .ref (C 6)]) (rest := []) ⟨hx, hb, hml, hown, hts⟩ (c_X6_copy l D cI (C 2) (C2 (3 + 3)) (C (3 + 3)) (mLen 3) (mLen_lt 3) (hd.2.2.2.2 (3 + 3) (by decide) (3 + 3) (by decide) (by decide)) (ov.2 3) ((lRow (lRow (lRow (lSc (lSc (lSc (lSc sv 0 (ov.1 0)) 1 (ov.1 1)) 2 (ov.1 2)) 3 (ov.1 3)) 0 (ov.2 0)) 1 (ov.2 1)) 2 (ov.2 2)).2 3)) (cwV 2 hts gX6_become_X6_copy rfl rfl rfl (by decide +kernel) ⟨Nat.le_of_ble_eq_true rfl, Nat.le_of_ble_eq_true rfl⟩) (tr_preV hK hM.c2 rfl ⟨hO.arr 3 (by decide), hM.arr 3 (by decide)⟩) rfl rfl hl.1 rfl (lv_room (Nat.le_of_ble_eq_true rfl)) dX6_become_77 ⟨Nat.zero_le _, Nat.zero_le _⟩) hS (bOwn_in 3 (by decide)) (fun H locs hP9 hz hk hS => ?_)
  obtain ⟨hM, hO⟩ := cp_step hd hM hO 3 (by decide) hP9 hk
  clear hP9 hk hz
  refine lv_aload_n hx hb dX6_become_80 rfl (lv_at hl 0 rfl) ?_
  refine lv_aload_n hx hb dX6_become_81 rfl (lv_at hl 1 rfl) ?_
  refine tr_get (ci := 6) (C := RX6) (T := TX6) (N := 19) hx hb hts hiX6 hown hK hO.c2 rfl 8 (by decide) f32 (v := .ref (C2 7)) rfl dX6_become_82 ?_
  refine lv_aload_n hx hb dX6_become_85 rfl (lv_at hl 0 rfl) ?_
  refine tr_get (ci := 6) (C := RX6) (T := TX6) (N := 19) hx hb hts hiX6 hown hK hM.c2 rfl 8 (by decide) f32 (v := .ref (C 7)) rfl dX6_become_86 ?_
  refine tr_wv (va_runV (As := [.ref (C2 7), .ref (C 7)]) (rest := []) ⟨hx, hb, hml, hown, hts⟩ (c_X6_copy l D cI (C 2) (C2 (3 + 4)) (C (3 + 4)) (mLen 4) (mLen_lt 4) (hd.2.2.2.2 (3 + 4) (by decide) (3 + 4) (by decide) (by decide)) (ov.2 4) ((lRow (lRow (lRow (lRow (lSc (lSc (lSc (lSc sv 0 (ov.1 0)) 1 (ov.1 1)) 2 (ov.1 2)) 3 (ov.1 3)) 0 (ov.2 0)) 1 (ov.2 1)) 2 (ov.2 2)) 3 (ov.2 3)).2 4)) (cwV 2 hts gX6_become_X6_copy rfl rfl rfl (by decide +kernel) ⟨Nat.le_of_ble_eq_true rfl, Nat.le_of_ble_eq_true rfl⟩) (tr_preV hK hM.c2 rfl ⟨hO.arr 4 (by decide), hM.arr 4 (by decide)⟩) rfl rfl hl.1 rfl (lv_room (Nat.le_of_ble_eq_true rfl)) dX6_become_89 ⟨Nat.zero_le _, Nat.zero_le _⟩) hS (bOwn_in 4 (by decide)) (fun H locs hP9 hz hk hS => ?_)
  obtain ⟨hM, hO⟩ := cp_step hd hM hO 4 (by decide) hP9 hk
  clear hP9 hk hz
  refine lv_aload_n hx hb dX6_become_92 rfl (lv_at hl 0 rfl) ?_
  refine lv_aload_n hx hb dX6_become_93 rfl (lv_at hl 1 rfl) ?_
  refine tr_get (ci := 6) (C := RX6) (T := TX6) (N := 19) hx hb hts hiX6 hown hK hO.c2 rfl 9 (by decide) f35 (v := .ref (C2 8)) rfl dX6_become_94 ?_
  refine lv_aload_n hx hb dX6_become_97 rfl (lv_at hl 0 rfl) ?_
  refine tr_get (ci := 6) (C := RX6) (T := TX6) (N := 19) hx hb hts hiX6 hown hK hM.c2 rfl 9 (by decide) f35 (v := .ref (C 8)) rfl dX6_become_98 ?_
  refine tr_wv (va_runV (As := [.ref (C2 8), .ref (C 8)]) (rest := []) ⟨hx, hb, hml, hown, hts⟩ (c_X6_copy l D cI (C 2) (C2 (3 + 5)) (C (3 + 5)) (mLen 5) (mLen_lt 5) (hd.2.2.2.2 (3 + 5) (by decide) (3 + 5) (by decide) (by decide)) (ov.2 5) ((lRow (lRow (lRow (lRow (lRow (lSc (lSc (lSc (lSc sv 0 (ov.1 0)) 1 (ov.1 1)) 2 (ov.1 2)) 3 (ov.1 3)) 0 (ov.2 0)) 1 (ov.2 1)) 2 (ov.2 2)) 3 (ov.2 3)) 4 (ov.2 4)).2 5)) (cwV 2 hts gX6_become_X6_copy rfl rfl rfl (by decide +kernel) ⟨Nat.le_of_ble_eq_true rfl, Nat.le_of_ble_eq_true rfl⟩) (tr_preV hK hM.c2 rfl ⟨hO.arr 5 (by decide), hM.arr 5 (by decide)⟩) rfl rfl hl.1 rfl (lv_room (Nat.le_of_ble_eq_true rfl)) dX6_become_101 ⟨Nat.zero_le _, Nat.zero_le _⟩) hS (bOwn_in 5 (by decide)) (fun H locs hP9 hz hk hS => ?_)
  obtain ⟨hM, hO⟩ := cp_step hd hM hO 5 (by decide) hP9 hk
  clear hP9 hk hz
  refine lv_aload_n hx hb dX6_become_104 rfl (lv_at hl 0 rfl) ?_
  refine lv_aload_n hx hb dX6_become_105 rfl (lv_at hl 1 rfl) ?_
  refine tr_get (ci := 6) (C := RX6) (T := TX6) (N := 19) hx hb hts hiX6 hown hK hO.c2 rfl 10 (by decide) f38 (v := .ref (C2 9)) rfl dX6_become_106 ?_
  refine lv_aload_n hx hb dX6_become_109 rfl (lv_at hl 0 rfl) ?_
  refine tr_get (ci := 6) (C := RX6) (T := TX6) (N := 19) hx hb hts hiX6 hown hK hM.c2 rfl 10 (by decide) f38 (v := .ref (C 9)) rfl dX6_become_110 ?_
  refine tr_wv (va_runV (As := [.ref (C2 9), .ref (C 9)]) (rest := []) ⟨hx, hb, hml, hown, hts⟩ (c_X6_copy l D cI (C 2) (C2 (3 + 6)) (C (3 + 6)) (mLen 6) (mLen_lt 6) (hd.2.2.2.2 (3 + 6) (by decide) (3 + 6) (by decide) (by decide)) (ov.2 6) ((lRow (lRow (lRow (lRow (lRow (lRow (lSc (lSc (lSc (lSc sv 0 (ov.1 0)) 1 (ov.1 1)) 2 (ov.1 2)) 3 (ov.1 3)) 0 (ov.2 0)) 1 (ov.2 1)) 2 (ov.2 2)) 3 (ov.2 3)) 4 (ov.2 4)) 5 (ov.2 5)).2 6)) (cwV 2 hts gX6_become_X6_copy rfl rfl rfl (by decide +kernel) ⟨Nat.le_of_ble_eq_true rfl, Nat.le_of_ble_eq_true rfl⟩) (tr_preV hK hM.c2 rfl ⟨hO.arr 6 (by decide), hM.arr 6 (by decide)⟩) rfl rfl hl.1 rfl (lv_room (Nat.le_of_ble_eq_true rfl)) dX6_become_113 ⟨Nat.zero_le _, Nat.zero_le _⟩) hS (bOwn_in 6 (by decide)) (fun H locs hP9 hz hk hS => ?_)
  obtain ⟨hM, hO⟩ := cp_step hd hM hO 6 (by decide) hP9 hk
  clear hP9 hk hz
  refine lv_aload_n hx hb dX6_become_116 rfl (lv_at hl 0 rfl) ?_
  refine lv_aload_n hx hb dX6_become_117 rfl (lv_at hl 1 rfl) ?_
  refine tr_get (ci := 6) (C := RX6) (T := TX6) (N := 19) hx hb hts hiX6 hown hK hO.c2 rfl 11 (by decide) f41 (v := .ref (C2 10)) rfl dX6_become_118 ?_
  refine lv_aload_n hx hb dX6_become_121 rfl (lv_at hl 0 rfl) ?_
  refine tr_get (ci := 6) (C := RX6) (T := TX6) (N := 19) hx hb hts hiX6 hown hK hM.c2 rfl 11 (by decide) f41 (v := .ref (C 10)) rfl dX6_become_122 ?_
  refine tr_wv (va_runV (As := [.ref (C2 10), .ref (C 10)]) (rest := []) ⟨hx, hb, hml, hown, hts⟩ (c_X6_copy l D cI (C 2) (C2 (3 + 7)) (C (3 + 7)) (mLen 7) (mLen_lt 7) (hd.2.2.2.2 (3 + 7) (by decide) (3 + 7) (by decide) (by decide)) (ov.2 7) ((lRow (lRow (lRow (lRow (lRow (lRow (lRow (lSc (lSc (lSc (lSc sv 0 (ov.1 0)) 1 (ov.1 1)) 2 (ov.1 2)) 3 (ov.1 3)) 0 (ov.2 0)) 1 (ov.2 1)) 2 (ov.2 2)) 3 (ov.2 3)) 4 (ov.2 4)) 5 (ov.2 5)) 6 (ov.2 6)).2 7)) (cwV 2 hts gX6_become_X6_copy rfl rfl rfl (by decide +kernel) ⟨Nat.le_of_ble_eq_true rfl, Nat.le_of_ble_eq_true rfl⟩) (tr_preV hK hM.c2 rfl ⟨hO.arr 7 (by decide), hM.arr 7 (by decide)⟩) rfl rfl hl.1 rfl (lv_room (Nat.le_of_ble_eq_true rfl)) dX6_become_125 ⟨Nat.zero_le _, Nat.zero_le _⟩) hS (bOwn_in 7 (by decide)) (fun H locs hP9 hz hk hS => ?_)
  obtain ⟨hM, hO⟩ := cp_step hd hM hO 7 (by decide) hP9 hk
  clear hP9 hk hz
  refine lv_aload_n hx hb dX6_become_128 rfl (lv_at hl 0 rfl) ?_
  refine lv_aload_n hx hb dX6_become_129 rfl (lv_at hl 1 rfl) ?_
  refine tr_get (ci := 6) (C := RX6) (T := TX6) (N := 19) hx hb hts hiX6 hown hK hO.c2 rfl 12 (by decide) f44 (v := .ref (C2 11)) rfl dX6_become_130 ?_
  refine lv_aload_n hx hb dX6_become_133 rfl (lv_at hl 0 rfl) ?_
  refine tr_get (ci := 6) (C := RX6) (T := TX6) (N := 19) hx hb hts hiX6 hown hK hM.c2 rfl 12 (by decide) f44 (v := .ref (C 11)) rfl dX6_become_134 ?_
  refine tr_wv (va_runV (As := [.ref (C2 11), .ref (C 11)]) (rest := []) ⟨hx, hb, hml, hown, hts⟩ (c_X6_copy l D cI (C 2) (C2 (3 + 8)) (C (3 + 8)) (mLen 8) (mLen_lt 8) (hd.2.2.2.2 (3 + 8) (by decide) (3 + 8) (by decide) (by decide)) (ov.2 8) ((lRow (lRow (lRow (lRow (lRow (lRow (lRow (lRow (lSc (lSc (lSc (lSc sv 0 (ov.1 0)) 1 (ov.1 1)) 2 (ov.1 2)) 3 (ov.1 3)) 0 (ov.2 0)) 1 (ov.2 1)) 2 (ov.2 2)) 3 (ov.2 3)) 4 (ov.2 4)) 5 (ov.2 5)) 6 (ov.2 6)) 7 (ov.2 7)).2 8)) (cwV 2 hts gX6_become_X6_copy rfl rfl rfl (by decide +kernel) ⟨Nat.le_of_ble_eq_true rfl, Nat.le_of_ble_eq_true rfl⟩) (tr_preV hK hM.c2 rfl ⟨hO.arr 8 (by decide), hM.arr 8 (by decide)⟩) rfl rfl hl.1 rfl (lv_room (Nat.le_of_ble_eq_true rfl)) dX6_become_137 ⟨Nat.zero_le _, Nat.zero_le _⟩) hS (bOwn_in 8 (by decide)) (fun H locs hP9 hz hk hS => ?_)
  obtain ⟨hM, hO⟩ := cp_step hd hM hO 8 (by decide) hP9 hk
  clear hP9 hk hz
  refine lv_aload_n hx hb dX6_become_140 rfl (lv_at hl 0 rfl) ?_
  refine lv_aload_n hx hb dX6_become_141 rfl (lv_at hl 1 rfl) ?_
  refine tr_get (ci := 6) (C := RX6) (T := TX6) (N := 19) hx hb hts hiX6 hown hK hO.c2 rfl 13 (by decide) f47 (v := .ref (C2 12)) rfl dX6_become_142 ?_
  refine lv_aload_n hx hb dX6_become_145 rfl (lv_at hl 0 rfl) ?_
  refine tr_get (ci := 6) (C := RX6) (T := TX6) (N := 19) hx hb hts hiX6 hown hK hM.c2 rfl 13 (by decide) f47 (v := .ref (C 12)) rfl dX6_become_146 ?_
  refine tr_wv (va_runV (As := [.ref (C2 12), .ref (C 12)]) (rest := []) ⟨hx, hb, hml, hown, hts⟩ (c_X6_copy l D cI (C 2) (C2 (3 + 9)) (C (3 + 9)) (mLen 9) (mLen_lt 9) (hd.2.2.2.2 (3 + 9) (by decide) (3 + 9) (by decide) (by decide)) (ov.2 9) ((lRow (lRow (lRow (lRow (lRow (lRow (lRow (lRow (lRow (lSc (lSc (lSc (lSc sv 0 (ov.1 0)) 1 (ov.1 1)) 2 (ov.1 2)) 3 (ov.1 3)) 0 (ov.2 0)) 1 (ov.2 1)) 2 (ov.2 2)) 3 (ov.2 3)) 4 (ov.2 4)) 5 (ov.2 5)) 6 (ov.2 6)) 7 (ov.2 7)) 8 (ov.2 8)).2 9)) (cwV 2 hts gX6_become_X6_copy rfl rfl rfl (by decide +kernel) ⟨Nat.le_of_ble_eq_true rfl, Nat.le_of_ble_eq_true rfl⟩) (tr_preV hK hM.c2 rfl ⟨hO.arr 9 (by decide), hM.arr 9 (by decide)⟩) rfl rfl hl.1 rfl (lv_room (Nat.le_of_ble_eq_true rfl)) dX6_become_149 ⟨Nat.zero_le _, Nat.zero_le _⟩) hS (bOwn_in 9 (by decide)) (fun H locs hP9 hz hk hS => ?_)
  obtain ⟨hM, hO⟩ := cp_step hd hM hO 9 (by decide) hP9 hk
  clear hP9 hk hz
  refine lv_aload_n hx hb dX6_become_152 rfl (lv_at hl 0 rfl) ?_
  refine lv_aload_n hx hb dX6_become_153 rfl (lv_at hl 1 rfl) ?_
  refine tr_get (ci := 6) (C := RX6) (T := TX6) (N := 19) hx hb hts hiX6 hown hK hO.c2 rfl 14 (by decide) f50 (v := .ref (C2 13)) rfl dX6_become_154 ?_
  refine lv_aload_n hx hb dX6_become_157 rfl (lv_at hl 0 rfl) ?_
  refine tr_get (ci := 6) (C := RX6) (T := TX6) (N := 19) hx hb hts hiX6 hown hK hM.c2 rfl 14 (by decide) f50 (v := .ref (C 13)) rfl dX6_become_158 ?_
  refine tr_wv (va_runV (As := [.ref (C2 13), .ref (C 13)]) (rest := []) ⟨hx, hb, hml, hown, hts⟩ (c_X6_copy l D cI (C 2) (C2 (3 + 10)) (C (3 + 10)) (mLen 10) (mLen_lt 10) (hd.2.2.2.2 (3 + 10) (by decide) (3 + 10) (by decide) (by decide)) (ov.2 10) ((lRow (lRow (lRow (lRow (lRow (lRow (lRow (lRow (lRow (lRow (lSc (lSc (lSc (lSc sv 0 (ov.1 0)) 1 (ov.1 1)) 2 (ov.1 2)) 3 (ov.1 3)) 0 (ov.2 0)) 1 (ov.2 1)) 2 (ov.2 2)) 3 (ov.2 3)) 4 (ov.2 4)) 5 (ov.2 5)) 6 (ov.2 6)) 7 (ov.2 7)) 8 (ov.2 8)) 9 (ov.2 9)).2 10)) (cwV 2 hts gX6_become_X6_copy rfl rfl rfl (by decide +kernel) ⟨Nat.le_of_ble_eq_true rfl, Nat.le_of_ble_eq_true rfl⟩) (tr_preV hK hM.c2 rfl ⟨hO.arr 10 (by decide), hM.arr 10 (by decide)⟩) rfl rfl hl.1 rfl (lv_room (Nat.le_of_ble_eq_true rfl)) dX6_become_161 ⟨Nat.zero_le _, Nat.zero_le _⟩) hS (bOwn_in 10 (by decide)) (fun H locs hP9 hz hk hS => ?_)
  obtain ⟨hM, hO⟩ := cp_step hd hM hO 10 (by decide) hP9 hk
  clear hP9 hk hz
  refine lv_aload_n hx hb dX6_become_164 rfl (lv_at hl 0 rfl) ?_
  refine lv_aload_n hx hb dX6_become_165 rfl (lv_at hl 1 rfl) ?_
  refine tr_get (ci := 6) (C := RX6) (T := TX6) (N := 19) hx hb hts hiX6 hown hK hO.c2 rfl 15 (by decide) f53 (v := .ref (C2 14)) rfl dX6_become_166 ?_
  refine lv_aload_n hx hb dX6_become_169 rfl (lv_at hl 0 rfl) ?_
  refine tr_get (ci := 6) (C := RX6) (T := TX6) (N := 19) hx hb hts hiX6 hown hK hM.c2 rfl 15 (by decide) f53 (v := .ref (C 14)) rfl dX6_become_170 ?_
  refine tr_wv (va_runV (As := [.ref (C2 14), .ref (C 14)]) (rest := []) ⟨hx, hb, hml, hown, hts⟩ (c_X6_copy l D cI (C 2) (C2 (3 + 11)) (C (3 + 11)) (mLen 11) (mLen_lt 11) (hd.2.2.2.2 (3 + 11) (by decide) (3 + 11) (by decide) (by decide)) (ov.2 11) ((lRow (lRow (lRow (lRow (lRow (lRow (lRow (lRow (lRow (lRow (lRow (lSc (lSc (lSc (lSc sv 0 (ov.1 0)) 1 (ov.1 1)) 2 (ov.1 2)) 3 (ov.1 3)) 0 (ov.2 0)) 1 (ov.2 1)) 2 (ov.2 2)) 3 (ov.2 3)) 4 (ov.2 4)) 5 (ov.2 5)) 6 (ov.2 6)) 7 (ov.2 7)) 8 (ov.2 8)) 9 (ov.2 9)) 10 (ov.2 10)).2 11)) (cwV 2 hts gX6_become_X6_copy rfl rfl rfl (by decide +kernel) ⟨Nat.le_of_ble_eq_true rfl, Nat.le_of_ble_eq_true rfl⟩) (tr_preV hK hM.c2 rfl ⟨hO.arr 11 (by decide), hM.arr 11 (by decide)⟩) rfl rfl hl.1 rfl (lv_room (Nat.le_of_ble_eq_true rfl)) dX6_become_173 ⟨Nat.zero_le _, Nat.zero_le _⟩) hS (bOwn_in 11 (by decide)) (fun H locs hP9 hz hk hS => ?_)
  obtain ⟨hM, hO⟩ := cp_step hd hM hO 11 (by decide) hP9 hk
  clear hP9 hk hz
  refine lv_aload_n hx hb dX6_become_176 rfl (lv_at hl 0 rfl) ?_
  refine lv_aload_n hx hb dX6_become_177 rfl (lv_at hl 1 rfl) ?_
  refine tr_get (ci := 6) (C := RX6) (T := TX6) (N := 19) hx hb hts hiX6 hown hK hO.c2 rfl 16 (by decide) f56 (v := .ref (C2 15)) rfl dX6_become_178 ?_
  refine lv_aload_n hx hb dX6_become_181 rfl (lv_at hl 0 rfl) ?_
  refine tr_get (ci := 6) (C := RX6) (T := TX6) (N := 19) hx hb hts hiX6 hown hK hM.c2 rfl 16 (by decide) f56 (v := .ref (C 15)) rfl dX6_become_182 ?_
  refine tr_wv (va_runV (As := [.ref (C2 15), .ref (C 15)]) (rest := []) ⟨hx, hb, hml, hown, hts⟩ (c_X6_copy l D cI (C 2) (C2 (3 + 12)) (C (3 + 12)) (mLen 12) (mLen_lt 12) (hd.2.2.2.2 (3 + 12) (by decide) (3 + 12) (by decide) (by decide)) (ov.2 12) ((lRow (lRow (lRow (lRow (lRow (lRow (lRow (lRow (lRow (lRow (lRow (lRow (lSc (lSc (lSc (lSc sv 0 (ov.1 0)) 1 (ov.1 1)) 2 (ov.1 2)) 3 (ov.1 3)) 0 (ov.2 0)) 1 (ov.2 1)) 2 (ov.2 2)) 3 (ov.2 3)) 4 (ov.2 4)) 5 (ov.2 5)) 6 (ov.2 6)) 7 (ov.2 7)) 8 (ov.2 8)) 9 (ov.2 9)) 10 (ov.2 10)) 11 (ov.2 11)).2 12)) (cwV 2 hts gX6_become_X6_copy rfl rfl rfl (by decide +kernel) ⟨Nat.le_of_ble_eq_true rfl, Nat.le_of_ble_eq_true rfl⟩) (tr_preV hK hM.c2 rfl ⟨hO.arr 12 (by decide), hM.arr 12 (by decide)⟩) rfl rfl hl.1 rfl (lv_room (Nat.le_of_ble_eq_true rfl)) dX6_become_185 ⟨Nat.zero_le _, Nat.zero_le _⟩) hS (bOwn_in 12 (by decide)) (fun H locs hP9 hz hk hS => ?_)
  obtain ⟨hM, hO⟩ := cp_step hd hM hO 12 (by decide) hP9 hk
  clear hP9 hk hz
  exact W.vret hx hb hr (hS.end ⟨(by rw [fX6_become]; exact hM), hO⟩) hS.2.2 dX6_become_188
