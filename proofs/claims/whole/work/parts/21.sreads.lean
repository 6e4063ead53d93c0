/-! State: what is read -/
/-- the numbers of a Model -/
def mOK (mv : LV) : Prop := (3 ≤ (mv.1 1).toInt ∧ (mv.1 1).toInt ≤ 16) ∧ 0 ≤ (mv.1 2).toInt ∧ (mv.1 2).toInt ≤ 6
theorem tr_overG {i N : Nat} {x : Int32} (hN : x.toNatClampNeg = N) (hi : i ≤ N) (h : x < nI (i + 1)) : i = N := by
  have h3 := tr_cl31 x
  by_cases e : i + 1 < 2 ^ 31
  · have := mt (tr_le (x := nI (i + 1)) (i := 0) (by decide)).mpr
    have h4 := Int32.lt_iff_toInt_lt.mp h
    rw [nI_toInt e] at h4
    have h5 : x.toInt.toNat = N := hN
    omega
  · omega
theorem tr_onG {i N : Nat} {x : Int32} (hN : x.toNatClampNeg = N) (hi : i ≤ N) (hx : x.toInt ≤ 1000) (h : ¬ x < nI (i + 1)) : i < N := by
  have h5 : x.toInt.toNat = N := hN
  have h4 := mt Int32.lt_iff_toInt_lt.mpr h
  rw [nI_toInt (by omega)] at h4
  omega
def bX6_sectionOf_4 (mv : LV) (sv : LV) (sp : Int32) (i : Nat) (a : Int32) : Int32 :=
  a + (aAt sv 1 (nI (i + 1)))
def fX6_sectionOf (mv : LV) (sv : LV) (sp : Int32) : Int32 :=
  itI sp.toNatClampNeg (bX6_sectionOf_4 mv sv sp) 0
set_option maxHeartbeats 4000000 in
set_option maxRecDepth 100000 in
theorem c_X6_sectionOf (l : Launch) (D : va_G) (cI : ClassId) (C : Nat → Nat) (hC : SInj C) (mv sv : LV) (sp : Int32) (hsp : sp.toInt ≤ 15) : Met l yX6_sectionOf wsX6_sectionOf ({ frames := 0, cells := 0, slots := 0, locals := 0 }) (tr_Pc D cI [.ref (C 2), .int sp] (STA D cI C mv sv)) (vp_Si (fun r => r = fX6_sectionOf mv sv sp)) 0 0 (fun _ => False) := by
  refine Met.ofW (cc := cX6_sectionOf) (maxL := 4) (ret := (some .int)) (by decide) rfl ?_
  intro p e s m args below meth c s₁ B hml hv
  obtain ⟨rfl, hM, hK⟩ := hv
  have hx := B.exec
  have hb := B.bytes
  have hr := B.returns
  have hts := atoms_spec (ws := wsX6_sectionOf) B.pre
  have hown : s.vm.findClass RX6 = some m.cls := findClass_of_methodNamed B.named
  have hlocks := B.notSynchronized
  have hiX6 : ∀ w ∈ u_ws RX6 TX6 19, w ∈ wsX6_sectionOf := by decide +kernel
  have f23 := hts (.fieldLink RX6 23 "TramRibbonModel$State" "isCut" "[I") (by decide +kernel)
  have hl := lv_entry ([.ref (C 2), .int sp]) (n := 4) (Nat.le_of_ble_eq_true rfl)
  rw [lg_entry_eq]
  generalize (lg_sl ([.ref (C 2), .int sp]) ++ List.replicate (4 - (lg_sl ([.ref (C 2), .int sp])).length) Slot.unset).toArray = ls at hl ⊢
  replace hl : lv_has ls 4 [(0, .ref (C 2)), (1, .int sp)] := hl
  refine lv_iconst (v := 0) hx hb dX6_sectionOf_0 (by decide) ?_
  refine lv_istore_n (lv' := [(2, .int 0), (0, .ref (C 2)), (1, .int sp)]) hx hb dX6_sectionOf_1 rfl hl (by decide) rfl (fun ls hl => ?_)
  refine lv_iconst (v := 1) hx hb dX6_sectionOf_2 (by decide) ?_
  refine lv_istore_n (lv' := [(3, .int 1), (2, .int 0), (0, .ref (C 2)), (1, .int sp)]) hx hb dX6_sectionOf_3 rfl hl (by decide) rfl (fun ls hl => ?_)
  revert hl; revert ls
  refine tr_forp (fun i ls => lv_has ls 4 [(0, .ref (C 2)), (1, .int sp), (2, .int (itI i (bX6_sectionOf_4 mv sv sp) 0)), (3, .int (nI (i + 1)))]) (sp.toNatClampNeg) (fun ls hl => lv_sub hl [2, 3, 1, 0] rfl) ?_
  intro i ls hi hl ih
  refine lv_iload_n hx hb dX6_sectionOf_4 rfl (lv_at hl 3 rfl) ?_
  refine lv_iload_n hx hb dX6_sectionOf_5 rfl (lv_at hl 1 rfl) ?_
  refine lv_icmp_gt (tgt := 24) hx hb dX6_sectionOf_6 (by decide) (fun c_6 => ?_) (fun c_6 => ?_)
  · have hN : i = sp.toNatClampNeg := tr_overG rfl hi c_6
    subst hN
    refine lv_iload_n hx hb dX6_sectionOf_24 rfl (lv_at hl 2 rfl) ?_
    exact W.iret hx hb hr (tr_endi (by rw [fX6_sectionOf])) (fun _ h => by cases h) dX6_sectionOf_25
  · have hlt : i < sp.toNatClampNeg := (fun (h1 : sp.toNatClampNeg = sp.toNatClampNeg) h2 h3 => tr_onG h1 h2 (by omega) h3) rfl hi c_6
    refine lv_iload_n hx hb dX6_sectionOf_9 rfl (lv_at hl 2 rfl) ?_
    refine lv_aload_n hx hb dX6_sectionOf_10 rfl (lv_at hl 0 rfl) ?_
    refine tr_get (ci := 6) (C := RX6) (T := TX6) (N := 19) hx hb hts hiX6 hown hK hM.c2 rfl 5 (by decide) f23 (v := .ref (C 4)) rfl dX6_sectionOf_11 ?_
    refine lv_iload_n hx hb dX6_sectionOf_14 rfl (lv_at hl 3 rfl) ?_
    refine tr_sald (sv := sv) hx hb hK 1 (hM.arr 1 (by decide)) (vp_in_nI (by have h5 : sp.toInt.toNat = sp.toNatClampNeg := rfl; exact (show i + 1 < 16 by omega)) (by decide)) dX6_sectionOf_15 ?_
    refine lv_iadd hx hb dX6_sectionOf_16 ?_
    refine lv_istore_n (lv' := [(2, .int ((itI i (bX6_sectionOf_4 mv sv sp) 0) + (aAt sv 1 (nI (i + 1))))), (0, .ref (C 2)), (1, .int sp), (3, .int (nI (i + 1)))]) hx hb dX6_sectionOf_17 rfl hl (by decide) rfl (fun ls hl => ?_)
    refine lv_iinc (v := nI ((i + 1) + 1)) (lv' := [(3, .int (nI ((i + 1) + 1))), (2, .int ((itI i (bX6_sectionOf_4 mv sv sp) 0) + (aAt sv 1 (nI (i + 1))))), (0, .ref (C 2)), (1, .int sp)]) hx hb dX6_sectionOf_18 hl (k := 3) rfl (tr_inc _) (by decide) rfl (fun ls hl => ?_)
    refine lv_goto (tgt := 4) hx hb dX6_sectionOf_21 (by decide) ?_
    have e9 : itI (i + 1) (bX6_sectionOf_4 mv sv sp) 0 = (itI i (bX6_sectionOf_4 mv sv sp) 0) + (aAt sv 1 (nI (i + 1))) := by rw [itI_s, bX6_sectionOf_4]
    exact ih ls hlt (by rw [e9]; exact lv_sub hl [2, 3, 1, 0] rfl)
def fX6_ahead (mv : LV) (sv : LV) (cr : Int32) : Int32 :=
  (if (aAt sv 7 cr) ≤ 0 then (if ((aAt sv 6 cr) - 1) < 0 then (-1) else (if ((aAt sv 6 cr) - 1) ≤ ((mv.1 1) - 2) then (aAt sv 6 cr) - 1 else (-1))) else (if (aAt sv 6 cr) < 0 then (-1) else (if (aAt sv 6 cr) ≤ ((mv.1 1) - 2) then aAt sv 6 cr else (-1))))
set_option maxHeartbeats 4000000 in
set_option maxRecDepth 100000 in
theorem c_X6_ahead (l : Launch) (D : va_G) (cI : ClassId) (C : Nat → Nat) (hC : SInj C) (mv sv : LV) (cr : Int32) (hcr : vp_in cr 6) : Met l yX6_ahead wsX6_ahead ({ frames := 0, cells := 0, slots := 0, locals := 0 }) (tr_Pc D cI [.ref (C 2), .int cr] (STA D cI C mv sv)) (vp_Si (fun r => r = fX6_ahead mv sv cr)) 0 0 (fun _ => False) := by
  refine Met.ofW (cc := cX6_ahead) (maxL := 3) (ret := (some .int)) (by decide) rfl ?_
  intro p e s m args below meth c s₁ B hml hv
  obtain ⟨rfl, hM, hK⟩ := hv
  have hx := B.exec
  have hb := B.bytes
  have hr := B.returns
  have hts := atoms_spec (ws := wsX6_ahead) B.pre
  have hown : s.vm.findClass RX6 = some m.cls := findClass_of_methodNamed B.named
  have hlocks := B.notSynchronized
  have hiX6 : ∀ w ∈ u_ws RX6 TX6 19, w ∈ wsX6_ahead := by decide +kernel
  have hiX7 : ∀ w ∈ u_ws RX7 TX7 6, w ∈ wsX6_ahead := by decide +kernel
  have f3 := hts (.fieldLink RX6 3 "TramRibbonModel$State" "this$0" "LTramRibbonModel;") (by decide +kernel)
  have f38 := hts (.fieldLink RX6 38 "TramRibbonModel$State" "at" "[I") (by decide +kernel)
  have f41 := hts (.fieldLink RX6 41 "TramRibbonModel$State" "way" "[I") (by decide +kernel)
  have hl := lv_entry ([.ref (C 2), .int cr]) (n := 3) (Nat.le_of_ble_eq_true rfl)
  rw [lg_entry_eq]
  generalize (lg_sl ([.ref (C 2), .int cr]) ++ List.replicate (3 - (lg_sl ([.ref (C 2), .int cr])).length) Slot.unset).toArray = ls at hl ⊢
  replace hl : lv_has ls 3 [(0, .ref (C 2)), (1, .int cr)] := hl
  refine lv_aload_n hx hb dX6_ahead_0 rfl (lv_at hl 0 rfl) ?_
  refine tr_get (ci := 6) (C := RX6) (T := TX6) (N := 19) hx hb hts hiX6 hown hK hM.c2 rfl 11 (by decide) f41 (v := .ref (C 10)) rfl dX6_ahead_1 ?_
  refine lv_iload_n hx hb dX6_ahead_4 rfl (lv_at hl 1 rfl) ?_
  refine tr_sald (sv := sv) hx hb hK 7 (hM.arr 7 (by decide)) hcr dX6_ahead_5 ?_
  refine lv_if_le (tgt := 18) hx hb dX6_ahead_6 (by decide) (fun c_6 => ?_) (fun c_6 => ?_)
  · refine lv_aload_n hx hb dX6_ahead_18 rfl (lv_at hl 0 rfl) ?_
    refine tr_get (ci := 6) (C := RX6) (T := TX6) (N := 19) hx hb hts hiX6 hown hK hM.c2 rfl 10 (by decide) f38 (v := .ref (C 9)) rfl dX6_ahead_19 ?_
    refine lv_iload_n hx hb dX6_ahead_22 rfl (lv_at hl 1 rfl) ?_
    refine tr_sald (sv := sv) hx hb hK 6 (hM.arr 6 (by decide)) hcr dX6_ahead_23 ?_
    refine lv_iconst (v := 1) hx hb dX6_ahead_24 (by decide) ?_
    refine lv_isub hx hb dX6_ahead_25 ?_
    refine lv_istore_n (lv' := [(2, .int ((aAt sv 6 cr) - 1)), (0, .ref (C 2)), (1, .int cr)]) hx hb dX6_ahead_26 rfl hl (by decide) rfl (fun ls hl => ?_)
    refine lv_iload_n hx hb dX6_ahead_27 rfl (lv_at hl 0 rfl) ?_
    refine lv_if_lt (tgt := 44) hx hb dX6_ahead_28 (by decide) (fun c_28 => ?_) (fun c_28 => ?_)
    · refine lv_iconst (v := -1) hx hb dX6_ahead_44 (by decide) ?_
      refine lv_goto (tgt := 49) hx hb dX6_ahead_45 (by decide) ?_
      exact W.iret hx hb hr (tr_endi (by rw [fX6_ahead, if_pos c_6, if_pos c_28])) (fun _ h => by cases h) dX6_ahead_49
    · refine lv_iload_n hx hb dX6_ahead_31 rfl (lv_at hl 0 rfl) ?_
      refine lv_aload_n hx hb dX6_ahead_32 rfl (lv_at hl 1 rfl) ?_
      refine tr_get (ci := 6) (C := RX6) (T := TX6) (N := 19) hx hb hts hiX6 hown hK hM.c2 rfl 18 (by decide) f3 (v := .ref (C 0)) rfl dX6_ahead_33 ?_
      refine tr_getN (host := "TramRibbonModel") (ci := 7) (C := RX7) (T := TX7) (N := 6) hx hb hts hiX7 hown hK hM.c0 rfl 1 (by decide) (by decide +kernel) (v := .int (mv.1 1)) rfl dX6_ahead_36 ?_
      refine lv_iconst (v := 2) hx hb dX6_ahead_39 (by decide) ?_
      refine lv_isub hx hb dX6_ahead_40 ?_
      refine lv_icmp_le (tgt := 48) hx hb dX6_ahead_41 (by decide) (fun c_41 => ?_) (fun c_41 => ?_)
      · refine lv_iload_n hx hb dX6_ahead_48 rfl (lv_at hl 0 rfl) ?_
        exact W.iret hx hb hr (tr_endi (by rw [fX6_ahead, if_pos c_6, if_neg c_28, if_pos c_41])) (fun _ h => by cases h) dX6_ahead_49
      · refine lv_iconst (v := -1) hx hb dX6_ahead_44 (by decide) ?_
        refine lv_goto (tgt := 49) hx hb dX6_ahead_45 (by decide) ?_
        exact W.iret hx hb hr (tr_endi (by rw [fX6_ahead, if_pos c_6, if_neg c_28, if_neg c_41])) (fun _ h => by cases h) dX6_ahead_49
  · refine lv_aload_n hx hb dX6_ahead_9 rfl (lv_at hl 0 rfl) ?_
    refine tr_get (ci := 6) (C := RX6) (T := TX6) (N := 19) hx hb hts hiX6 hown hK hM.c2 rfl 10 (by decide) f38 (v := .ref (C 9)) rfl dX6_ahead_10 ?_
    refine lv_iload_n hx hb dX6_ahead_13 rfl (lv_at hl 1 rfl) ?_
    refine tr_sald (sv := sv) hx hb hK 6 (hM.arr 6 (by decide)) hcr dX6_ahead_14 ?_
    refine lv_goto (tgt := 26) hx hb dX6_ahead_15 (by decide) ?_
    refine lv_istore_n (lv' := [(2, .int (aAt sv 6 cr)), (0, .ref (C 2)), (1, .int cr)]) hx hb dX6_ahead_26 rfl hl (by decide) rfl (fun ls hl => ?_)
    refine lv_iload_n hx hb dX6_ahead_27 rfl (lv_at hl 0 rfl) ?_
    refine lv_if_lt (tgt := 44) hx hb dX6_ahead_28 (by decide) (fun c_28 => ?_) (fun c_28 => ?_)
    · refine lv_iconst (v := -1) hx hb dX6_ahead_44 (by decide) ?_
      refine lv_goto (tgt := 49) hx hb dX6_ahead_45 (by decide) ?_
      exact W.iret hx hb hr (tr_endi (by rw [fX6_ahead, if_neg c_6, if_pos c_28])) (fun _ h => by cases h) dX6_ahead_49
    · refine lv_iload_n hx hb dX6_ahead_31 rfl (lv_at hl 0 rfl) ?_
      refine lv_aload_n hx hb dX6_ahead_32 rfl (lv_at hl 1 rfl) ?_
      refine tr_get (ci := 6) (C := RX6) (T := TX6) (N := 19) hx hb hts hiX6 hown hK hM.c2 rfl 18 (by decide) f3 (v := .ref (C 0)) rfl dX6_ahead_33 ?_
      refine tr_getN (host := "TramRibbonModel") (ci := 7) (C := RX7) (T := TX7) (N := 6) hx hb hts hiX7 hown hK hM.c0 rfl 1 (by decide) (by decide +kernel) (v := .int (mv.1 1)) rfl dX6_ahead_36 ?_
      refine lv_iconst (v := 2) hx hb dX6_ahead_39 (by decide) ?_
      refine lv_isub hx hb dX6_ahead_40 ?_
      refine lv_icmp_le (tgt := 48) hx hb dX6_ahead_41 (by decide) (fun c_41 => ?_) (fun c_41 => ?_)
      · refine lv_iload_n hx hb dX6_ahead_48 rfl (lv_at hl 0 rfl) ?_
        exact W.iret hx hb hr (tr_endi (by rw [fX6_ahead, if_neg c_6, if_neg c_28, if_pos c_41])) (fun _ h => by cases h) dX6_ahead_49
      · refine lv_iconst (v := -1) hx hb dX6_ahead_44 (by decide) ?_
        refine lv_goto (tgt := 49) hx hb dX6_ahead_45 (by decide) ?_
        exact W.iret hx hb hr (tr_endi (by rw [fX6_ahead, if_neg c_6, if_neg c_28, if_neg c_41])) (fun _ h => by cases h) dX6_ahead_49
theorem ahead_in {mv sv : LV} {cr : Int32} (hm : mOK mv) : fX6_ahead mv sv cr = -1 ∨ (0 ≤ (fX6_ahead mv sv cr).toInt ∧ (fX6_ahead mv sv cr).toInt ≤ (mv.1 1).toInt - 2) := by
  have key : ∀ x : Int32, ¬ x < 0 → x ≤ (mv.1 1) - 2 → 0 ≤ x.toInt ∧ x.toInt ≤ (mv.1 1).toInt - 2 := by
    intro x h1 h2
    have h3 := mt Int32.lt_iff_toInt_lt.mpr h1
    have h4 := Int32.le_iff_toInt_le.mp h2
    have h5 : ((mv.1 1) - 2).toInt = (mv.1 1).toInt - 2 := by
      rw [Int32.toInt_sub, show (2 : Int32).toInt = 2 from rfl]
      have := hm.1
      exact Int.bmod_eq_of_le (by omega) (by omega)
    have h0 : (0 : Int32).toInt = 0 := rfl
    rw [h5] at h4; rw [h0] at h3; omega
  unfold fX6_ahead
  (repeat' split) <;> first | exact Or.inl rfl | exact Or.inr (key _ (by assumption) (by assumption))
theorem ahead_le {mv sv : LV} {cr : Int32} (hm : mOK mv) : (fX6_ahead mv sv cr).toInt ≤ 15 := by
  rcases ahead_in (sv := sv) (cr := cr) hm with h | h
  · rw [h]; decide
  · have := hm.1; omega
theorem ahead_vp {mv sv : LV} {cr : Int32} (hm : mOK mv) (h : ¬ fX6_ahead mv sv cr = -1) : vp_in (fX6_ahead mv sv cr) 16 := by
  rcases ahead_in (sv := sv) (cr := cr) hm with h1 | h1
  · exact absurd h1 h
  · have := hm.1; exact tr_vi h1.1 (by omega)
def fX6_draws (mv : LV) (sv : LV) (cr : Int32) : Int32 :=
  (if (aAt sv 10 cr) = 1 then 0 else (if (fX6_ahead mv sv cr) = (-1) then 0 else (if (aAt sv 11 cr) = (-1) then ((2 + ((aAt sv 8 cr) / 10)) + (aMax 0 ((aAt sv 7 cr) * (aAt mv 0 (fX6_ahead mv sv cr))))) + 0 else ((2 + ((aAt sv 8 cr) / 10)) + (aMax 0 ((aAt sv 7 cr) * (aAt mv 0 (fX6_ahead mv sv cr))))) + 3)))
set_option maxHeartbeats 4000000 in
set_option maxRecDepth 100000 in
theorem c_X6_draws (l : Launch) (D : va_G) (cI : ClassId) (C : Nat → Nat) (hC : SInj C) (mv sv : LV) (cr : Int32) (hm : mOK mv) (hcr : vp_in cr 6) : Met l yX6_draws wsX6_draws ({ frames := 1, cells := 0, slots := 0, locals := 22 }) (tr_Pc D cI [.ref (C 2), .int cr] (STA D cI C mv sv)) (vp_Si (fun r => r = fX6_draws mv sv cr)) 0 0 (fun _ => False) := by
  refine Met.ofW (cc := cX6_draws) (maxL := 3) (ret := (some .int)) (by decide) rfl ?_
  intro p e s m args below meth c s₁ B hml hv
  obtain ⟨rfl, hM, hK⟩ := hv
  have hx := B.exec
  have hb := B.bytes
  have hr := B.returns
  have hts := atoms_spec (ws := wsX6_draws) B.pre
  have hown : s.vm.findClass RX6 = some m.cls := findClass_of_methodNamed B.named
  have hlocks := B.notSynchronized
  have hiX6 : ∀ w ∈ u_ws RX6 TX6 19, w ∈ wsX6_draws := by decide +kernel
  have hiX7 : ∀ w ∈ u_ws RX7 TX7 6, w ∈ wsX6_draws := by decide +kernel
  have f3 := hts (.fieldLink RX6 3 "TramRibbonModel$State" "this$0" "LTramRibbonModel;") (by decide +kernel)
  have f41 := hts (.fieldLink RX6 41 "TramRibbonModel$State" "way" "[I") (by decide +kernel)
  have f44 := hts (.fieldLink RX6 44 "TramRibbonModel$State" "riders" "[I") (by decide +kernel)
  have f50 := hts (.fieldLink RX6 50 "TramRibbonModel$State" "broken" "[I") (by decide +kernel)
  have f53 := hts (.fieldLink RX6 53 "TramRibbonModel$State" "pushes" "[I") (by decide +kernel)
  have mC_max := hts (.code Lib.Math.max.name Lib.Math.max.code 2 (some .int)) (by decide +kernel)
  have mI := hts (.initialized "java/lang/Math") (by decide +kernel)
  have mL94 := hts (.methodLink RX6 94 Lib.Math.max.name) (by decide +kernel)
  have mS_max := hts (.static Lib.Math.max.name) (by decide +kernel)
  have hl := lv_entry ([.ref (C 2), .int cr]) (n := 3) (Nat.le_of_ble_eq_true rfl)
  rw [lg_entry_eq]
  generalize (lg_sl ([.ref (C 2), .int cr]) ++ List.replicate (3 - (lg_sl ([.ref (C 2), .int cr])).length) Slot.unset).toArray = ls at hl ⊢
  replace hl : lv_has ls 3 [(0, .ref (C 2)), (1, .int cr)] := hl
  refine lv_aload_n hx hb dX6_draws_0 rfl (lv_at hl 0 rfl) ?_
  refine lv_iload_n hx hb dX6_draws_1 rfl (lv_at hl 1 rfl) ?_
  refine tr_ri (va_runV (As := [.int cr]) (rest := []) ⟨hx, hb, hml, hown, hts⟩ (c_X6_ahead l D cI C hC mv sv cr hcr) (cwV 1 hts gX6_draws_X6_ahead rfl rfl rfl (by decide +kernel) ⟨Nat.le_of_ble_eq_true rfl, Nat.le_of_ble_eq_true rfl⟩) (tr_preV hK hM.c2 rfl hM) rfl rfl hl.1 rfl (lv_room (Nat.le_of_ble_eq_true rfl)) dX6_draws_2 ⟨Nat.zero_le _, Nat.zero_le _⟩) ?_
  refine lv_istore_n (lv' := [(2, .int (fX6_ahead mv sv cr)), (0, .ref (C 2)), (1, .int cr)]) hx hb dX6_draws_5 rfl hl (by decide) rfl (fun ls hl => ?_)
  refine lv_aload_n hx hb dX6_draws_6 rfl (lv_at hl 1 rfl) ?_
  refine tr_get (ci := 6) (C := RX6) (T := TX6) (N := 19) hx hb hts hiX6 hown hK hM.c2 rfl 14 (by decide) f50 (v := .ref (C 13)) rfl dX6_draws_7 ?_
  refine lv_iload_n hx hb dX6_draws_10 rfl (lv_at hl 2 rfl) ?_
  refine tr_sald (sv := sv) hx hb hK 10 (hM.arr 10 (by decide)) hcr dX6_draws_11 ?_
  refine lv_iconst (v := 1) hx hb dX6_draws_12 (by decide) ?_
  refine lv_icmp_eq (tgt := 21) hx hb dX6_draws_13 (by decide) (fun c_13 => ?_) (fun c_13 => ?_)
  · refine lv_iconst (v := 0) hx hb dX6_draws_21 (by decide) ?_
    exact W.iret hx hb hr (tr_endi (by rw [fX6_draws, if_pos c_13])) (fun _ h => by cases h) dX6_draws_22
  · refine lv_iload_n hx hb dX6_draws_16 rfl (lv_at hl 0 rfl) ?_
    refine lv_iconst (v := -1) hx hb dX6_draws_17 (by decide) ?_
    refine lv_icmp_ne (tgt := 23) hx hb dX6_draws_18 (by decide) (fun c_18 => ?_) (fun c_18 => ?_)
    · refine lv_iconst (v := 2) hx hb dX6_draws_23 (by decide) ?_
      refine lv_aload_n hx hb dX6_draws_24 rfl (lv_at hl 1 rfl) ?_
      refine tr_get (ci := 6) (C := RX6) (T := TX6) (N := 19) hx hb hts hiX6 hown hK hM.c2 rfl 12 (by decide) f44 (v := .ref (C 11)) rfl dX6_draws_25 ?_
      refine lv_iload_n hx hb dX6_draws_28 rfl (lv_at hl 2 rfl) ?_
      refine tr_sald (sv := sv) hx hb hK 8 (hM.arr 8 (by decide)) hcr dX6_draws_29 ?_
      refine lv_bipush (v := 10) hx hb dX6_draws_30 (by decide) ?_
      refine lv_idiv hx hb dX6_draws_32 (by decide) ?_
      refine lv_iadd hx hb dX6_draws_33 ?_
      refine lv_iconst (v := 0) hx hb dX6_draws_34 (by decide) ?_
      refine lv_aload_n hx hb dX6_draws_35 rfl (lv_at hl 1 rfl) ?_
      refine tr_get (ci := 6) (C := RX6) (T := TX6) (N := 19) hx hb hts hiX6 hown hK hM.c2 rfl 11 (by decide) f41 (v := .ref (C 10)) rfl dX6_draws_36 ?_
      refine lv_iload_n hx hb dX6_draws_39 rfl (lv_at hl 2 rfl) ?_
      refine tr_sald (sv := sv) hx hb hK 7 (hM.arr 7 (by decide)) hcr dX6_draws_40 ?_
      refine lv_aload_n hx hb dX6_draws_41 rfl (lv_at hl 1 rfl) ?_
      refine tr_get (ci := 6) (C := RX6) (T := TX6) (N := 19) hx hb hts hiX6 hown hK hM.c2 rfl 18 (by decide) f3 (v := .ref (C 0)) rfl dX6_draws_42 ?_
      refine tr_getN (host := "TramRibbonModel") (ci := 7) (C := RX7) (T := TX7) (N := 6) hx hb hts hiX7 hown hK hM.c0 rfl 3 (by decide) (by decide +kernel) (v := .ref (C 1)) rfl dX6_draws_45 ?_
      refine lv_iload_n hx hb dX6_draws_48 rfl (lv_at hl 0 rfl) ?_
      refine tr_mald hx hb hK hM (ahead_vp hm c_18) dX6_draws_49 ?_
      refine lv_imul hx hb dX6_draws_50 ?_
      refine tr_max hx hb (by rw [hml]; exact hl.1.symm) hown mL94 mS_max mI mC_max (Nat.le_of_ble_eq_true rfl) (Nat.le_of_ble_eq_true rfl) (Nat.zero_le _) (Nat.zero_le _) dX6_draws_51 ?_
      refine lv_iadd hx hb dX6_draws_54 ?_
      refine lv_aload_n hx hb dX6_draws_55 rfl (lv_at hl 1 rfl) ?_
      refine tr_get (ci := 6) (C := RX6) (T := TX6) (N := 19) hx hb hts hiX6 hown hK hM.c2 rfl 15 (by decide) f53 (v := .ref (C 14)) rfl dX6_draws_56 ?_
      refine lv_iload_n hx hb dX6_draws_59 rfl (lv_at hl 2 rfl) ?_
      refine tr_sald (sv := sv) hx hb hK 11 (hM.arr 11 (by decide)) hcr dX6_draws_60 ?_
      refine lv_iconst (v := -1) hx hb dX6_draws_61 (by decide) ?_
      refine lv_icmp_ne (tgt := 69) hx hb dX6_draws_62 (by decide) (fun c_62 => ?_) (fun c_62 => ?_)
      · refine lv_iconst (v := 3) hx hb dX6_draws_69 (by decide) ?_
        refine lv_iadd hx hb dX6_draws_70 ?_
        exact W.iret hx hb hr (tr_endi (by rw [fX6_draws, if_neg c_13, if_neg c_18, if_neg c_62])) (fun _ h => by cases h) dX6_draws_71
      · refine lv_iconst (v := 0) hx hb dX6_draws_65 (by decide) ?_
        refine lv_goto (tgt := 70) hx hb dX6_draws_66 (by decide) ?_
        refine lv_iadd hx hb dX6_draws_70 ?_
        exact W.iret hx hb hr (tr_endi (by rw [fX6_draws, if_neg c_13, if_neg c_18, if_pos c_62])) (fun _ h => by cases h) dX6_draws_71
    · refine lv_iconst (v := 0) hx hb dX6_draws_21 (by decide) ?_
      exact W.iret hx hb hr (tr_endi (by rw [fX6_draws, if_neg c_13, if_pos c_18])) (fun _ h => by cases h) dX6_draws_22
def bX6_drawn_4 (mv : LV) (sv : LV) (q : Int32) (i : Nat) (a : Int32) : Int32 :=
  (if (fX6_ahead mv sv (nI i)) = (-1) then a else (if (fX6_sectionOf mv sv (fX6_ahead mv sv (nI i))) = q then a + (fX6_draws mv sv (nI i)) else a))
def fX6_drawn (mv : LV) (sv : LV) (q : Int32) : Int32 :=
  itI ((mv.1 2).toNatClampNeg) (bX6_drawn_4 mv sv q) 0
set_option maxHeartbeats 4000000 in
set_option maxRecDepth 100000 in
theorem c_X6_drawn (l : Launch) (D : va_G) (cI : ClassId) (C : Nat → Nat) (hC : SInj C) (mv sv : LV) (q : Int32) (hm : mOK mv) : Met l yX6_drawn wsX6_drawn ({ frames := 2, cells := 0, slots := 0, locals := 44 }) (tr_Pc D cI [.ref (C 2), .int q] (STA D cI C mv sv)) (vp_Si (fun r => r = fX6_drawn mv sv q)) 0 0 (fun _ => False) := by
  refine Met.ofW (cc := cX6_drawn) (maxL := 4) (ret := (some .int)) (by decide) rfl ?_
  intro p e s m args below meth c s₁ B hml hv
  obtain ⟨rfl, hM, hK⟩ := hv
  have hx := B.exec
  have hb := B.bytes
  have hr := B.returns
  have hts := atoms_spec (ws := wsX6_drawn) B.pre
  have hown : s.vm.findClass RX6 = some m.cls := findClass_of_methodNamed B.named
  have hlocks := B.notSynchronized
  have hiX6 : ∀ w ∈ u_ws RX6 TX6 19, w ∈ wsX6_drawn := by decide +kernel
  have hiX7 : ∀ w ∈ u_ws RX7 TX7 6, w ∈ wsX6_drawn := by decide +kernel
  have f3 := hts (.fieldLink RX6 3 "TramRibbonModel$State" "this$0" "LTramRibbonModel;") (by decide +kernel)
  have hl := lv_entry ([.ref (C 2), .int q]) (n := 4) (Nat.le_of_ble_eq_true rfl)
  rw [lg_entry_eq]
  generalize (lg_sl ([.ref (C 2), .int q]) ++ List.replicate (4 - (lg_sl ([.ref (C 2), .int q])).length) Slot.unset).toArray = ls at hl ⊢
  replace hl : lv_has ls 4 [(0, .ref (C 2)), (1, .int q)] := hl
  refine lv_iconst (v := 0) hx hb dX6_drawn_0 (by decide) ?_
  refine lv_istore_n (lv' := [(2, .int 0), (0, .ref (C 2)), (1, .int q)]) hx hb dX6_drawn_1 rfl hl (by decide) rfl (fun ls hl => ?_)
  refine lv_iconst (v := 0) hx hb dX6_drawn_2 (by decide) ?_
  refine lv_istore_n (lv' := [(3, .int 0), (2, .int 0), (0, .ref (C 2)), (1, .int q)]) hx hb dX6_drawn_3 rfl hl (by decide) rfl (fun ls hl => ?_)
  revert hl; revert ls
  refine tr_forp (fun i ls => lv_has ls 4 [(0, .ref (C 2)), (1, .int q), (2, .int (itI i (bX6_drawn_4 mv sv q) 0)), (3, .int (nI i))]) ((mv.1 2).toNatClampNeg) (fun ls hl => lv_sub hl [2, 3, 1, 0] rfl) ?_
  intro i ls hi hl ih
  refine lv_iload_n hx hb dX6_drawn_4 rfl (lv_at hl 3 rfl) ?_
  refine lv_aload_n hx hb dX6_drawn_5 rfl (lv_at hl 0 rfl) ?_
  refine tr_get (ci := 6) (C := RX6) (T := TX6) (N := 19) hx hb hts hiX6 hown hK hM.c2 rfl 18 (by decide) f3 (v := .ref (C 0)) rfl dX6_drawn_6 ?_
  refine tr_getN (host := "TramRibbonModel") (ci := 7) (C := RX7) (T := TX7) (N := 6) hx hb hts hiX7 hown hK hM.c0 rfl 2 (by decide) (by decide +kernel) (v := .int (mv.1 2)) rfl dX6_drawn_9 ?_
  refine lv_icmp_ge (tgt := 51) hx hb dX6_drawn_12 (by decide) (fun c_12 => ?_) (fun c_12 => ?_)
  · have hN : i = (mv.1 2).toNatClampNeg := tr_over rfl hi c_12
    subst hN
    refine lv_iload_n hx hb dX6_drawn_51 rfl (lv_at hl 2 rfl) ?_
    exact W.iret hx hb hr (tr_endi (by rw [fX6_drawn])) (fun _ h => by cases h) dX6_drawn_52
  · have hlt : i < (mv.1 2).toNatClampNeg := tr_on rfl hi c_12
    refine lv_aload_n hx hb dX6_drawn_15 rfl (lv_at hl 0 rfl) ?_
    refine lv_iload_n hx hb dX6_drawn_16 rfl (lv_at hl 3 rfl) ?_
    refine tr_ri (va_runV (As := [.int (nI i)]) (rest := []) ⟨hx, hb, hml, hown, hts⟩ (c_X6_ahead l D cI C hC mv sv (nI i) (tr_vl rfl hlt hm.2.2 (by decide))) (cwV 1 hts gX6_drawn_X6_ahead rfl rfl rfl (by decide +kernel) ⟨Nat.le_of_ble_eq_true rfl, Nat.le_of_ble_eq_true rfl⟩) (tr_preV hK hM.c2 rfl hM) rfl rfl hl.1 rfl (lv_room (Nat.le_of_ble_eq_true rfl)) dX6_drawn_17 ⟨Nat.zero_le _, Nat.zero_le _⟩) ?_
    refine lv_iconst (v := -1) hx hb dX6_drawn_20 (by decide) ?_
    refine lv_icmp_eq (tgt := 45) hx hb dX6_drawn_21 (by decide) (fun c_21 => ?_) (fun c_21 => ?_)
    · refine lv_iinc (v := nI (i + 1)) (lv' := [(3, .int (nI (i + 1))), (0, .ref (C 2)), (1, .int q), (2, .int (itI i (bX6_drawn_4 mv sv q) 0))]) hx hb dX6_drawn_45 hl (k := 3) rfl (tr_inc _) (by decide) rfl (fun ls hl => ?_)
      refine lv_goto (tgt := 4) hx hb dX6_drawn_48 (by decide) ?_
      have e9 : itI (i + 1) (bX6_drawn_4 mv sv q) 0 = itI i (bX6_drawn_4 mv sv q) 0 := by rw [itI_s, bX6_drawn_4, if_pos c_21]
      exact ih ls hlt (by rw [e9]; exact lv_sub hl [1, 2, 3, 0] rfl)
    · refine lv_aload_n hx hb dX6_drawn_24 rfl (lv_at hl 0 rfl) ?_
      refine lv_aload_n hx hb dX6_drawn_25 rfl (lv_at hl 0 rfl) ?_
      refine lv_iload_n hx hb dX6_drawn_26 rfl (lv_at hl 3 rfl) ?_
      refine tr_ri (va_runV (As := [.int (nI i)]) (rest := [.ref (C 2)]) ⟨hx, hb, hml, hown, hts⟩ (c_X6_ahead l D cI C hC mv sv (nI i) (tr_vl rfl hlt hm.2.2 (by decide))) (cwV 1 hts gX6_drawn_X6_ahead rfl rfl rfl (by decide +kernel) ⟨Nat.le_of_ble_eq_true rfl, Nat.le_of_ble_eq_true rfl⟩) (tr_preV hK hM.c2 rfl hM) rfl rfl hl.1 rfl (lv_room (Nat.le_of_ble_eq_true rfl)) dX6_drawn_27 ⟨Nat.zero_le _, Nat.zero_le _⟩) ?_
      refine tr_ri (va_runV (As := [.int (fX6_ahead mv sv (nI i))]) (rest := []) ⟨hx, hb, hml, hown, hts⟩ (c_X6_sectionOf l D cI C hC mv sv (fX6_ahead mv sv (nI i)) (ahead_le hm)) (cwV 1 hts gX6_drawn_X6_sectionOf rfl rfl rfl (by decide +kernel) ⟨Nat.le_of_ble_eq_true rfl, Nat.le_of_ble_eq_true rfl⟩) (tr_preV hK hM.c2 rfl hM) rfl rfl hl.1 rfl (lv_room (Nat.le_of_ble_eq_true rfl)) dX6_drawn_30 ⟨Nat.zero_le _, Nat.zero_le _⟩) ?_
      refine lv_iload_n hx hb dX6_drawn_33 rfl (lv_at hl 1 rfl) ?_
      refine lv_icmp_ne (tgt := 45) hx hb dX6_drawn_34 (by decide) (fun c_34 => ?_) (fun c_34 => ?_)
      · refine lv_iinc (v := nI (i + 1)) (lv' := [(3, .int (nI (i + 1))), (0, .ref (C 2)), (1, .int q), (2, .int (itI i (bX6_drawn_4 mv sv q) 0))]) hx hb dX6_drawn_45 hl (k := 3) rfl (tr_inc _) (by decide) rfl (fun ls hl => ?_)
        refine lv_goto (tgt := 4) hx hb dX6_drawn_48 (by decide) ?_
        have e9 : itI (i + 1) (bX6_drawn_4 mv sv q) 0 = itI i (bX6_drawn_4 mv sv q) 0 := by rw [itI_s, bX6_drawn_4, if_neg c_21, if_neg c_34]
        exact ih ls hlt (by rw [e9]; exact lv_sub hl [1, 2, 3, 0] rfl)
      · refine lv_iload_n hx hb dX6_drawn_37 rfl (lv_at hl 2 rfl) ?_
        refine lv_aload_n hx hb dX6_drawn_38 rfl (lv_at hl 0 rfl) ?_
        refine lv_iload_n hx hb dX6_drawn_39 rfl (lv_at hl 3 rfl) ?_
        refine tr_ri (va_runV (As := [.int (nI i)]) (rest := [.int (itI i (bX6_drawn_4 mv sv q) 0)]) ⟨hx, hb, hml, hown, hts⟩ (c_X6_draws l D cI C hC mv sv (nI i) hm (tr_vl rfl hlt hm.2.2 (by decide))) (cwV 1 hts gX6_drawn_X6_draws rfl rfl rfl (by decide +kernel) ⟨Nat.le_of_ble_eq_true rfl, Nat.le_of_ble_eq_true rfl⟩) (tr_preV hK hM.c2 rfl hM) rfl rfl hl.1 rfl (lv_room (Nat.le_of_ble_eq_true rfl)) dX6_drawn_40 ⟨Nat.zero_le _, Nat.zero_le _⟩) ?_
        refine lv_iadd hx hb dX6_drawn_43 ?_
        refine lv_istore_n (lv' := [(2, .int ((itI i (bX6_drawn_4 mv sv q) 0) + (fX6_draws mv sv (nI i)))), (0, .ref (C 2)), (1, .int q), (3, .int (nI i))]) hx hb dX6_drawn_44 rfl hl (by decide) rfl (fun ls hl => ?_)
        refine lv_iinc (v := nI (i + 1)) (lv' := [(3, .int (nI (i + 1))), (2, .int ((itI i (bX6_drawn_4 mv sv q) 0) + (fX6_draws mv sv (nI i)))), (0, .ref (C 2)), (1, .int q)]) hx hb dX6_drawn_45 hl (k := 3) rfl (tr_inc _) (by decide) rfl (fun ls hl => ?_)
        refine lv_goto (tgt := 4) hx hb dX6_drawn_48 (by decide) ?_
        have e9 : itI (i + 1) (bX6_drawn_4 mv sv q) 0 = (itI i (bX6_drawn_4 mv sv q) 0) + (fX6_draws mv sv (nI i)) := by rw [itI_s, bX6_drawn_4, if_neg c_21, if_pos c_34]
        exact ih ls hlt (by rw [e9]; exact lv_sub hl [2, 3, 1, 0] rfl)
def bX6_carsAt_4 (mv : LV) (sv : LV) (po : Int32) (i : Nat) (a : Int32) : Int32 :=
  (if (aAt sv 6 (nI i)) = po then a + 1 else a + 0)
def fX6_carsAt (mv : LV) (sv : LV) (po : Int32) : Int32 :=
  itI ((mv.1 2).toNatClampNeg) (bX6_carsAt_4 mv sv po) 0
set_option maxHeartbeats 4000000 in
set_option maxRecDepth 100000 in
theorem c_X6_carsAt (l : Launch) (D : va_G) (cI : ClassId) (C : Nat → Nat) (hC : SInj C) (mv sv : LV) (po : Int32) (hm : mOK mv) : Met l yX6_carsAt wsX6_carsAt ({ frames := 0, cells := 0, slots := 0, locals := 0 }) (tr_Pc D cI [.ref (C 2), .int po] (STA D cI C mv sv)) (vp_Si (fun r => r = fX6_carsAt mv sv po)) 0 0 (fun _ => False) := by
  refine Met.ofW (cc := cX6_carsAt) (maxL := 4) (ret := (some .int)) (by decide) rfl ?_
  intro p e s m args below meth c s₁ B hml hv
  obtain ⟨rfl, hM, hK⟩ := hv
  have hx := B.exec
  have hb := B.bytes
  have hr := B.returns
  have hts := atoms_spec (ws := wsX6_carsAt) B.pre
  have hown : s.vm.findClass RX6 = some m.cls := findClass_of_methodNamed B.named
  have hlocks := B.notSynchronized
  have hiX6 : ∀ w ∈ u_ws RX6 TX6 19, w ∈ wsX6_carsAt := by decide +kernel
  have hiX7 : ∀ w ∈ u_ws RX7 TX7 6, w ∈ wsX6_carsAt := by decide +kernel
  have f3 := hts (.fieldLink RX6 3 "TramRibbonModel$State" "this$0" "LTramRibbonModel;") (by decide +kernel)
  have f38 := hts (.fieldLink RX6 38 "TramRibbonModel$State" "at" "[I") (by decide +kernel)
  have hl := lv_entry ([.ref (C 2), .int po]) (n := 4) (Nat.le_of_ble_eq_true rfl)
  rw [lg_entry_eq]
  generalize (lg_sl ([.ref (C 2), .int po]) ++ List.replicate (4 - (lg_sl ([.ref (C 2), .int po])).length) Slot.unset).toArray = ls at hl ⊢
  replace hl : lv_has ls 4 [(0, .ref (C 2)), (1, .int po)] := hl
  refine lv_iconst (v := 0) hx hb dX6_carsAt_0 (by decide) ?_
  refine lv_istore_n (lv' := [(2, .int 0), (0, .ref (C 2)), (1, .int po)]) hx hb dX6_carsAt_1 rfl hl (by decide) rfl (fun ls hl => ?_)
  refine lv_iconst (v := 0) hx hb dX6_carsAt_2 (by decide) ?_
  refine lv_istore_n (lv' := [(3, .int 0), (2, .int 0), (0, .ref (C 2)), (1, .int po)]) hx hb dX6_carsAt_3 rfl hl (by decide) rfl (fun ls hl => ?_)
  revert hl; revert ls
  refine tr_forp (fun i ls => lv_has ls 4 [(0, .ref (C 2)), (1, .int po), (2, .int (itI i (bX6_carsAt_4 mv sv po) 0)), (3, .int (nI i))]) ((mv.1 2).toNatClampNeg) (fun ls hl => lv_sub hl [2, 3, 1, 0] rfl) ?_
  intro i ls hi hl ih
  refine lv_iload_n hx hb dX6_carsAt_4 rfl (lv_at hl 3 rfl) ?_
  refine lv_aload_n hx hb dX6_carsAt_5 rfl (lv_at hl 0 rfl) ?_
  refine tr_get (ci := 6) (C := RX6) (T := TX6) (N := 19) hx hb hts hiX6 hown hK hM.c2 rfl 18 (by decide) f3 (v := .ref (C 0)) rfl dX6_carsAt_6 ?_
  refine tr_getN (host := "TramRibbonModel") (ci := 7) (C := RX7) (T := TX7) (N := 6) hx hb hts hiX7 hown hK hM.c0 rfl 2 (by decide) (by decide +kernel) (v := .int (mv.1 2)) rfl dX6_carsAt_9 ?_
  refine lv_icmp_ge (tgt := 39) hx hb dX6_carsAt_12 (by decide) (fun c_12 => ?_) (fun c_12 => ?_)
  · have hN : i = (mv.1 2).toNatClampNeg := tr_over rfl hi c_12
    subst hN
    refine lv_iload_n hx hb dX6_carsAt_39 rfl (lv_at hl 2 rfl) ?_
    exact W.iret hx hb hr (tr_endi (by rw [fX6_carsAt])) (fun _ h => by cases h) dX6_carsAt_40
  · have hlt : i < (mv.1 2).toNatClampNeg := tr_on rfl hi c_12
    refine lv_iload_n hx hb dX6_carsAt_15 rfl (lv_at hl 2 rfl) ?_
    refine lv_aload_n hx hb dX6_carsAt_16 rfl (lv_at hl 0 rfl) ?_
    refine tr_get (ci := 6) (C := RX6) (T := TX6) (N := 19) hx hb hts hiX6 hown hK hM.c2 rfl 10 (by decide) f38 (v := .ref (C 9)) rfl dX6_carsAt_17 ?_
    refine lv_iload_n hx hb dX6_carsAt_20 rfl (lv_at hl 3 rfl) ?_
    refine tr_sald (sv := sv) hx hb hK 6 (hM.arr 6 (by decide)) (tr_vl rfl hlt hm.2.2 (by decide)) dX6_carsAt_21 ?_
    refine lv_iload_n hx hb dX6_carsAt_22 rfl (lv_at hl 1 rfl) ?_
    refine lv_icmp_ne (tgt := 30) hx hb dX6_carsAt_23 (by decide) (fun c_23 => ?_) (fun c_23 => ?_)
    · refine lv_iconst (v := 0) hx hb dX6_carsAt_30 (by decide) ?_
      refine lv_iadd hx hb dX6_carsAt_31 ?_
      refine lv_istore_n (lv' := [(2, .int ((itI i (bX6_carsAt_4 mv sv po) 0) + 0)), (0, .ref (C 2)), (1, .int po), (3, .int (nI i))]) hx hb dX6_carsAt_32 rfl hl (by decide) rfl (fun ls hl => ?_)
      refine lv_iinc (v := nI (i + 1)) (lv' := [(3, .int (nI (i + 1))), (2, .int ((itI i (bX6_carsAt_4 mv sv po) 0) + 0)), (0, .ref (C 2)), (1, .int po)]) hx hb dX6_carsAt_33 hl (k := 3) rfl (tr_inc _) (by decide) rfl (fun ls hl => ?_)
      refine lv_goto (tgt := 4) hx hb dX6_carsAt_36 (by decide) ?_
      have e9 : itI (i + 1) (bX6_carsAt_4 mv sv po) 0 = (itI i (bX6_carsAt_4 mv sv po) 0) + 0 := by rw [itI_s, bX6_carsAt_4, if_neg c_23]
      exact ih ls hlt (by rw [e9]; exact lv_sub hl [2, 3, 1, 0] rfl)
    · refine lv_iconst (v := 1) hx hb dX6_carsAt_26 (by decide) ?_
      refine lv_goto (tgt := 31) hx hb dX6_carsAt_27 (by decide) ?_
      refine lv_iadd hx hb dX6_carsAt_31 ?_
      refine lv_istore_n (lv' := [(2, .int ((itI i (bX6_carsAt_4 mv sv po) 0) + 1)), (0, .ref (C 2)), (1, .int po), (3, .int (nI i))]) hx hb dX6_carsAt_32 rfl hl (by decide) rfl (fun ls hl => ?_)
      refine lv_iinc (v := nI (i + 1)) (lv' := [(3, .int (nI (i + 1))), (2, .int ((itI i (bX6_carsAt_4 mv sv po) 0) + 1)), (0, .ref (C 2)), (1, .int po)]) hx hb dX6_carsAt_33 hl (k := 3) rfl (tr_inc _) (by decide) rfl (fun ls hl => ?_)
      refine lv_goto (tgt := 4) hx hb dX6_carsAt_36 (by decide) ?_
      have e9 : itI (i + 1) (bX6_carsAt_4 mv sv po) 0 = (itI i (bX6_carsAt_4 mv sv po) 0) + 1 := by rw [itI_s, bX6_carsAt_4, if_pos c_23]
      exact ih ls hlt (by rw [e9]; exact lv_sub hl [2, 3, 1, 0] rfl)
def bX6_pusher_2 (mv : LV) (sv : LV) (cr : Int32) (i : Nat) : Option Int32 :=
  (if (aAt sv 11 (nI i)) = cr then some (nI i) else none)
def fX6_pusher (mv : LV) (sv : LV) (cr : Int32) : Int32 :=
  ((fstI ((mv.1 2).toNatClampNeg) (bX6_pusher_2 mv sv cr)).getD (-1))
set_option maxHeartbeats 4000000 in
set_option maxRecDepth 100000 in
theorem c_X6_pusher (l : Launch) (D : va_G) (cI : ClassId) (C : Nat → Nat) (hC : SInj C) (mv sv : LV) (cr : Int32) (hm : mOK mv) : Met l yX6_pusher wsX6_pusher ({ frames := 0, cells := 0, slots := 0, locals := 0 }) (tr_Pc D cI [.ref (C 2), .int cr] (STA D cI C mv sv)) (vp_Si (fun r => r = fX6_pusher mv sv cr)) 0 0 (fun _ => False) := by
  refine Met.ofW (cc := cX6_pusher) (maxL := 3) (ret := (some .int)) (by decide) rfl ?_
  intro p e s m args below meth c s₁ B hml hv
  obtain ⟨rfl, hM, hK⟩ := hv
  have hx := B.exec
  have hb := B.bytes
  have hr := B.returns
  have hts := atoms_spec (ws := wsX6_pusher) B.pre
  have hown : s.vm.findClass RX6 = some m.cls := findClass_of_methodNamed B.named
  have hlocks := B.notSynchronized
  have hiX6 : ∀ w ∈ u_ws RX6 TX6 19, w ∈ wsX6_pusher := by decide +kernel
  have hiX7 : ∀ w ∈ u_ws RX7 TX7 6, w ∈ wsX6_pusher := by decide +kernel
  have f3 := hts (.fieldLink RX6 3 "TramRibbonModel$State" "this$0" "LTramRibbonModel;") (by decide +kernel)
  have f53 := hts (.fieldLink RX6 53 "TramRibbonModel$State" "pushes" "[I") (by decide +kernel)
  have hl := lv_entry ([.ref (C 2), .int cr]) (n := 3) (Nat.le_of_ble_eq_true rfl)
  rw [lg_entry_eq]
  generalize (lg_sl ([.ref (C 2), .int cr]) ++ List.replicate (3 - (lg_sl ([.ref (C 2), .int cr])).length) Slot.unset).toArray = ls at hl ⊢
  replace hl : lv_has ls 3 [(0, .ref (C 2)), (1, .int cr)] := hl
  refine lv_iconst (v := 0) hx hb dX6_pusher_0 (by decide) ?_
  refine lv_istore_n (lv' := [(2, .int 0), (0, .ref (C 2)), (1, .int cr)]) hx hb dX6_pusher_1 rfl hl (by decide) rfl (fun ls hl => ?_)
  revert hl; revert ls
  refine tr_forp (fun i ls => fstI i (bX6_pusher_2 mv sv cr) = none ∧ lv_has ls 3 [(0, .ref (C 2)), (1, .int cr), (2, .int (nI i))]) ((mv.1 2).toNatClampNeg) (fun ls hl => ⟨rfl, lv_sub hl [1, 2, 0] rfl⟩) ?_
  intro i ls hi hinv ih
  obtain ⟨hex, hl⟩ := hinv
  refine lv_iload_n hx hb dX6_pusher_2 rfl (lv_at hl 2 rfl) ?_
  refine lv_aload_n hx hb dX6_pusher_3 rfl (lv_at hl 0 rfl) ?_
  refine tr_get (ci := 6) (C := RX6) (T := TX6) (N := 19) hx hb hts hiX6 hown hK hM.c2 rfl 18 (by decide) f3 (v := .ref (C 0)) rfl dX6_pusher_4 ?_
  refine tr_getN (host := "TramRibbonModel") (ci := 7) (C := RX7) (T := TX7) (N := 6) hx hb hts hiX7 hown hK hM.c0 rfl 2 (by decide) (by decide +kernel) (v := .int (mv.1 2)) rfl dX6_pusher_7 ?_
  refine lv_icmp_ge (tgt := 31) hx hb dX6_pusher_10 (by decide) (fun c_10 => ?_) (fun c_10 => ?_)
  · have hN : i = (mv.1 2).toNatClampNeg := tr_over rfl hi c_10
    subst hN
    refine lv_iconst (v := -1) hx hb dX6_pusher_31 (by decide) ?_
    exact W.iret hx hb hr (tr_endi (by rw [fX6_pusher] ; rw [hex] ; rfl)) (fun _ h => by cases h) dX6_pusher_32
  · have hlt : i < (mv.1 2).toNatClampNeg := tr_on rfl hi c_10
    refine lv_aload_n hx hb dX6_pusher_13 rfl (lv_at hl 0 rfl) ?_
    refine tr_get (ci := 6) (C := RX6) (T := TX6) (N := 19) hx hb hts hiX6 hown hK hM.c2 rfl 15 (by decide) f53 (v := .ref (C 14)) rfl dX6_pusher_14 ?_
    refine lv_iload_n hx hb dX6_pusher_17 rfl (lv_at hl 2 rfl) ?_
    refine tr_sald (sv := sv) hx hb hK 11 (hM.arr 11 (by decide)) (tr_vl rfl hlt hm.2.2 (by decide)) dX6_pusher_18 ?_
    refine lv_iload_n hx hb dX6_pusher_19 rfl (lv_at hl 1 rfl) ?_
    refine lv_icmp_ne (tgt := 25) hx hb dX6_pusher_20 (by decide) (fun c_20 => ?_) (fun c_20 => ?_)
    · refine lv_iinc (v := nI (i + 1)) (lv' := [(2, .int (nI (i + 1))), (0, .ref (C 2)), (1, .int cr)]) hx hb dX6_pusher_25 hl (k := 2) rfl (tr_inc _) (by decide) rfl (fun ls hl => ?_)
      refine lv_goto (tgt := 2) hx hb dX6_pusher_28 (by decide) ?_
      exact ih ls hlt ⟨(fstI_n hex (by rw [bX6_pusher_2, if_neg c_20])), lv_sub hl [1, 2, 0] rfl⟩
    · refine lv_iload_n hx hb dX6_pusher_23 rfl (lv_at hl 2 rfl) ?_
      exact W.iret hx hb hr (tr_endi (by have e9 := fstI_s (N := (mv.1 2).toNatClampNeg) hex (f := bX6_pusher_2 mv sv cr) (r := nI i) (by rw [bX6_pusher_2, if_pos c_20]) hlt; rw [fX6_pusher]; rw [e9]; rfl)) (fun _ h => by cases h) dX6_pusher_24
def bX6_waiting_4 (mv : LV) (sv : LV) (i : Nat) (a : Int32) : Int32 :=
  a + (aAt sv 0 (nI i))
def fX6_waiting (mv : LV) (sv : LV) : Int32 :=
  itI ((mv.1 1).toNatClampNeg) (bX6_waiting_4 mv sv) 0
set_option maxHeartbeats 4000000 in
set_option maxRecDepth 100000 in
theorem c_X6_waiting (l : Launch) (D : va_G) (cI : ClassId) (C : Nat → Nat) (hC : SInj C) (mv sv : LV)  (hm : mOK mv) : Met l yX6_waiting wsX6_waiting ({ frames := 0, cells := 0, slots := 0, locals := 0 }) (tr_Pc D cI [.ref (C 2)] (STA D cI C mv sv)) (vp_Si (fun r => r = fX6_waiting mv sv)) 0 0 (fun _ => False) := by
  refine Met.ofW (cc := cX6_waiting) (maxL := 3) (ret := (some .int)) (by decide) rfl ?_
  intro p e s m args below meth c s₁ B hml hv
  obtain ⟨rfl, hM, hK⟩ := hv
  have hx := B.exec
  have hb := B.bytes
  have hr := B.returns
  have hts := atoms_spec (ws := wsX6_waiting) B.pre
  have hown : s.vm.findClass RX6 = some m.cls := findClass_of_methodNamed B.named
  have hlocks := B.notSynchronized
  have hiX6 : ∀ w ∈ u_ws RX6 TX6 19, w ∈ wsX6_waiting := by decide +kernel
  have hiX7 : ∀ w ∈ u_ws RX7 TX7 6, w ∈ wsX6_waiting := by decide +kernel
  have f19 := hts (.fieldLink RX6 19 "TramRibbonModel$State" "wait" "[I") (by decide +kernel)
  have f3 := hts (.fieldLink RX6 3 "TramRibbonModel$State" "this$0" "LTramRibbonModel;") (by decide +kernel)
  have hl := lv_entry ([.ref (C 2)]) (n := 3) (Nat.le_of_ble_eq_true rfl)
  rw [lg_entry_eq]
  generalize (lg_sl ([.ref (C 2)]) ++ List.replicate (3 - (lg_sl ([.ref (C 2)])).length) Slot.unset).toArray = ls at hl ⊢
  replace hl : lv_has ls 3 [(0, .ref (C 2))] := hl
  refine lv_iconst (v := 0) hx hb dX6_waiting_0 (by decide) ?_
  refine lv_istore_n (lv' := [(1, .int 0), (0, .ref (C 2))]) hx hb dX6_waiting_1 rfl hl (by decide) rfl (fun ls hl => ?_)
  refine lv_iconst (v := 0) hx hb dX6_waiting_2 (by decide) ?_
  refine lv_istore_n (lv' := [(2, .int 0), (1, .int 0), (0, .ref (C 2))]) hx hb dX6_waiting_3 rfl hl (by decide) rfl (fun ls hl => ?_)
  revert hl; revert ls
  refine tr_forp (fun i ls => lv_has ls 3 [(0, .ref (C 2)), (1, .int (itI i (bX6_waiting_4 mv sv) 0)), (2, .int (nI i))]) ((mv.1 1).toNatClampNeg) (fun ls hl => lv_sub hl [2, 1, 0] rfl) ?_
  intro i ls hi hl ih
  refine lv_iload_n hx hb dX6_waiting_4 rfl (lv_at hl 2 rfl) ?_
  refine lv_aload_n hx hb dX6_waiting_5 rfl (lv_at hl 0 rfl) ?_
  refine tr_get (ci := 6) (C := RX6) (T := TX6) (N := 19) hx hb hts hiX6 hown hK hM.c2 rfl 18 (by decide) f3 (v := .ref (C 0)) rfl dX6_waiting_6 ?_
  refine tr_getN (host := "TramRibbonModel") (ci := 7) (C := RX7) (T := TX7) (N := 6) hx hb hts hiX7 hown hK hM.c0 rfl 1 (by decide) (by decide +kernel) (v := .int (mv.1 1)) rfl dX6_waiting_9 ?_
  refine lv_icmp_ge (tgt := 30) hx hb dX6_waiting_12 (by decide) (fun c_12 => ?_) (fun c_12 => ?_)
  · have hN : i = (mv.1 1).toNatClampNeg := tr_over rfl hi c_12
    subst hN
    refine lv_iload_n hx hb dX6_waiting_30 rfl (lv_at hl 1 rfl) ?_
    exact W.iret hx hb hr (tr_endi (by rw [fX6_waiting])) (fun _ h => by cases h) dX6_waiting_31
  · have hlt : i < (mv.1 1).toNatClampNeg := tr_on rfl hi c_12
    refine lv_iload_n hx hb dX6_waiting_15 rfl (lv_at hl 1 rfl) ?_
    refine lv_aload_n hx hb dX6_waiting_16 rfl (lv_at hl 0 rfl) ?_
    refine tr_get (ci := 6) (C := RX6) (T := TX6) (N := 19) hx hb hts hiX6 hown hK hM.c2 rfl 4 (by decide) f19 (v := .ref (C 3)) rfl dX6_waiting_17 ?_
    refine lv_iload_n hx hb dX6_waiting_20 rfl (lv_at hl 2 rfl) ?_
    refine tr_sald (sv := sv) hx hb hK 0 (hM.arr 0 (by decide)) (tr_vl rfl hlt hm.1.2 (by decide)) dX6_waiting_21 ?_
    refine lv_iadd hx hb dX6_waiting_22 ?_
    refine lv_istore_n (lv' := [(1, .int ((itI i (bX6_waiting_4 mv sv) 0) + (aAt sv 0 (nI i)))), (0, .ref (C 2)), (2, .int (nI i))]) hx hb dX6_waiting_23 rfl hl (by decide) rfl (fun ls hl => ?_)
    refine lv_iinc (v := nI (i + 1)) (lv' := [(2, .int (nI (i + 1))), (1, .int ((itI i (bX6_waiting_4 mv sv) 0) + (aAt sv 0 (nI i)))), (0, .ref (C 2))]) hx hb dX6_waiting_24 hl (k := 2) rfl (tr_inc _) (by decide) rfl (fun ls hl => ?_)
    refine lv_goto (tgt := 4) hx hb dX6_waiting_27 (by decide) ?_
    have e9 : itI (i + 1) (bX6_waiting_4 mv sv) 0 = (itI i (bX6_waiting_4 mv sv) 0) + (aAt sv 0 (nI i)) := by rw [itI_s, bX6_waiting_4]
    exact ih ls hlt (by rw [e9]; exact lv_sub hl [2, 1, 0] rfl)
def bX6_brokenOnes_4 (mv : LV) (sv : LV) (i : Nat) (a : Int32) : Int32 :=
  a + (aAt sv 10 (nI i))
def fX6_brokenOnes (mv : LV) (sv : LV) : Int32 :=
  itI ((mv.1 2).toNatClampNeg) (bX6_brokenOnes_4 mv sv) 0
set_option maxHeartbeats 4000000 in
set_option maxRecDepth 100000 in
theorem c_X6_brokenOnes (l : Launch) (D : va_G) (cI : ClassId) (C : Nat → Nat) (hC : SInj C) (mv sv : LV)  (hm : mOK mv) : Met l yX6_brokenOnes wsX6_brokenOnes ({ frames := 0, cells := 0, slots := 0, locals := 0 }) (tr_Pc D cI [.ref (C 2)] (STA D cI C mv sv)) (vp_Si (fun r => r = fX6_brokenOnes mv sv)) 0 0 (fun _ => False) := by
  refine Met.ofW (cc := cX6_brokenOnes) (maxL := 3) (ret := (some .int)) (by decide) rfl ?_
  intro p e s m args below meth c s₁ B hml hv
  obtain ⟨rfl, hM, hK⟩ := hv
  have hx := B.exec
  have hb := B.bytes
  have hr := B.returns
  have hts := atoms_spec (ws := wsX6_brokenOnes) B.pre
  have hown : s.vm.findClass RX6 = some m.cls := findClass_of_methodNamed B.named
  have hlocks := B.notSynchronized
  have hiX6 : ∀ w ∈ u_ws RX6 TX6 19, w ∈ wsX6_brokenOnes := by decide +kernel
  have hiX7 : ∀ w ∈ u_ws RX7 TX7 6, w ∈ wsX6_brokenOnes := by decide +kernel
  have f3 := hts (.fieldLink RX6 3 "TramRibbonModel$State" "this$0" "LTramRibbonModel;") (by decide +kernel)
  have f50 := hts (.fieldLink RX6 50 "TramRibbonModel$State" "broken" "[I") (by decide +kernel)
  have hl := lv_entry ([.ref (C 2)]) (n := 3) (Nat.le_of_ble_eq_true rfl)
  rw [lg_entry_eq]
  generalize (lg_sl ([.ref (C 2)]) ++ List.replicate (3 - (lg_sl ([.ref (C 2)])).length) Slot.unset).toArray = ls at hl ⊢
  replace hl : lv_has ls 3 [(0, .ref (C 2))] := hl
  refine lv_iconst (v := 0) hx hb dX6_brokenOnes_0 (by decide) ?_
  refine lv_istore_n (lv' := [(1, .int 0), (0, .ref (C 2))]) hx hb dX6_brokenOnes_1 rfl hl (by decide) rfl (fun ls hl => ?_)
  refine lv_iconst (v := 0) hx hb dX6_brokenOnes_2 (by decide) ?_
  refine lv_istore_n (lv' := [(2, .int 0), (1, .int 0), (0, .ref (C 2))]) hx hb dX6_brokenOnes_3 rfl hl (by decide) rfl (fun ls hl => ?_)
  revert hl; revert ls
  refine tr_forp (fun i ls => lv_has ls 3 [(0, .ref (C 2)), (1, .int (itI i (bX6_brokenOnes_4 mv sv) 0)), (2, .int (nI i))]) ((mv.1 2).toNatClampNeg) (fun ls hl => lv_sub hl [2, 1, 0] rfl) ?_
  intro i ls hi hl ih
  refine lv_iload_n hx hb dX6_brokenOnes_4 rfl (lv_at hl 2 rfl) ?_
  refine lv_aload_n hx hb dX6_brokenOnes_5 rfl (lv_at hl 0 rfl) ?_
  refine tr_get (ci := 6) (C := RX6) (T := TX6) (N := 19) hx hb hts hiX6 hown hK hM.c2 rfl 18 (by decide) f3 (v := .ref (C 0)) rfl dX6_brokenOnes_6 ?_
  refine tr_getN (host := "TramRibbonModel") (ci := 7) (C := RX7) (T := TX7) (N := 6) hx hb hts hiX7 hown hK hM.c0 rfl 2 (by decide) (by decide +kernel) (v := .int (mv.1 2)) rfl dX6_brokenOnes_9 ?_
  refine lv_icmp_ge (tgt := 30) hx hb dX6_brokenOnes_12 (by decide) (fun c_12 => ?_) (fun c_12 => ?_)
  · have hN : i = (mv.1 2).toNatClampNeg := tr_over rfl hi c_12
    subst hN
    refine lv_iload_n hx hb dX6_brokenOnes_30 rfl (lv_at hl 1 rfl) ?_
    exact W.iret hx hb hr (tr_endi (by rw [fX6_brokenOnes])) (fun _ h => by cases h) dX6_brokenOnes_31
  · have hlt : i < (mv.1 2).toNatClampNeg := tr_on rfl hi c_12
    refine lv_iload_n hx hb dX6_brokenOnes_15 rfl (lv_at hl 1 rfl) ?_
    refine lv_aload_n hx hb dX6_brokenOnes_16 rfl (lv_at hl 0 rfl) ?_
    refine tr_get (ci := 6) (C := RX6) (T := TX6) (N := 19) hx hb hts hiX6 hown hK hM.c2 rfl 14 (by decide) f50 (v := .ref (C 13)) rfl dX6_brokenOnes_17 ?_
    refine lv_iload_n hx hb dX6_brokenOnes_20 rfl (lv_at hl 2 rfl) ?_
    refine tr_sald (sv := sv) hx hb hK 10 (hM.arr 10 (by decide)) (tr_vl rfl hlt hm.2.2 (by decide)) dX6_brokenOnes_21 ?_
    refine lv_iadd hx hb dX6_brokenOnes_22 ?_
    refine lv_istore_n (lv' := [(1, .int ((itI i (bX6_brokenOnes_4 mv sv) 0) + (aAt sv 10 (nI i)))), (0, .ref (C 2)), (2, .int (nI i))]) hx hb dX6_brokenOnes_23 rfl hl (by decide) rfl (fun ls hl => ?_)
    refine lv_iinc (v := nI (i + 1)) (lv' := [(2, .int (nI (i + 1))), (1, .int ((itI i (bX6_brokenOnes_4 mv sv) 0) + (aAt sv 10 (nI i)))), (0, .ref (C 2))]) hx hb dX6_brokenOnes_24 hl (k := 2) rfl (tr_inc _) (by decide) rfl (fun ls hl => ?_)
    refine lv_goto (tgt := 4) hx hb dX6_brokenOnes_27 (by decide) ?_
    have e9 : itI (i + 1) (bX6_brokenOnes_4 mv sv) 0 = (itI i (bX6_brokenOnes_4 mv sv) 0) + (aAt sv 10 (nI i)) := by rw [itI_s, bX6_brokenOnes_4]
    exact ih ls hlt (by rw [e9]; exact lv_sub hl [2, 1, 0] rfl)
