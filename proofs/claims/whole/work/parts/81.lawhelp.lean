/-! THE LAW: its helpers -/
section ZLH
theorem hx_build (v u : LV) (po : Int32) : xX5_build v u po = none ∨ (xX5_build v u po = some sIA ∧ (fX5_build v u po).1 = v) ∨ (xX5_build v u po = some sIS ∧ (fX5_build v u po).1 = v) := by
  unfold xX5_build fX5_build
  (repeat' split) <;> first | exact Or.inl rfl | exact Or.inr (Or.inl ⟨rfl, rfl⟩) | exact Or.inr (Or.inr (⟨rfl, rfl⟩))
set_option maxHeartbeats 4000000 in
set_option maxRecDepth 100000 in
theorem c_L_build (l : Launch) (hst : l.stackTraces = false) (D : va_G) (cI cJ : ClassId) (z0 : Nat) (A A2 : Nat → Nat) (hd : TDis z0 A A2) (v u : LV) (po : Int32) (oa : Nat) (y : Int64) (ho : OApart z0 A A2 oa) : Met l yL_build wsL_build ({ frames := 7, cells := 1, slots := 6, locals := 160 }) (HPc D cI cJ [.ref z0, .int po, .ref oa] (fun H => TRB D cI z0 A A2 (v, u) H ∧ oat D cJ oa y H)) (tr_Q (some (.int (cod [sIA, sIS] (xX5_build v u po)))) (fun H => (∃ u2, TRB D cI z0 A A2 ((fX5_build v u po).1, u2) H) ∧ oat D cJ oa (if xX5_build v u po = none then (rX5_build v u po).toInt64 else y) H) (hOwn A A2 oa)) 1 6 (hOwn A A2 oa) := by
  refine met_of_vx (vx_ofWH (cc := cL_build) (maxL := 4) (ret := (some .int)) (hh := [(0, 9, 12, 13), (0, 9, 15, 15)]) (by decide) rfl ?_)
  intro p e s m args below meth c s₁ B hml hv
  obtain ⟨rfl, ⟨⟨⟨hT, hO⟩, hK⟩, hXK⟩, hJ, hH⟩ := hv
  have hx := B.exec
  have hb := B.bytes
  have hr := B.returns
  have hts := atoms_spec (ws := wsL_build) B.pre
  have hown : s.vm.findClass RL = some m.cls := findClass_of_methodNamed B.named
  have htab : c.exceptionTable.toList = [⟨0, 9, 12, 13⟩, ⟨0, 9, 15, 15⟩] := vx_table (x := yL_build) B (hts _ (List.mem_cons_self))
  have hl13 := hts (.classLink RL 13 "java/lang/IllegalArgumentException") (by decide +kernel)
  have hl15 := hts (.classLink RL 15 "java/lang/IllegalStateException") (by decide +kernel)
  have hl := lv_entry ([.ref z0, .int po, .ref oa]) (n := 4) (Nat.le_of_ble_eq_true rfl)
  rw [lg_entry_eq]
  generalize (lg_sl ([.ref z0, .int po, .ref oa]) ++ List.replicate (4 - (lg_sl ([.ref z0, .int po, .ref oa])).length) Slot.unset).toArray = ls at hl ⊢
  replace hl : lv_has ls 4 [(0, .ref z0), (1, .int po), (2, .ref oa)] := hl
  have hS : tr_S (hOwn A A2 oa) s.heap s.heap [] := tr_S.rf
  refine lv_aload_n hx hb dL_build_0 rfl (lv_at hl 2 rfl) ?_
  refine lv_iconst (v := 0) hx hb dL_build_1 (by decide) ?_
  refine lv_aload_n hx hb dL_build_2 rfl (lv_at hl 0 rfl) ?_
  refine lv_iload_n hx hb dL_build_3 rfl (lv_at hl 1 rfl) ?_
  refine tr_xi (vx_runV (As := [.int po]) (rest := [.int 0, .ref oa]) ⟨hx, hb, hml, hown, hts⟩ (c_X5_build l hst D cI z0 A A2 hd v u po) (cwV 1 hts gL_build_X5_build rfl rfl rfl (by decide +kernel) ⟨Nat.le_of_ble_eq_true rfl, Nat.le_of_ble_eq_true rfl⟩) (tr_preVX hK hXK hT.1 rfl hT) rfl rfl hl.1 rfl (lv_room (Nat.le_of_ble_eq_true rfl)) dL_build_4 ⟨Nat.le_of_ble_eq_true rfl, Nat.le_of_ble_eq_true rfl⟩) hS (fun _ h => Or.inl h) (fun _ h => Or.inl h) (fun E ce q9 H1 locs1 hxe hz hk hS hcell hcv hcl => ?_) (fun H1 locs1 hxn hp hz hk hS => ?_)
  · have hT1 := hT.keptAll hk
    have hO1 : oat D cJ oa y H1 := hO.kept (hk _ hO.lt)
    rcases hx_build v u po with hq | ⟨hq, hv⟩ | ⟨hq, hv⟩
    · rw [hq] at hxe; cases hxe
    · rw [hq] at hxe
      cases hxe
      refine vx_catch (name := "java/lang/IllegalArgumentException") (E := "java/lang/IllegalArgumentException") hown [] ⟨0, 9, 12, 13⟩ [⟨0, 9, 15, 15⟩] htab (fun z hz => absurd hz List.not_mem_nil) rfl (by decide) hl13 (va_tabs (tr_cst_t _ (by decide +kernel)) rfl (hH.1 (.castable "java/lang/IllegalArgumentException" "java/lang/IllegalArgumentException") (by decide +kernel))) hcell hcv hcl ?_
      refine lv_astore_n (lv' := [(3, .ref q9), (0, .ref z0), (1, .int po), (2, .ref oa)]) hx hb dL_build_12 rfl hl (by decide) rfl (fun ls hl => ?_)
      refine lv_iconst (v := 1) hx hb dL_build_13 (by decide) ?_
      exact vx_ret (W.iret hx hb hr (hS.endr (by rw [hq]; decide +kernel) ⟨⟨u, by rw [hv]; exact hT1⟩, by rw [hq, if_neg (fun z => by cases z)]; exact hO1⟩) hS.2.2 dL_build_14)
    · rw [hq] at hxe
      cases hxe
      refine vx_catch (name := "java/lang/IllegalStateException") (E := "java/lang/IllegalStateException") hown [⟨0, 9, 12, 13⟩] ⟨0, 9, 15, 15⟩ [] htab (fun z hz => by rw [List.mem_singleton.mp hz]; exact Or.inr ⟨by decide, _, hl13, hH.2 ("java/lang/IllegalStateException", "java/lang/IllegalArgumentException") (by decide +kernel)⟩) rfl (by decide) hl15 (va_tabs (tr_cst_t _ (by decide +kernel)) rfl (hH.1 (.castable "java/lang/IllegalStateException" "java/lang/IllegalStateException") (by decide +kernel))) hcell hcv hcl ?_
      refine lv_astore_n (lv' := [(3, .ref q9), (0, .ref z0), (1, .int po), (2, .ref oa)]) hx hb dL_build_15 rfl hl (by decide) rfl (fun ls hl => ?_)
      refine lv_iconst (v := 2) hx hb dL_build_16 (by decide) ?_
      exact vx_ret (W.iret hx hb hr (hS.endr (by rw [hq]; decide +kernel) ⟨⟨u, by rw [hv]; exact hT1⟩, by rw [hq, if_neg (fun z => by cases z)]; exact hO1⟩) hS.2.2 dL_build_17)
  · have hT1 : TRB D cI z0 A A2 ((fX5_build v u po).1, (fX5_build v u po).2) H1 := hp
    have hO1 : oat D cJ oa y H1 := hO.kept (hk _ hO.lt ho.own)
    refine lv_i2l hx hb dL_build_7 rfl ?_
    refine tr_last_l hx hb hJ hS (Or.inr rfl) hO1 (i := 0) vp00 dL_build_8 (fun H2 locs2 hat hz2 hk2 hS => ?_)
    refine lv_goto (tgt := 18) hx hb dL_build_9 (by decide) ?_
    refine lv_iconst (v := 0) hx hb dL_build_18 (by decide) ?_
    exact vx_ret (W.iret hx hb hr (hS.endr (by rw [hxn]; rfl) ⟨⟨_, hT1.keptO ho hk2⟩, by rw [if_pos hxn]; exact oat_of hat⟩) hS.2.2 dL_build_19)
theorem hx_setSlope (v u : LV) (sp : Int32) (sl : Int32) : xX5_setSlope v u sp sl = none ∨ (xX5_setSlope v u sp sl = some sIX ∧ (fX5_setSlope v u sp sl).1 = v) ∨ (xX5_setSlope v u sp sl = some sIA ∧ (fX5_setSlope v u sp sl).1 = v) := by
  unfold xX5_setSlope fX5_setSlope
  (repeat' split) <;> first | exact Or.inl rfl | exact Or.inr (Or.inl ⟨rfl, rfl⟩) | exact Or.inr (Or.inr (⟨rfl, rfl⟩))
set_option maxHeartbeats 4000000 in
set_option maxRecDepth 100000 in
theorem c_L_setSlope (l : Launch) (hst : l.stackTraces = false) (D : va_G) (cI cJ : ClassId) (z0 : Nat) (A A2 : Nat → Nat) (hd : TDis z0 A A2) (v u : LV) (sp : Int32) (sl : Int32) (oa : Nat) (y : Int64) (ho : OApart z0 A A2 oa) : Met l yL_setSlope wsL_setSlope ({ frames := 7, cells := 1, slots := 6, locals := 160 }) (HPc D cI cJ [.ref z0, .int sp, .int sl, .ref oa] (fun H => TRB D cI z0 A A2 (v, u) H ∧ oat D cJ oa y H)) (tr_Q (some (.int (cod [sIX, sIA] (xX5_setSlope v u sp sl)))) (fun H => (∃ u2, TRB D cI z0 A A2 ((fX5_setSlope v u sp sl).1, u2) H) ∧ oat D cJ oa (if xX5_setSlope v u sp sl = none then (rX5_setSlope v u sp sl).toInt64 else y) H) (hOwn A A2 oa)) 1 6 (hOwn A A2 oa) := by
  refine met_of_vx (vx_ofWH (cc := cL_setSlope) (maxL := 5) (ret := (some .int)) (hh := [(0, 10, 13, 21), (0, 10, 17, 13)]) (by decide) rfl ?_)
  intro p e s m args below meth c s₁ B hml hv
  obtain ⟨rfl, ⟨⟨⟨hT, hO⟩, hK⟩, hXK⟩, hJ, hH⟩ := hv
  have hx := B.exec
  have hb := B.bytes
  have hr := B.returns
  have hts := atoms_spec (ws := wsL_setSlope) B.pre
  have hown : s.vm.findClass RL = some m.cls := findClass_of_methodNamed B.named
  have htab : c.exceptionTable.toList = [⟨0, 10, 13, 21⟩, ⟨0, 10, 17, 13⟩] := vx_table (x := yL_setSlope) B (hts _ (List.mem_cons_self))
  have hl21 := hts (.classLink RL 21 "java/lang/IndexOutOfBoundsException") (by decide +kernel)
  have hl13 := hts (.classLink RL 13 "java/lang/IllegalArgumentException") (by decide +kernel)
  have hl := lv_entry ([.ref z0, .int sp, .int sl, .ref oa]) (n := 5) (Nat.le_of_ble_eq_true rfl)
  rw [lg_entry_eq]
  generalize (lg_sl ([.ref z0, .int sp, .int sl, .ref oa]) ++ List.replicate (5 - (lg_sl ([.ref z0, .int sp, .int sl, .ref oa])).length) Slot.unset).toArray = ls at hl ⊢
  replace hl : lv_has ls 5 [(0, .ref z0), (1, .int sp), (2, .int sl), (3, .ref oa)] := hl
  have hS : tr_S (hOwn A A2 oa) s.heap s.heap [] := tr_S.rf
  refine lv_aload_n hx hb dL_setSlope_0 rfl (lv_at hl 3 rfl) ?_
  refine lv_iconst (v := 0) hx hb dL_setSlope_1 (by decide) ?_
  refine lv_aload_n hx hb dL_setSlope_2 rfl (lv_at hl 0 rfl) ?_
  refine lv_iload_n hx hb dL_setSlope_3 rfl (lv_at hl 1 rfl) ?_
  refine lv_iload_n hx hb dL_setSlope_4 rfl (lv_at hl 2 rfl) ?_
  refine tr_xi (vx_runV (As := [.int sp, .int sl]) (rest := [.int 0, .ref oa]) ⟨hx, hb, hml, hown, hts⟩ (c_X5_setSlope l hst D cI z0 A A2 hd v u sp sl) (cwV 2 hts gL_setSlope_X5_setSlope rfl rfl rfl (by decide +kernel) ⟨Nat.le_of_ble_eq_true rfl, Nat.le_of_ble_eq_true rfl⟩) (tr_preVX hK hXK hT.1 rfl hT) rfl rfl hl.1 rfl (lv_room (Nat.le_of_ble_eq_true rfl)) dL_setSlope_5 ⟨Nat.le_of_ble_eq_true rfl, Nat.le_of_ble_eq_true rfl⟩) hS (fun _ h => Or.inl h) (fun _ h => Or.inl h) (fun E ce q9 H1 locs1 hxe hz hk hS hcell hcv hcl => ?_) (fun H1 locs1 hxn hp hz hk hS => ?_)
  · have hT1 := hT.keptAll hk
    have hO1 : oat D cJ oa y H1 := hO.kept (hk _ hO.lt)
    rcases hx_setSlope v u sp sl with hq | ⟨hq, hv⟩ | ⟨hq, hv⟩
    · rw [hq] at hxe; cases hxe
    · rw [hq] at hxe
      cases hxe
      refine vx_catch (name := "java/lang/IndexOutOfBoundsException") (E := "java/lang/IndexOutOfBoundsException") hown [] ⟨0, 10, 13, 21⟩ [⟨0, 10, 17, 13⟩] htab (fun z hz => absurd hz List.not_mem_nil) rfl (by decide) hl21 (va_tabs (tr_cst_t _ (by decide +kernel)) rfl (hH.1 (.castable "java/lang/IndexOutOfBoundsException" "java/lang/IndexOutOfBoundsException") (by decide +kernel))) hcell hcv hcl ?_
      refine lv_astore (lv' := [(4, .ref q9), (0, .ref z0), (1, .int sp), (2, .int sl), (3, .ref oa)]) hx hb dL_setSlope_13 hl (by decide) rfl (fun ls hl => ?_)
      refine lv_iconst (v := 1) hx hb dL_setSlope_15 (by decide) ?_
      exact vx_ret (W.iret hx hb hr (hS.endr (by rw [hq]; decide +kernel) ⟨⟨u, by rw [hv]; exact hT1⟩, by rw [hq, if_neg (fun z => by cases z)]; exact hO1⟩) hS.2.2 dL_setSlope_16)
    · rw [hq] at hxe
      cases hxe
      refine vx_catch (name := "java/lang/IllegalArgumentException") (E := "java/lang/IllegalArgumentException") hown [⟨0, 10, 13, 21⟩] ⟨0, 10, 17, 13⟩ [] htab (fun z hz => by rw [List.mem_singleton.mp hz]; exact Or.inr ⟨by decide, _, hl21, hH.2 ("java/lang/IllegalArgumentException", "java/lang/IndexOutOfBoundsException") (by decide +kernel)⟩) rfl (by decide) hl13 (va_tabs (tr_cst_t _ (by decide +kernel)) rfl (hH.1 (.castable "java/lang/IllegalArgumentException" "java/lang/IllegalArgumentException") (by decide +kernel))) hcell hcv hcl ?_
      refine lv_astore (lv' := [(4, .ref q9), (0, .ref z0), (1, .int sp), (2, .int sl), (3, .ref oa)]) hx hb dL_setSlope_17 hl (by decide) rfl (fun ls hl => ?_)
      refine lv_iconst (v := 2) hx hb dL_setSlope_19 (by decide) ?_
      exact vx_ret (W.iret hx hb hr (hS.endr (by rw [hq]; decide +kernel) ⟨⟨u, by rw [hv]; exact hT1⟩, by rw [hq, if_neg (fun z => by cases z)]; exact hO1⟩) hS.2.2 dL_setSlope_20)
  · have hT1 : TRB D cI z0 A A2 ((fX5_setSlope v u sp sl).1, (fX5_setSlope v u sp sl).2) H1 := hp
    have hO1 : oat D cJ oa y H1 := hO.kept (hk _ hO.lt ho.own)
    refine lv_i2l hx hb dL_setSlope_8 rfl ?_
    refine tr_last_l hx hb hJ hS (Or.inr rfl) hO1 (i := 0) vp00 dL_setSlope_9 (fun H2 locs2 hat hz2 hk2 hS => ?_)
    refine lv_goto (tgt := 21) hx hb dL_setSlope_10 (by decide) ?_
    refine lv_iconst (v := 0) hx hb dL_setSlope_21 (by decide) ?_
    exact vx_ret (W.iret hx hb hr (hS.endr (by rw [hxn]; rfl) ⟨⟨_, hT1.keptO ho hk2⟩, by rw [if_pos hxn]; exact oat_of hat⟩) hS.2.2 dL_setSlope_22)
theorem hx_cut (v u : LV) (po : Int32) : xX5_cut v u po = none ∨ (xX5_cut v u po = some sIX ∧ (fX5_cut v u po).1 = v) ∨ (xX5_cut v u po = some sIS ∧ (fX5_cut v u po).1 = v) := by
  unfold xX5_cut fX5_cut
  (repeat' split) <;> first | exact Or.inl rfl | exact Or.inr (Or.inl ⟨rfl, rfl⟩) | exact Or.inr (Or.inr (⟨rfl, rfl⟩))
set_option maxHeartbeats 4000000 in
set_option maxRecDepth 100000 in
theorem c_L_cut (l : Launch) (hst : l.stackTraces = false) (D : va_G) (cI cJ : ClassId) (z0 : Nat) (A A2 : Nat → Nat) (hd : TDis z0 A A2) (v u : LV) (po : Int32) (oa : Nat) (y : Int64) (ho : OApart z0 A A2 oa) : Met l yL_cut wsL_cut ({ frames := 7, cells := 1, slots := 6, locals := 160 }) (HPc D cI cJ [.ref z0, .int po, .ref oa] (fun H => TRB D cI z0 A A2 (v, u) H ∧ oat D cJ oa y H)) (tr_Q (some (.int (cod [sIX, sIS] (xX5_cut v u po)))) (fun H => (∃ u2, TRB D cI z0 A A2 ((fX5_cut v u po).1, u2) H) ∧ oat D cJ oa (if xX5_cut v u po = none then (rX5_cut v u po).toInt64 else y) H) (hOwn A A2 oa)) 1 6 (hOwn A A2 oa) := by
  refine met_of_vx (vx_ofWH (cc := cL_cut) (maxL := 4) (ret := (some .int)) (hh := [(0, 9, 12, 21), (0, 9, 15, 15)]) (by decide) rfl ?_)
  intro p e s m args below meth c s₁ B hml hv
  obtain ⟨rfl, ⟨⟨⟨hT, hO⟩, hK⟩, hXK⟩, hJ, hH⟩ := hv
  have hx := B.exec
  have hb := B.bytes
  have hr := B.returns
  have hts := atoms_spec (ws := wsL_cut) B.pre
  have hown : s.vm.findClass RL = some m.cls := findClass_of_methodNamed B.named
  have htab : c.exceptionTable.toList = [⟨0, 9, 12, 21⟩, ⟨0, 9, 15, 15⟩] := vx_table (x := yL_cut) B (hts _ (List.mem_cons_self))
  have hl21 := hts (.classLink RL 21 "java/lang/IndexOutOfBoundsException") (by decide +kernel)
  have hl15 := hts (.classLink RL 15 "java/lang/IllegalStateException") (by decide +kernel)
  have hl := lv_entry ([.ref z0, .int po, .ref oa]) (n := 4) (Nat.le_of_ble_eq_true rfl)
  rw [lg_entry_eq]
  generalize (lg_sl ([.ref z0, .int po, .ref oa]) ++ List.replicate (4 - (lg_sl ([.ref z0, .int po, .ref oa])).length) Slot.unset).toArray = ls at hl ⊢
  replace hl : lv_has ls 4 [(0, .ref z0), (1, .int po), (2, .ref oa)] := hl
  have hS : tr_S (hOwn A A2 oa) s.heap s.heap [] := tr_S.rf
  refine lv_aload_n hx hb dL_cut_0 rfl (lv_at hl 2 rfl) ?_
  refine lv_iconst (v := 0) hx hb dL_cut_1 (by decide) ?_
  refine lv_aload_n hx hb dL_cut_2 rfl (lv_at hl 0 rfl) ?_
  refine lv_iload_n hx hb dL_cut_3 rfl (lv_at hl 1 rfl) ?_
  refine tr_xi (vx_runV (As := [.int po]) (rest := [.int 0, .ref oa]) ⟨hx, hb, hml, hown, hts⟩ (c_X5_cut l hst D cI z0 A A2 hd v u po) (cwV 1 hts gL_cut_X5_cut rfl rfl rfl (by decide +kernel) ⟨Nat.le_of_ble_eq_true rfl, Nat.le_of_ble_eq_true rfl⟩) (tr_preVX hK hXK hT.1 rfl hT) rfl rfl hl.1 rfl (lv_room (Nat.le_of_ble_eq_true rfl)) dL_cut_4 ⟨Nat.le_of_ble_eq_true rfl, Nat.le_of_ble_eq_true rfl⟩) hS (fun _ h => Or.inl h) (fun _ h => Or.inl h) (fun E ce q9 H1 locs1 hxe hz hk hS hcell hcv hcl => ?_) (fun H1 locs1 hxn hp hz hk hS => ?_)
  · have hT1 := hT.keptAll hk
    have hO1 : oat D cJ oa y H1 := hO.kept (hk _ hO.lt)
    rcases hx_cut v u po with hq | ⟨hq, hv⟩ | ⟨hq, hv⟩
    · rw [hq] at hxe; cases hxe
    · rw [hq] at hxe
      cases hxe
      refine vx_catch (name := "java/lang/IndexOutOfBoundsException") (E := "java/lang/IndexOutOfBoundsException") hown [] ⟨0, 9, 12, 21⟩ [⟨0, 9, 15, 15⟩] htab (fun z hz => absurd hz List.not_mem_nil) rfl (by decide) hl21 (va_tabs (tr_cst_t _ (by decide +kernel)) rfl (hH.1 (.castable "java/lang/IndexOutOfBoundsException" "java/lang/IndexOutOfBoundsException") (by decide +kernel))) hcell hcv hcl ?_
      refine lv_astore_n (lv' := [(3, .ref q9), (0, .ref z0), (1, .int po), (2, .ref oa)]) hx hb dL_cut_12 rfl hl (by decide) rfl (fun ls hl => ?_)
      refine lv_iconst (v := 1) hx hb dL_cut_13 (by decide) ?_
      exact vx_ret (W.iret hx hb hr (hS.endr (by rw [hq]; decide +kernel) ⟨⟨u, by rw [hv]; exact hT1⟩, by rw [hq, if_neg (fun z => by cases z)]; exact hO1⟩) hS.2.2 dL_cut_14)
    · rw [hq] at hxe
      cases hxe
      refine vx_catch (name := "java/lang/IllegalStateException") (E := "java/lang/IllegalStateException") hown [⟨0, 9, 12, 21⟩] ⟨0, 9, 15, 15⟩ [] htab (fun z hz => by rw [List.mem_singleton.mp hz]; exact Or.inr ⟨by decide, _, hl21, hH.2 ("java/lang/IllegalStateException", "java/lang/IndexOutOfBoundsException") (by decide +kernel)⟩) rfl (by decide) hl15 (va_tabs (tr_cst_t _ (by decide +kernel)) rfl (hH.1 (.castable "java/lang/IllegalStateException" "java/lang/IllegalStateException") (by decide +kernel))) hcell hcv hcl ?_
      refine lv_astore_n (lv' := [(3, .ref q9), (0, .ref z0), (1, .int po), (2, .ref oa)]) hx hb dL_cut_15 rfl hl (by decide) rfl (fun ls hl => ?_)
      refine lv_iconst (v := 2) hx hb dL_cut_16 (by decide) ?_
      exact vx_ret (W.iret hx hb hr (hS.endr (by rw [hq]; decide +kernel) ⟨⟨u, by rw [hv]; exact hT1⟩, by rw [hq, if_neg (fun z => by cases z)]; exact hO1⟩) hS.2.2 dL_cut_17)
  · have hT1 : TRB D cI z0 A A2 ((fX5_cut v u po).1, (fX5_cut v u po).2) H1 := hp
    have hO1 : oat D cJ oa y H1 := hO.kept (hk _ hO.lt ho.own)
    refine lv_i2l hx hb dL_cut_7 rfl ?_
    refine tr_last_l hx hb hJ hS (Or.inr rfl) hO1 (i := 0) vp00 dL_cut_8 (fun H2 locs2 hat hz2 hk2 hS => ?_)
    refine lv_goto (tgt := 18) hx hb dL_cut_9 (by decide) ?_
    refine lv_iconst (v := 0) hx hb dL_cut_18 (by decide) ?_
    exact vx_ret (W.iret hx hb hr (hS.endr (by rw [hxn]; rfl) ⟨⟨_, hT1.keptO ho hk2⟩, by rw [if_pos hxn]; exact oat_of hat⟩) hS.2.2 dL_cut_19)
theorem hx_setBound (v u : LV) (q : Int32) (bo : Int32) : xX5_setBound v u q bo = none ∨ (xX5_setBound v u q bo = some sIX ∧ (fX5_setBound v u q bo).1 = v) ∨ (xX5_setBound v u q bo = some sIA ∧ (fX5_setBound v u q bo).1 = v) := by
  unfold xX5_setBound fX5_setBound
  (repeat' split) <;> first | exact Or.inl rfl | exact Or.inr (Or.inl ⟨rfl, rfl⟩) | exact Or.inr (Or.inr (⟨rfl, rfl⟩))
set_option maxHeartbeats 4000000 in
set_option maxRecDepth 100000 in
theorem c_L_setBound (l : Launch) (hst : l.stackTraces = false) (D : va_G) (cI cJ : ClassId) (z0 : Nat) (A A2 : Nat → Nat) (hd : TDis z0 A A2) (v u : LV) (q : Int32) (bo : Int32) (oa : Nat) (y : Int64) (ho : OApart z0 A A2 oa) : Met l yL_setBound wsL_setBound ({ frames := 7, cells := 1, slots := 6, locals := 160 }) (HPc D cI cJ [.ref z0, .int q, .int bo, .ref oa] (fun H => TRB D cI z0 A A2 (v, u) H ∧ oat D cJ oa y H)) (tr_Q (some (.int (cod [sIX, sIA] (xX5_setBound v u q bo)))) (fun H => (∃ u2, TRB D cI z0 A A2 ((fX5_setBound v u q bo).1, u2) H) ∧ oat D cJ oa (if xX5_setBound v u q bo = none then (rX5_setBound v u q bo).toInt64 else y) H) (hOwn A A2 oa)) 1 6 (hOwn A A2 oa) := by
  refine met_of_vx (vx_ofWH (cc := cL_setBound) (maxL := 5) (ret := (some .int)) (hh := [(0, 10, 13, 21), (0, 10, 17, 13)]) (by decide) rfl ?_)
  intro p e s m args below meth c s₁ B hml hv
  obtain ⟨rfl, ⟨⟨⟨hT, hO⟩, hK⟩, hXK⟩, hJ, hH⟩ := hv
  have hx := B.exec
  have hb := B.bytes
  have hr := B.returns
  have hts := atoms_spec (ws := wsL_setBound) B.pre
  have hown : s.vm.findClass RL = some m.cls := findClass_of_methodNamed B.named
  have htab : c.exceptionTable.toList = [⟨0, 10, 13, 21⟩, ⟨0, 10, 17, 13⟩] := vx_table (x := yL_setBound) B (hts _ (List.mem_cons_self))
  have hl21 := hts (.classLink RL 21 "java/lang/IndexOutOfBoundsException") (by decide +kernel)
  have hl13 := hts (.classLink RL 13 "java/lang/IllegalArgumentException") (by decide +kernel)
  have hl := lv_entry ([.ref z0, .int q, .int bo, .ref oa]) (n := 5) (Nat.le_of_ble_eq_true rfl)
  rw [lg_entry_eq]
  generalize (lg_sl ([.ref z0, .int q, .int bo, .ref oa]) ++ List.replicate (5 - (lg_sl ([.ref z0, .int q, .int bo, .ref oa])).length) Slot.unset).toArray = ls at hl ⊢
  replace hl : lv_has ls 5 [(0, .ref z0), (1, .int q), (2, .int bo), (3, .ref oa)] := hl
  have hS : tr_S (hOwn A A2 oa) s.heap s.heap [] := tr_S.rf
  refine lv_aload_n hx hb dL_setBound_0 rfl (lv_at hl 3 rfl) ?_
  refine lv_iconst (v := 0) hx hb dL_setBound_1 (by decide) ?_
  refine lv_aload_n hx hb dL_setBound_2 rfl (lv_at hl 0 rfl) ?_
  refine lv_iload_n hx hb dL_setBound_3 rfl (lv_at hl 1 rfl) ?_
  refine lv_iload_n hx hb dL_setBound_4 rfl (lv_at hl 2 rfl) ?_
  refine tr_xi (vx_runV (As := [.int q, .int bo]) (rest := [.int 0, .ref oa]) ⟨hx, hb, hml, hown, hts⟩ (c_X5_setBound l hst D cI z0 A A2 hd v u q bo) (cwV 2 hts gL_setBound_X5_setBound rfl rfl rfl (by decide +kernel) ⟨Nat.le_of_ble_eq_true rfl, Nat.le_of_ble_eq_true rfl⟩) (tr_preVX hK hXK hT.1 rfl hT) rfl rfl hl.1 rfl (lv_room (Nat.le_of_ble_eq_true rfl)) dL_setBound_5 ⟨Nat.le_of_ble_eq_true rfl, Nat.le_of_ble_eq_true rfl⟩) hS (fun _ h => Or.inl h) (fun _ h => Or.inl h) (fun E ce q9 H1 locs1 hxe hz hk hS hcell hcv hcl => ?_) (fun H1 locs1 hxn hp hz hk hS => ?_)
  · have hT1 := hT.keptAll hk
    have hO1 : oat D cJ oa y H1 := hO.kept (hk _ hO.lt)
    rcases hx_setBound v u q bo with hq | ⟨hq, hv⟩ | ⟨hq, hv⟩
    · rw [hq] at hxe; cases hxe
    · rw [hq] at hxe
      cases hxe
      refine vx_catch (name := "java/lang/IndexOutOfBoundsException") (E := "java/lang/IndexOutOfBoundsException") hown [] ⟨0, 10, 13, 21⟩ [⟨0, 10, 17, 13⟩] htab (fun z hz => absurd hz List.not_mem_nil) rfl (by decide) hl21 (va_tabs (tr_cst_t _ (by decide +kernel)) rfl (hH.1 (.castable "java/lang/IndexOutOfBoundsException" "java/lang/IndexOutOfBoundsException") (by decide +kernel))) hcell hcv hcl ?_
      refine lv_astore (lv' := [(4, .ref q9), (0, .ref z0), (1, .int q), (2, .int bo), (3, .ref oa)]) hx hb dL_setBound_13 hl (by decide) rfl (fun ls hl => ?_)
      refine lv_iconst (v := 1) hx hb dL_setBound_15 (by decide) ?_
      exact vx_ret (W.iret hx hb hr (hS.endr (by rw [hq]; decide +kernel) ⟨⟨u, by rw [hv]; exact hT1⟩, by rw [hq, if_neg (fun z => by cases z)]; exact hO1⟩) hS.2.2 dL_setBound_16)
    · rw [hq] at hxe
      cases hxe
      refine vx_catch (name := "java/lang/IllegalArgumentException") (E := "java/lang/IllegalArgumentException") hown [⟨0, 10, 13, 21⟩] ⟨0, 10, 17, 13⟩ [] htab (fun z hz => by rw [List.mem_singleton.mp hz]; exact Or.inr ⟨by decide, _, hl21, hH.2 ("java/lang/IllegalArgumentException", "java/lang/IndexOutOfBoundsException") (by decide +kernel)⟩) rfl (by decide) hl13 (va_tabs (tr_cst_t _ (by decide +kernel)) rfl (hH.1 (.castable "java/lang/IllegalArgumentException" "java/lang/IllegalArgumentException") (by decide +kernel))) hcell hcv hcl ?_
      refine lv_astore (lv' := [(4, .ref q9), (0, .ref z0), (1, .int q), (2, .int bo), (3, .ref oa)]) hx hb dL_setBound_17 hl (by decide) rfl (fun ls hl => ?_)
      refine lv_iconst (v := 2) hx hb dL_setBound_19 (by decide) ?_
      exact vx_ret (W.iret hx hb hr (hS.endr (by rw [hq]; decide +kernel) ⟨⟨u, by rw [hv]; exact hT1⟩, by rw [hq, if_neg (fun z => by cases z)]; exact hO1⟩) hS.2.2 dL_setBound_20)
  · have hT1 : TRB D cI z0 A A2 ((fX5_setBound v u q bo).1, (fX5_setBound v u q bo).2) H1 := hp
    have hO1 : oat D cJ oa y H1 := hO.kept (hk _ hO.lt ho.own)
    refine lv_i2l hx hb dL_setBound_8 rfl ?_
    refine tr_last_l hx hb hJ hS (Or.inr rfl) hO1 (i := 0) vp00 dL_setBound_9 (fun H2 locs2 hat hz2 hk2 hS => ?_)
    refine lv_goto (tgt := 21) hx hb dL_setBound_10 (by decide) ?_
    refine lv_iconst (v := 0) hx hb dL_setBound_21 (by decide) ?_
    exact vx_ret (W.iret hx hb hr (hS.endr (by rw [hxn]; rfl) ⟨⟨_, hT1.keptO ho hk2⟩, by rw [if_pos hxn]; exact oat_of hat⟩) hS.2.2 dL_setBound_22)
theorem hx_depot (v u : LV) (po : Int32) (nn : Int32) : xX5_depot v u po nn = none ∨ (xX5_depot v u po nn = some sIX ∧ (fX5_depot v u po nn).1 = v) ∨ (xX5_depot v u po nn = some sIA ∧ (fX5_depot v u po nn).1 = v) ∨ (xX5_depot v u po nn = some sIS ∧ (fX5_depot v u po nn).1 = v) := by
  unfold xX5_depot fX5_depot
  (repeat' split) <;> first | exact Or.inl rfl | exact Or.inr (Or.inl ⟨rfl, rfl⟩) | exact Or.inr (Or.inr (Or.inl ⟨rfl, rfl⟩)) | exact Or.inr (Or.inr (Or.inr (⟨rfl, rfl⟩)))
set_option maxHeartbeats 4000000 in
set_option maxRecDepth 100000 in
theorem c_L_depot (l : Launch) (hst : l.stackTraces = false) (D : va_G) (cI cJ : ClassId) (z0 : Nat) (A A2 : Nat → Nat) (hd : TDis z0 A A2) (v u : LV) (po : Int32) (nn : Int32) (oa : Nat) (y : Int64) (ho : OApart z0 A A2 oa) : Met l yL_depot wsL_depot ({ frames := 7, cells := 1, slots := 6, locals := 160 }) (HPc D cI cJ [.ref z0, .int po, .int nn, .ref oa] (fun H => TRB D cI z0 A A2 (v, u) H ∧ oat D cJ oa y H)) (tr_Q (some (.int (cod [sIX, sIA, sIS] (xX5_depot v u po nn)))) (fun H => (∃ u2, TRB D cI z0 A A2 ((fX5_depot v u po nn).1, u2) H) ∧ oat D cJ oa (if xX5_depot v u po nn = none then (rX5_depot v u po nn).toInt64 else y) H) (hOwn A A2 oa)) 1 6 (hOwn A A2 oa) := by
  refine met_of_vx (vx_ofWH (cc := cL_depot) (maxL := 5) (ret := (some .int)) (hh := [(0, 10, 13, 21), (0, 10, 17, 13), (0, 10, 21, 15)]) (by decide) rfl ?_)
  intro p e s m args below meth c s₁ B hml hv
  obtain ⟨rfl, ⟨⟨⟨hT, hO⟩, hK⟩, hXK⟩, hJ, hH⟩ := hv
  have hx := B.exec
  have hb := B.bytes
  have hr := B.returns
  have hts := atoms_spec (ws := wsL_depot) B.pre
  have hown : s.vm.findClass RL = some m.cls := findClass_of_methodNamed B.named
  have htab : c.exceptionTable.toList = [⟨0, 10, 13, 21⟩, ⟨0, 10, 17, 13⟩, ⟨0, 10, 21, 15⟩] := vx_table (x := yL_depot) B (hts _ (List.mem_cons_self))
  have hl21 := hts (.classLink RL 21 "java/lang/IndexOutOfBoundsException") (by decide +kernel)
  have hl13 := hts (.classLink RL 13 "java/lang/IllegalArgumentException") (by decide +kernel)
  have hl15 := hts (.classLink RL 15 "java/lang/IllegalStateException") (by decide +kernel)
  have hl := lv_entry ([.ref z0, .int po, .int nn, .ref oa]) (n := 5) (Nat.le_of_ble_eq_true rfl)
  rw [lg_entry_eq]
  generalize (lg_sl ([.ref z0, .int po, .int nn, .ref oa]) ++ List.replicate (5 - (lg_sl ([.ref z0, .int po, .int nn, .ref oa])).length) Slot.unset).toArray = ls at hl ⊢
  replace hl : lv_has ls 5 [(0, .ref z0), (1, .int po), (2, .int nn), (3, .ref oa)] := hl
  have hS : tr_S (hOwn A A2 oa) s.heap s.heap [] := tr_S.rf
  refine lv_aload_n hx hb dL_depot_0 rfl (lv_at hl 3 rfl) ?_
  refine lv_iconst (v := 0) hx hb dL_depot_1 (by decide) ?_
  refine lv_aload_n hx hb dL_depot_2 rfl (lv_at hl 0 rfl) ?_
  refine lv_iload_n hx hb dL_depot_3 rfl (lv_at hl 1 rfl) ?_
  refine lv_iload_n hx hb dL_depot_4 rfl (lv_at hl 2 rfl) ?_
  refine tr_xi (vx_runV (As := [.int po, .int nn]) (rest := [.int 0, .ref oa]) ⟨hx, hb, hml, hown, hts⟩ (c_X5_depot l hst D cI z0 A A2 hd v u po nn) (cwV 2 hts gL_depot_X5_depot rfl rfl rfl (by decide +kernel) ⟨Nat.le_of_ble_eq_true rfl, Nat.le_of_ble_eq_true rfl⟩) (tr_preVX hK hXK hT.1 rfl hT) rfl rfl hl.1 rfl (lv_room (Nat.le_of_ble_eq_true rfl)) dL_depot_5 ⟨Nat.le_of_ble_eq_true rfl, Nat.le_of_ble_eq_true rfl⟩) hS (fun _ h => Or.inl h) (fun _ h => Or.inl h) (fun E ce q9 H1 locs1 hxe hz hk hS hcell hcv hcl => ?_) (fun H1 locs1 hxn hp hz hk hS => ?_)
  · have hT1 := hT.keptAll hk
    have hO1 : oat D cJ oa y H1 := hO.kept (hk _ hO.lt)
    rcases hx_depot v u po nn with hq | ⟨hq, hv⟩ | ⟨hq, hv⟩ | ⟨hq, hv⟩
    · rw [hq] at hxe; cases hxe
    · rw [hq] at hxe
      cases hxe
      refine vx_catch (name := "java/lang/IndexOutOfBoundsException") (E := "java/lang/IndexOutOfBoundsException") hown [] ⟨0, 10, 13, 21⟩ [⟨0, 10, 17, 13⟩, ⟨0, 10, 21, 15⟩] htab (fun z hz => absurd hz List.not_mem_nil) rfl (by decide) hl21 (va_tabs (tr_cst_t _ (by decide +kernel)) rfl (hH.1 (.castable "java/lang/IndexOutOfBoundsException" "java/lang/IndexOutOfBoundsException") (by decide +kernel))) hcell hcv hcl ?_
      refine lv_astore (lv' := [(4, .ref q9), (0, .ref z0), (1, .int po), (2, .int nn), (3, .ref oa)]) hx hb dL_depot_13 hl (by decide) rfl (fun ls hl => ?_)
      refine lv_iconst (v := 1) hx hb dL_depot_15 (by decide) ?_
      exact vx_ret (W.iret hx hb hr (hS.endr (by rw [hq]; decide +kernel) ⟨⟨u, by rw [hv]; exact hT1⟩, by rw [hq, if_neg (fun z => by cases z)]; exact hO1⟩) hS.2.2 dL_depot_16)
    · rw [hq] at hxe
      cases hxe
      refine vx_catch (name := "java/lang/IllegalArgumentException") (E := "java/lang/IllegalArgumentException") hown [⟨0, 10, 13, 21⟩] ⟨0, 10, 17, 13⟩ [⟨0, 10, 21, 15⟩] htab (fun z hz => by rw [List.mem_singleton.mp hz]; exact Or.inr ⟨by decide, _, hl21, hH.2 ("java/lang/IllegalArgumentException", "java/lang/IndexOutOfBoundsException") (by decide +kernel)⟩) rfl (by decide) hl13 (va_tabs (tr_cst_t _ (by decide +kernel)) rfl (hH.1 (.castable "java/lang/IllegalArgumentException" "java/lang/IllegalArgumentException") (by decide +kernel))) hcell hcv hcl ?_
      refine lv_astore (lv' := [(4, .ref q9), (0, .ref z0), (1, .int po), (2, .int nn), (3, .ref oa)]) hx hb dL_depot_17 hl (by decide) rfl (fun ls hl => ?_)
      refine lv_iconst (v := 2) hx hb dL_depot_19 (by decide) ?_
      exact vx_ret (W.iret hx hb hr (hS.endr (by rw [hq]; decide +kernel) ⟨⟨u, by rw [hv]; exact hT1⟩, by rw [hq, if_neg (fun z => by cases z)]; exact hO1⟩) hS.2.2 dL_depot_20)
    · rw [hq] at hxe
      cases hxe
      refine vx_catch (name := "java/lang/IllegalStateException") (E := "java/lang/IllegalStateException") hown [⟨0, 10, 13, 21⟩, ⟨0, 10, 17, 13⟩] ⟨0, 10, 21, 15⟩ [] htab (fun z hz => by
        rcases List.mem_cons.mp hz with e | hz
        · rw [e]; exact Or.inr ⟨by decide, _, hl21, hH.2 ("java/lang/IllegalStateException", "java/lang/IndexOutOfBoundsException") (by decide +kernel)⟩
        · rw [List.mem_singleton.mp hz]; exact Or.inr ⟨by decide, _, hl13, hH.2 ("java/lang/IllegalStateException", "java/lang/IllegalArgumentException") (by decide +kernel)⟩) rfl (by decide) hl15 (va_tabs (tr_cst_t _ (by decide +kernel)) rfl (hH.1 (.castable "java/lang/IllegalStateException" "java/lang/IllegalStateException") (by decide +kernel))) hcell hcv hcl ?_
      refine lv_astore (lv' := [(4, .ref q9), (0, .ref z0), (1, .int po), (2, .int nn), (3, .ref oa)]) hx hb dL_depot_21 hl (by decide) rfl (fun ls hl => ?_)
      refine lv_iconst (v := 3) hx hb dL_depot_23 (by decide) ?_
      exact vx_ret (W.iret hx hb hr (hS.endr (by rw [hq]; decide +kernel) ⟨⟨u, by rw [hv]; exact hT1⟩, by rw [hq, if_neg (fun z => by cases z)]; exact hO1⟩) hS.2.2 dL_depot_24)
  · have hT1 : TRB D cI z0 A A2 ((fX5_depot v u po nn).1, (fX5_depot v u po nn).2) H1 := hp
    have hO1 : oat D cJ oa y H1 := hO.kept (hk _ hO.lt ho.own)
    refine lv_i2l hx hb dL_depot_8 rfl ?_
    refine tr_last_l hx hb hJ hS (Or.inr rfl) hO1 (i := 0) vp00 dL_depot_9 (fun H2 locs2 hat hz2 hk2 hS => ?_)
    refine lv_goto (tgt := 25) hx hb dL_depot_10 (by decide) ?_
    refine lv_iconst (v := 0) hx hb dL_depot_25 (by decide) ?_
    exact vx_ret (W.iret hx hb hr (hS.endr (by rw [hxn]; rfl) ⟨⟨_, hT1.keptO ho hk2⟩, by rw [if_pos hxn]; exact oat_of hat⟩) hS.2.2 dL_depot_26)
theorem hx_come (v u : LV) (po : Int32) (nn : Int32) : xX5_come v u po nn = none ∨ (xX5_come v u po nn = some sIX ∧ (fX5_come v u po nn).1 = v) ∨ (xX5_come v u po nn = some sIA ∧ (fX5_come v u po nn).1 = v) := by
  unfold xX5_come fX5_come
  (repeat' split) <;> first | exact Or.inl rfl | exact Or.inr (Or.inl ⟨rfl, rfl⟩) | exact Or.inr (Or.inr (⟨rfl, rfl⟩))
set_option maxHeartbeats 4000000 in
set_option maxRecDepth 100000 in
theorem c_L_come (l : Launch) (hst : l.stackTraces = false) (D : va_G) (cI cJ : ClassId) (z0 : Nat) (A A2 : Nat → Nat) (hd : TDis z0 A A2) (v u : LV) (po : Int32) (nn : Int32) (oa : Nat) (y : Int64) (ho : OApart z0 A A2 oa) : Met l yL_come wsL_come ({ frames := 7, cells := 1, slots := 6, locals := 160 }) (HPc D cI cJ [.ref z0, .int po, .int nn, .ref oa] (fun H => TRB D cI z0 A A2 (v, u) H ∧ oat D cJ oa y H)) (tr_Q (some (.int (cod [sIX, sIA] (xX5_come v u po nn)))) (fun H => (∃ u2, TRB D cI z0 A A2 ((fX5_come v u po nn).1, u2) H) ∧ oat D cJ oa (if xX5_come v u po nn = none then (rX5_come v u po nn).toInt64 else y) H) (hOwn A A2 oa)) 1 6 (hOwn A A2 oa) := by
  refine met_of_vx (vx_ofWH (cc := cL_come) (maxL := 5) (ret := (some .int)) (hh := [(0, 10, 13, 21), (0, 10, 17, 13)]) (by decide) rfl ?_)
  intro p e s m args below meth c s₁ B hml hv
  obtain ⟨rfl, ⟨⟨⟨hT, hO⟩, hK⟩, hXK⟩, hJ, hH⟩ := hv
  have hx := B.exec
  have hb := B.bytes
  have hr := B.returns
  have hts := atoms_spec (ws := wsL_come) B.pre
  have hown : s.vm.findClass RL = some m.cls := findClass_of_methodNamed B.named
  have htab : c.exceptionTable.toList = [⟨0, 10, 13, 21⟩, ⟨0, 10, 17, 13⟩] := vx_table (x := yL_come) B (hts _ (List.mem_cons_self))
  have hl21 := hts (.classLink RL 21 "java/lang/IndexOutOfBoundsException") (by decide +kernel)
  have hl13 := hts (.classLink RL 13 "java/lang/IllegalArgumentException") (by decide +kernel)
  have hl := lv_entry ([.ref z0, .int po, .int nn, .ref oa]) (n := 5) (Nat.le_of_ble_eq_true rfl)
  rw [lg_entry_eq]
  generalize (lg_sl ([.ref z0, .int po, .int nn, .ref oa]) ++ List.replicate (5 - (lg_sl ([.ref z0, .int po, .int nn, .ref oa])).length) Slot.unset).toArray = ls at hl ⊢
  replace hl : lv_has ls 5 [(0, .ref z0), (1, .int po), (2, .int nn), (3, .ref oa)] := hl
  have hS : tr_S (hOwn A A2 oa) s.heap s.heap [] := tr_S.rf
  refine lv_aload_n hx hb dL_come_0 rfl (lv_at hl 3 rfl) ?_
  refine lv_iconst (v := 0) hx hb dL_come_1 (by decide) ?_
  refine lv_aload_n hx hb dL_come_2 rfl (lv_at hl 0 rfl) ?_
  refine lv_iload_n hx hb dL_come_3 rfl (lv_at hl 1 rfl) ?_
  refine lv_iload_n hx hb dL_come_4 rfl (lv_at hl 2 rfl) ?_
  refine tr_xi (vx_runV (As := [.int po, .int nn]) (rest := [.int 0, .ref oa]) ⟨hx, hb, hml, hown, hts⟩ (c_X5_come l hst D cI z0 A A2 hd v u po nn) (cwV 2 hts gL_come_X5_come rfl rfl rfl (by decide +kernel) ⟨Nat.le_of_ble_eq_true rfl, Nat.le_of_ble_eq_true rfl⟩) (tr_preVX hK hXK hT.1 rfl hT) rfl rfl hl.1 rfl (lv_room (Nat.le_of_ble_eq_true rfl)) dL_come_5 ⟨Nat.le_of_ble_eq_true rfl, Nat.le_of_ble_eq_true rfl⟩) hS (fun _ h => Or.inl h) (fun _ h => Or.inl h) (fun E ce q9 H1 locs1 hxe hz hk hS hcell hcv hcl => ?_) (fun H1 locs1 hxn hp hz hk hS => ?_)
  · have hT1 := hT.keptAll hk
    have hO1 : oat D cJ oa y H1 := hO.kept (hk _ hO.lt)
    rcases hx_come v u po nn with hq | ⟨hq, hv⟩ | ⟨hq, hv⟩
    · rw [hq] at hxe; cases hxe
    · rw [hq] at hxe
      cases hxe
      refine vx_catch (name := "java/lang/IndexOutOfBoundsException") (E := "java/lang/IndexOutOfBoundsException") hown [] ⟨0, 10, 13, 21⟩ [⟨0, 10, 17, 13⟩] htab (fun z hz => absurd hz List.not_mem_nil) rfl (by decide) hl21 (va_tabs (tr_cst_t _ (by decide +kernel)) rfl (hH.1 (.castable "java/lang/IndexOutOfBoundsException" "java/lang/IndexOutOfBoundsException") (by decide +kernel))) hcell hcv hcl ?_
      refine lv_astore (lv' := [(4, .ref q9), (0, .ref z0), (1, .int po), (2, .int nn), (3, .ref oa)]) hx hb dL_come_13 hl (by decide) rfl (fun ls hl => ?_)
      refine lv_iconst (v := 1) hx hb dL_come_15 (by decide) ?_
      exact vx_ret (W.iret hx hb hr (hS.endr (by rw [hq]; decide +kernel) ⟨⟨u, by rw [hv]; exact hT1⟩, by rw [hq, if_neg (fun z => by cases z)]; exact hO1⟩) hS.2.2 dL_come_16)
    · rw [hq] at hxe
      cases hxe
      refine vx_catch (name := "java/lang/IllegalArgumentException") (E := "java/lang/IllegalArgumentException") hown [⟨0, 10, 13, 21⟩] ⟨0, 10, 17, 13⟩ [] htab (fun z hz => by rw [List.mem_singleton.mp hz]; exact Or.inr ⟨by decide, _, hl21, hH.2 ("java/lang/IllegalArgumentException", "java/lang/IndexOutOfBoundsException") (by decide +kernel)⟩) rfl (by decide) hl13 (va_tabs (tr_cst_t _ (by decide +kernel)) rfl (hH.1 (.castable "java/lang/IllegalArgumentException" "java/lang/IllegalArgumentException") (by decide +kernel))) hcell hcv hcl ?_
      refine lv_astore (lv' := [(4, .ref q9), (0, .ref z0), (1, .int po), (2, .int nn), (3, .ref oa)]) hx hb dL_come_17 hl (by decide) rfl (fun ls hl => ?_)
      refine lv_iconst (v := 2) hx hb dL_come_19 (by decide) ?_
      exact vx_ret (W.iret hx hb hr (hS.endr (by rw [hq]; decide +kernel) ⟨⟨u, by rw [hv]; exact hT1⟩, by rw [hq, if_neg (fun z => by cases z)]; exact hO1⟩) hS.2.2 dL_come_20)
  · have hT1 : TRB D cI z0 A A2 ((fX5_come v u po nn).1, (fX5_come v u po nn).2) H1 := hp
    have hO1 : oat D cJ oa y H1 := hO.kept (hk _ hO.lt ho.own)
    refine lv_i2l hx hb dL_come_8 rfl ?_
    refine tr_last_l hx hb hJ hS (Or.inr rfl) hO1 (i := 0) vp00 dL_come_9 (fun H2 locs2 hat hz2 hk2 hS => ?_)
    refine lv_goto (tgt := 21) hx hb dL_come_10 (by decide) ?_
    refine lv_iconst (v := 0) hx hb dL_come_21 (by decide) ?_
    exact vx_ret (W.iret hx hb hr (hS.endr (by rw [hxn]; rfl) ⟨⟨_, hT1.keptO ho hk2⟩, by rw [if_pos hxn]; exact oat_of hat⟩) hS.2.2 dL_come_22)
theorem hx_put (v u : LV) (po : Int32) (up : Int32) (wr : Int32) : xX5_put v u po up wr = none ∨ (xX5_put v u po up wr = some sIX ∧ (fX5_put v u po up wr).1 = v) ∨ (xX5_put v u po up wr = some sIA ∧ (fX5_put v u po up wr).1 = v) ∨ (xX5_put v u po up wr = some sIS ∧ (fX5_put v u po up wr).1 = v) := by
  unfold xX5_put fX5_put
  (repeat' split) <;> first | exact Or.inl rfl | exact Or.inr (Or.inl ⟨rfl, rfl⟩) | exact Or.inr (Or.inr (Or.inl ⟨rfl, rfl⟩)) | exact Or.inr (Or.inr (Or.inr (⟨rfl, rfl⟩)))
set_option maxHeartbeats 4000000 in
set_option maxRecDepth 100000 in
theorem c_L_put (l : Launch) (hst : l.stackTraces = false) (D : va_G) (cI cJ : ClassId) (z0 : Nat) (A A2 : Nat → Nat) (hd : TDis z0 A A2) (v u : LV) (po : Int32) (up : Int32) (wr : Int32) (oa : Nat) (y : Int64) (ho : OApart z0 A A2 oa) : Met l yL_put wsL_put ({ frames := 7, cells := 1, slots := 6, locals := 160 }) (HPc D cI cJ [.ref z0, .int po, .int up, .int wr, .ref oa] (fun H => TRB D cI z0 A A2 (v, u) H ∧ oat D cJ oa y H)) (tr_Q (some (.int (cod [sIX, sIA, sIS] (xX5_put v u po up wr)))) (fun H => (∃ u2, TRB D cI z0 A A2 ((fX5_put v u po up wr).1, u2) H) ∧ oat D cJ oa (if xX5_put v u po up wr = none then (rX5_put v u po up wr).toInt64 else y) H) (hOwn A A2 oa)) 1 6 (hOwn A A2 oa) := by
  refine met_of_vx (vx_ofWH (cc := cL_put) (maxL := 6) (ret := (some .int)) (hh := [(0, 12, 15, 21), (0, 12, 19, 13), (0, 12, 23, 15)]) (by decide) rfl ?_)
  intro p e s m args below meth c s₁ B hml hv
  obtain ⟨rfl, ⟨⟨⟨hT, hO⟩, hK⟩, hXK⟩, hJ, hH⟩ := hv
  have hx := B.exec
  have hb := B.bytes
  have hr := B.returns
  have hts := atoms_spec (ws := wsL_put) B.pre
  have hown : s.vm.findClass RL = some m.cls := findClass_of_methodNamed B.named
  have htab : c.exceptionTable.toList = [⟨0, 12, 15, 21⟩, ⟨0, 12, 19, 13⟩, ⟨0, 12, 23, 15⟩] := vx_table (x := yL_put) B (hts _ (List.mem_cons_self))
  have hl21 := hts (.classLink RL 21 "java/lang/IndexOutOfBoundsException") (by decide +kernel)
  have hl13 := hts (.classLink RL 13 "java/lang/IllegalArgumentException") (by decide +kernel)
  have hl15 := hts (.classLink RL 15 "java/lang/IllegalStateException") (by decide +kernel)
  have hl := lv_entry ([.ref z0, .int po, .int up, .int wr, .ref oa]) (n := 6) (Nat.le_of_ble_eq_true rfl)
  rw [lg_entry_eq]
  generalize (lg_sl ([.ref z0, .int po, .int up, .int wr, .ref oa]) ++ List.replicate (6 - (lg_sl ([.ref z0, .int po, .int up, .int wr, .ref oa])).length) Slot.unset).toArray = ls at hl ⊢
  replace hl : lv_has ls 6 [(0, .ref z0), (1, .int po), (2, .int up), (3, .int wr), (4, .ref oa)] := hl
  have hS : tr_S (hOwn A A2 oa) s.heap s.heap [] := tr_S.rf
  refine lv_aload hx hb dL_put_0 (lv_at hl 4 rfl) ?_
  refine lv_iconst (v := 0) hx hb dL_put_2 (by decide) ?_
  refine lv_aload_n hx hb dL_put_3 rfl (lv_at hl 0 rfl) ?_
  refine lv_iload_n hx hb dL_put_4 rfl (lv_at hl 1 rfl) ?_
  refine lv_iload_n hx hb dL_put_5 rfl (lv_at hl 2 rfl) ?_
  refine lv_iload_n hx hb dL_put_6 rfl (lv_at hl 3 rfl) ?_
  refine tr_xi (vx_runV (As := [.int po, .int up, .int wr]) (rest := [.int 0, .ref oa]) ⟨hx, hb, hml, hown, hts⟩ (c_X5_put l hst D cI z0 A A2 hd v u po up wr) (cwV 3 hts gL_put_X5_put rfl rfl rfl (by decide +kernel) ⟨Nat.le_of_ble_eq_true rfl, Nat.le_of_ble_eq_true rfl⟩) (tr_preVX hK hXK hT.1 rfl hT) rfl rfl hl.1 rfl (lv_room (Nat.le_of_ble_eq_true rfl)) dL_put_7 ⟨Nat.le_of_ble_eq_true rfl, Nat.le_of_ble_eq_true rfl⟩) hS (fun _ h => Or.inl h) (fun _ h => Or.inl h) (fun E ce q9 H1 locs1 hxe hz hk hS hcell hcv hcl => ?_) (fun H1 locs1 hxn hp hz hk hS => ?_)
  · have hT1 := hT.keptAll hk
    have hO1 : oat D cJ oa y H1 := hO.kept (hk _ hO.lt)
    rcases hx_put v u po up wr with hq | ⟨hq, hv⟩ | ⟨hq, hv⟩ | ⟨hq, hv⟩
    · rw [hq] at hxe; cases hxe
    · rw [hq] at hxe
      cases hxe
      refine vx_catch (name := "java/lang/IndexOutOfBoundsException") (E := "java/lang/IndexOutOfBoundsException") hown [] ⟨0, 12, 15, 21⟩ [⟨0, 12, 19, 13⟩, ⟨0, 12, 23, 15⟩] htab (fun z hz => absurd hz List.not_mem_nil) rfl (by decide) hl21 (va_tabs (tr_cst_t _ (by decide +kernel)) rfl (hH.1 (.castable "java/lang/IndexOutOfBoundsException" "java/lang/IndexOutOfBoundsException") (by decide +kernel))) hcell hcv hcl ?_
      refine lv_astore (lv' := [(5, .ref q9), (0, .ref z0), (1, .int po), (2, .int up), (3, .int wr), (4, .ref oa)]) hx hb dL_put_15 hl (by decide) rfl (fun ls hl => ?_)
      refine lv_iconst (v := 1) hx hb dL_put_17 (by decide) ?_
      exact vx_ret (W.iret hx hb hr (hS.endr (by rw [hq]; decide +kernel) ⟨⟨u, by rw [hv]; exact hT1⟩, by rw [hq, if_neg (fun z => by cases z)]; exact hO1⟩) hS.2.2 dL_put_18)
    · rw [hq] at hxe
      cases hxe
      refine vx_catch (name := "java/lang/IllegalArgumentException") (E := "java/lang/IllegalArgumentException") hown [⟨0, 12, 15, 21⟩] ⟨0, 12, 19, 13⟩ [⟨0, 12, 23, 15⟩] htab (fun z hz => by rw [List.mem_singleton.mp hz]; exact Or.inr ⟨by decide, _, hl21, hH.2 ("java/lang/IllegalArgumentException", "java/lang/IndexOutOfBoundsException") (by decide +kernel)⟩) rfl (by decide) hl13 (va_tabs (tr_cst_t _ (by decide +kernel)) rfl (hH.1 (.castable "java/lang/IllegalArgumentException" "java/lang/IllegalArgumentException") (by decide +kernel))) hcell hcv hcl ?_
      refine lv_astore (lv' := [(5, .ref q9), (0, .ref z0), (1, .int po), (2, .int up), (3, .int wr), (4, .ref oa)]) hx hb dL_put_19 hl (by decide) rfl (fun ls hl => ?_)
      refine lv_iconst (v := 2) hx hb dL_put_21 (by decide) ?_
      exact vx_ret (W.iret hx hb hr (hS.endr (by rw [hq]; decide +kernel) ⟨⟨u, by rw [hv]; exact hT1⟩, by rw [hq, if_neg (fun z => by cases z)]; exact hO1⟩) hS.2.2 dL_put_22)
    · rw [hq] at hxe
      cases hxe
      refine vx_catch (name := "java/lang/IllegalStateException") (E := "java/lang/IllegalStateException") hown [⟨0, 12, 15, 21⟩, ⟨0, 12, 19, 13⟩] ⟨0, 12, 23, 15⟩ [] htab (fun z hz => by
        rcases List.mem_cons.mp hz with e | hz
        · rw [e]; exact Or.inr ⟨by decide, _, hl21, hH.2 ("java/lang/IllegalStateException", "java/lang/IndexOutOfBoundsException") (by decide +kernel)⟩
        · rw [List.mem_singleton.mp hz]; exact Or.inr ⟨by decide, _, hl13, hH.2 ("java/lang/IllegalStateException", "java/lang/IllegalArgumentException") (by decide +kernel)⟩) rfl (by decide) hl15 (va_tabs (tr_cst_t _ (by decide +kernel)) rfl (hH.1 (.castable "java/lang/IllegalStateException" "java/lang/IllegalStateException") (by decide +kernel))) hcell hcv hcl ?_
      refine lv_astore (lv' := [(5, .ref q9), (0, .ref z0), (1, .int po), (2, .int up), (3, .int wr), (4, .ref oa)]) hx hb dL_put_23 hl (by decide) rfl (fun ls hl => ?_)
      refine lv_iconst (v := 3) hx hb dL_put_25 (by decide) ?_
      exact vx_ret (W.iret hx hb hr (hS.endr (by rw [hq]; decide +kernel) ⟨⟨u, by rw [hv]; exact hT1⟩, by rw [hq, if_neg (fun z => by cases z)]; exact hO1⟩) hS.2.2 dL_put_26)
  · have hT1 : TRB D cI z0 A A2 ((fX5_put v u po up wr).1, (fX5_put v u po up wr).2) H1 := hp
    have hO1 : oat D cJ oa y H1 := hO.kept (hk _ hO.lt ho.own)
    refine lv_i2l hx hb dL_put_10 rfl ?_
    refine tr_last_l hx hb hJ hS (Or.inr rfl) hO1 (i := 0) vp00 dL_put_11 (fun H2 locs2 hat hz2 hk2 hS => ?_)
    refine lv_goto (tgt := 27) hx hb dL_put_12 (by decide) ?_
    refine lv_iconst (v := 0) hx hb dL_put_27 (by decide) ?_
    exact vx_ret (W.iret hx hb hr (hS.endr (by rw [hxn]; rfl) ⟨⟨_, hT1.keptO ho hk2⟩, by rw [if_pos hxn]; exact oat_of hat⟩) hS.2.2 dL_put_28)
theorem hx_pole (v u : LV) (po : Int32) (wh : Int32) : xX5_pole v u po wh = none ∨ (xX5_pole v u po wh = some sIX ∧ (fX5_pole v u po wh).1 = v) := by
  unfold xX5_pole fX5_pole
  (repeat' split) <;> first | exact Or.inl rfl | exact Or.inr (⟨rfl, rfl⟩)
set_option maxHeartbeats 4000000 in
set_option maxRecDepth 100000 in
theorem c_L_pole (l : Launch) (hst : l.stackTraces = false) (D : va_G) (cI cJ : ClassId) (z0 : Nat) (A A2 : Nat → Nat) (hd : TDis z0 A A2) (v u : LV) (po : Int32) (wh : Int32) (oa : Nat) (y : Int64) (ho : OApart z0 A A2 oa) : Met l yL_pole wsL_pole ({ frames := 7, cells := 1, slots := 6, locals := 160 }) (HPc D cI cJ [.ref z0, .int po, .int wh, .ref oa] (fun H => TRB D cI z0 A A2 (v, u) H ∧ oat D cJ oa y H)) (tr_Q (some (.int (cod [sIX] (xX5_pole v u po wh)))) (fun H => (∃ u2, TRB D cI z0 A A2 ((fX5_pole v u po wh).1, u2) H) ∧ oat D cJ oa (if xX5_pole v u po wh = none then (rX5_pole v u po wh).toInt64 else y) H) (hOwn A A2 oa)) 1 6 (hOwn A A2 oa) := by
  refine met_of_vx (vx_ofWH (cc := cL_pole) (maxL := 5) (ret := (some .int)) (hh := [(0, 10, 13, 21)]) (by decide) rfl ?_)
  intro p e s m args below meth c s₁ B hml hv
  obtain ⟨rfl, ⟨⟨⟨hT, hO⟩, hK⟩, hXK⟩, hJ, hH⟩ := hv
  have hx := B.exec
  have hb := B.bytes
  have hr := B.returns
  have hts := atoms_spec (ws := wsL_pole) B.pre
  have hown : s.vm.findClass RL = some m.cls := findClass_of_methodNamed B.named
  have htab : c.exceptionTable.toList = [⟨0, 10, 13, 21⟩] := vx_table (x := yL_pole) B (hts _ (List.mem_cons_self))
  have hl21 := hts (.classLink RL 21 "java/lang/IndexOutOfBoundsException") (by decide +kernel)
  have hl := lv_entry ([.ref z0, .int po, .int wh, .ref oa]) (n := 5) (Nat.le_of_ble_eq_true rfl)
  rw [lg_entry_eq]
  generalize (lg_sl ([.ref z0, .int po, .int wh, .ref oa]) ++ List.replicate (5 - (lg_sl ([.ref z0, .int po, .int wh, .ref oa])).length) Slot.unset).toArray = ls at hl ⊢
  replace hl : lv_has ls 5 [(0, .ref z0), (1, .int po), (2, .int wh), (3, .ref oa)] := hl
  have hS : tr_S (hOwn A A2 oa) s.heap s.heap [] := tr_S.rf
  refine lv_aload_n hx hb dL_pole_0 rfl (lv_at hl 3 rfl) ?_
  refine lv_iconst (v := 0) hx hb dL_pole_1 (by decide) ?_
  refine lv_aload_n hx hb dL_pole_2 rfl (lv_at hl 0 rfl) ?_
  refine lv_iload_n hx hb dL_pole_3 rfl (lv_at hl 1 rfl) ?_
  refine lv_iload_n hx hb dL_pole_4 rfl (lv_at hl 2 rfl) ?_
  refine tr_xi (vx_runV (As := [.int po, .int wh]) (rest := [.int 0, .ref oa]) ⟨hx, hb, hml, hown, hts⟩ (c_X5_pole l hst D cI z0 A A2 hd v u po wh) (cwV 2 hts gL_pole_X5_pole rfl rfl rfl (by decide +kernel) ⟨Nat.le_of_ble_eq_true rfl, Nat.le_of_ble_eq_true rfl⟩) (tr_preVX hK hXK hT.1 rfl hT) rfl rfl hl.1 rfl (lv_room (Nat.le_of_ble_eq_true rfl)) dL_pole_5 ⟨Nat.le_of_ble_eq_true rfl, Nat.le_of_ble_eq_true rfl⟩) hS (fun _ h => Or.inl h) (fun _ h => Or.inl h) (fun E ce q9 H1 locs1 hxe hz hk hS hcell hcv hcl => ?_) (fun H1 locs1 hxn hp hz hk hS => ?_)
  · have hT1 := hT.keptAll hk
    have hO1 : oat D cJ oa y H1 := hO.kept (hk _ hO.lt)
    rcases hx_pole v u po wh with hq | ⟨hq, hv⟩
    · rw [hq] at hxe; cases hxe
    · rw [hq] at hxe
      cases hxe
      refine vx_catch (name := "java/lang/IndexOutOfBoundsException") (E := "java/lang/IndexOutOfBoundsException") hown [] ⟨0, 10, 13, 21⟩ [] htab (fun z hz => absurd hz List.not_mem_nil) rfl (by decide) hl21 (va_tabs (tr_cst_t _ (by decide +kernel)) rfl (hH.1 (.castable "java/lang/IndexOutOfBoundsException" "java/lang/IndexOutOfBoundsException") (by decide +kernel))) hcell hcv hcl ?_
      refine lv_astore (lv' := [(4, .ref q9), (0, .ref z0), (1, .int po), (2, .int wh), (3, .ref oa)]) hx hb dL_pole_13 hl (by decide) rfl (fun ls hl => ?_)
      refine lv_iconst (v := 1) hx hb dL_pole_15 (by decide) ?_
      exact vx_ret (W.iret hx hb hr (hS.endr (by rw [hq]; decide +kernel) ⟨⟨u, by rw [hv]; exact hT1⟩, by rw [hq, if_neg (fun z => by cases z)]; exact hO1⟩) hS.2.2 dL_pole_16)
  · have hT1 : TRB D cI z0 A A2 ((fX5_pole v u po wh).1, (fX5_pole v u po wh).2) H1 := hp
    have hO1 : oat D cJ oa y H1 := hO.kept (hk _ hO.lt ho.own)
    refine lv_i2l hx hb dL_pole_8 rfl ?_
    refine tr_last_l hx hb hJ hS (Or.inr rfl) hO1 (i := 0) vp00 dL_pole_9 (fun H2 locs2 hat hz2 hk2 hS => ?_)
    refine lv_goto (tgt := 17) hx hb dL_pole_10 (by decide) ?_
    refine lv_iconst (v := 0) hx hb dL_pole_17 (by decide) ?_
    exact vx_ret (W.iret hx hb hr (hS.endr (by rw [hxn]; rfl) ⟨⟨_, hT1.keptO ho hk2⟩, by rw [if_pos hxn]; exact oat_of hat⟩) hS.2.2 dL_pole_18)
theorem hx_sectionOf (v u : LV) (sp : Int32) : xX5_sectionOf v u sp = none ∨ (xX5_sectionOf v u sp = some sIX ∧ (fX5_sectionOf v u sp).1 = v) := by
  unfold xX5_sectionOf fX5_sectionOf
  (repeat' split) <;> first | exact Or.inl rfl | exact Or.inr (⟨rfl, rfl⟩)
set_option maxHeartbeats 4000000 in
set_option maxRecDepth 100000 in
theorem c_L_sectionOf (l : Launch) (hst : l.stackTraces = false) (D : va_G) (cI cJ : ClassId) (z0 : Nat) (A A2 : Nat → Nat) (hd : TDis z0 A A2) (v u : LV) (sp : Int32) (oa : Nat) (y : Int64) (ho : OApart z0 A A2 oa) : Met l yL_sectionOf wsL_sectionOf ({ frames := 7, cells := 1, slots := 6, locals := 160 }) (HPc D cI cJ [.ref z0, .int sp, .ref oa] (fun H => TRB D cI z0 A A2 (v, u) H ∧ oat D cJ oa y H)) (tr_Q (some (.int (cod [sIX] (xX5_sectionOf v u sp)))) (fun H => (∃ u2, TRB D cI z0 A A2 ((fX5_sectionOf v u sp).1, u2) H) ∧ oat D cJ oa (if xX5_sectionOf v u sp = none then (rX5_sectionOf v u sp).toInt64 else y) H) (hOwn A A2 oa)) 1 6 (hOwn A A2 oa) := by
  refine met_of_vx (vx_ofWH (cc := cL_sectionOf) (maxL := 4) (ret := (some .int)) (hh := [(0, 9, 12, 21)]) (by decide) rfl ?_)
  intro p e s m args below meth c s₁ B hml hv
  obtain ⟨rfl, ⟨⟨⟨hT, hO⟩, hK⟩, hXK⟩, hJ, hH⟩ := hv
  have hx := B.exec
  have hb := B.bytes
  have hr := B.returns
  have hts := atoms_spec (ws := wsL_sectionOf) B.pre
  have hown : s.vm.findClass RL = some m.cls := findClass_of_methodNamed B.named
  have htab : c.exceptionTable.toList = [⟨0, 9, 12, 21⟩] := vx_table (x := yL_sectionOf) B (hts _ (List.mem_cons_self))
  have hl21 := hts (.classLink RL 21 "java/lang/IndexOutOfBoundsException") (by decide +kernel)
  have hl := lv_entry ([.ref z0, .int sp, .ref oa]) (n := 4) (Nat.le_of_ble_eq_true rfl)
  rw [lg_entry_eq]
  generalize (lg_sl ([.ref z0, .int sp, .ref oa]) ++ List.replicate (4 - (lg_sl ([.ref z0, .int sp, .ref oa])).length) Slot.unset).toArray = ls at hl ⊢
  replace hl : lv_has ls 4 [(0, .ref z0), (1, .int sp), (2, .ref oa)] := hl
  have hS : tr_S (hOwn A A2 oa) s.heap s.heap [] := tr_S.rf
  refine lv_aload_n hx hb dL_sectionOf_0 rfl (lv_at hl 2 rfl) ?_
  refine lv_iconst (v := 0) hx hb dL_sectionOf_1 (by decide) ?_
  refine lv_aload_n hx hb dL_sectionOf_2 rfl (lv_at hl 0 rfl) ?_
  refine lv_iload_n hx hb dL_sectionOf_3 rfl (lv_at hl 1 rfl) ?_
  refine tr_xi (vx_runV (As := [.int sp]) (rest := [.int 0, .ref oa]) ⟨hx, hb, hml, hown, hts⟩ (c_X5_sectionOf l hst D cI z0 A A2 hd v u sp) (cwV 1 hts gL_sectionOf_X5_sectionOf rfl rfl rfl (by decide +kernel) ⟨Nat.le_of_ble_eq_true rfl, Nat.le_of_ble_eq_true rfl⟩) (tr_preVX hK hXK hT.1 rfl hT) rfl rfl hl.1 rfl (lv_room (Nat.le_of_ble_eq_true rfl)) dL_sectionOf_4 ⟨Nat.le_of_ble_eq_true rfl, Nat.le_of_ble_eq_true rfl⟩) hS (fun _ h => Or.inl h) (fun _ h => Or.inl h) (fun E ce q9 H1 locs1 hxe hz hk hS hcell hcv hcl => ?_) (fun H1 locs1 hxn hp hz hk hS => ?_)
  · have hT1 := hT.keptAll hk
    have hO1 : oat D cJ oa y H1 := hO.kept (hk _ hO.lt)
    rcases hx_sectionOf v u sp with hq | ⟨hq, hv⟩
    · rw [hq] at hxe; cases hxe
    · rw [hq] at hxe
      cases hxe
      refine vx_catch (name := "java/lang/IndexOutOfBoundsException") (E := "java/lang/IndexOutOfBoundsException") hown [] ⟨0, 9, 12, 21⟩ [] htab (fun z hz => absurd hz List.not_mem_nil) rfl (by decide) hl21 (va_tabs (tr_cst_t _ (by decide +kernel)) rfl (hH.1 (.castable "java/lang/IndexOutOfBoundsException" "java/lang/IndexOutOfBoundsException") (by decide +kernel))) hcell hcv hcl ?_
      refine lv_astore_n (lv' := [(3, .ref q9), (0, .ref z0), (1, .int sp), (2, .ref oa)]) hx hb dL_sectionOf_12 rfl hl (by decide) rfl (fun ls hl => ?_)
      refine lv_iconst (v := 1) hx hb dL_sectionOf_13 (by decide) ?_
      exact vx_ret (W.iret hx hb hr (hS.endr (by rw [hq]; decide +kernel) ⟨⟨u, by rw [hv]; exact hT1⟩, by rw [hq, if_neg (fun z => by cases z)]; exact hO1⟩) hS.2.2 dL_sectionOf_14)
  · have hT1 : TRB D cI z0 A A2 ((fX5_sectionOf v u sp).1, (fX5_sectionOf v u sp).2) H1 := hp
    have hO1 : oat D cJ oa y H1 := hO.kept (hk _ hO.lt ho.own)
    refine lv_i2l hx hb dL_sectionOf_7 rfl ?_
    refine tr_last_l hx hb hJ hS (Or.inr rfl) hO1 (i := 0) vp00 dL_sectionOf_8 (fun H2 locs2 hat hz2 hk2 hS => ?_)
    refine lv_goto (tgt := 15) hx hb dL_sectionOf_9 (by decide) ?_
    refine lv_iconst (v := 0) hx hb dL_sectionOf_15 (by decide) ?_
    exact vx_ret (W.iret hx hb hr (hS.endr (by rw [hxn]; rfl) ⟨⟨_, hT1.keptO ho hk2⟩, by rw [if_pos hxn]; exact oat_of hat⟩) hS.2.2 dL_sectionOf_16)
theorem hx_section (v u : LV) (q : Int32) (wh : Int32) : xX5_section v u q wh = none ∨ (xX5_section v u q wh = some sIX ∧ (fX5_section v u q wh).1 = v) := by
  unfold xX5_section fX5_section
  (repeat' split) <;> first | exact Or.inl rfl | exact Or.inr (⟨rfl, rfl⟩)
set_option maxHeartbeats 4000000 in
set_option maxRecDepth 100000 in
theorem c_L_section (l : Launch) (hst : l.stackTraces = false) (D : va_G) (cI cJ : ClassId) (z0 : Nat) (A A2 : Nat → Nat) (hd : TDis z0 A A2) (v u : LV) (q : Int32) (wh : Int32) (oa : Nat) (y : Int64) (ho : OApart z0 A A2 oa) : Met l yL_section wsL_section ({ frames := 7, cells := 1, slots := 6, locals := 160 }) (HPc D cI cJ [.ref z0, .int q, .int wh, .ref oa] (fun H => TRB D cI z0 A A2 (v, u) H ∧ oat D cJ oa y H)) (tr_Q (some (.int (cod [sIX] (xX5_section v u q wh)))) (fun H => (∃ u2, TRB D cI z0 A A2 ((fX5_section v u q wh).1, u2) H) ∧ oat D cJ oa (if xX5_section v u q wh = none then (rX5_section v u q wh).toInt64 else y) H) (hOwn A A2 oa)) 1 6 (hOwn A A2 oa) := by
  refine met_of_vx (vx_ofWH (cc := cL_section) (maxL := 5) (ret := (some .int)) (hh := [(0, 10, 13, 21)]) (by decide) rfl ?_)
  intro p e s m args below meth c s₁ B hml hv
  obtain ⟨rfl, ⟨⟨⟨hT, hO⟩, hK⟩, hXK⟩, hJ, hH⟩ := hv
  have hx := B.exec
  have hb := B.bytes
  have hr := B.returns
  have hts := atoms_spec (ws := wsL_section) B.pre
  have hown : s.vm.findClass RL = some m.cls := findClass_of_methodNamed B.named
  have htab : c.exceptionTable.toList = [⟨0, 10, 13, 21⟩] := vx_table (x := yL_section) B (hts _ (List.mem_cons_self))
  have hl21 := hts (.classLink RL 21 "java/lang/IndexOutOfBoundsException") (by decide +kernel)
  have hl := lv_entry ([.ref z0, .int q, .int wh, .ref oa]) (n := 5) (Nat.le_of_ble_eq_true rfl)
  rw [lg_entry_eq]
  generalize (lg_sl ([.ref z0, .int q, .int wh, .ref oa]) ++ List.replicate (5 - (lg_sl ([.ref z0, .int q, .int wh, .ref oa])).length) Slot.unset).toArray = ls at hl ⊢
  replace hl : lv_has ls 5 [(0, .ref z0), (1, .int q), (2, .int wh), (3, .ref oa)] := hl
  have hS : tr_S (hOwn A A2 oa) s.heap s.heap [] := tr_S.rf
  refine lv_aload_n hx hb dL_section_0 rfl (lv_at hl 3 rfl) ?_
  refine lv_iconst (v := 0) hx hb dL_section_1 (by decide) ?_
  refine lv_aload_n hx hb dL_section_2 rfl (lv_at hl 0 rfl) ?_
  refine lv_iload_n hx hb dL_section_3 rfl (lv_at hl 1 rfl) ?_
  refine lv_iload_n hx hb dL_section_4 rfl (lv_at hl 2 rfl) ?_
  refine tr_xi (vx_runV (As := [.int q, .int wh]) (rest := [.int 0, .ref oa]) ⟨hx, hb, hml, hown, hts⟩ (c_X5_section l hst D cI z0 A A2 hd v u q wh) (cwV 2 hts gL_section_X5_section rfl rfl rfl (by decide +kernel) ⟨Nat.le_of_ble_eq_true rfl, Nat.le_of_ble_eq_true rfl⟩) (tr_preVX hK hXK hT.1 rfl hT) rfl rfl hl.1 rfl (lv_room (Nat.le_of_ble_eq_true rfl)) dL_section_5 ⟨Nat.le_of_ble_eq_true rfl, Nat.le_of_ble_eq_true rfl⟩) hS (fun _ h => Or.inl h) (fun _ h => Or.inl h) (fun E ce q9 H1 locs1 hxe hz hk hS hcell hcv hcl => ?_) (fun H1 locs1 hxn hp hz hk hS => ?_)
  · have hT1 := hT.keptAll hk
    have hO1 : oat D cJ oa y H1 := hO.kept (hk _ hO.lt)
    rcases hx_section v u q wh with hq | ⟨hq, hv⟩
    · rw [hq] at hxe; cases hxe
    · rw [hq] at hxe
      cases hxe
      refine vx_catch (name := "java/lang/IndexOutOfBoundsException") (E := "java/lang/IndexOutOfBoundsException") hown [] ⟨0, 10, 13, 21⟩ [] htab (fun z hz => absurd hz List.not_mem_nil) rfl (by decide) hl21 (va_tabs (tr_cst_t _ (by decide +kernel)) rfl (hH.1 (.castable "java/lang/IndexOutOfBoundsException" "java/lang/IndexOutOfBoundsException") (by decide +kernel))) hcell hcv hcl ?_
      refine lv_astore (lv' := [(4, .ref q9), (0, .ref z0), (1, .int q), (2, .int wh), (3, .ref oa)]) hx hb dL_section_13 hl (by decide) rfl (fun ls hl => ?_)
      refine lv_iconst (v := 1) hx hb dL_section_15 (by decide) ?_
      exact vx_ret (W.iret hx hb hr (hS.endr (by rw [hq]; decide +kernel) ⟨⟨u, by rw [hv]; exact hT1⟩, by rw [hq, if_neg (fun z => by cases z)]; exact hO1⟩) hS.2.2 dL_section_16)
  · have hT1 : TRB D cI z0 A A2 ((fX5_section v u q wh).1, (fX5_section v u q wh).2) H1 := hp
    have hO1 : oat D cJ oa y H1 := hO.kept (hk _ hO.lt ho.own)
    refine lv_i2l hx hb dL_section_8 rfl ?_
    refine tr_last_l hx hb hJ hS (Or.inr rfl) hO1 (i := 0) vp00 dL_section_9 (fun H2 locs2 hat hz2 hk2 hS => ?_)
    refine lv_goto (tgt := 17) hx hb dL_section_10 (by decide) ?_
    refine lv_iconst (v := 0) hx hb dL_section_17 (by decide) ?_
    exact vx_ret (W.iret hx hb hr (hS.endr (by rw [hxn]; rfl) ⟨⟨_, hT1.keptO ho hk2⟩, by rw [if_pos hxn]; exact oat_of hat⟩) hS.2.2 dL_section_18)
theorem hx_car (v u : LV) (cr : Int32) (wh : Int32) : xX5_car v u cr wh = none ∨ (xX5_car v u cr wh = some sIX ∧ (fX5_car v u cr wh).1 = v) := by
  unfold xX5_car fX5_car
  (repeat' split) <;> first | exact Or.inl rfl | exact Or.inr (⟨rfl, rfl⟩)
set_option maxHeartbeats 4000000 in
set_option maxRecDepth 100000 in
theorem c_L_car (l : Launch) (hst : l.stackTraces = false) (D : va_G) (cI cJ : ClassId) (z0 : Nat) (A A2 : Nat → Nat) (hd : TDis z0 A A2) (v u : LV) (cr : Int32) (wh : Int32) (oa : Nat) (y : Int64) (ho : OApart z0 A A2 oa) : Met l yL_car wsL_car ({ frames := 7, cells := 1, slots := 6, locals := 160 }) (HPc D cI cJ [.ref z0, .int cr, .int wh, .ref oa] (fun H => TRB D cI z0 A A2 (v, u) H ∧ oat D cJ oa y H)) (tr_Q (some (.int (cod [sIX] (xX5_car v u cr wh)))) (fun H => (∃ u2, TRB D cI z0 A A2 ((fX5_car v u cr wh).1, u2) H) ∧ oat D cJ oa (if xX5_car v u cr wh = none then (rX5_car v u cr wh).toInt64 else y) H) (hOwn A A2 oa)) 1 6 (hOwn A A2 oa) := by
  refine met_of_vx (vx_ofWH (cc := cL_car) (maxL := 5) (ret := (some .int)) (hh := [(0, 10, 13, 21)]) (by decide) rfl ?_)
  intro p e s m args below meth c s₁ B hml hv
  obtain ⟨rfl, ⟨⟨⟨hT, hO⟩, hK⟩, hXK⟩, hJ, hH⟩ := hv
  have hx := B.exec
  have hb := B.bytes
  have hr := B.returns
  have hts := atoms_spec (ws := wsL_car) B.pre
  have hown : s.vm.findClass RL = some m.cls := findClass_of_methodNamed B.named
  have htab : c.exceptionTable.toList = [⟨0, 10, 13, 21⟩] := vx_table (x := yL_car) B (hts _ (List.mem_cons_self))
  have hl21 := hts (.classLink RL 21 "java/lang/IndexOutOfBoundsException") (by decide +kernel)
  have hl := lv_entry ([.ref z0, .int cr, .int wh, .ref oa]) (n := 5) (Nat.le_of_ble_eq_true rfl)
  rw [lg_entry_eq]
  generalize (lg_sl ([.ref z0, .int cr, .int wh, .ref oa]) ++ List.replicate (5 - (lg_sl ([.ref z0, .int cr, .int wh, .ref oa])).length) Slot.unset).toArray = ls at hl ⊢
  replace hl : lv_has ls 5 [(0, .ref z0), (1, .int cr), (2, .int wh), (3, .ref oa)] := hl
  have hS : tr_S (hOwn A A2 oa) s.heap s.heap [] := tr_S.rf
  refine lv_aload_n hx hb dL_car_0 rfl (lv_at hl 3 rfl) ?_
  refine lv_iconst (v := 0) hx hb dL_car_1 (by decide) ?_
  refine lv_aload_n hx hb dL_car_2 rfl (lv_at hl 0 rfl) ?_
  refine lv_iload_n hx hb dL_car_3 rfl (lv_at hl 1 rfl) ?_
  refine lv_iload_n hx hb dL_car_4 rfl (lv_at hl 2 rfl) ?_
  refine tr_xi (vx_runV (As := [.int cr, .int wh]) (rest := [.int 0, .ref oa]) ⟨hx, hb, hml, hown, hts⟩ (c_X5_car l hst D cI z0 A A2 hd v u cr wh) (cwV 2 hts gL_car_X5_car rfl rfl rfl (by decide +kernel) ⟨Nat.le_of_ble_eq_true rfl, Nat.le_of_ble_eq_true rfl⟩) (tr_preVX hK hXK hT.1 rfl hT) rfl rfl hl.1 rfl (lv_room (Nat.le_of_ble_eq_true rfl)) dL_car_5 ⟨Nat.le_of_ble_eq_true rfl, Nat.le_of_ble_eq_true rfl⟩) hS (fun _ h => Or.inl h) (fun _ h => Or.inl h) (fun E ce q9 H1 locs1 hxe hz hk hS hcell hcv hcl => ?_) (fun H1 locs1 hxn hp hz hk hS => ?_)
  · have hT1 := hT.keptAll hk
    have hO1 : oat D cJ oa y H1 := hO.kept (hk _ hO.lt)
    rcases hx_car v u cr wh with hq | ⟨hq, hv⟩
    · rw [hq] at hxe; cases hxe
    · rw [hq] at hxe
      cases hxe
      refine vx_catch (name := "java/lang/IndexOutOfBoundsException") (E := "java/lang/IndexOutOfBoundsException") hown [] ⟨0, 10, 13, 21⟩ [] htab (fun z hz => absurd hz List.not_mem_nil) rfl (by decide) hl21 (va_tabs (tr_cst_t _ (by decide +kernel)) rfl (hH.1 (.castable "java/lang/IndexOutOfBoundsException" "java/lang/IndexOutOfBoundsException") (by decide +kernel))) hcell hcv hcl ?_
      refine lv_astore (lv' := [(4, .ref q9), (0, .ref z0), (1, .int cr), (2, .int wh), (3, .ref oa)]) hx hb dL_car_13 hl (by decide) rfl (fun ls hl => ?_)
      refine lv_iconst (v := 1) hx hb dL_car_15 (by decide) ?_
      exact vx_ret (W.iret hx hb hr (hS.endr (by rw [hq]; decide +kernel) ⟨⟨u, by rw [hv]; exact hT1⟩, by rw [hq, if_neg (fun z => by cases z)]; exact hO1⟩) hS.2.2 dL_car_16)
  · have hT1 : TRB D cI z0 A A2 ((fX5_car v u cr wh).1, (fX5_car v u cr wh).2) H1 := hp
    have hO1 : oat D cJ oa y H1 := hO.kept (hk _ hO.lt ho.own)
    refine lv_i2l hx hb dL_car_8 rfl ?_
    refine tr_last_l hx hb hJ hS (Or.inr rfl) hO1 (i := 0) vp00 dL_car_9 (fun H2 locs2 hat hz2 hk2 hS => ?_)
    refine lv_goto (tgt := 17) hx hb dL_car_10 (by decide) ?_
    refine lv_iconst (v := 0) hx hb dL_car_17 (by decide) ?_
    exact vx_ret (W.iret hx hb hr (hS.endr (by rw [hxn]; rfl) ⟨⟨_, hT1.keptO ho hk2⟩, by rw [if_pos hxn]; exact oat_of hat⟩) hS.2.2 dL_car_18)
theorem hx_pass (v u : LV) (tk : Int32) : xX5_pass v u tk = none ∨ (xX5_pass v u tk = some sIA ∧ (fX5_pass v u tk).1 = v) := by
  unfold xX5_pass fX5_pass
  (repeat' split) <;> first | exact Or.inl rfl | exact Or.inr (⟨rfl, rfl⟩)
set_option maxHeartbeats 4000000 in
set_option maxRecDepth 100000 in
theorem c_L_pass (l : Launch) (hst : l.stackTraces = false) (D : va_G) (cI cJ : ClassId) (z0 : Nat) (A A2 : Nat → Nat) (hd : TDis z0 A A2) (v u : LV) (tk : Int32) (oa : Nat) (y : Int64) (ho : OApart z0 A A2 oa) : Met l yL_pass wsL_pass ({ frames := 7, cells := 1, slots := 6, locals := 160 }) (HPc D cI cJ [.ref z0, .int tk, .ref oa] (fun H => TRB D cI z0 A A2 (v, u) H ∧ oat D cJ oa y H)) (tr_Q (some (.int (cod [sIA] (xX5_pass v u tk)))) (fun H => (∃ u2, TRB D cI z0 A A2 ((fX5_pass v u tk).1, u2) H) ∧ oat D cJ oa (if xX5_pass v u tk = none then (rX5_pass v u tk).toInt64 else y) H) (hOwn A A2 oa)) 1 6 (hOwn A A2 oa) := by
  refine met_of_vx (vx_ofWH (cc := cL_pass) (maxL := 4) (ret := (some .int)) (hh := [(0, 9, 12, 13)]) (by decide) rfl ?_)
  intro p e s m args below meth c s₁ B hml hv
  obtain ⟨rfl, ⟨⟨⟨hT, hO⟩, hK⟩, hXK⟩, hJ, hH⟩ := hv
  have hx := B.exec
  have hb := B.bytes
  have hr := B.returns
  have hts := atoms_spec (ws := wsL_pass) B.pre
  have hown : s.vm.findClass RL = some m.cls := findClass_of_methodNamed B.named
  have htab : c.exceptionTable.toList = [⟨0, 9, 12, 13⟩] := vx_table (x := yL_pass) B (hts _ (List.mem_cons_self))
  have hl13 := hts (.classLink RL 13 "java/lang/IllegalArgumentException") (by decide +kernel)
  have hl := lv_entry ([.ref z0, .int tk, .ref oa]) (n := 4) (Nat.le_of_ble_eq_true rfl)
  rw [lg_entry_eq]
  generalize (lg_sl ([.ref z0, .int tk, .ref oa]) ++ List.replicate (4 - (lg_sl ([.ref z0, .int tk, .ref oa])).length) Slot.unset).toArray = ls at hl ⊢
  replace hl : lv_has ls 4 [(0, .ref z0), (1, .int tk), (2, .ref oa)] := hl
  have hS : tr_S (hOwn A A2 oa) s.heap s.heap [] := tr_S.rf
  refine lv_aload_n hx hb dL_pass_0 rfl (lv_at hl 2 rfl) ?_
  refine lv_iconst (v := 0) hx hb dL_pass_1 (by decide) ?_
  refine lv_aload_n hx hb dL_pass_2 rfl (lv_at hl 0 rfl) ?_
  refine lv_iload_n hx hb dL_pass_3 rfl (lv_at hl 1 rfl) ?_
  refine tr_xi (vx_runV (As := [.int tk]) (rest := [.int 0, .ref oa]) ⟨hx, hb, hml, hown, hts⟩ (c_X5_pass l hst D cI z0 A A2 hd v u tk) (cwV 1 hts gL_pass_X5_pass rfl rfl rfl (by decide +kernel) ⟨Nat.le_of_ble_eq_true rfl, Nat.le_of_ble_eq_true rfl⟩) (tr_preVX hK hXK hT.1 rfl hT) rfl rfl hl.1 rfl (lv_room (Nat.le_of_ble_eq_true rfl)) dL_pass_4 ⟨Nat.le_of_ble_eq_true rfl, Nat.le_of_ble_eq_true rfl⟩) hS (fun _ h => Or.inl h) (fun _ h => Or.inl h) (fun E ce q9 H1 locs1 hxe hz hk hS hcell hcv hcl => ?_) (fun H1 locs1 hxn hp hz hk hS => ?_)
  · have hT1 := hT.keptAll hk
    have hO1 : oat D cJ oa y H1 := hO.kept (hk _ hO.lt)
    rcases hx_pass v u tk with hq | ⟨hq, hv⟩
    · rw [hq] at hxe; cases hxe
    · rw [hq] at hxe
      cases hxe
      refine vx_catch (name := "java/lang/IllegalArgumentException") (E := "java/lang/IllegalArgumentException") hown [] ⟨0, 9, 12, 13⟩ [] htab (fun z hz => absurd hz List.not_mem_nil) rfl (by decide) hl13 (va_tabs (tr_cst_t _ (by decide +kernel)) rfl (hH.1 (.castable "java/lang/IllegalArgumentException" "java/lang/IllegalArgumentException") (by decide +kernel))) hcell hcv hcl ?_
      refine lv_astore_n (lv' := [(3, .ref q9), (0, .ref z0), (1, .int tk), (2, .ref oa)]) hx hb dL_pass_12 rfl hl (by decide) rfl (fun ls hl => ?_)
      refine lv_iconst (v := 1) hx hb dL_pass_13 (by decide) ?_
      exact vx_ret (W.iret hx hb hr (hS.endr (by rw [hq]; decide +kernel) ⟨⟨u, by rw [hv]; exact hT1⟩, by rw [hq, if_neg (fun z => by cases z)]; exact hO1⟩) hS.2.2 dL_pass_14)
  · have hT1 : TRB D cI z0 A A2 ((fX5_pass v u tk).1, (fX5_pass v u tk).2) H1 := hp
    have hO1 : oat D cJ oa y H1 := hO.kept (hk _ hO.lt ho.own)
    refine lv_i2l hx hb dL_pass_7 rfl ?_
    refine tr_last_l hx hb hJ hS (Or.inr rfl) hO1 (i := 0) vp00 dL_pass_8 (fun H2 locs2 hat hz2 hk2 hS => ?_)
    refine lv_goto (tgt := 15) hx hb dL_pass_9 (by decide) ?_
    refine lv_iconst (v := 0) hx hb dL_pass_15 (by decide) ?_
    exact vx_ret (W.iret hx hb hr (hS.endr (by rw [hxn]; rfl) ⟨⟨_, hT1.keptO ho hk2⟩, by rw [if_pos hxn]; exact oat_of hat⟩) hS.2.2 dL_pass_16)
theorem hx_count (v u : LV) (wh : Int32) : xX5_count v u wh = none ∨ (xX5_count v u wh = some sIX ∧ (fX5_count v u wh).1 = v) := by
  unfold xX5_count fX5_count
  (repeat' split) <;> first | exact Or.inl rfl | exact Or.inr (⟨rfl, rfl⟩)
set_option maxHeartbeats 4000000 in
set_option maxRecDepth 100000 in
theorem c_L_count (l : Launch) (hst : l.stackTraces = false) (D : va_G) (cI cJ : ClassId) (z0 : Nat) (A A2 : Nat → Nat) (hd : TDis z0 A A2) (v u : LV) (wh : Int32) (oa : Nat) (y : Int64) (ho : OApart z0 A A2 oa) : Met l yL_count wsL_count ({ frames := 7, cells := 1, slots := 6, locals := 160 }) (HPc D cI cJ [.ref z0, .int wh, .ref oa] (fun H => TRB D cI z0 A A2 (v, u) H ∧ oat D cJ oa y H)) (tr_Q (some (.int (cod [sIX] (xX5_count v u wh)))) (fun H => (∃ u2, TRB D cI z0 A A2 ((fX5_count v u wh).1, u2) H) ∧ oat D cJ oa (if xX5_count v u wh = none then (rX5_count v u wh).toInt64 else y) H) (hOwn A A2 oa)) 1 6 (hOwn A A2 oa) := by
  refine met_of_vx (vx_ofWH (cc := cL_count) (maxL := 4) (ret := (some .int)) (hh := [(0, 9, 12, 21)]) (by decide) rfl ?_)
  intro p e s m args below meth c s₁ B hml hv
  obtain ⟨rfl, ⟨⟨⟨hT, hO⟩, hK⟩, hXK⟩, hJ, hH⟩ := hv
  have hx := B.exec
  have hb := B.bytes
  have hr := B.returns
  have hts := atoms_spec (ws := wsL_count) B.pre
  have hown : s.vm.findClass RL = some m.cls := findClass_of_methodNamed B.named
  have htab : c.exceptionTable.toList = [⟨0, 9, 12, 21⟩] := vx_table (x := yL_count) B (hts _ (List.mem_cons_self))
  have hl21 := hts (.classLink RL 21 "java/lang/IndexOutOfBoundsException") (by decide +kernel)
  have hl := lv_entry ([.ref z0, .int wh, .ref oa]) (n := 4) (Nat.le_of_ble_eq_true rfl)
  rw [lg_entry_eq]
  generalize (lg_sl ([.ref z0, .int wh, .ref oa]) ++ List.replicate (4 - (lg_sl ([.ref z0, .int wh, .ref oa])).length) Slot.unset).toArray = ls at hl ⊢
  replace hl : lv_has ls 4 [(0, .ref z0), (1, .int wh), (2, .ref oa)] := hl
  have hS : tr_S (hOwn A A2 oa) s.heap s.heap [] := tr_S.rf
  refine lv_aload_n hx hb dL_count_0 rfl (lv_at hl 2 rfl) ?_
  refine lv_iconst (v := 0) hx hb dL_count_1 (by decide) ?_
  refine lv_aload_n hx hb dL_count_2 rfl (lv_at hl 0 rfl) ?_
  refine lv_iload_n hx hb dL_count_3 rfl (lv_at hl 1 rfl) ?_
  refine tr_xi (vx_runV (As := [.int wh]) (rest := [.int 0, .ref oa]) ⟨hx, hb, hml, hown, hts⟩ (c_X5_count l hst D cI z0 A A2 hd v u wh) (cwV 1 hts gL_count_X5_count rfl rfl rfl (by decide +kernel) ⟨Nat.le_of_ble_eq_true rfl, Nat.le_of_ble_eq_true rfl⟩) (tr_preVX hK hXK hT.1 rfl hT) rfl rfl hl.1 rfl (lv_room (Nat.le_of_ble_eq_true rfl)) dL_count_4 ⟨Nat.le_of_ble_eq_true rfl, Nat.le_of_ble_eq_true rfl⟩) hS (fun _ h => Or.inl h) (fun _ h => Or.inl h) (fun E ce q9 H1 locs1 hxe hz hk hS hcell hcv hcl => ?_) (fun H1 locs1 hxn hp hz hk hS => ?_)
  · have hT1 := hT.keptAll hk
    have hO1 : oat D cJ oa y H1 := hO.kept (hk _ hO.lt)
    rcases hx_count v u wh with hq | ⟨hq, hv⟩
    · rw [hq] at hxe; cases hxe
    · rw [hq] at hxe
      cases hxe
      refine vx_catch (name := "java/lang/IndexOutOfBoundsException") (E := "java/lang/IndexOutOfBoundsException") hown [] ⟨0, 9, 12, 21⟩ [] htab (fun z hz => absurd hz List.not_mem_nil) rfl (by decide) hl21 (va_tabs (tr_cst_t _ (by decide +kernel)) rfl (hH.1 (.castable "java/lang/IndexOutOfBoundsException" "java/lang/IndexOutOfBoundsException") (by decide +kernel))) hcell hcv hcl ?_
      refine lv_astore_n (lv' := [(3, .ref q9), (0, .ref z0), (1, .int wh), (2, .ref oa)]) hx hb dL_count_12 rfl hl (by decide) rfl (fun ls hl => ?_)
      refine lv_iconst (v := 1) hx hb dL_count_13 (by decide) ?_
      exact vx_ret (W.iret hx hb hr (hS.endr (by rw [hq]; decide +kernel) ⟨⟨u, by rw [hv]; exact hT1⟩, by rw [hq, if_neg (fun z => by cases z)]; exact hO1⟩) hS.2.2 dL_count_14)
  · have hT1 : TRB D cI z0 A A2 ((fX5_count v u wh).1, (fX5_count v u wh).2) H1 := hp
    have hO1 : oat D cJ oa y H1 := hO.kept (hk _ hO.lt ho.own)
    refine lv_i2l hx hb dL_count_7 rfl ?_
    refine tr_last_l hx hb hJ hS (Or.inr rfl) hO1 (i := 0) vp00 dL_count_8 (fun H2 locs2 hat hz2 hk2 hS => ?_)
    refine lv_goto (tgt := 15) hx hb dL_count_9 (by decide) ?_
    refine lv_iconst (v := 0) hx hb dL_count_15 (by decide) ?_
    exact vx_ret (W.iret hx hb hr (hS.endr (by rw [hxn]; rfl) ⟨⟨_, hT1.keptO ho hk2⟩, by rw [if_pos hxn]; exact oat_of hat⟩) hS.2.2 dL_count_16)
theorem hx_next (v u : LV) (po : Int32) : xX5_next v u po = none ∨ (xX5_next v u po = some sIX ∧ fX5_next v u po = v) := by
  unfold xX5_next fX5_next
  (repeat' split) <;> first | exact Or.inl rfl | exact Or.inr (⟨rfl, rfl⟩)
set_option maxHeartbeats 4000000 in
set_option maxRecDepth 100000 in
theorem c_L_next (l : Launch) (hst : l.stackTraces = false) (D : va_G) (cI cJ : ClassId) (z0 : Nat) (A A2 : Nat → Nat) (hd : TDis z0 A A2) (v u : LV) (po : Int32) (oa : Nat) (y : Int64) (ho : OApart z0 A A2 oa) : Met l yL_next wsL_next ({ frames := 7, cells := 1, slots := 6, locals := 160 }) (HPc D cI cJ [.ref z0, .int po, .ref oa] (fun H => TRB D cI z0 A A2 (v, u) H ∧ oat D cJ oa y H)) (tr_Q (some (.int (cod [sIX] (xX5_next v u po)))) (fun H => (∃ u2, TRB D cI z0 A A2 (fX5_next v u po, u2) H) ∧ oat D cJ oa (if xX5_next v u po = none then (rX5_next v u po).toInt64 else y) H) (hOwn A A2 oa)) 1 6 (hOwn A A2 oa) := by
  refine met_of_vx (vx_ofWH (cc := cL_next) (maxL := 4) (ret := (some .int)) (hh := [(0, 9, 12, 21)]) (by decide) rfl ?_)
  intro p e s m args below meth c s₁ B hml hv
  obtain ⟨rfl, ⟨⟨⟨hT, hO⟩, hK⟩, hXK⟩, hJ, hH⟩ := hv
  have hx := B.exec
  have hb := B.bytes
  have hr := B.returns
  have hts := atoms_spec (ws := wsL_next) B.pre
  have hown : s.vm.findClass RL = some m.cls := findClass_of_methodNamed B.named
  have htab : c.exceptionTable.toList = [⟨0, 9, 12, 21⟩] := vx_table (x := yL_next) B (hts _ (List.mem_cons_self))
  have hl21 := hts (.classLink RL 21 "java/lang/IndexOutOfBoundsException") (by decide +kernel)
  have hl := lv_entry ([.ref z0, .int po, .ref oa]) (n := 4) (Nat.le_of_ble_eq_true rfl)
  rw [lg_entry_eq]
  generalize (lg_sl ([.ref z0, .int po, .ref oa]) ++ List.replicate (4 - (lg_sl ([.ref z0, .int po, .ref oa])).length) Slot.unset).toArray = ls at hl ⊢
  replace hl : lv_has ls 4 [(0, .ref z0), (1, .int po), (2, .ref oa)] := hl
  have hS : tr_S (hOwn A A2 oa) s.heap s.heap [] := tr_S.rf
  refine lv_aload_n hx hb dL_next_0 rfl (lv_at hl 2 rfl) ?_
  refine lv_iconst (v := 0) hx hb dL_next_1 (by decide) ?_
  refine lv_aload_n hx hb dL_next_2 rfl (lv_at hl 0 rfl) ?_
  refine lv_iload_n hx hb dL_next_3 rfl (lv_at hl 1 rfl) ?_
  refine tr_xi (vx_runV (As := [.int po]) (rest := [.int 0, .ref oa]) ⟨hx, hb, hml, hown, hts⟩ (c_X5_next l hst D cI z0 A A2 hd v u po) (cwV 1 hts gL_next_X5_next rfl rfl rfl (by decide +kernel) ⟨Nat.le_of_ble_eq_true rfl, Nat.le_of_ble_eq_true rfl⟩) (tr_preVX hK hXK hT.1 rfl hT) rfl rfl hl.1 rfl (lv_room (Nat.le_of_ble_eq_true rfl)) dL_next_4 ⟨Nat.le_of_ble_eq_true rfl, Nat.le_of_ble_eq_true rfl⟩) hS (fun _ h => Or.inl h) (fun _ h => Or.inl h) (fun E ce q9 H1 locs1 hxe hz hk hS hcell hcv hcl => ?_) (fun H1 locs1 hxn hp hz hk hS => ?_)
  · have hT1 := hT.keptAll hk
    have hO1 : oat D cJ oa y H1 := hO.kept (hk _ hO.lt)
    rcases hx_next v u po with hq | ⟨hq, hv⟩
    · rw [hq] at hxe; cases hxe
    · rw [hq] at hxe
      cases hxe
      refine vx_catch (name := "java/lang/IndexOutOfBoundsException") (E := "java/lang/IndexOutOfBoundsException") hown [] ⟨0, 9, 12, 21⟩ [] htab (fun z hz => absurd hz List.not_mem_nil) rfl (by decide) hl21 (va_tabs (tr_cst_t _ (by decide +kernel)) rfl (hH.1 (.castable "java/lang/IndexOutOfBoundsException" "java/lang/IndexOutOfBoundsException") (by decide +kernel))) hcell hcv hcl ?_
      refine lv_astore_n (lv' := [(3, .ref q9), (0, .ref z0), (1, .int po), (2, .ref oa)]) hx hb dL_next_12 rfl hl (by decide) rfl (fun ls hl => ?_)
      refine lv_iconst (v := 1) hx hb dL_next_13 (by decide) ?_
      exact vx_ret (W.iret hx hb hr (hS.endr (by rw [hq]; decide +kernel) ⟨⟨u, by rw [hv]; exact hT1⟩, by rw [hq, if_neg (fun z => by cases z)]; exact hO1⟩) hS.2.2 dL_next_14)
  · obtain ⟨u2, hT1⟩ := hp
    have hO1 : oat D cJ oa y H1 := hO.kept (hk _ hO.lt ho.own)
    refine lv_i2l hx hb dL_next_7 rfl ?_
    refine tr_last_l hx hb hJ hS (Or.inr rfl) hO1 (i := 0) vp00 dL_next_8 (fun H2 locs2 hat hz2 hk2 hS => ?_)
    refine lv_goto (tgt := 15) hx hb dL_next_9 (by decide) ?_
    refine lv_iconst (v := 0) hx hb dL_next_15 (by decide) ?_
    exact vx_ret (W.iret hx hb hr (hS.endr (by rw [hxn]; rfl) ⟨⟨_, hT1.keptO ho hk2⟩, by rw [if_pos hxn]; exact oat_of hat⟩) hS.2.2 dL_next_16)
theorem hx_needs (v u : LV) (q : Int32) (tk : Int32) : xX5_needs v u q tk = none ∨ (xX5_needs v u q tk = some sIX ∧ fX5_needs v u q tk = v) ∨ (xX5_needs v u q tk = some sIA ∧ fX5_needs v u q tk = v) := by
  unfold xX5_needs fX5_needs
  (repeat' split) <;> first | exact Or.inl rfl | exact Or.inr (Or.inl ⟨rfl, rfl⟩) | exact Or.inr (Or.inr (⟨rfl, rfl⟩))
set_option maxHeartbeats 4000000 in
set_option maxRecDepth 100000 in
theorem c_L_needs (l : Launch) (hst : l.stackTraces = false) (D : va_G) (cI cJ : ClassId) (z0 : Nat) (A A2 : Nat → Nat) (hd : TDis z0 A A2) (v u : LV) (q : Int32) (tk : Int32) (oa : Nat) (y : Int64) (ho : OApart z0 A A2 oa) : Met l yL_needs wsL_needs ({ frames := 7, cells := 1, slots := 6, locals := 160 }) (HPc D cI cJ [.ref z0, .int q, .int tk, .ref oa] (fun H => TRB D cI z0 A A2 (v, u) H ∧ oat D cJ oa y H)) (tr_Q (some (.int (cod [sIX, sIA] (xX5_needs v u q tk)))) (fun H => (∃ u2, TRB D cI z0 A A2 (fX5_needs v u q tk, u2) H) ∧ oat D cJ oa (if xX5_needs v u q tk = none then (rX5_needs v u q tk).toInt64 else y) H) (hOwn A A2 oa)) 1 6 (hOwn A A2 oa) := by
  refine met_of_vx (vx_ofWH (cc := cL_needs) (maxL := 5) (ret := (some .int)) (hh := [(0, 10, 13, 21), (0, 10, 17, 13)]) (by decide) rfl ?_)
  intro p e s m args below meth c s₁ B hml hv
  obtain ⟨rfl, ⟨⟨⟨hT, hO⟩, hK⟩, hXK⟩, hJ, hH⟩ := hv
  have hx := B.exec
  have hb := B.bytes
  have hr := B.returns
  have hts := atoms_spec (ws := wsL_needs) B.pre
  have hown : s.vm.findClass RL = some m.cls := findClass_of_methodNamed B.named
  have htab : c.exceptionTable.toList = [⟨0, 10, 13, 21⟩, ⟨0, 10, 17, 13⟩] := vx_table (x := yL_needs) B (hts _ (List.mem_cons_self))
  have hl21 := hts (.classLink RL 21 "java/lang/IndexOutOfBoundsException") (by decide +kernel)
  have hl13 := hts (.classLink RL 13 "java/lang/IllegalArgumentException") (by decide +kernel)
  have hl := lv_entry ([.ref z0, .int q, .int tk, .ref oa]) (n := 5) (Nat.le_of_ble_eq_true rfl)
  rw [lg_entry_eq]
  generalize (lg_sl ([.ref z0, .int q, .int tk, .ref oa]) ++ List.replicate (5 - (lg_sl ([.ref z0, .int q, .int tk, .ref oa])).length) Slot.unset).toArray = ls at hl ⊢
  replace hl : lv_has ls 5 [(0, .ref z0), (1, .int q), (2, .int tk), (3, .ref oa)] := hl
  have hS : tr_S (hOwn A A2 oa) s.heap s.heap [] := tr_S.rf
  refine lv_aload_n hx hb dL_needs_0 rfl (lv_at hl 3 rfl) ?_
  refine lv_iconst (v := 0) hx hb dL_needs_1 (by decide) ?_
  refine lv_aload_n hx hb dL_needs_2 rfl (lv_at hl 0 rfl) ?_
  refine lv_iload_n hx hb dL_needs_3 rfl (lv_at hl 1 rfl) ?_
  refine lv_iload_n hx hb dL_needs_4 rfl (lv_at hl 2 rfl) ?_
  refine tr_xi (vx_runV (As := [.int q, .int tk]) (rest := [.int 0, .ref oa]) ⟨hx, hb, hml, hown, hts⟩ (c_X5_needs l hst D cI z0 A A2 hd v u q tk) (cwV 2 hts gL_needs_X5_needs rfl rfl rfl (by decide +kernel) ⟨Nat.le_of_ble_eq_true rfl, Nat.le_of_ble_eq_true rfl⟩) (tr_preVX hK hXK hT.1 rfl hT) rfl rfl hl.1 rfl (lv_room (Nat.le_of_ble_eq_true rfl)) dL_needs_5 ⟨Nat.le_of_ble_eq_true rfl, Nat.le_of_ble_eq_true rfl⟩) hS (fun _ h => Or.inl h) (fun _ h => Or.inl h) (fun E ce q9 H1 locs1 hxe hz hk hS hcell hcv hcl => ?_) (fun H1 locs1 hxn hp hz hk hS => ?_)
  · have hT1 := hT.keptAll hk
    have hO1 : oat D cJ oa y H1 := hO.kept (hk _ hO.lt)
    rcases hx_needs v u q tk with hq | ⟨hq, hv⟩ | ⟨hq, hv⟩
    · rw [hq] at hxe; cases hxe
    · rw [hq] at hxe
      cases hxe
      refine vx_catch (name := "java/lang/IndexOutOfBoundsException") (E := "java/lang/IndexOutOfBoundsException") hown [] ⟨0, 10, 13, 21⟩ [⟨0, 10, 17, 13⟩] htab (fun z hz => absurd hz List.not_mem_nil) rfl (by decide) hl21 (va_tabs (tr_cst_t _ (by decide +kernel)) rfl (hH.1 (.castable "java/lang/IndexOutOfBoundsException" "java/lang/IndexOutOfBoundsException") (by decide +kernel))) hcell hcv hcl ?_
      refine lv_astore (lv' := [(4, .ref q9), (0, .ref z0), (1, .int q), (2, .int tk), (3, .ref oa)]) hx hb dL_needs_13 hl (by decide) rfl (fun ls hl => ?_)
      refine lv_iconst (v := 1) hx hb dL_needs_15 (by decide) ?_
      exact vx_ret (W.iret hx hb hr (hS.endr (by rw [hq]; decide +kernel) ⟨⟨u, by rw [hv]; exact hT1⟩, by rw [hq, if_neg (fun z => by cases z)]; exact hO1⟩) hS.2.2 dL_needs_16)
    · rw [hq] at hxe
      cases hxe
      refine vx_catch (name := "java/lang/IllegalArgumentException") (E := "java/lang/IllegalArgumentException") hown [⟨0, 10, 13, 21⟩] ⟨0, 10, 17, 13⟩ [] htab (fun z hz => by rw [List.mem_singleton.mp hz]; exact Or.inr ⟨by decide, _, hl21, hH.2 ("java/lang/IllegalArgumentException", "java/lang/IndexOutOfBoundsException") (by decide +kernel)⟩) rfl (by decide) hl13 (va_tabs (tr_cst_t _ (by decide +kernel)) rfl (hH.1 (.castable "java/lang/IllegalArgumentException" "java/lang/IllegalArgumentException") (by decide +kernel))) hcell hcv hcl ?_
      refine lv_astore (lv' := [(4, .ref q9), (0, .ref z0), (1, .int q), (2, .int tk), (3, .ref oa)]) hx hb dL_needs_17 hl (by decide) rfl (fun ls hl => ?_)
      refine lv_iconst (v := 2) hx hb dL_needs_19 (by decide) ?_
      exact vx_ret (W.iret hx hb hr (hS.endr (by rw [hq]; decide +kernel) ⟨⟨u, by rw [hv]; exact hT1⟩, by rw [hq, if_neg (fun z => by cases z)]; exact hO1⟩) hS.2.2 dL_needs_20)
  · obtain ⟨u2, hT1⟩ := hp
    have hO1 : oat D cJ oa y H1 := hO.kept (hk _ hO.lt ho.own)
    refine lv_i2l hx hb dL_needs_8 rfl ?_
    refine tr_last_l hx hb hJ hS (Or.inr rfl) hO1 (i := 0) vp00 dL_needs_9 (fun H2 locs2 hat hz2 hk2 hS => ?_)
    refine lv_goto (tgt := 21) hx hb dL_needs_10 (by decide) ?_
    refine lv_iconst (v := 0) hx hb dL_needs_21 (by decide) ?_
    exact vx_ret (W.iret hx hb hr (hS.endr (by rw [hxn]; rfl) ⟨⟨_, hT1.keptO ho hk2⟩, by rw [if_pos hxn]; exact oat_of hat⟩) hS.2.2 dL_needs_22)
theorem hx_advise (v u : LV) (tk : Int32) : xX5_advise v u tk = none ∨ (xX5_advise v u tk = some sIA ∧ fX5_advise v u tk = v) := by
  unfold xX5_advise fX5_advise
  (repeat' split) <;> first | exact Or.inl rfl | exact Or.inr (⟨rfl, rfl⟩)
set_option maxHeartbeats 4000000 in
set_option maxRecDepth 100000 in
theorem c_L_advise (l : Launch) (hst : l.stackTraces = false) (D : va_G) (cI cJ : ClassId) (z0 : Nat) (A A2 : Nat → Nat) (hd : TDis z0 A A2) (v u : LV) (tk : Int32) (oa : Nat) (y : Int64) (ho : OApart z0 A A2 oa) : Met l yL_advise wsL_advise ({ frames := 7, cells := 1, slots := 6, locals := 160 }) (HPc D cI cJ [.ref z0, .int tk, .ref oa] (fun H => TRB D cI z0 A A2 (v, u) H ∧ oat D cJ oa y H)) (tr_Q (some (.int (cod [sIA] (xX5_advise v u tk)))) (fun H => (∃ u2, TRB D cI z0 A A2 (fX5_advise v u tk, u2) H) ∧ oat D cJ oa (if xX5_advise v u tk = none then (rX5_advise v u tk).toInt64 else y) H) (hOwn A A2 oa)) 1 6 (hOwn A A2 oa) := by
  refine met_of_vx (vx_ofWH (cc := cL_advise) (maxL := 4) (ret := (some .int)) (hh := [(0, 9, 12, 13)]) (by decide) rfl ?_)
  intro p e s m args below meth c s₁ B hml hv
  obtain ⟨rfl, ⟨⟨⟨hT, hO⟩, hK⟩, hXK⟩, hJ, hH⟩ := hv
  have hx := B.exec
  have hb := B.bytes
  have hr := B.returns
  have hts := atoms_spec (ws := wsL_advise) B.pre
  have hown : s.vm.findClass RL = some m.cls := findClass_of_methodNamed B.named
  have htab : c.exceptionTable.toList = [⟨0, 9, 12, 13⟩] := vx_table (x := yL_advise) B (hts _ (List.mem_cons_self))
  have hl13 := hts (.classLink RL 13 "java/lang/IllegalArgumentException") (by decide +kernel)
  have hl := lv_entry ([.ref z0, .int tk, .ref oa]) (n := 4) (Nat.le_of_ble_eq_true rfl)
  rw [lg_entry_eq]
  generalize (lg_sl ([.ref z0, .int tk, .ref oa]) ++ List.replicate (4 - (lg_sl ([.ref z0, .int tk, .ref oa])).length) Slot.unset).toArray = ls at hl ⊢
  replace hl : lv_has ls 4 [(0, .ref z0), (1, .int tk), (2, .ref oa)] := hl
  have hS : tr_S (hOwn A A2 oa) s.heap s.heap [] := tr_S.rf
  refine lv_aload_n hx hb dL_advise_0 rfl (lv_at hl 2 rfl) ?_
  refine lv_iconst (v := 0) hx hb dL_advise_1 (by decide) ?_
  refine lv_aload_n hx hb dL_advise_2 rfl (lv_at hl 0 rfl) ?_
  refine lv_iload_n hx hb dL_advise_3 rfl (lv_at hl 1 rfl) ?_
  refine tr_xi (vx_runV (As := [.int tk]) (rest := [.int 0, .ref oa]) ⟨hx, hb, hml, hown, hts⟩ (c_X5_advise l hst D cI z0 A A2 hd v u tk) (cwV 1 hts gL_advise_X5_advise rfl rfl rfl (by decide +kernel) ⟨Nat.le_of_ble_eq_true rfl, Nat.le_of_ble_eq_true rfl⟩) (tr_preVX hK hXK hT.1 rfl hT) rfl rfl hl.1 rfl (lv_room (Nat.le_of_ble_eq_true rfl)) dL_advise_4 ⟨Nat.le_of_ble_eq_true rfl, Nat.le_of_ble_eq_true rfl⟩) hS (fun _ h => Or.inl h) (fun _ h => Or.inl h) (fun E ce q9 H1 locs1 hxe hz hk hS hcell hcv hcl => ?_) (fun H1 locs1 hxn hp hz hk hS => ?_)
  · have hT1 := hT.keptAll hk
    have hO1 : oat D cJ oa y H1 := hO.kept (hk _ hO.lt)
    rcases hx_advise v u tk with hq | ⟨hq, hv⟩
    · rw [hq] at hxe; cases hxe
    · rw [hq] at hxe
      cases hxe
      refine vx_catch (name := "java/lang/IllegalArgumentException") (E := "java/lang/IllegalArgumentException") hown [] ⟨0, 9, 12, 13⟩ [] htab (fun z hz => absurd hz List.not_mem_nil) rfl (by decide) hl13 (va_tabs (tr_cst_t _ (by decide +kernel)) rfl (hH.1 (.castable "java/lang/IllegalArgumentException" "java/lang/IllegalArgumentException") (by decide +kernel))) hcell hcv hcl ?_
      refine lv_astore_n (lv' := [(3, .ref q9), (0, .ref z0), (1, .int tk), (2, .ref oa)]) hx hb dL_advise_12 rfl hl (by decide) rfl (fun ls hl => ?_)
      refine lv_iconst (v := 1) hx hb dL_advise_13 (by decide) ?_
      exact vx_ret (W.iret hx hb hr (hS.endr (by rw [hq]; decide +kernel) ⟨⟨u, by rw [hv]; exact hT1⟩, by rw [hq, if_neg (fun z => by cases z)]; exact hO1⟩) hS.2.2 dL_advise_14)
  · obtain ⟨u2, hT1⟩ := hp
    have hO1 : oat D cJ oa y H1 := hO.kept (hk _ hO.lt ho.own)
    refine lv_i2l hx hb dL_advise_7 rfl ?_
    refine tr_last_l hx hb hJ hS (Or.inr rfl) hO1 (i := 0) vp00 dL_advise_8 (fun H2 locs2 hat hz2 hk2 hS => ?_)
    refine lv_goto (tgt := 15) hx hb dL_advise_9 (by decide) ?_
    refine lv_iconst (v := 0) hx hb dL_advise_15 (by decide) ?_
    exact vx_ret (W.iret hx hb hr (hS.endr (by rw [hxn]; rfl) ⟨⟨_, hT1.keptO ho hk2⟩, by rw [if_pos hxn]; exact oat_of hat⟩) hS.2.2 dL_advise_16)
theorem hx_foresee (v u : LV) (tk : Int32) (wh : Int32) : xX5_foresee v u tk wh = none ∨ (xX5_foresee v u tk wh = some sIA ∧ fX5_foresee v u tk wh = v) ∨ (xX5_foresee v u tk wh = some sIX ∧ fX5_foresee v u tk wh = v) := by
  unfold xX5_foresee fX5_foresee
  (repeat' split) <;> first | exact Or.inl rfl | exact Or.inr (Or.inl ⟨rfl, rfl⟩) | exact Or.inr (Or.inr (⟨rfl, rfl⟩))
set_option maxHeartbeats 4000000 in
set_option maxRecDepth 100000 in
theorem c_L_foresee (l : Launch) (hst : l.stackTraces = false) (D : va_G) (cI cJ : ClassId) (z0 : Nat) (A A2 : Nat → Nat) (hd : TDis z0 A A2) (v u : LV) (tk : Int32) (wh : Int32) (oa : Nat) (y : Int64) (ho : OApart z0 A A2 oa) : Met l yL_foresee wsL_foresee ({ frames := 7, cells := 1, slots := 6, locals := 160 }) (HPc D cI cJ [.ref z0, .int tk, .int wh, .ref oa] (fun H => TRB D cI z0 A A2 (v, u) H ∧ oat D cJ oa y H)) (tr_Q (some (.int (cod [sIA, sIX] (xX5_foresee v u tk wh)))) (fun H => (∃ u2, TRB D cI z0 A A2 (fX5_foresee v u tk wh, u2) H) ∧ oat D cJ oa (if xX5_foresee v u tk wh = none then (rX5_foresee v u tk wh).toInt64 else y) H) (hOwn A A2 oa)) 1 6 (hOwn A A2 oa) := by
  refine met_of_vx (vx_ofWH (cc := cL_foresee) (maxL := 5) (ret := (some .int)) (hh := [(0, 10, 13, 13), (0, 10, 17, 21)]) (by decide) rfl ?_)
  intro p e s m args below meth c s₁ B hml hv
  obtain ⟨rfl, ⟨⟨⟨hT, hO⟩, hK⟩, hXK⟩, hJ, hH⟩ := hv
  have hx := B.exec
  have hb := B.bytes
  have hr := B.returns
  have hts := atoms_spec (ws := wsL_foresee) B.pre
  have hown : s.vm.findClass RL = some m.cls := findClass_of_methodNamed B.named
  have htab : c.exceptionTable.toList = [⟨0, 10, 13, 13⟩, ⟨0, 10, 17, 21⟩] := vx_table (x := yL_foresee) B (hts _ (List.mem_cons_self))
  have hl13 := hts (.classLink RL 13 "java/lang/IllegalArgumentException") (by decide +kernel)
  have hl21 := hts (.classLink RL 21 "java/lang/IndexOutOfBoundsException") (by decide +kernel)
  have hl := lv_entry ([.ref z0, .int tk, .int wh, .ref oa]) (n := 5) (Nat.le_of_ble_eq_true rfl)
  rw [lg_entry_eq]
  generalize (lg_sl ([.ref z0, .int tk, .int wh, .ref oa]) ++ List.replicate (5 - (lg_sl ([.ref z0, .int tk, .int wh, .ref oa])).length) Slot.unset).toArray = ls at hl ⊢
  replace hl : lv_has ls 5 [(0, .ref z0), (1, .int tk), (2, .int wh), (3, .ref oa)] := hl
  have hS : tr_S (hOwn A A2 oa) s.heap s.heap [] := tr_S.rf
  refine lv_aload_n hx hb dL_foresee_0 rfl (lv_at hl 3 rfl) ?_
  refine lv_iconst (v := 0) hx hb dL_foresee_1 (by decide) ?_
  refine lv_aload_n hx hb dL_foresee_2 rfl (lv_at hl 0 rfl) ?_
  refine lv_iload_n hx hb dL_foresee_3 rfl (lv_at hl 1 rfl) ?_
  refine lv_iload_n hx hb dL_foresee_4 rfl (lv_at hl 2 rfl) ?_
  refine tr_xi (vx_runV (As := [.int tk, .int wh]) (rest := [.int 0, .ref oa]) ⟨hx, hb, hml, hown, hts⟩ (c_X5_foresee l hst D cI z0 A A2 hd v u tk wh) (cwV 2 hts gL_foresee_X5_foresee rfl rfl rfl (by decide +kernel) ⟨Nat.le_of_ble_eq_true rfl, Nat.le_of_ble_eq_true rfl⟩) (tr_preVX hK hXK hT.1 rfl hT) rfl rfl hl.1 rfl (lv_room (Nat.le_of_ble_eq_true rfl)) dL_foresee_5 ⟨Nat.le_of_ble_eq_true rfl, Nat.le_of_ble_eq_true rfl⟩) hS (fun _ h => Or.inl h) (fun _ h => Or.inl h) (fun E ce q9 H1 locs1 hxe hz hk hS hcell hcv hcl => ?_) (fun H1 locs1 hxn hp hz hk hS => ?_)
  · have hT1 := hT.keptAll hk
    have hO1 : oat D cJ oa y H1 := hO.kept (hk _ hO.lt)
    rcases hx_foresee v u tk wh with hq | ⟨hq, hv⟩ | ⟨hq, hv⟩
    · rw [hq] at hxe; cases hxe
    · rw [hq] at hxe
      cases hxe
      refine vx_catch (name := "java/lang/IllegalArgumentException") (E := "java/lang/IllegalArgumentException") hown [] ⟨0, 10, 13, 13⟩ [⟨0, 10, 17, 21⟩] htab (fun z hz => absurd hz List.not_mem_nil) rfl (by decide) hl13 (va_tabs (tr_cst_t _ (by decide +kernel)) rfl (hH.1 (.castable "java/lang/IllegalArgumentException" "java/lang/IllegalArgumentException") (by decide +kernel))) hcell hcv hcl ?_
      refine lv_astore (lv' := [(4, .ref q9), (0, .ref z0), (1, .int tk), (2, .int wh), (3, .ref oa)]) hx hb dL_foresee_13 hl (by decide) rfl (fun ls hl => ?_)
      refine lv_iconst (v := 1) hx hb dL_foresee_15 (by decide) ?_
      exact vx_ret (W.iret hx hb hr (hS.endr (by rw [hq]; decide +kernel) ⟨⟨u, by rw [hv]; exact hT1⟩, by rw [hq, if_neg (fun z => by cases z)]; exact hO1⟩) hS.2.2 dL_foresee_16)
    · rw [hq] at hxe
      cases hxe
      refine vx_catch (name := "java/lang/IndexOutOfBoundsException") (E := "java/lang/IndexOutOfBoundsException") hown [⟨0, 10, 13, 13⟩] ⟨0, 10, 17, 21⟩ [] htab (fun z hz => by rw [List.mem_singleton.mp hz]; exact Or.inr ⟨by decide, _, hl13, hH.2 ("java/lang/IndexOutOfBoundsException", "java/lang/IllegalArgumentException") (by decide +kernel)⟩) rfl (by decide) hl21 (va_tabs (tr_cst_t _ (by decide +kernel)) rfl (hH.1 (.castable "java/lang/IndexOutOfBoundsException" "java/lang/IndexOutOfBoundsException") (by decide +kernel))) hcell hcv hcl ?_
      refine lv_astore (lv' := [(4, .ref q9), (0, .ref z0), (1, .int tk), (2, .int wh), (3, .ref oa)]) hx hb dL_foresee_17 hl (by decide) rfl (fun ls hl => ?_)
      refine lv_iconst (v := 2) hx hb dL_foresee_19 (by decide) ?_
      exact vx_ret (W.iret hx hb hr (hS.endr (by rw [hq]; decide +kernel) ⟨⟨u, by rw [hv]; exact hT1⟩, by rw [hq, if_neg (fun z => by cases z)]; exact hO1⟩) hS.2.2 dL_foresee_20)
  · obtain ⟨u2, hT1⟩ := hp
    have hO1 : oat D cJ oa y H1 := hO.kept (hk _ hO.lt ho.own)
    refine lv_i2l hx hb dL_foresee_8 rfl ?_
    refine tr_last_l hx hb hJ hS (Or.inr rfl) hO1 (i := 0) vp00 dL_foresee_9 (fun H2 locs2 hat hz2 hk2 hS => ?_)
    refine lv_goto (tgt := 21) hx hb dL_foresee_10 (by decide) ?_
    refine lv_iconst (v := 0) hx hb dL_foresee_21 (by decide) ?_
    exact vx_ret (W.iret hx hb hr (hS.endr (by rw [hxn]; rfl) ⟨⟨_, hT1.keptO ho hk2⟩, by rw [if_pos hxn]; exact oat_of hat⟩) hS.2.2 dL_foresee_22)
end ZLH
