/-! Line: a tick -/
def bX1_turnCars_2 (v : LV) (i : Nat) (a : LV) : LV :=
  (if (fX0_runs a (nI i)) = 0 then a else (if (fX1_spanAhead a (nI i)) = (-1) then fX0_turn a (nI i) else a))
def fX1_turnCars (v : LV) : LV :=
  itI ((v.1 2).toNatClampNeg) (bX1_turnCars_2 v) v
theorem sk_bX1_turnCars_2 (v : LV) (i : Nat) (a : LV) : sk a (bX1_turnCars_2 v i a) := by
  unfold bX1_turnCars_2
  (repeat' split) <;> first | exact sk_X0_turn _ _ | exact sk.rf _ | exact ⟨rfl, rfl, rfl⟩
theorem ski_bX1_turnCars_2 (v : LV) (i : Nat) (a : LV) : sk a (itI i (bX1_turnCars_2 v) a) := sk.it (sk_bX1_turnCars_2 v) a i
theorem sk_X1_turnCars (v : LV) : sk v (fX1_turnCars v) := by
  unfold fX1_turnCars
  (repeat' split) <;> first | exact ski_bX1_turnCars_2 v _ _
set_option maxHeartbeats 4000000 in
set_option maxRecDepth 100000 in
theorem c_X1_turnCars (l : Launch) (D : va_G) (cI : ClassId) (A : Nat → Nat) (hA : LInj A) (v : LV)   : Met l yX1_turnCars wsX1_turnCars ({ frames := 3, cells := 0, slots := 0, locals := 63 }) (tr_Pc D cI [.ref (A 0)] (LNE D cI A v)) (tr_Q none (LNE D cI A (fX1_turnCars v)) (lOwn A)) 0 0 (lOwn A) := by
  refine Met.ofW (cc := cX1_turnCars) (maxL := 2) (ret := none) (by decide) rfl ?_
  intro p e s m args below meth c s₁ B hml hv
  obtain ⟨rfl, hL, hK⟩ := hv
  have hx := B.exec
  have hb := B.bytes
  have hr := B.returns
  have hts := atoms_spec (ws := wsX1_turnCars) B.pre
  have hown : s.vm.findClass RX1 = some m.cls := findClass_of_methodNamed B.named
  have hlocks := B.notSynchronized
  have hiX0 : ∀ w ∈ u_ws RX0 TX0 9, w ∈ wsX1_turnCars := by decide +kernel
  have hiX1 : ∀ w ∈ u_ws RX1 TX1 6, w ∈ wsX1_turnCars := by decide +kernel
  have f28 := hts (.fieldLink RX1 28 "TramRibbon$Line" "fleet" "LTramRibbon$Fleet;") (by decide +kernel)
  have f80 := hts (.fieldLink RX1 80 "TramRibbon$Fleet" "size" "I") (by decide +kernel)
  have hl := lv_entry ([.ref (A 0)]) (n := 2) (Nat.le_of_ble_eq_true rfl)
  rw [lg_entry_eq]
  generalize (lg_sl ([.ref (A 0)]) ++ List.replicate (2 - (lg_sl ([.ref (A 0)])).length) Slot.unset).toArray = ls at hl ⊢
  replace hl : lv_has ls 2 [(0, .ref (A 0))] := hl
  have hS : tr_S (lOwn A) s.heap s.heap [] := tr_S.rf
  generalize h1 : s.heap = H, h2 : ([] : List Loc) = locs
  replace hS : tr_S (lOwn A) s.heap H locs := by rw [← h1, ← h2]; exact hS
  rw [h1] at hL
  clear h1 h2
  refine lv_iconst (v := 0) hx hb dX1_turnCars_0 (by decide) ?_
  refine lv_istore_n (lv' := [(1, .int 0), (0, .ref (A 0))]) hx hb dX1_turnCars_1 rfl hl (by decide) rfl (fun ls hl => ?_)
  have hinv := And.intro (show LNE D cI A v H ∧ tr_S (lOwn A) s.heap H locs from ⟨hL, hS⟩) hl
  clear hL hS hl
  revert hinv; revert ls; revert locs; revert H
  refine tr_forw (fun i H locs ls => (LNE D cI A (itI i (bX1_turnCars_2 v) v) H ∧ tr_S (lOwn A) s.heap H locs) ∧ lv_has ls 2 [(0, .ref (A 0)), (1, .int (nI i))]) ((v.1 2).toNatClampNeg) (fun H locs ls hinv => ?_) ?_
  · obtain ⟨⟨hL, hS⟩, hl⟩ := hinv
    exact ⟨⟨by rw [itI_0]; exact hL, hS⟩, lv_sub hl [1, 0] rfl⟩
  intro i H locs ls hi hinv ih
  obtain ⟨⟨hL, hS⟩, hl⟩ := hinv
  refine lv_iload_n hx hb dX1_turnCars_2 rfl (lv_at hl 1 rfl) ?_
  refine lv_aload_n hx hb dX1_turnCars_3 rfl (lv_at hl 0 rfl) ?_
  refine tr_get (ci := 1) (C := RX1) (T := TX1) (N := 6) hx hb hts hiX1 hown hK hL.c0 rfl 2 (by decide) f28 (v := .ref (A 3)) rfl dX1_turnCars_4 ?_
  refine tr_get (ci := 0) (C := RX0) (T := TX0) (N := 9) hx hb hts hiX0 hown hK hL.c3 rfl 0 (by decide) f80 (v := .int ((itI i (bX1_turnCars_2 v) v).1 2)) rfl dX1_turnCars_7 ?_
  refine lv_icmp_ge (tgt := 47) hx hb dX1_turnCars_10 (by decide) (fun c_10 => ?_) (fun c_10 => ?_)
  · have hN : i = (v.1 2).toNatClampNeg := tr_over (congrArg Int32.toNatClampNeg (ski_bX1_turnCars_2 v i v).2.2) hi c_10
    subst hN
    exact W.vret hx hb hr (hS.end (by rw [fX1_turnCars]; exact hL)) hS.2.2 dX1_turnCars_47
  · have hlt : i < (v.1 2).toNatClampNeg := tr_on (congrArg Int32.toNatClampNeg (ski_bX1_turnCars_2 v i v).2.2) hi c_10
    refine lv_aload_n hx hb dX1_turnCars_13 rfl (lv_at hl 0 rfl) ?_
    refine tr_get (ci := 1) (C := RX1) (T := TX1) (N := 6) hx hb hts hiX1 hown hK hL.c0 rfl 2 (by decide) f28 (v := .ref (A 3)) rfl dX1_turnCars_14 ?_
    refine lv_iload_n hx hb dX1_turnCars_17 rfl (lv_at hl 1 rfl) ?_
    refine tr_ri (va_runV (As := [.int (nI i)]) (rest := []) ⟨hx, hb, hml, hown, hts⟩ (c_X0_runs l D cI A hA (itI i (bX1_turnCars_2 v) v) (nI i)) (cwV 1 hts gX1_turnCars_X0_runs rfl rfl rfl (by decide +kernel) ⟨Nat.le_of_ble_eq_true rfl, Nat.le_of_ble_eq_true rfl⟩) (tr_preV hK hL.c3 rfl hL) rfl rfl hl.1 rfl (lv_room (Nat.le_of_ble_eq_true rfl)) dX1_turnCars_18 ⟨Nat.zero_le _, Nat.zero_le _⟩) ?_
    refine lv_if_eq (tgt := 41) hx hb dX1_turnCars_21 (by decide) (fun c_21 => ?_) (fun c_21 => ?_)
    · refine lv_iinc (v := nI (i + 1)) (lv' := [(1, .int (nI (i + 1))), (0, .ref (A 0))]) hx hb dX1_turnCars_41 hl (k := 1) rfl (tr_inc _) (by decide) rfl (fun ls hl => ?_)
      refine lv_goto (tgt := 2) hx hb dX1_turnCars_44 (by decide) ?_
      have e9 : itI (i + 1) (bX1_turnCars_2 v) v = itI i (bX1_turnCars_2 v) v := by rw [itI_s, bX1_turnCars_2, if_pos c_21]
      exact ih H locs ls hlt ⟨⟨by rw [e9]; exact hL, hS⟩, lv_sub hl [1, 0] rfl⟩
    · refine lv_aload_n hx hb dX1_turnCars_24 rfl (lv_at hl 0 rfl) ?_
      refine lv_iload_n hx hb dX1_turnCars_25 rfl (lv_at hl 1 rfl) ?_
      refine tr_ri (va_runV (As := [.int (nI i)]) (rest := []) ⟨hx, hb, hml, hown, hts⟩ (c_X1_spanAhead l D cI A hA (itI i (bX1_turnCars_2 v) v) (nI i)) (cwV 1 hts gX1_turnCars_X1_spanAhead rfl rfl rfl (by decide +kernel) ⟨Nat.le_of_ble_eq_true rfl, Nat.le_of_ble_eq_true rfl⟩) (tr_preV hK hL.c0 rfl hL) rfl rfl hl.1 rfl (lv_room (Nat.le_of_ble_eq_true rfl)) dX1_turnCars_26 ⟨Nat.zero_le _, Nat.zero_le _⟩) ?_
      refine lv_iconst (v := -1) hx hb dX1_turnCars_29 (by decide) ?_
      refine lv_icmp_ne (tgt := 41) hx hb dX1_turnCars_30 (by decide) (fun c_30 => ?_) (fun c_30 => ?_)
      · refine lv_iinc (v := nI (i + 1)) (lv' := [(1, .int (nI (i + 1))), (0, .ref (A 0))]) hx hb dX1_turnCars_41 hl (k := 1) rfl (tr_inc _) (by decide) rfl (fun ls hl => ?_)
        refine lv_goto (tgt := 2) hx hb dX1_turnCars_44 (by decide) ?_
        have e9 : itI (i + 1) (bX1_turnCars_2 v) v = itI i (bX1_turnCars_2 v) v := by rw [itI_s, bX1_turnCars_2, if_neg c_21, if_neg c_30]
        exact ih H locs ls hlt ⟨⟨by rw [e9]; exact hL, hS⟩, lv_sub hl [1, 0] rfl⟩
      · refine lv_aload_n hx hb dX1_turnCars_33 rfl (lv_at hl 0 rfl) ?_
        refine tr_get (ci := 1) (C := RX1) (T := TX1) (N := 6) hx hb hts hiX1 hown hK hL.c0 rfl 2 (by decide) f28 (v := .ref (A 3)) rfl dX1_turnCars_34 ?_
        refine lv_iload_n hx hb dX1_turnCars_37 rfl (lv_at hl 1 rfl) ?_
        refine tr_cv (va_runV (As := [.int (nI i)]) (rest := []) ⟨hx, hb, hml, hown, hts⟩ (c_X0_turn l D cI A hA (itI i (bX1_turnCars_2 v) v) (nI i)) (cwV 1 hts gX1_turnCars_X0_turn rfl rfl rfl (by decide +kernel) ⟨Nat.le_of_ble_eq_true rfl, Nat.le_of_ble_eq_true rfl⟩) (tr_preV hK hL.c3 rfl hL) rfl rfl hl.1 rfl (lv_room (Nat.le_of_ble_eq_true rfl)) dX1_turnCars_38 ⟨Nat.zero_le _, Nat.zero_le _⟩) hS (fun _ h => h) (fun H locs hL hS => ?_)
        refine lv_iinc (v := nI (i + 1)) (lv' := [(1, .int (nI (i + 1))), (0, .ref (A 0))]) hx hb dX1_turnCars_41 hl (k := 1) rfl (tr_inc _) (by decide) rfl (fun ls hl => ?_)
        refine lv_goto (tgt := 2) hx hb dX1_turnCars_44 (by decide) ?_
        have e9 : itI (i + 1) (bX1_turnCars_2 v) v = fX0_turn (itI i (bX1_turnCars_2 v) v) (nI i) := by rw [itI_s, bX1_turnCars_2, if_neg c_21, if_pos c_30]
        exact ih H locs ls hlt ⟨⟨by rw [e9]; exact hL, hS⟩, lv_sub hl [1, 0] rfl⟩
def bX1_drawCurrent_13 (v : LV) (i : Nat) (a : LV) : LV :=
  lAdd a 6 (fX1_sectionAhead a (nI i)) (fX1_drawOf a (nI i))
def fX1_drawCurrent (v : LV) : LV :=
  fX4_breakOverdrawn (itI ((v.1 2).toNatClampNeg) (bX1_drawCurrent_13 v) (lFill v 6 0))
theorem sk_bX1_drawCurrent_13 (v : LV) (i : Nat) (a : LV) : sk a (bX1_drawCurrent_13 v i a) := by
  unfold bX1_drawCurrent_13
  (repeat' split) <;> first | exact sk.rf _ | exact ⟨rfl, rfl, rfl⟩
theorem ski_bX1_drawCurrent_13 (v : LV) (i : Nat) (a : LV) : sk a (itI i (bX1_drawCurrent_13 v) a) := sk.it (sk_bX1_drawCurrent_13 v) a i
theorem sk_X1_drawCurrent (v : LV) : sk v (fX1_drawCurrent v) := by
  unfold fX1_drawCurrent
  (repeat' split) <;> first | exact (sk.trans (v := lFill v 6 0) ⟨rfl, rfl, rfl⟩ (ski_bX1_drawCurrent_13 v _ _)).trans (sk_X4_breakOverdrawn _) | exact ski_bX1_drawCurrent_13 v _ _
set_option maxHeartbeats 4000000 in
set_option maxRecDepth 100000 in
theorem c_X1_drawCurrent (l : Launch) (D : va_G) (cI : ClassId) (A : Nat → Nat) (hA : LInj A) (v : LV)   : Met l yX1_drawCurrent wsX1_drawCurrent ({ frames := 3, cells := 0, slots := 0, locals := 68 }) (tr_Pc D cI [.ref (A 0)] (LNE D cI A v)) (tr_Q none (LNE D cI A (fX1_drawCurrent v)) (lOwn A)) 0 0 (lOwn A) := by
  refine Met.ofW (cc := cX1_drawCurrent) (maxL := 2) (ret := none) (by decide) rfl ?_
  intro p e s m args below meth c s₁ B hml hv
  obtain ⟨rfl, hL, hK⟩ := hv
  have hx := B.exec
  have hb := B.bytes
  have hr := B.returns
  have hts := atoms_spec (ws := wsX1_drawCurrent) B.pre
  have hown : s.vm.findClass RX1 = some m.cls := findClass_of_methodNamed B.named
  have hlocks := B.notSynchronized
  have hiX0 : ∀ w ∈ u_ws RX0 TX0 9, w ∈ wsX1_drawCurrent := by decide +kernel
  have hiX1 : ∀ w ∈ u_ws RX1 TX1 6, w ∈ wsX1_drawCurrent := by decide +kernel
  have hiX4 : ∀ w ∈ u_ws RX4 TX4 9, w ∈ wsX1_drawCurrent := by decide +kernel
  have f12 := hts (.fieldLink RX1 12 "TramRibbon$Line" "wire" "LTramRibbon$Wire;") (by decide +kernel)
  have f28 := hts (.fieldLink RX1 28 "TramRibbon$Line" "fleet" "LTramRibbon$Fleet;") (by decide +kernel)
  have f80 := hts (.fieldLink RX1 80 "TramRibbon$Fleet" "size" "I") (by decide +kernel)
  have f94 := hts (.fieldLink RX1 94 "TramRibbon$Wire" "drawn" "LTramRibbon$Row;") (by decide +kernel)
  have hl := lv_entry ([.ref (A 0)]) (n := 2) (Nat.le_of_ble_eq_true rfl)
  rw [lg_entry_eq]
  generalize (lg_sl ([.ref (A 0)]) ++ List.replicate (2 - (lg_sl ([.ref (A 0)])).length) Slot.unset).toArray = ls at hl ⊢
  replace hl : lv_has ls 2 [(0, .ref (A 0))] := hl
  have hS : tr_S (lOwn A) s.heap s.heap [] := tr_S.rf
  generalize h1 : s.heap = H, h2 : ([] : List Loc) = locs
  replace hS : tr_S (lOwn A) s.heap H locs := by rw [← h1, ← h2]; exact hS
  rw [h1] at hL
  clear h1 h2
  refine lv_aload_n hx hb dX1_drawCurrent_0 rfl (lv_at hl 0 rfl) ?_
  refine tr_get (ci := 1) (C := RX1) (T := TX1) (N := 6) hx hb hts hiX1 hown hK hL.c0 rfl 0 (by decide) f12 (v := .ref (A 1)) rfl dX1_drawCurrent_1 ?_
  refine tr_get (ci := 4) (C := RX4) (T := TX4) (N := 9) hx hb hts hiX4 hown hK hL.c1 rfl 8 (by decide) f94 (v := .ref (A 16)) rfl dX1_drawCurrent_4 ?_
  refine lv_iconst (v := 0) hx hb dX1_drawCurrent_7 (by decide) ?_
  refine tr_cv (va_runV (As := [.int 0]) (rest := []) ⟨hx, hb, hml, hown, hts⟩ (c_lfill l D cI A hA v 6 (by decide) 0) (cwV 1 hts gX1_drawCurrent_X2_fill rfl rfl rfl (by decide +kernel) ⟨Nat.le_of_ble_eq_true rfl, Nat.le_of_ble_eq_true rfl⟩) (tr_preV hK (hL.robj 6 (by decide)) rfl hL) rfl rfl hl.1 rfl (lv_room (Nat.le_of_ble_eq_true rfl)) dX1_drawCurrent_8 ⟨Nat.zero_le _, Nat.zero_le _⟩) hS (fun _ h => h) (fun H locs hL hS => ?_)
  refine lv_iconst (v := 0) hx hb dX1_drawCurrent_11 (by decide) ?_
  refine lv_istore_n (lv' := [(1, .int 0), (0, .ref (A 0))]) hx hb dX1_drawCurrent_12 rfl hl (by decide) rfl (fun ls hl => ?_)
  have hinv := And.intro (show LNE D cI A (lFill v 6 0) H ∧ tr_S (lOwn A) s.heap H locs from ⟨hL, hS⟩) hl
  clear hL hS hl
  revert hinv; revert ls; revert locs; revert H
  refine tr_forw (fun i H locs ls => (LNE D cI A (itI i (bX1_drawCurrent_13 v) (lFill v 6 0)) H ∧ tr_S (lOwn A) s.heap H locs) ∧ lv_has ls 2 [(0, .ref (A 0)), (1, .int (nI i))]) ((v.1 2).toNatClampNeg) (fun H locs ls hinv => ?_) ?_
  · obtain ⟨⟨hL, hS⟩, hl⟩ := hinv
    exact ⟨⟨by rw [itI_0]; exact hL, hS⟩, lv_sub hl [1, 0] rfl⟩
  intro i H locs ls hi hinv ih
  obtain ⟨⟨hL, hS⟩, hl⟩ := hinv
  refine lv_iload_n hx hb dX1_drawCurrent_13 rfl (lv_at hl 1 rfl) ?_
  refine lv_aload_n hx hb dX1_drawCurrent_14 rfl (lv_at hl 0 rfl) ?_
  refine tr_get (ci := 1) (C := RX1) (T := TX1) (N := 6) hx hb hts hiX1 hown hK hL.c0 rfl 2 (by decide) f28 (v := .ref (A 3)) rfl dX1_drawCurrent_15 ?_
  refine tr_get (ci := 0) (C := RX0) (T := TX0) (N := 9) hx hb hts hiX0 hown hK hL.c3 rfl 0 (by decide) f80 (v := .int ((itI i (bX1_drawCurrent_13 v) (lFill v 6 0)).1 2)) rfl dX1_drawCurrent_18 ?_
  refine lv_icmp_ge (tgt := 50) hx hb dX1_drawCurrent_21 (by decide) (fun c_21 => ?_) (fun c_21 => ?_)
  · have hN : i = (v.1 2).toNatClampNeg := tr_over (congrArg Int32.toNatClampNeg (ski_bX1_drawCurrent_13 v i (lFill v 6 0)).2.2) hi c_21
    subst hN
    refine lv_aload_n hx hb dX1_drawCurrent_50 rfl (lv_at hl 0 rfl) ?_
    refine tr_get (ci := 1) (C := RX1) (T := TX1) (N := 6) hx hb hts hiX1 hown hK hL.c0 rfl 0 (by decide) f12 (v := .ref (A 1)) rfl dX1_drawCurrent_51 ?_
    refine tr_cv (va_runV (As := []) (rest := []) ⟨hx, hb, hml, hown, hts⟩ (c_X4_breakOverdrawn l D cI A hA (itI ((v.1 2).toNatClampNeg) (bX1_drawCurrent_13 v) (lFill v 6 0)) ) (cwV 0 hts gX1_drawCurrent_X4_breakOverdrawn rfl rfl rfl (by decide +kernel) ⟨Nat.le_of_ble_eq_true rfl, Nat.le_of_ble_eq_true rfl⟩) (tr_preV hK hL.c1 rfl hL) rfl rfl hl.1 rfl (lv_room (Nat.le_of_ble_eq_true rfl)) dX1_drawCurrent_54 ⟨Nat.zero_le _, Nat.zero_le _⟩) hS (fun _ h => h) (fun H locs hL hS => ?_)
    exact W.vret hx hb hr (hS.end (by rw [fX1_drawCurrent]; exact hL)) hS.2.2 dX1_drawCurrent_57
  · have hlt : i < (v.1 2).toNatClampNeg := tr_on (congrArg Int32.toNatClampNeg (ski_bX1_drawCurrent_13 v i (lFill v 6 0)).2.2) hi c_21
    refine lv_aload_n hx hb dX1_drawCurrent_24 rfl (lv_at hl 0 rfl) ?_
    refine tr_get (ci := 1) (C := RX1) (T := TX1) (N := 6) hx hb hts hiX1 hown hK hL.c0 rfl 0 (by decide) f12 (v := .ref (A 1)) rfl dX1_drawCurrent_25 ?_
    refine tr_get (ci := 4) (C := RX4) (T := TX4) (N := 9) hx hb hts hiX4 hown hK hL.c1 rfl 8 (by decide) f94 (v := .ref (A 16)) rfl dX1_drawCurrent_28 ?_
    refine lv_aload_n hx hb dX1_drawCurrent_31 rfl (lv_at hl 0 rfl) ?_
    refine lv_iload_n hx hb dX1_drawCurrent_32 rfl (lv_at hl 1 rfl) ?_
    refine tr_ri (va_runV (As := [.int (nI i)]) (rest := [.ref (A 16)]) ⟨hx, hb, hml, hown, hts⟩ (c_X1_sectionAhead l D cI A hA (itI i (bX1_drawCurrent_13 v) (lFill v 6 0)) (nI i)) (cwV 1 hts gX1_drawCurrent_X1_sectionAhead rfl rfl rfl (by decide +kernel) ⟨Nat.le_of_ble_eq_true rfl, Nat.le_of_ble_eq_true rfl⟩) (tr_preV hK hL.c0 rfl hL) rfl rfl hl.1 rfl (lv_room (Nat.le_of_ble_eq_true rfl)) dX1_drawCurrent_33 ⟨Nat.zero_le _, Nat.zero_le _⟩) ?_
    refine lv_aload_n hx hb dX1_drawCurrent_36 rfl (lv_at hl 0 rfl) ?_
    refine lv_iload_n hx hb dX1_drawCurrent_37 rfl (lv_at hl 1 rfl) ?_
    refine tr_ri (va_runV (As := [.int (nI i)]) (rest := [.int (fX1_sectionAhead (itI i (bX1_drawCurrent_13 v) (lFill v 6 0)) (nI i)), .ref (A 16)]) ⟨hx, hb, hml, hown, hts⟩ (c_X1_drawOf l D cI A hA (itI i (bX1_drawCurrent_13 v) (lFill v 6 0)) (nI i)) (cwV 1 hts gX1_drawCurrent_X1_drawOf rfl rfl rfl (by decide +kernel) ⟨Nat.le_of_ble_eq_true rfl, Nat.le_of_ble_eq_true rfl⟩) (tr_preV hK hL.c0 rfl hL) rfl rfl hl.1 rfl (lv_room (Nat.le_of_ble_eq_true rfl)) dX1_drawCurrent_38 ⟨Nat.zero_le _, Nat.zero_le _⟩) ?_
    refine tr_cv (va_runV (As := [.int (fX1_sectionAhead (itI i (bX1_drawCurrent_13 v) (lFill v 6 0)) (nI i)), .int (fX1_drawOf (itI i (bX1_drawCurrent_13 v) (lFill v 6 0)) (nI i))]) (rest := []) ⟨hx, hb, hml, hown, hts⟩ (c_ladd l D cI A hA (itI i (bX1_drawCurrent_13 v) (lFill v 6 0)) 6 (by decide) (fX1_sectionAhead (itI i (bX1_drawCurrent_13 v) (lFill v 6 0)) (nI i)) (fX1_drawOf (itI i (bX1_drawCurrent_13 v) (lFill v 6 0)) (nI i))) (cwV 2 hts gX1_drawCurrent_X2_add rfl rfl rfl (by decide +kernel) ⟨Nat.le_of_ble_eq_true rfl, Nat.le_of_ble_eq_true rfl⟩) (tr_preV hK (hL.robj 6 (by decide)) rfl hL) rfl rfl hl.1 rfl (lv_room (Nat.le_of_ble_eq_true rfl)) dX1_drawCurrent_41 ⟨Nat.zero_le _, Nat.zero_le _⟩) hS (fun _ h => h) (fun H locs hL hS => ?_)
    refine lv_iinc (v := nI (i + 1)) (lv' := [(1, .int (nI (i + 1))), (0, .ref (A 0))]) hx hb dX1_drawCurrent_44 hl (k := 1) rfl (tr_inc _) (by decide) rfl (fun ls hl => ?_)
    refine lv_goto (tgt := 13) hx hb dX1_drawCurrent_47 (by decide) ?_
    have e9 : itI (i + 1) (bX1_drawCurrent_13 v) (lFill v 6 0) = lAdd (itI i (bX1_drawCurrent_13 v) (lFill v 6 0)) 6 (fX1_sectionAhead (itI i (bX1_drawCurrent_13 v) (lFill v 6 0)) (nI i)) (fX1_drawOf (itI i (bX1_drawCurrent_13 v) (lFill v 6 0)) (nI i)) := by rw [itI_s, bX1_drawCurrent_13]
    exact ih H locs ls hlt ⟨⟨by rw [e9]; exact hL, hS⟩, lv_sub hl [1, 0] rfl⟩
def bX1_moveCars_13 (v : LV) (i : Nat) (a : LV) : LV :=
  (if (fX0_runs a (nI i)) = 0 then a else (if (fX1_canGo a (nI i)) = 0 then a else fX0_moveTo a (nI i) (fX1_poleAhead a (nI i))))
def fX1_moveCars (v : LV) : LV :=
  itI ((v.1 2).toNatClampNeg) (bX1_moveCars_13 v) (lFill v 16 0)
theorem sk_bX1_moveCars_13 (v : LV) (i : Nat) (a : LV) : sk a (bX1_moveCars_13 v i a) := by
  unfold bX1_moveCars_13
  (repeat' split) <;> first | exact sk_X0_moveTo _ _ _ | exact sk.rf _ | exact ⟨rfl, rfl, rfl⟩
theorem ski_bX1_moveCars_13 (v : LV) (i : Nat) (a : LV) : sk a (itI i (bX1_moveCars_13 v) a) := sk.it (sk_bX1_moveCars_13 v) a i
theorem sk_X1_moveCars (v : LV) : sk v (fX1_moveCars v) := by
  unfold fX1_moveCars
  (repeat' split) <;> first | exact (sk.trans (v := lFill v 16 0) ⟨rfl, rfl, rfl⟩ (ski_bX1_moveCars_13 v _ _)) | exact ski_bX1_moveCars_13 v _ _
set_option maxHeartbeats 4000000 in
set_option maxRecDepth 100000 in
theorem c_X1_moveCars (l : Launch) (D : va_G) (cI : ClassId) (A : Nat → Nat) (hA : LInj A) (v : LV)   : Met l yX1_moveCars wsX1_moveCars ({ frames := 3, cells := 0, slots := 0, locals := 67 }) (tr_Pc D cI [.ref (A 0)] (LNE D cI A v)) (tr_Q none (LNE D cI A (fX1_moveCars v)) (lOwn A)) 0 0 (lOwn A) := by
  refine Met.ofW (cc := cX1_moveCars) (maxL := 2) (ret := none) (by decide) rfl ?_
  intro p e s m args below meth c s₁ B hml hv
  obtain ⟨rfl, hL, hK⟩ := hv
  have hx := B.exec
  have hb := B.bytes
  have hr := B.returns
  have hts := atoms_spec (ws := wsX1_moveCars) B.pre
  have hown : s.vm.findClass RX1 = some m.cls := findClass_of_methodNamed B.named
  have hlocks := B.notSynchronized
  have hiX0 : ∀ w ∈ u_ws RX0 TX0 9, w ∈ wsX1_moveCars := by decide +kernel
  have hiX1 : ∀ w ∈ u_ws RX1 TX1 6, w ∈ wsX1_moveCars := by decide +kernel
  have f116 := hts (.fieldLink RX1 116 "TramRibbon$Fleet" "went" "LTramRibbon$Row;") (by decide +kernel)
  have f28 := hts (.fieldLink RX1 28 "TramRibbon$Line" "fleet" "LTramRibbon$Fleet;") (by decide +kernel)
  have f80 := hts (.fieldLink RX1 80 "TramRibbon$Fleet" "size" "I") (by decide +kernel)
  have hl := lv_entry ([.ref (A 0)]) (n := 2) (Nat.le_of_ble_eq_true rfl)
  rw [lg_entry_eq]
  generalize (lg_sl ([.ref (A 0)]) ++ List.replicate (2 - (lg_sl ([.ref (A 0)])).length) Slot.unset).toArray = ls at hl ⊢
  replace hl : lv_has ls 2 [(0, .ref (A 0))] := hl
  have hS : tr_S (lOwn A) s.heap s.heap [] := tr_S.rf
  generalize h1 : s.heap = H, h2 : ([] : List Loc) = locs
  replace hS : tr_S (lOwn A) s.heap H locs := by rw [← h1, ← h2]; exact hS
  rw [h1] at hL
  clear h1 h2
  refine lv_aload_n hx hb dX1_moveCars_0 rfl (lv_at hl 0 rfl) ?_
  refine tr_get (ci := 1) (C := RX1) (T := TX1) (N := 6) hx hb hts hiX1 hown hK hL.c0 rfl 2 (by decide) f28 (v := .ref (A 3)) rfl dX1_moveCars_1 ?_
  refine tr_get (ci := 0) (C := RX0) (T := TX0) (N := 9) hx hb hts hiX0 hown hK hL.c3 rfl 8 (by decide) f116 (v := .ref (A 36)) rfl dX1_moveCars_4 ?_
  refine lv_iconst (v := 0) hx hb dX1_moveCars_7 (by decide) ?_
  refine tr_cv (va_runV (As := [.int 0]) (rest := []) ⟨hx, hb, hml, hown, hts⟩ (c_lfill l D cI A hA v 16 (by decide) 0) (cwV 1 hts gX1_moveCars_X2_fill rfl rfl rfl (by decide +kernel) ⟨Nat.le_of_ble_eq_true rfl, Nat.le_of_ble_eq_true rfl⟩) (tr_preV hK (hL.robj 16 (by decide)) rfl hL) rfl rfl hl.1 rfl (lv_room (Nat.le_of_ble_eq_true rfl)) dX1_moveCars_8 ⟨Nat.zero_le _, Nat.zero_le _⟩) hS (fun _ h => h) (fun H locs hL hS => ?_)
  refine lv_iconst (v := 0) hx hb dX1_moveCars_11 (by decide) ?_
  refine lv_istore_n (lv' := [(1, .int 0), (0, .ref (A 0))]) hx hb dX1_moveCars_12 rfl hl (by decide) rfl (fun ls hl => ?_)
  have hinv := And.intro (show LNE D cI A (lFill v 16 0) H ∧ tr_S (lOwn A) s.heap H locs from ⟨hL, hS⟩) hl
  clear hL hS hl
  revert hinv; revert ls; revert locs; revert H
  refine tr_forw (fun i H locs ls => (LNE D cI A (itI i (bX1_moveCars_13 v) (lFill v 16 0)) H ∧ tr_S (lOwn A) s.heap H locs) ∧ lv_has ls 2 [(0, .ref (A 0)), (1, .int (nI i))]) ((v.1 2).toNatClampNeg) (fun H locs ls hinv => ?_) ?_
  · obtain ⟨⟨hL, hS⟩, hl⟩ := hinv
    exact ⟨⟨by rw [itI_0]; exact hL, hS⟩, lv_sub hl [1, 0] rfl⟩
  intro i H locs ls hi hinv ih
  obtain ⟨⟨hL, hS⟩, hl⟩ := hinv
  refine lv_iload_n hx hb dX1_moveCars_13 rfl (lv_at hl 1 rfl) ?_
  refine lv_aload_n hx hb dX1_moveCars_14 rfl (lv_at hl 0 rfl) ?_
  refine tr_get (ci := 1) (C := RX1) (T := TX1) (N := 6) hx hb hts hiX1 hown hK hL.c0 rfl 2 (by decide) f28 (v := .ref (A 3)) rfl dX1_moveCars_15 ?_
  refine tr_get (ci := 0) (C := RX0) (T := TX0) (N := 9) hx hb hts hiX0 hown hK hL.c3 rfl 0 (by decide) f80 (v := .int ((itI i (bX1_moveCars_13 v) (lFill v 16 0)).1 2)) rfl dX1_moveCars_18 ?_
  refine lv_icmp_ge (tgt := 62) hx hb dX1_moveCars_21 (by decide) (fun c_21 => ?_) (fun c_21 => ?_)
  · have hN : i = (v.1 2).toNatClampNeg := tr_over (congrArg Int32.toNatClampNeg (ski_bX1_moveCars_13 v i (lFill v 16 0)).2.2) hi c_21
    subst hN
    exact W.vret hx hb hr (hS.end (by rw [fX1_moveCars]; exact hL)) hS.2.2 dX1_moveCars_62
  · have hlt : i < (v.1 2).toNatClampNeg := tr_on (congrArg Int32.toNatClampNeg (ski_bX1_moveCars_13 v i (lFill v 16 0)).2.2) hi c_21
    refine lv_aload_n hx hb dX1_moveCars_24 rfl (lv_at hl 0 rfl) ?_
    refine tr_get (ci := 1) (C := RX1) (T := TX1) (N := 6) hx hb hts hiX1 hown hK hL.c0 rfl 2 (by decide) f28 (v := .ref (A 3)) rfl dX1_moveCars_25 ?_
    refine lv_iload_n hx hb dX1_moveCars_28 rfl (lv_at hl 1 rfl) ?_
    refine tr_ri (va_runV (As := [.int (nI i)]) (rest := []) ⟨hx, hb, hml, hown, hts⟩ (c_X0_runs l D cI A hA (itI i (bX1_moveCars_13 v) (lFill v 16 0)) (nI i)) (cwV 1 hts gX1_moveCars_X0_runs rfl rfl rfl (by decide +kernel) ⟨Nat.le_of_ble_eq_true rfl, Nat.le_of_ble_eq_true rfl⟩) (tr_preV hK hL.c3 rfl hL) rfl rfl hl.1 rfl (lv_room (Nat.le_of_ble_eq_true rfl)) dX1_moveCars_29 ⟨Nat.zero_le _, Nat.zero_le _⟩) ?_
    refine lv_if_eq (tgt := 56) hx hb dX1_moveCars_32 (by decide) (fun c_32 => ?_) (fun c_32 => ?_)
    · refine lv_iinc (v := nI (i + 1)) (lv' := [(1, .int (nI (i + 1))), (0, .ref (A 0))]) hx hb dX1_moveCars_56 hl (k := 1) rfl (tr_inc _) (by decide) rfl (fun ls hl => ?_)
      refine lv_goto (tgt := 13) hx hb dX1_moveCars_59 (by decide) ?_
      have e9 : itI (i + 1) (bX1_moveCars_13 v) (lFill v 16 0) = itI i (bX1_moveCars_13 v) (lFill v 16 0) := by rw [itI_s, bX1_moveCars_13, if_pos c_32]
      exact ih H locs ls hlt ⟨⟨by rw [e9]; exact hL, hS⟩, lv_sub hl [1, 0] rfl⟩
    · refine lv_aload_n hx hb dX1_moveCars_35 rfl (lv_at hl 0 rfl) ?_
      refine lv_iload_n hx hb dX1_moveCars_36 rfl (lv_at hl 1 rfl) ?_
      refine tr_ri (va_runV (As := [.int (nI i)]) (rest := []) ⟨hx, hb, hml, hown, hts⟩ (c_X1_canGo l D cI A hA (itI i (bX1_moveCars_13 v) (lFill v 16 0)) (nI i)) (cwV 1 hts gX1_moveCars_X1_canGo rfl rfl rfl (by decide +kernel) ⟨Nat.le_of_ble_eq_true rfl, Nat.le_of_ble_eq_true rfl⟩) (tr_preV hK hL.c0 rfl hL) rfl rfl hl.1 rfl (lv_room (Nat.le_of_ble_eq_true rfl)) dX1_moveCars_37 ⟨Nat.zero_le _, Nat.zero_le _⟩) ?_
      refine lv_if_eq (tgt := 56) hx hb dX1_moveCars_40 (by decide) (fun c_40 => ?_) (fun c_40 => ?_)
      · refine lv_iinc (v := nI (i + 1)) (lv' := [(1, .int (nI (i + 1))), (0, .ref (A 0))]) hx hb dX1_moveCars_56 hl (k := 1) rfl (tr_inc _) (by decide) rfl (fun ls hl => ?_)
        refine lv_goto (tgt := 13) hx hb dX1_moveCars_59 (by decide) ?_
        have e9 : itI (i + 1) (bX1_moveCars_13 v) (lFill v 16 0) = itI i (bX1_moveCars_13 v) (lFill v 16 0) := by rw [itI_s, bX1_moveCars_13, if_neg c_32, if_pos c_40]
        exact ih H locs ls hlt ⟨⟨by rw [e9]; exact hL, hS⟩, lv_sub hl [1, 0] rfl⟩
      · refine lv_aload_n hx hb dX1_moveCars_43 rfl (lv_at hl 0 rfl) ?_
        refine tr_get (ci := 1) (C := RX1) (T := TX1) (N := 6) hx hb hts hiX1 hown hK hL.c0 rfl 2 (by decide) f28 (v := .ref (A 3)) rfl dX1_moveCars_44 ?_
        refine lv_iload_n hx hb dX1_moveCars_47 rfl (lv_at hl 1 rfl) ?_
        refine lv_aload_n hx hb dX1_moveCars_48 rfl (lv_at hl 0 rfl) ?_
        refine lv_iload_n hx hb dX1_moveCars_49 rfl (lv_at hl 1 rfl) ?_
        refine tr_ri (va_runV (As := [.int (nI i)]) (rest := [.int (nI i), .ref (A 3)]) ⟨hx, hb, hml, hown, hts⟩ (c_X1_poleAhead l D cI A hA (itI i (bX1_moveCars_13 v) (lFill v 16 0)) (nI i)) (cwV 1 hts gX1_moveCars_X1_poleAhead rfl rfl rfl (by decide +kernel) ⟨Nat.le_of_ble_eq_true rfl, Nat.le_of_ble_eq_true rfl⟩) (tr_preV hK hL.c0 rfl hL) rfl rfl hl.1 rfl (lv_room (Nat.le_of_ble_eq_true rfl)) dX1_moveCars_50 ⟨Nat.zero_le _, Nat.zero_le _⟩) ?_
        refine tr_cv (va_runV (As := [.int (nI i), .int (fX1_poleAhead (itI i (bX1_moveCars_13 v) (lFill v 16 0)) (nI i))]) (rest := []) ⟨hx, hb, hml, hown, hts⟩ (c_X0_moveTo l D cI A hA (itI i (bX1_moveCars_13 v) (lFill v 16 0)) (nI i) (fX1_poleAhead (itI i (bX1_moveCars_13 v) (lFill v 16 0)) (nI i))) (cwV 2 hts gX1_moveCars_X0_moveTo rfl rfl rfl (by decide +kernel) ⟨Nat.le_of_ble_eq_true rfl, Nat.le_of_ble_eq_true rfl⟩) (tr_preV hK hL.c3 rfl hL) rfl rfl hl.1 rfl (lv_room (Nat.le_of_ble_eq_true rfl)) dX1_moveCars_53 ⟨Nat.zero_le _, Nat.zero_le _⟩) hS (fun _ h => h) (fun H locs hL hS => ?_)
        refine lv_iinc (v := nI (i + 1)) (lv' := [(1, .int (nI (i + 1))), (0, .ref (A 0))]) hx hb dX1_moveCars_56 hl (k := 1) rfl (tr_inc _) (by decide) rfl (fun ls hl => ?_)
        refine lv_goto (tgt := 13) hx hb dX1_moveCars_59 (by decide) ?_
        have e9 : itI (i + 1) (bX1_moveCars_13 v) (lFill v 16 0) = fX0_moveTo (itI i (bX1_moveCars_13 v) (lFill v 16 0)) (nI i) (fX1_poleAhead (itI i (bX1_moveCars_13 v) (lFill v 16 0)) (nI i)) := by rw [itI_s, bX1_moveCars_13, if_neg c_32, if_neg c_40]
        exact ih H locs ls hlt ⟨⟨by rw [e9]; exact hL, hS⟩, lv_sub hl [1, 0] rfl⟩
def fX1_exchangeRiders (v : LV) (cr : Int32) : LV :=
  lSc (lSet (lAdd v 7 (lAt v 9 cr) (-(aMin (lAt v 7 (lAt v 9 cr)) (30 - ((lAt v 11 cr) - ((lAt v 11 cr) / 2)))))) 11 cr (((lAt v 11 cr) - ((lAt v 11 cr) / 2)) + (aMin (lAt v 7 (lAt v 9 cr)) (30 - ((lAt v 11 cr) - ((lAt v 11 cr) / 2)))))) 4 ((v.1 4) + (aMin (lAt v 7 (lAt v 9 cr)) (30 - ((lAt v 11 cr) - ((lAt v 11 cr) / 2)))))
theorem sk_X1_exchangeRiders (v : LV) (cr : Int32) : sk v (fX1_exchangeRiders v cr) := by
  unfold fX1_exchangeRiders
  (repeat' split) <;> first | exact sk.rf _ | exact ⟨rfl, rfl, rfl⟩
set_option maxHeartbeats 4000000 in
set_option maxRecDepth 100000 in
theorem c_X1_exchangeRiders (l : Launch) (D : va_G) (cI : ClassId) (A : Nat → Nat) (hA : LInj A) (v : LV) (cr : Int32)  : Met l yX1_exchangeRiders wsX1_exchangeRiders ({ frames := 1, cells := 0, slots := 0, locals := 22 }) (tr_Pc D cI [.ref (A 0), .int cr] (LNE D cI A v)) (tr_Q none (LNE D cI A (fX1_exchangeRiders v cr)) (lOwn A)) 0 0 (lOwn A) := by
  refine Met.ofW (cc := cX1_exchangeRiders) (maxL := 5) (ret := none) (by decide) rfl ?_
  intro p e s m args below meth c s₁ B hml hv
  obtain ⟨rfl, hL, hK⟩ := hv
  have hx := B.exec
  have hb := B.bytes
  have hr := B.returns
  have hts := atoms_spec (ws := wsX1_exchangeRiders) B.pre
  have hown : s.vm.findClass RX1 = some m.cls := findClass_of_methodNamed B.named
  have hlocks := B.notSynchronized
  have hiX0 : ∀ w ∈ u_ws RX0 TX0 9, w ∈ wsX1_exchangeRiders := by decide +kernel
  have hiX1 : ∀ w ∈ u_ws RX1 TX1 6, w ∈ wsX1_exchangeRiders := by decide +kernel
  have hiX3 : ∀ w ∈ u_ws RX3 TX3 2, w ∈ wsX1_exchangeRiders := by decide +kernel
  have f149 := hts (.fieldLink RX1 149 "TramRibbon$Fleet" "place" "LTramRibbon$Row;") (by decide +kernel)
  have f152 := hts (.fieldLink RX1 152 "TramRibbon$Fleet" "riders" "LTramRibbon$Row;") (by decide +kernel)
  have f155 := hts (.fieldLink RX1 155 "TramRibbon$Stops" "waiting" "LTramRibbon$Row;") (by decide +kernel)
  have f21 := hts (.fieldLink RX1 21 "TramRibbon$Line" "stops" "LTramRibbon$Stops;") (by decide +kernel)
  have f28 := hts (.fieldLink RX1 28 "TramRibbon$Line" "fleet" "LTramRibbon$Fleet;") (by decide +kernel)
  have f53 := hts (.fieldLink RX1 53 "TramRibbon$Line" "boarded" "I") (by decide +kernel)
  have mC_min := hts (.code Lib.Math.min.name Lib.Math.min.code 2 (some .int)) (by decide +kernel)
  have mI := hts (.initialized "java/lang/Math") (by decide +kernel)
  have mL158 := hts (.methodLink RX1 158 Lib.Math.min.name) (by decide +kernel)
  have mS_min := hts (.static Lib.Math.min.name) (by decide +kernel)
  have hl := lv_entry ([.ref (A 0), .int cr]) (n := 5) (Nat.le_of_ble_eq_true rfl)
  rw [lg_entry_eq]
  generalize (lg_sl ([.ref (A 0), .int cr]) ++ List.replicate (5 - (lg_sl ([.ref (A 0), .int cr])).length) Slot.unset).toArray = ls at hl ⊢
  replace hl : lv_has ls 5 [(0, .ref (A 0)), (1, .int cr)] := hl
  have hS : tr_S (lOwn A) s.heap s.heap [] := tr_S.rf
  generalize h1 : s.heap = H, h2 : ([] : List Loc) = locs
  replace hS : tr_S (lOwn A) s.heap H locs := by rw [← h1, ← h2]; exact hS
  rw [h1] at hL
  clear h1 h2
  refine lv_aload_n hx hb dX1_exchangeRiders_0 rfl (lv_at hl 0 rfl) ?_
  refine tr_get (ci := 1) (C := RX1) (T := TX1) (N := 6) hx hb hts hiX1 hown hK hL.c0 rfl 2 (by decide) f28 (v := .ref (A 3)) rfl dX1_exchangeRiders_1 ?_
  refine tr_get (ci := 0) (C := RX0) (T := TX0) (N := 9) hx hb hts hiX0 hown hK hL.c3 rfl 1 (by decide) f149 (v := .ref (A 22)) rfl dX1_exchangeRiders_4 ?_
  refine lv_iload_n hx hb dX1_exchangeRiders_7 rfl (lv_at hl 1 rfl) ?_
  refine tr_ri (va_runV (As := [.int cr]) (rest := []) ⟨hx, hb, hml, hown, hts⟩ (c_lat l D cI A hA v 9 (by decide) cr) (cwV 1 hts gX1_exchangeRiders_X2_at rfl rfl rfl (by decide +kernel) ⟨Nat.le_of_ble_eq_true rfl, Nat.le_of_ble_eq_true rfl⟩) (tr_preV hK (hL.robj 9 (by decide)) rfl (hL.row 9 (by decide))) rfl rfl hl.1 rfl (lv_room (Nat.le_of_ble_eq_true rfl)) dX1_exchangeRiders_8 ⟨Nat.zero_le _, Nat.zero_le _⟩) ?_
  refine lv_istore_n (lv' := [(2, .int (lAt v 9 cr)), (0, .ref (A 0)), (1, .int cr)]) hx hb dX1_exchangeRiders_11 rfl hl (by decide) rfl (fun ls hl => ?_)
  refine lv_aload_n hx hb dX1_exchangeRiders_12 rfl (lv_at hl 1 rfl) ?_
  refine tr_get (ci := 1) (C := RX1) (T := TX1) (N := 6) hx hb hts hiX1 hown hK hL.c0 rfl 2 (by decide) f28 (v := .ref (A 3)) rfl dX1_exchangeRiders_13 ?_
  refine tr_get (ci := 0) (C := RX0) (T := TX0) (N := 9) hx hb hts hiX0 hown hK hL.c3 rfl 3 (by decide) f152 (v := .ref (A 26)) rfl dX1_exchangeRiders_16 ?_
  refine lv_iload_n hx hb dX1_exchangeRiders_19 rfl (lv_at hl 2 rfl) ?_
  refine tr_ri (va_runV (As := [.int cr]) (rest := []) ⟨hx, hb, hml, hown, hts⟩ (c_lat l D cI A hA v 11 (by decide) cr) (cwV 1 hts gX1_exchangeRiders_X2_at rfl rfl rfl (by decide +kernel) ⟨Nat.le_of_ble_eq_true rfl, Nat.le_of_ble_eq_true rfl⟩) (tr_preV hK (hL.robj 11 (by decide)) rfl (hL.row 11 (by decide))) rfl rfl hl.1 rfl (lv_room (Nat.le_of_ble_eq_true rfl)) dX1_exchangeRiders_20 ⟨Nat.zero_le _, Nat.zero_le _⟩) ?_
  refine lv_aload_n hx hb dX1_exchangeRiders_23 rfl (lv_at hl 1 rfl) ?_
  refine tr_get (ci := 1) (C := RX1) (T := TX1) (N := 6) hx hb hts hiX1 hown hK hL.c0 rfl 2 (by decide) f28 (v := .ref (A 3)) rfl dX1_exchangeRiders_24 ?_
  refine tr_get (ci := 0) (C := RX0) (T := TX0) (N := 9) hx hb hts hiX0 hown hK hL.c3 rfl 3 (by decide) f152 (v := .ref (A 26)) rfl dX1_exchangeRiders_27 ?_
  refine lv_iload_n hx hb dX1_exchangeRiders_30 rfl (lv_at hl 2 rfl) ?_
  refine tr_ri (va_runV (As := [.int cr]) (rest := [.int (lAt v 11 cr)]) ⟨hx, hb, hml, hown, hts⟩ (c_lat l D cI A hA v 11 (by decide) cr) (cwV 1 hts gX1_exchangeRiders_X2_at rfl rfl rfl (by decide +kernel) ⟨Nat.le_of_ble_eq_true rfl, Nat.le_of_ble_eq_true rfl⟩) (tr_preV hK (hL.robj 11 (by decide)) rfl (hL.row 11 (by decide))) rfl rfl hl.1 rfl (lv_room (Nat.le_of_ble_eq_true rfl)) dX1_exchangeRiders_31 ⟨Nat.zero_le _, Nat.zero_le _⟩) ?_
  refine lv_iconst (v := 2) hx hb dX1_exchangeRiders_34 (by decide) ?_
  refine lv_idiv hx hb dX1_exchangeRiders_35 (by decide) ?_
  refine lv_isub hx hb dX1_exchangeRiders_36 ?_
  refine lv_istore_n (lv' := [(3, .int ((lAt v 11 cr) - ((lAt v 11 cr) / 2))), (2, .int (lAt v 9 cr)), (0, .ref (A 0)), (1, .int cr)]) hx hb dX1_exchangeRiders_37 rfl hl (by decide) rfl (fun ls hl => ?_)
  refine lv_aload_n hx hb dX1_exchangeRiders_38 rfl (lv_at hl 2 rfl) ?_
  refine tr_get (ci := 1) (C := RX1) (T := TX1) (N := 6) hx hb hts hiX1 hown hK hL.c0 rfl 1 (by decide) f21 (v := .ref (A 2)) rfl dX1_exchangeRiders_39 ?_
  refine tr_get (ci := 3) (C := RX3) (T := TX3) (N := 2) hx hb hts hiX3 hown hK hL.c2 rfl 0 (by decide) f155 (v := .ref (A 18)) rfl dX1_exchangeRiders_42 ?_
  refine lv_iload_n hx hb dX1_exchangeRiders_45 rfl (lv_at hl 1 rfl) ?_
  refine tr_ri (va_runV (As := [.int (lAt v 9 cr)]) (rest := []) ⟨hx, hb, hml, hown, hts⟩ (c_lat l D cI A hA v 7 (by decide) (lAt v 9 cr)) (cwV 1 hts gX1_exchangeRiders_X2_at rfl rfl rfl (by decide +kernel) ⟨Nat.le_of_ble_eq_true rfl, Nat.le_of_ble_eq_true rfl⟩) (tr_preV hK (hL.robj 7 (by decide)) rfl (hL.row 7 (by decide))) rfl rfl hl.1 rfl (lv_room (Nat.le_of_ble_eq_true rfl)) dX1_exchangeRiders_46 ⟨Nat.zero_le _, Nat.zero_le _⟩) ?_
  refine lv_bipush (v := 30) hx hb dX1_exchangeRiders_49 (by decide) ?_
  refine lv_iload_n hx hb dX1_exchangeRiders_51 rfl (lv_at hl 0 rfl) ?_
  refine lv_isub hx hb dX1_exchangeRiders_52 ?_
  refine tr_min hx hb (by rw [hml]; exact hl.1.symm) hown mL158 mS_min mI mC_min (Nat.le_of_ble_eq_true rfl) (Nat.le_of_ble_eq_true rfl) (Nat.zero_le _) (Nat.zero_le _) dX1_exchangeRiders_53 ?_
  refine lv_istore (lv' := [(4, .int (aMin (lAt v 7 (lAt v 9 cr)) (30 - ((lAt v 11 cr) - ((lAt v 11 cr) / 2))))), (3, .int ((lAt v 11 cr) - ((lAt v 11 cr) / 2))), (2, .int (lAt v 9 cr)), (0, .ref (A 0)), (1, .int cr)]) hx hb dX1_exchangeRiders_56 hl (by decide) rfl (fun ls hl => ?_)
  refine lv_aload_n hx hb dX1_exchangeRiders_58 rfl (lv_at hl 3 rfl) ?_
  refine tr_get (ci := 1) (C := RX1) (T := TX1) (N := 6) hx hb hts hiX1 hown hK hL.c0 rfl 1 (by decide) f21 (v := .ref (A 2)) rfl dX1_exchangeRiders_59 ?_
  refine tr_get (ci := 3) (C := RX3) (T := TX3) (N := 2) hx hb hts hiX3 hown hK hL.c2 rfl 0 (by decide) f155 (v := .ref (A 18)) rfl dX1_exchangeRiders_62 ?_
  refine lv_iload_n hx hb dX1_exchangeRiders_65 rfl (lv_at hl 2 rfl) ?_
  refine lv_iload hx hb dX1_exchangeRiders_66 (lv_at hl 0 rfl) ?_
  refine lv_ineg hx hb dX1_exchangeRiders_68 ?_
  refine tr_cv (va_runV (As := [.int (lAt v 9 cr), .int (-(aMin (lAt v 7 (lAt v 9 cr)) (30 - ((lAt v 11 cr) - ((lAt v 11 cr) / 2)))))]) (rest := []) ⟨hx, hb, hml, hown, hts⟩ (c_ladd l D cI A hA v 7 (by decide) (lAt v 9 cr) (-(aMin (lAt v 7 (lAt v 9 cr)) (30 - ((lAt v 11 cr) - ((lAt v 11 cr) / 2)))))) (cwV 2 hts gX1_exchangeRiders_X2_add rfl rfl rfl (by decide +kernel) ⟨Nat.le_of_ble_eq_true rfl, Nat.le_of_ble_eq_true rfl⟩) (tr_preV hK (hL.robj 7 (by decide)) rfl hL) rfl rfl hl.1 rfl (lv_room (Nat.le_of_ble_eq_true rfl)) dX1_exchangeRiders_69 ⟨Nat.zero_le _, Nat.zero_le _⟩) hS (fun _ h => h) (fun H locs hL hS => ?_)
  refine lv_aload_n hx hb dX1_exchangeRiders_72 rfl (lv_at hl 3 rfl) ?_
  refine tr_get (ci := 1) (C := RX1) (T := TX1) (N := 6) hx hb hts hiX1 hown hK hL.c0 rfl 2 (by decide) f28 (v := .ref (A 3)) rfl dX1_exchangeRiders_73 ?_
  refine tr_get (ci := 0) (C := RX0) (T := TX0) (N := 9) hx hb hts hiX0 hown hK hL.c3 rfl 3 (by decide) f152 (v := .ref (A 26)) rfl dX1_exchangeRiders_76 ?_
  refine lv_iload_n hx hb dX1_exchangeRiders_79 rfl (lv_at hl 4 rfl) ?_
  refine lv_iload_n hx hb dX1_exchangeRiders_80 rfl (lv_at hl 1 rfl) ?_
  refine lv_iload hx hb dX1_exchangeRiders_81 (lv_at hl 0 rfl) ?_
  refine lv_iadd hx hb dX1_exchangeRiders_83 ?_
  refine tr_cv (va_runV (As := [.int cr, .int (((lAt v 11 cr) - ((lAt v 11 cr) / 2)) + (aMin (lAt v 7 (lAt v 9 cr)) (30 - ((lAt v 11 cr) - ((lAt v 11 cr) / 2)))))]) (rest := []) ⟨hx, hb, hml, hown, hts⟩ (c_lset l D cI A hA (lAdd v 7 (lAt v 9 cr) (-(aMin (lAt v 7 (lAt v 9 cr)) (30 - ((lAt v 11 cr) - ((lAt v 11 cr) / 2)))))) 11 (by decide) cr (((lAt v 11 cr) - ((lAt v 11 cr) / 2)) + (aMin (lAt v 7 (lAt v 9 cr)) (30 - ((lAt v 11 cr) - ((lAt v 11 cr) / 2)))))) (cwV 2 hts gX1_exchangeRiders_X2_set rfl rfl rfl (by decide +kernel) ⟨Nat.le_of_ble_eq_true rfl, Nat.le_of_ble_eq_true rfl⟩) (tr_preV hK (hL.robj 11 (by decide)) rfl hL) rfl rfl hl.1 rfl (lv_room (Nat.le_of_ble_eq_true rfl)) dX1_exchangeRiders_84 ⟨Nat.zero_le _, Nat.zero_le _⟩) hS (fun _ h => h) (fun H locs hL hS => ?_)
  refine lv_aload_n hx hb dX1_exchangeRiders_87 rfl (lv_at hl 3 rfl) ?_
  refine lv_dup hx hb dX1_exchangeRiders_88 rfl ?_
  refine tr_get (ci := 1) (C := RX1) (T := TX1) (N := 6) hx hb hts hiX1 hown hK hL.c0 rfl 4 (by decide) f53 (v := .int (v.1 4)) rfl dX1_exchangeRiders_89 ?_
  refine lv_iload hx hb dX1_exchangeRiders_92 (lv_at hl 0 rfl) ?_
  refine lv_iadd hx hb dX1_exchangeRiders_94 ?_
  refine tr_put (ci := 1) (C := RX1) (T := TX1) (N := 6) (ty := .int) (v := .int ((v.1 4) + (aMin (lAt v 7 (lAt v 9 cr)) (30 - ((lAt v 11 cr) - ((lAt v 11 cr) / 2)))))) hx hb hts hiX1 tyX1 tyX1_ok nmX1 hown hK hS (lOwn_k (k := 0) (by decide)) hL.c0 rfl 4 (by decide) f53 rfl (by decide +kernel) rfl rfl (Nat.le_of_ble_eq_true rfl) dX1_exchangeRiders_95 (fun H locs hat hz hk hS => ?_)
  have hL : LNE D cI A (lSc (lSet (lAdd v 7 (lAt v 9 cr) (-(aMin (lAt v 7 (lAt v 9 cr)) (30 - ((lAt v 11 cr) - ((lAt v 11 cr) / 2)))))) 11 cr (((lAt v 11 cr) - ((lAt v 11 cr) / 2)) + (aMin (lAt v 7 (lAt v 9 cr)) (30 - ((lAt v 11 cr) - ((lAt v 11 cr) / 2)))))) 4 ((v.1 4) + (aMin (lAt v 7 (lAt v 9 cr)) (30 - ((lAt v 11 cr) - ((lAt v 11 cr) / 2)))))) H := hL.setSc hA 4 hat rfl hk
  clear hat hz hk
  exact W.vret hx hb hr (hS.end (by rw [fX1_exchangeRiders]; exact hL)) hS.2.2 dX1_exchangeRiders_98
def fX1_wearOut (v : LV) (cr : Int32) : LV :=
  (if (lAt v 11 cr) ≤ 20 then (if (lAt (lAdd v 12 cr 3) 12 cr) ≤ 99 then lAdd v 12 cr 3 else fX0_breakDown (fX3_welcome (lAdd v 12 cr 3) (lAt v 9 cr) (lAt v 11 cr)) cr) else (if (lAt (lAdd v 12 cr 5) 12 cr) ≤ 99 then lAdd v 12 cr 5 else fX0_breakDown (fX3_welcome (lAdd v 12 cr 5) (lAt v 9 cr) (lAt v 11 cr)) cr))
theorem sk_X1_wearOut (v : LV) (cr : Int32) : sk v (fX1_wearOut v cr) := by
  unfold fX1_wearOut
  (repeat' split) <;> first | exact sk.rf _ | exact ⟨rfl, rfl, rfl⟩
set_option maxHeartbeats 4000000 in
set_option maxRecDepth 100000 in
theorem c_X1_wearOut (l : Launch) (D : va_G) (cI : ClassId) (A : Nat → Nat) (hA : LInj A) (v : LV) (cr : Int32)  : Met l yX1_wearOut wsX1_wearOut ({ frames := 2, cells := 0, slots := 0, locals := 44 }) (tr_Pc D cI [.ref (A 0), .int cr] (LNE D cI A v)) (tr_Q none (LNE D cI A (fX1_wearOut v cr)) (lOwn A)) 0 0 (lOwn A) := by
  refine Met.ofW (cc := cX1_wearOut) (maxL := 2) (ret := none) (by decide) rfl ?_
  intro p e s m args below meth c s₁ B hml hv
  obtain ⟨rfl, hL, hK⟩ := hv
  have hx := B.exec
  have hb := B.bytes
  have hr := B.returns
  have hts := atoms_spec (ws := wsX1_wearOut) B.pre
  have hown : s.vm.findClass RX1 = some m.cls := findClass_of_methodNamed B.named
  have hlocks := B.notSynchronized
  have hiX0 : ∀ w ∈ u_ws RX0 TX0 9, w ∈ wsX1_wearOut := by decide +kernel
  have hiX1 : ∀ w ∈ u_ws RX1 TX1 6, w ∈ wsX1_wearOut := by decide +kernel
  have f149 := hts (.fieldLink RX1 149 "TramRibbon$Fleet" "place" "LTramRibbon$Row;") (by decide +kernel)
  have f152 := hts (.fieldLink RX1 152 "TramRibbon$Fleet" "riders" "LTramRibbon$Row;") (by decide +kernel)
  have f167 := hts (.fieldLink RX1 167 "TramRibbon$Fleet" "wear" "LTramRibbon$Row;") (by decide +kernel)
  have f21 := hts (.fieldLink RX1 21 "TramRibbon$Line" "stops" "LTramRibbon$Stops;") (by decide +kernel)
  have f28 := hts (.fieldLink RX1 28 "TramRibbon$Line" "fleet" "LTramRibbon$Fleet;") (by decide +kernel)
  have hl := lv_entry ([.ref (A 0), .int cr]) (n := 2) (Nat.le_of_ble_eq_true rfl)
  rw [lg_entry_eq]
  generalize (lg_sl ([.ref (A 0), .int cr]) ++ List.replicate (2 - (lg_sl ([.ref (A 0), .int cr])).length) Slot.unset).toArray = ls at hl ⊢
  replace hl : lv_has ls 2 [(0, .ref (A 0)), (1, .int cr)] := hl
  have hS : tr_S (lOwn A) s.heap s.heap [] := tr_S.rf
  generalize h1 : s.heap = H, h2 : ([] : List Loc) = locs
  replace hS : tr_S (lOwn A) s.heap H locs := by rw [← h1, ← h2]; exact hS
  rw [h1] at hL
  clear h1 h2
  refine lv_aload_n hx hb dX1_wearOut_0 rfl (lv_at hl 0 rfl) ?_
  refine tr_get (ci := 1) (C := RX1) (T := TX1) (N := 6) hx hb hts hiX1 hown hK hL.c0 rfl 2 (by decide) f28 (v := .ref (A 3)) rfl dX1_wearOut_1 ?_
  refine tr_get (ci := 0) (C := RX0) (T := TX0) (N := 9) hx hb hts hiX0 hown hK hL.c3 rfl 4 (by decide) f167 (v := .ref (A 28)) rfl dX1_wearOut_4 ?_
  refine lv_iload_n hx hb dX1_wearOut_7 rfl (lv_at hl 1 rfl) ?_
  refine lv_aload_n hx hb dX1_wearOut_8 rfl (lv_at hl 0 rfl) ?_
  refine tr_get (ci := 1) (C := RX1) (T := TX1) (N := 6) hx hb hts hiX1 hown hK hL.c0 rfl 2 (by decide) f28 (v := .ref (A 3)) rfl dX1_wearOut_9 ?_
  refine tr_get (ci := 0) (C := RX0) (T := TX0) (N := 9) hx hb hts hiX0 hown hK hL.c3 rfl 3 (by decide) f152 (v := .ref (A 26)) rfl dX1_wearOut_12 ?_
  refine lv_iload_n hx hb dX1_wearOut_15 rfl (lv_at hl 1 rfl) ?_
  refine tr_ri (va_runV (As := [.int cr]) (rest := [.int cr, .ref (A 28)]) ⟨hx, hb, hml, hown, hts⟩ (c_lat l D cI A hA v 11 (by decide) cr) (cwV 1 hts gX1_wearOut_X2_at rfl rfl rfl (by decide +kernel) ⟨Nat.le_of_ble_eq_true rfl, Nat.le_of_ble_eq_true rfl⟩) (tr_preV hK (hL.robj 11 (by decide)) rfl (hL.row 11 (by decide))) rfl rfl hl.1 rfl (lv_room (Nat.le_of_ble_eq_true rfl)) dX1_wearOut_16 ⟨Nat.zero_le _, Nat.zero_le _⟩) ?_
  refine lv_bipush (v := 20) hx hb dX1_wearOut_19 (by decide) ?_
  refine lv_icmp_le (tgt := 28) hx hb dX1_wearOut_21 (by decide) (fun c_21 => ?_) (fun c_21 => ?_)
  · refine lv_iconst (v := 3) hx hb dX1_wearOut_28 (by decide) ?_
    refine tr_cv (va_runV (As := [.int cr, .int 3]) (rest := []) ⟨hx, hb, hml, hown, hts⟩ (c_ladd l D cI A hA v 12 (by decide) cr 3) (cwV 2 hts gX1_wearOut_X2_add rfl rfl rfl (by decide +kernel) ⟨Nat.le_of_ble_eq_true rfl, Nat.le_of_ble_eq_true rfl⟩) (tr_preV hK (hL.robj 12 (by decide)) rfl hL) rfl rfl hl.1 rfl (lv_room (Nat.le_of_ble_eq_true rfl)) dX1_wearOut_29 ⟨Nat.zero_le _, Nat.zero_le _⟩) hS (fun _ h => h) (fun H locs hL hS => ?_)
    refine lv_aload_n hx hb dX1_wearOut_32 rfl (lv_at hl 0 rfl) ?_
    refine tr_get (ci := 1) (C := RX1) (T := TX1) (N := 6) hx hb hts hiX1 hown hK hL.c0 rfl 2 (by decide) f28 (v := .ref (A 3)) rfl dX1_wearOut_33 ?_
    refine tr_get (ci := 0) (C := RX0) (T := TX0) (N := 9) hx hb hts hiX0 hown hK hL.c3 rfl 4 (by decide) f167 (v := .ref (A 28)) rfl dX1_wearOut_36 ?_
    refine lv_iload_n hx hb dX1_wearOut_39 rfl (lv_at hl 1 rfl) ?_
    refine tr_ri (va_runV (As := [.int cr]) (rest := []) ⟨hx, hb, hml, hown, hts⟩ (c_lat l D cI A hA (lAdd v 12 cr 3) 12 (by decide) cr) (cwV 1 hts gX1_wearOut_X2_at rfl rfl rfl (by decide +kernel) ⟨Nat.le_of_ble_eq_true rfl, Nat.le_of_ble_eq_true rfl⟩) (tr_preV hK (hL.robj 12 (by decide)) rfl (hL.row 12 (by decide))) rfl rfl hl.1 rfl (lv_room (Nat.le_of_ble_eq_true rfl)) dX1_wearOut_40 ⟨Nat.zero_le _, Nat.zero_le _⟩) ?_
    refine lv_bipush (v := 99) hx hb dX1_wearOut_43 (by decide) ?_
    refine lv_icmp_le (tgt := 85) hx hb dX1_wearOut_45 (by decide) (fun c_45 => ?_) (fun c_45 => ?_)
    · exact W.vret hx hb hr (hS.end (by rw [fX1_wearOut, if_pos c_21, if_pos c_45]; exact hL)) hS.2.2 dX1_wearOut_85
    · refine lv_aload_n hx hb dX1_wearOut_48 rfl (lv_at hl 0 rfl) ?_
      refine tr_get (ci := 1) (C := RX1) (T := TX1) (N := 6) hx hb hts hiX1 hown hK hL.c0 rfl 1 (by decide) f21 (v := .ref (A 2)) rfl dX1_wearOut_49 ?_
      refine lv_aload_n hx hb dX1_wearOut_52 rfl (lv_at hl 0 rfl) ?_
      refine tr_get (ci := 1) (C := RX1) (T := TX1) (N := 6) hx hb hts hiX1 hown hK hL.c0 rfl 2 (by decide) f28 (v := .ref (A 3)) rfl dX1_wearOut_53 ?_
      refine tr_get (ci := 0) (C := RX0) (T := TX0) (N := 9) hx hb hts hiX0 hown hK hL.c3 rfl 1 (by decide) f149 (v := .ref (A 22)) rfl dX1_wearOut_56 ?_
      refine lv_iload_n hx hb dX1_wearOut_59 rfl (lv_at hl 1 rfl) ?_
      refine tr_ri (va_runV (As := [.int cr]) (rest := [.ref (A 2)]) ⟨hx, hb, hml, hown, hts⟩ (c_lat l D cI A hA v 9 (by decide) cr) (cwV 1 hts gX1_wearOut_X2_at rfl rfl rfl (by decide +kernel) ⟨Nat.le_of_ble_eq_true rfl, Nat.le_of_ble_eq_true rfl⟩) (tr_preV hK (hL.robj 9 (by decide)) rfl (hL.row 9 (by decide))) rfl rfl hl.1 rfl (lv_room (Nat.le_of_ble_eq_true rfl)) dX1_wearOut_60 ⟨Nat.zero_le _, Nat.zero_le _⟩) ?_
      refine lv_aload_n hx hb dX1_wearOut_63 rfl (lv_at hl 0 rfl) ?_
      refine tr_get (ci := 1) (C := RX1) (T := TX1) (N := 6) hx hb hts hiX1 hown hK hL.c0 rfl 2 (by decide) f28 (v := .ref (A 3)) rfl dX1_wearOut_64 ?_
      refine tr_get (ci := 0) (C := RX0) (T := TX0) (N := 9) hx hb hts hiX0 hown hK hL.c3 rfl 3 (by decide) f152 (v := .ref (A 26)) rfl dX1_wearOut_67 ?_
      refine lv_iload_n hx hb dX1_wearOut_70 rfl (lv_at hl 1 rfl) ?_
      refine tr_ri (va_runV (As := [.int cr]) (rest := [.int (lAt v 9 cr), .ref (A 2)]) ⟨hx, hb, hml, hown, hts⟩ (c_lat l D cI A hA v 11 (by decide) cr) (cwV 1 hts gX1_wearOut_X2_at rfl rfl rfl (by decide +kernel) ⟨Nat.le_of_ble_eq_true rfl, Nat.le_of_ble_eq_true rfl⟩) (tr_preV hK (hL.robj 11 (by decide)) rfl (hL.row 11 (by decide))) rfl rfl hl.1 rfl (lv_room (Nat.le_of_ble_eq_true rfl)) dX1_wearOut_71 ⟨Nat.zero_le _, Nat.zero_le _⟩) ?_
      refine tr_cv (va_runV (As := [.int (lAt v 9 cr), .int (lAt v 11 cr)]) (rest := []) ⟨hx, hb, hml, hown, hts⟩ (c_X3_welcome l D cI A hA (lAdd v 12 cr 3) (lAt v 9 cr) (lAt v 11 cr)) (cwV 2 hts gX1_wearOut_X3_welcome rfl rfl rfl (by decide +kernel) ⟨Nat.le_of_ble_eq_true rfl, Nat.le_of_ble_eq_true rfl⟩) (tr_preV hK hL.c2 rfl hL) rfl rfl hl.1 rfl (lv_room (Nat.le_of_ble_eq_true rfl)) dX1_wearOut_74 ⟨Nat.zero_le _, Nat.zero_le _⟩) hS (fun _ h => h) (fun H locs hL hS => ?_)
      refine lv_aload_n hx hb dX1_wearOut_77 rfl (lv_at hl 0 rfl) ?_
      refine tr_get (ci := 1) (C := RX1) (T := TX1) (N := 6) hx hb hts hiX1 hown hK hL.c0 rfl 2 (by decide) f28 (v := .ref (A 3)) rfl dX1_wearOut_78 ?_
      refine lv_iload_n hx hb dX1_wearOut_81 rfl (lv_at hl 1 rfl) ?_
      refine tr_cv (va_runV (As := [.int cr]) (rest := []) ⟨hx, hb, hml, hown, hts⟩ (c_X0_breakDown l D cI A hA (fX3_welcome (lAdd v 12 cr 3) (lAt v 9 cr) (lAt v 11 cr)) cr) (cwV 1 hts gX1_wearOut_X0_breakDown rfl rfl rfl (by decide +kernel) ⟨Nat.le_of_ble_eq_true rfl, Nat.le_of_ble_eq_true rfl⟩) (tr_preV hK hL.c3 rfl hL) rfl rfl hl.1 rfl (lv_room (Nat.le_of_ble_eq_true rfl)) dX1_wearOut_82 ⟨Nat.zero_le _, Nat.zero_le _⟩) hS (fun _ h => h) (fun H locs hL hS => ?_)
      exact W.vret hx hb hr (hS.end (by rw [fX1_wearOut, if_pos c_21, if_neg c_45]; exact hL)) hS.2.2 dX1_wearOut_85
  · refine lv_iconst (v := 5) hx hb dX1_wearOut_24 (by decide) ?_
    refine lv_goto (tgt := 29) hx hb dX1_wearOut_25 (by decide) ?_
    refine tr_cv (va_runV (As := [.int cr, .int 5]) (rest := []) ⟨hx, hb, hml, hown, hts⟩ (c_ladd l D cI A hA v 12 (by decide) cr 5) (cwV 2 hts gX1_wearOut_X2_add rfl rfl rfl (by decide +kernel) ⟨Nat.le_of_ble_eq_true rfl, Nat.le_of_ble_eq_true rfl⟩) (tr_preV hK (hL.robj 12 (by decide)) rfl hL) rfl rfl hl.1 rfl (lv_room (Nat.le_of_ble_eq_true rfl)) dX1_wearOut_29 ⟨Nat.zero_le _, Nat.zero_le _⟩) hS (fun _ h => h) (fun H locs hL hS => ?_)
    refine lv_aload_n hx hb dX1_wearOut_32 rfl (lv_at hl 0 rfl) ?_
    refine tr_get (ci := 1) (C := RX1) (T := TX1) (N := 6) hx hb hts hiX1 hown hK hL.c0 rfl 2 (by decide) f28 (v := .ref (A 3)) rfl dX1_wearOut_33 ?_
    refine tr_get (ci := 0) (C := RX0) (T := TX0) (N := 9) hx hb hts hiX0 hown hK hL.c3 rfl 4 (by decide) f167 (v := .ref (A 28)) rfl dX1_wearOut_36 ?_
    refine lv_iload_n hx hb dX1_wearOut_39 rfl (lv_at hl 1 rfl) ?_
    refine tr_ri (va_runV (As := [.int cr]) (rest := []) ⟨hx, hb, hml, hown, hts⟩ (c_lat l D cI A hA (lAdd v 12 cr 5) 12 (by decide) cr) (cwV 1 hts gX1_wearOut_X2_at rfl rfl rfl (by decide +kernel) ⟨Nat.le_of_ble_eq_true rfl, Nat.le_of_ble_eq_true rfl⟩) (tr_preV hK (hL.robj 12 (by decide)) rfl (hL.row 12 (by decide))) rfl rfl hl.1 rfl (lv_room (Nat.le_of_ble_eq_true rfl)) dX1_wearOut_40 ⟨Nat.zero_le _, Nat.zero_le _⟩) ?_
    refine lv_bipush (v := 99) hx hb dX1_wearOut_43 (by decide) ?_
    refine lv_icmp_le (tgt := 85) hx hb dX1_wearOut_45 (by decide) (fun c_45 => ?_) (fun c_45 => ?_)
    · exact W.vret hx hb hr (hS.end (by rw [fX1_wearOut, if_neg c_21, if_pos c_45]; exact hL)) hS.2.2 dX1_wearOut_85
    · refine lv_aload_n hx hb dX1_wearOut_48 rfl (lv_at hl 0 rfl) ?_
      refine tr_get (ci := 1) (C := RX1) (T := TX1) (N := 6) hx hb hts hiX1 hown hK hL.c0 rfl 1 (by decide) f21 (v := .ref (A 2)) rfl dX1_wearOut_49 ?_
      refine lv_aload_n hx hb dX1_wearOut_52 rfl (lv_at hl 0 rfl) ?_
      refine tr_get (ci := 1) (C := RX1) (T := TX1) (N := 6) hx hb hts hiX1 hown hK hL.c0 rfl 2 (by decide) f28 (v := .ref (A 3)) rfl dX1_wearOut_53 ?_
      refine tr_get (ci := 0) (C := RX0) (T := TX0) (N := 9) hx hb hts hiX0 hown hK hL.c3 rfl 1 (by decide) f149 (v := .ref (A 22)) rfl dX1_wearOut_56 ?_
      refine lv_iload_n hx hb dX1_wearOut_59 rfl (lv_at hl 1 rfl) ?_
      refine tr_ri (va_runV (As := [.int cr]) (rest := [.ref (A 2)]) ⟨hx, hb, hml, hown, hts⟩ (c_lat l D cI A hA v 9 (by decide) cr) (cwV 1 hts gX1_wearOut_X2_at rfl rfl rfl (by decide +kernel) ⟨Nat.le_of_ble_eq_true rfl, Nat.le_of_ble_eq_true rfl⟩) (tr_preV hK (hL.robj 9 (by decide)) rfl (hL.row 9 (by decide))) rfl rfl hl.1 rfl (lv_room (Nat.le_of_ble_eq_true rfl)) dX1_wearOut_60 ⟨Nat.zero_le _, Nat.zero_le _⟩) ?_
      refine lv_aload_n hx hb dX1_wearOut_63 rfl (lv_at hl 0 rfl) ?_
      refine tr_get (ci := 1) (C := RX1) (T := TX1) (N := 6) hx hb hts hiX1 hown hK hL.c0 rfl 2 (by decide) f28 (v := .ref (A 3)) rfl dX1_wearOut_64 ?_
      refine tr_get (ci := 0) (C := RX0) (T := TX0) (N := 9) hx hb hts hiX0 hown hK hL.c3 rfl 3 (by decide) f152 (v := .ref (A 26)) rfl dX1_wearOut_67 ?_
      refine lv_iload_n hx hb dX1_wearOut_70 rfl (lv_at hl 1 rfl) ?_
      refine tr_ri (va_runV (As := [.int cr]) (rest := [.int (lAt v 9 cr), .ref (A 2)]) ⟨hx, hb, hml, hown, hts⟩ (c_lat l D cI A hA v 11 (by decide) cr) (cwV 1 hts gX1_wearOut_X2_at rfl rfl rfl (by decide +kernel) ⟨Nat.le_of_ble_eq_true rfl, Nat.le_of_ble_eq_true rfl⟩) (tr_preV hK (hL.robj 11 (by decide)) rfl (hL.row 11 (by decide))) rfl rfl hl.1 rfl (lv_room (Nat.le_of_ble_eq_true rfl)) dX1_wearOut_71 ⟨Nat.zero_le _, Nat.zero_le _⟩) ?_
      refine tr_cv (va_runV (As := [.int (lAt v 9 cr), .int (lAt v 11 cr)]) (rest := []) ⟨hx, hb, hml, hown, hts⟩ (c_X3_welcome l D cI A hA (lAdd v 12 cr 5) (lAt v 9 cr) (lAt v 11 cr)) (cwV 2 hts gX1_wearOut_X3_welcome rfl rfl rfl (by decide +kernel) ⟨Nat.le_of_ble_eq_true rfl, Nat.le_of_ble_eq_true rfl⟩) (tr_preV hK hL.c2 rfl hL) rfl rfl hl.1 rfl (lv_room (Nat.le_of_ble_eq_true rfl)) dX1_wearOut_74 ⟨Nat.zero_le _, Nat.zero_le _⟩) hS (fun _ h => h) (fun H locs hL hS => ?_)
      refine lv_aload_n hx hb dX1_wearOut_77 rfl (lv_at hl 0 rfl) ?_
      refine tr_get (ci := 1) (C := RX1) (T := TX1) (N := 6) hx hb hts hiX1 hown hK hL.c0 rfl 2 (by decide) f28 (v := .ref (A 3)) rfl dX1_wearOut_78 ?_
      refine lv_iload_n hx hb dX1_wearOut_81 rfl (lv_at hl 1 rfl) ?_
      refine tr_cv (va_runV (As := [.int cr]) (rest := []) ⟨hx, hb, hml, hown, hts⟩ (c_X0_breakDown l D cI A hA (fX3_welcome (lAdd v 12 cr 5) (lAt v 9 cr) (lAt v 11 cr)) cr) (cwV 1 hts gX1_wearOut_X0_breakDown rfl rfl rfl (by decide +kernel) ⟨Nat.le_of_ble_eq_true rfl, Nat.le_of_ble_eq_true rfl⟩) (tr_preV hK hL.c3 rfl hL) rfl rfl hl.1 rfl (lv_room (Nat.le_of_ble_eq_true rfl)) dX1_wearOut_82 ⟨Nat.zero_le _, Nat.zero_le _⟩) hS (fun _ h => h) (fun H locs hL hS => ?_)
      exact W.vret hx hb hr (hS.end (by rw [fX1_wearOut, if_neg c_21, if_neg c_45]; exact hL)) hS.2.2 dX1_wearOut_85
def bX1_serveStops_2 (v : LV) (i : Nat) (a : LV) : LV :=
  (if (lAt a 16 (nI i)) = 1 then fX1_wearOut (fX1_exchangeRiders a (nI i)) (nI i) else a)
def fX1_serveStops (v : LV) : LV :=
  itI ((v.1 2).toNatClampNeg) (bX1_serveStops_2 v) v
theorem sk_bX1_serveStops_2 (v : LV) (i : Nat) (a : LV) : sk a (bX1_serveStops_2 v i a) := by
  unfold bX1_serveStops_2
  (repeat' split) <;> first | exact (sk_X1_exchangeRiders _ _).trans (sk_X1_wearOut _ _) | exact sk.rf _ | exact ⟨rfl, rfl, rfl⟩
theorem ski_bX1_serveStops_2 (v : LV) (i : Nat) (a : LV) : sk a (itI i (bX1_serveStops_2 v) a) := sk.it (sk_bX1_serveStops_2 v) a i
theorem sk_X1_serveStops (v : LV) : sk v (fX1_serveStops v) := by
  unfold fX1_serveStops
  (repeat' split) <;> first | exact ski_bX1_serveStops_2 v _ _
set_option maxHeartbeats 4000000 in
set_option maxRecDepth 100000 in
theorem c_X1_serveStops (l : Launch) (D : va_G) (cI : ClassId) (A : Nat → Nat) (hA : LInj A) (v : LV)   : Met l yX1_serveStops wsX1_serveStops ({ frames := 3, cells := 0, slots := 0, locals := 65 }) (tr_Pc D cI [.ref (A 0)] (LNE D cI A v)) (tr_Q none (LNE D cI A (fX1_serveStops v)) (lOwn A)) 0 0 (lOwn A) := by
  refine Met.ofW (cc := cX1_serveStops) (maxL := 2) (ret := none) (by decide) rfl ?_
  intro p e s m args below meth c s₁ B hml hv
  obtain ⟨rfl, hL, hK⟩ := hv
  have hx := B.exec
  have hb := B.bytes
  have hr := B.returns
  have hts := atoms_spec (ws := wsX1_serveStops) B.pre
  have hown : s.vm.findClass RX1 = some m.cls := findClass_of_methodNamed B.named
  have hlocks := B.notSynchronized
  have hiX0 : ∀ w ∈ u_ws RX0 TX0 9, w ∈ wsX1_serveStops := by decide +kernel
  have hiX1 : ∀ w ∈ u_ws RX1 TX1 6, w ∈ wsX1_serveStops := by decide +kernel
  have f116 := hts (.fieldLink RX1 116 "TramRibbon$Fleet" "went" "LTramRibbon$Row;") (by decide +kernel)
  have f28 := hts (.fieldLink RX1 28 "TramRibbon$Line" "fleet" "LTramRibbon$Fleet;") (by decide +kernel)
  have f80 := hts (.fieldLink RX1 80 "TramRibbon$Fleet" "size" "I") (by decide +kernel)
  have hl := lv_entry ([.ref (A 0)]) (n := 2) (Nat.le_of_ble_eq_true rfl)
  rw [lg_entry_eq]
  generalize (lg_sl ([.ref (A 0)]) ++ List.replicate (2 - (lg_sl ([.ref (A 0)])).length) Slot.unset).toArray = ls at hl ⊢
  replace hl : lv_has ls 2 [(0, .ref (A 0))] := hl
  have hS : tr_S (lOwn A) s.heap s.heap [] := tr_S.rf
  generalize h1 : s.heap = H, h2 : ([] : List Loc) = locs
  replace hS : tr_S (lOwn A) s.heap H locs := by rw [← h1, ← h2]; exact hS
  rw [h1] at hL
  clear h1 h2
  refine lv_iconst (v := 0) hx hb dX1_serveStops_0 (by decide) ?_
  refine lv_istore_n (lv' := [(1, .int 0), (0, .ref (A 0))]) hx hb dX1_serveStops_1 rfl hl (by decide) rfl (fun ls hl => ?_)
  have hinv := And.intro (show LNE D cI A v H ∧ tr_S (lOwn A) s.heap H locs from ⟨hL, hS⟩) hl
  clear hL hS hl
  revert hinv; revert ls; revert locs; revert H
  refine tr_forw (fun i H locs ls => (LNE D cI A (itI i (bX1_serveStops_2 v) v) H ∧ tr_S (lOwn A) s.heap H locs) ∧ lv_has ls 2 [(0, .ref (A 0)), (1, .int (nI i))]) ((v.1 2).toNatClampNeg) (fun H locs ls hinv => ?_) ?_
  · obtain ⟨⟨hL, hS⟩, hl⟩ := hinv
    exact ⟨⟨by rw [itI_0]; exact hL, hS⟩, lv_sub hl [1, 0] rfl⟩
  intro i H locs ls hi hinv ih
  obtain ⟨⟨hL, hS⟩, hl⟩ := hinv
  refine lv_iload_n hx hb dX1_serveStops_2 rfl (lv_at hl 1 rfl) ?_
  refine lv_aload_n hx hb dX1_serveStops_3 rfl (lv_at hl 0 rfl) ?_
  refine tr_get (ci := 1) (C := RX1) (T := TX1) (N := 6) hx hb hts hiX1 hown hK hL.c0 rfl 2 (by decide) f28 (v := .ref (A 3)) rfl dX1_serveStops_4 ?_
  refine tr_get (ci := 0) (C := RX0) (T := TX0) (N := 9) hx hb hts hiX0 hown hK hL.c3 rfl 0 (by decide) f80 (v := .int ((itI i (bX1_serveStops_2 v) v).1 2)) rfl dX1_serveStops_7 ?_
  refine lv_icmp_ge (tgt := 44) hx hb dX1_serveStops_10 (by decide) (fun c_10 => ?_) (fun c_10 => ?_)
  · have hN : i = (v.1 2).toNatClampNeg := tr_over (congrArg Int32.toNatClampNeg (ski_bX1_serveStops_2 v i v).2.2) hi c_10
    subst hN
    exact W.vret hx hb hr (hS.end (by rw [fX1_serveStops]; exact hL)) hS.2.2 dX1_serveStops_44
  · have hlt : i < (v.1 2).toNatClampNeg := tr_on (congrArg Int32.toNatClampNeg (ski_bX1_serveStops_2 v i v).2.2) hi c_10
    refine lv_aload_n hx hb dX1_serveStops_13 rfl (lv_at hl 0 rfl) ?_
    refine tr_get (ci := 1) (C := RX1) (T := TX1) (N := 6) hx hb hts hiX1 hown hK hL.c0 rfl 2 (by decide) f28 (v := .ref (A 3)) rfl dX1_serveStops_14 ?_
    refine tr_get (ci := 0) (C := RX0) (T := TX0) (N := 9) hx hb hts hiX0 hown hK hL.c3 rfl 8 (by decide) f116 (v := .ref (A 36)) rfl dX1_serveStops_17 ?_
    refine lv_iload_n hx hb dX1_serveStops_20 rfl (lv_at hl 1 rfl) ?_
    refine tr_ri (va_runV (As := [.int (nI i)]) (rest := []) ⟨hx, hb, hml, hown, hts⟩ (c_lat l D cI A hA (itI i (bX1_serveStops_2 v) v) 16 (by decide) (nI i)) (cwV 1 hts gX1_serveStops_X2_at rfl rfl rfl (by decide +kernel) ⟨Nat.le_of_ble_eq_true rfl, Nat.le_of_ble_eq_true rfl⟩) (tr_preV hK (hL.robj 16 (by decide)) rfl (hL.row 16 (by decide))) rfl rfl hl.1 rfl (lv_room (Nat.le_of_ble_eq_true rfl)) dX1_serveStops_21 ⟨Nat.zero_le _, Nat.zero_le _⟩) ?_
    refine lv_iconst (v := 1) hx hb dX1_serveStops_24 (by decide) ?_
    refine lv_icmp_ne (tgt := 38) hx hb dX1_serveStops_25 (by decide) (fun c_25 => ?_) (fun c_25 => ?_)
    · refine lv_iinc (v := nI (i + 1)) (lv' := [(1, .int (nI (i + 1))), (0, .ref (A 0))]) hx hb dX1_serveStops_38 hl (k := 1) rfl (tr_inc _) (by decide) rfl (fun ls hl => ?_)
      refine lv_goto (tgt := 2) hx hb dX1_serveStops_41 (by decide) ?_
      have e9 : itI (i + 1) (bX1_serveStops_2 v) v = itI i (bX1_serveStops_2 v) v := by rw [itI_s, bX1_serveStops_2, if_neg c_25]
      exact ih H locs ls hlt ⟨⟨by rw [e9]; exact hL, hS⟩, lv_sub hl [1, 0] rfl⟩
    · refine lv_aload_n hx hb dX1_serveStops_28 rfl (lv_at hl 0 rfl) ?_
      refine lv_iload_n hx hb dX1_serveStops_29 rfl (lv_at hl 1 rfl) ?_
      refine tr_cv (va_runV (As := [.int (nI i)]) (rest := []) ⟨hx, hb, hml, hown, hts⟩ (c_X1_exchangeRiders l D cI A hA (itI i (bX1_serveStops_2 v) v) (nI i)) (cwV 1 hts gX1_serveStops_X1_exchangeRiders rfl rfl rfl (by decide +kernel) ⟨Nat.le_of_ble_eq_true rfl, Nat.le_of_ble_eq_true rfl⟩) (tr_preV hK hL.c0 rfl hL) rfl rfl hl.1 rfl (lv_room (Nat.le_of_ble_eq_true rfl)) dX1_serveStops_30 ⟨Nat.zero_le _, Nat.zero_le _⟩) hS (fun _ h => h) (fun H locs hL hS => ?_)
      refine lv_aload_n hx hb dX1_serveStops_33 rfl (lv_at hl 0 rfl) ?_
      refine lv_iload_n hx hb dX1_serveStops_34 rfl (lv_at hl 1 rfl) ?_
      refine tr_cv (va_runV (As := [.int (nI i)]) (rest := []) ⟨hx, hb, hml, hown, hts⟩ (c_X1_wearOut l D cI A hA (fX1_exchangeRiders (itI i (bX1_serveStops_2 v) v) (nI i)) (nI i)) (cwV 1 hts gX1_serveStops_X1_wearOut rfl rfl rfl (by decide +kernel) ⟨Nat.le_of_ble_eq_true rfl, Nat.le_of_ble_eq_true rfl⟩) (tr_preV hK hL.c0 rfl hL) rfl rfl hl.1 rfl (lv_room (Nat.le_of_ble_eq_true rfl)) dX1_serveStops_35 ⟨Nat.zero_le _, Nat.zero_le _⟩) hS (fun _ h => h) (fun H locs hL hS => ?_)
      refine lv_iinc (v := nI (i + 1)) (lv' := [(1, .int (nI (i + 1))), (0, .ref (A 0))]) hx hb dX1_serveStops_38 hl (k := 1) rfl (tr_inc _) (by decide) rfl (fun ls hl => ?_)
      refine lv_goto (tgt := 2) hx hb dX1_serveStops_41 (by decide) ?_
      have e9 : itI (i + 1) (bX1_serveStops_2 v) v = fX1_wearOut (fX1_exchangeRiders (itI i (bX1_serveStops_2 v) v) (nI i)) (nI i) := by rw [itI_s, bX1_serveStops_2, if_pos c_25]
      exact ih H locs ls hlt ⟨⟨by rw [e9]; exact hL, hS⟩, lv_sub hl [1, 0] rfl⟩
def fX1_mend (v : LV) (cr : Int32) : LV :=
  (if (lAt v 8 (lAt v 9 cr)) ≤ 0 then (if (fX0_isPushed v cr) = 0 then fX0_findPusherFor v cr else v) else lSc (fX0_renew (lAdd v 8 (lAt v 9 cr) (-1)) cr) 5 (((fX0_renew (lAdd v 8 (lAt v 9 cr) (-1)) cr).1 5) + 1))
theorem sk_X1_mend (v : LV) (cr : Int32) : sk v (fX1_mend v cr) := by
  unfold fX1_mend
  (repeat' split) <;> first | exact sk_X0_findPusherFor _ _ | exact (sk.trans (v := fX0_renew _ _) (sk.trans (v := lAdd v 8 _ _) ⟨rfl, rfl, rfl⟩ (sk_X0_renew _ _)) ⟨rfl, rfl, rfl⟩) | exact sk.rf _ | exact ⟨rfl, rfl, rfl⟩
set_option maxHeartbeats 4000000 in
set_option maxRecDepth 100000 in
theorem c_X1_mend (l : Launch) (D : va_G) (cI : ClassId) (A : Nat → Nat) (hA : LInj A) (v : LV) (cr : Int32)  : Met l yX1_mend wsX1_mend ({ frames := 2, cells := 0, slots := 0, locals := 45 }) (tr_Pc D cI [.ref (A 0), .int cr] (LNE D cI A v)) (tr_Q none (LNE D cI A (fX1_mend v cr)) (lOwn A)) 0 0 (lOwn A) := by
  refine Met.ofW (cc := cX1_mend) (maxL := 3) (ret := none) (by decide) rfl ?_
  intro p e s m args below meth c s₁ B hml hv
  obtain ⟨rfl, hL, hK⟩ := hv
  have hx := B.exec
  have hb := B.bytes
  have hr := B.returns
  have hts := atoms_spec (ws := wsX1_mend) B.pre
  have hown : s.vm.findClass RX1 = some m.cls := findClass_of_methodNamed B.named
  have hlocks := B.notSynchronized
  have hiX0 : ∀ w ∈ u_ws RX0 TX0 9, w ∈ wsX1_mend := by decide +kernel
  have hiX1 : ∀ w ∈ u_ws RX1 TX1 6, w ∈ wsX1_mend := by decide +kernel
  have hiX3 : ∀ w ∈ u_ws RX3 TX3 2, w ∈ wsX1_mend := by decide +kernel
  have f149 := hts (.fieldLink RX1 149 "TramRibbon$Fleet" "place" "LTramRibbon$Row;") (by decide +kernel)
  have f179 := hts (.fieldLink RX1 179 "TramRibbon$Stops" "spares" "LTramRibbon$Row;") (by decide +kernel)
  have f21 := hts (.fieldLink RX1 21 "TramRibbon$Line" "stops" "LTramRibbon$Stops;") (by decide +kernel)
  have f28 := hts (.fieldLink RX1 28 "TramRibbon$Line" "fleet" "LTramRibbon$Fleet;") (by decide +kernel)
  have f56 := hts (.fieldLink RX1 56 "TramRibbon$Line" "swaps" "I") (by decide +kernel)
  have hl := lv_entry ([.ref (A 0), .int cr]) (n := 3) (Nat.le_of_ble_eq_true rfl)
  rw [lg_entry_eq]
  generalize (lg_sl ([.ref (A 0), .int cr]) ++ List.replicate (3 - (lg_sl ([.ref (A 0), .int cr])).length) Slot.unset).toArray = ls at hl ⊢
  replace hl : lv_has ls 3 [(0, .ref (A 0)), (1, .int cr)] := hl
  have hS : tr_S (lOwn A) s.heap s.heap [] := tr_S.rf
  generalize h1 : s.heap = H, h2 : ([] : List Loc) = locs
  replace hS : tr_S (lOwn A) s.heap H locs := by rw [← h1, ← h2]; exact hS
  rw [h1] at hL
  clear h1 h2
  refine lv_aload_n hx hb dX1_mend_0 rfl (lv_at hl 0 rfl) ?_
  refine tr_get (ci := 1) (C := RX1) (T := TX1) (N := 6) hx hb hts hiX1 hown hK hL.c0 rfl 2 (by decide) f28 (v := .ref (A 3)) rfl dX1_mend_1 ?_
  refine tr_get (ci := 0) (C := RX0) (T := TX0) (N := 9) hx hb hts hiX0 hown hK hL.c3 rfl 1 (by decide) f149 (v := .ref (A 22)) rfl dX1_mend_4 ?_
  refine lv_iload_n hx hb dX1_mend_7 rfl (lv_at hl 1 rfl) ?_
  refine tr_ri (va_runV (As := [.int cr]) (rest := []) ⟨hx, hb, hml, hown, hts⟩ (c_lat l D cI A hA v 9 (by decide) cr) (cwV 1 hts gX1_mend_X2_at rfl rfl rfl (by decide +kernel) ⟨Nat.le_of_ble_eq_true rfl, Nat.le_of_ble_eq_true rfl⟩) (tr_preV hK (hL.robj 9 (by decide)) rfl (hL.row 9 (by decide))) rfl rfl hl.1 rfl (lv_room (Nat.le_of_ble_eq_true rfl)) dX1_mend_8 ⟨Nat.zero_le _, Nat.zero_le _⟩) ?_
  refine lv_istore_n (lv' := [(2, .int (lAt v 9 cr)), (0, .ref (A 0)), (1, .int cr)]) hx hb dX1_mend_11 rfl hl (by decide) rfl (fun ls hl => ?_)
  refine lv_aload_n hx hb dX1_mend_12 rfl (lv_at hl 1 rfl) ?_
  refine tr_get (ci := 1) (C := RX1) (T := TX1) (N := 6) hx hb hts hiX1 hown hK hL.c0 rfl 1 (by decide) f21 (v := .ref (A 2)) rfl dX1_mend_13 ?_
  refine tr_get (ci := 3) (C := RX3) (T := TX3) (N := 2) hx hb hts hiX3 hown hK hL.c2 rfl 1 (by decide) f179 (v := .ref (A 20)) rfl dX1_mend_16 ?_
  refine lv_iload_n hx hb dX1_mend_19 rfl (lv_at hl 0 rfl) ?_
  refine tr_ri (va_runV (As := [.int (lAt v 9 cr)]) (rest := []) ⟨hx, hb, hml, hown, hts⟩ (c_lat l D cI A hA v 8 (by decide) (lAt v 9 cr)) (cwV 1 hts gX1_mend_X2_at rfl rfl rfl (by decide +kernel) ⟨Nat.le_of_ble_eq_true rfl, Nat.le_of_ble_eq_true rfl⟩) (tr_preV hK (hL.robj 8 (by decide)) rfl (hL.row 8 (by decide))) rfl rfl hl.1 rfl (lv_room (Nat.le_of_ble_eq_true rfl)) dX1_mend_20 ⟨Nat.zero_le _, Nat.zero_le _⟩) ?_
  refine lv_if_le (tgt := 59) hx hb dX1_mend_23 (by decide) (fun c_23 => ?_) (fun c_23 => ?_)
  · refine lv_aload_n hx hb dX1_mend_59 rfl (lv_at hl 1 rfl) ?_
    refine tr_get (ci := 1) (C := RX1) (T := TX1) (N := 6) hx hb hts hiX1 hown hK hL.c0 rfl 2 (by decide) f28 (v := .ref (A 3)) rfl dX1_mend_60 ?_
    refine lv_iload_n hx hb dX1_mend_63 rfl (lv_at hl 2 rfl) ?_
    refine tr_ri (va_runV (As := [.int cr]) (rest := []) ⟨hx, hb, hml, hown, hts⟩ (c_X0_isPushed l D cI A hA v cr) (cwV 1 hts gX1_mend_X0_isPushed rfl rfl rfl (by decide +kernel) ⟨Nat.le_of_ble_eq_true rfl, Nat.le_of_ble_eq_true rfl⟩) (tr_preV hK hL.c3 rfl hL) rfl rfl hl.1 rfl (lv_room (Nat.le_of_ble_eq_true rfl)) dX1_mend_64 ⟨Nat.zero_le _, Nat.zero_le _⟩) ?_
    refine lv_if_ne (tgt := 78) hx hb dX1_mend_67 (by decide) (fun c_67 => ?_) (fun c_67 => ?_)
    · exact W.vret hx hb hr (hS.end (by rw [fX1_mend, if_pos c_23, if_neg c_67]; exact hL)) hS.2.2 dX1_mend_78
    · refine lv_aload_n hx hb dX1_mend_70 rfl (lv_at hl 1 rfl) ?_
      refine tr_get (ci := 1) (C := RX1) (T := TX1) (N := 6) hx hb hts hiX1 hown hK hL.c0 rfl 2 (by decide) f28 (v := .ref (A 3)) rfl dX1_mend_71 ?_
      refine lv_iload_n hx hb dX1_mend_74 rfl (lv_at hl 2 rfl) ?_
      refine tr_cv (va_runV (As := [.int cr]) (rest := []) ⟨hx, hb, hml, hown, hts⟩ (c_X0_findPusherFor l D cI A hA v cr) (cwV 1 hts gX1_mend_X0_findPusherFor rfl rfl rfl (by decide +kernel) ⟨Nat.le_of_ble_eq_true rfl, Nat.le_of_ble_eq_true rfl⟩) (tr_preV hK hL.c3 rfl hL) rfl rfl hl.1 rfl (lv_room (Nat.le_of_ble_eq_true rfl)) dX1_mend_75 ⟨Nat.zero_le _, Nat.zero_le _⟩) hS (fun _ h => h) (fun H locs hL hS => ?_)
      exact W.vret hx hb hr (hS.end (by rw [fX1_mend, if_pos c_23, if_pos c_67]; exact hL)) hS.2.2 dX1_mend_78
  · refine lv_aload_n hx hb dX1_mend_26 rfl (lv_at hl 1 rfl) ?_
    refine tr_get (ci := 1) (C := RX1) (T := TX1) (N := 6) hx hb hts hiX1 hown hK hL.c0 rfl 1 (by decide) f21 (v := .ref (A 2)) rfl dX1_mend_27 ?_
    refine tr_get (ci := 3) (C := RX3) (T := TX3) (N := 2) hx hb hts hiX3 hown hK hL.c2 rfl 1 (by decide) f179 (v := .ref (A 20)) rfl dX1_mend_30 ?_
    refine lv_iload_n hx hb dX1_mend_33 rfl (lv_at hl 0 rfl) ?_
    refine lv_iconst (v := -1) hx hb dX1_mend_34 (by decide) ?_
    refine tr_cv (va_runV (As := [.int (lAt v 9 cr), .int (-1)]) (rest := []) ⟨hx, hb, hml, hown, hts⟩ (c_ladd l D cI A hA v 8 (by decide) (lAt v 9 cr) (-1)) (cwV 2 hts gX1_mend_X2_add rfl rfl rfl (by decide +kernel) ⟨Nat.le_of_ble_eq_true rfl, Nat.le_of_ble_eq_true rfl⟩) (tr_preV hK (hL.robj 8 (by decide)) rfl hL) rfl rfl hl.1 rfl (lv_room (Nat.le_of_ble_eq_true rfl)) dX1_mend_35 ⟨Nat.zero_le _, Nat.zero_le _⟩) hS (fun _ h => h) (fun H locs hL hS => ?_)
    refine lv_aload_n hx hb dX1_mend_38 rfl (lv_at hl 1 rfl) ?_
    refine tr_get (ci := 1) (C := RX1) (T := TX1) (N := 6) hx hb hts hiX1 hown hK hL.c0 rfl 2 (by decide) f28 (v := .ref (A 3)) rfl dX1_mend_39 ?_
    refine lv_iload_n hx hb dX1_mend_42 rfl (lv_at hl 2 rfl) ?_
    refine tr_cv (va_runV (As := [.int cr]) (rest := []) ⟨hx, hb, hml, hown, hts⟩ (c_X0_renew l D cI A hA (lAdd v 8 (lAt v 9 cr) (-1)) cr) (cwV 1 hts gX1_mend_X0_renew rfl rfl rfl (by decide +kernel) ⟨Nat.le_of_ble_eq_true rfl, Nat.le_of_ble_eq_true rfl⟩) (tr_preV hK hL.c3 rfl hL) rfl rfl hl.1 rfl (lv_room (Nat.le_of_ble_eq_true rfl)) dX1_mend_43 ⟨Nat.zero_le _, Nat.zero_le _⟩) hS (fun _ h => h) (fun H locs hL hS => ?_)
    refine lv_aload_n hx hb dX1_mend_46 rfl (lv_at hl 1 rfl) ?_
    refine lv_dup hx hb dX1_mend_47 rfl ?_
    refine tr_get (ci := 1) (C := RX1) (T := TX1) (N := 6) hx hb hts hiX1 hown hK hL.c0 rfl 5 (by decide) f56 (v := .int ((fX0_renew (lAdd v 8 (lAt v 9 cr) (-1)) cr).1 5)) rfl dX1_mend_48 ?_
    refine lv_iconst (v := 1) hx hb dX1_mend_51 (by decide) ?_
    refine lv_iadd hx hb dX1_mend_52 ?_
    refine tr_put (ci := 1) (C := RX1) (T := TX1) (N := 6) (ty := .int) (v := .int (((fX0_renew (lAdd v 8 (lAt v 9 cr) (-1)) cr).1 5) + 1)) hx hb hts hiX1 tyX1 tyX1_ok nmX1 hown hK hS (lOwn_k (k := 0) (by decide)) hL.c0 rfl 5 (by decide) f56 rfl (by decide +kernel) rfl rfl (Nat.le_of_ble_eq_true rfl) dX1_mend_53 (fun H locs hat hz hk hS => ?_)
    have hL : LNE D cI A (lSc (fX0_renew (lAdd v 8 (lAt v 9 cr) (-1)) cr) 5 (((fX0_renew (lAdd v 8 (lAt v 9 cr) (-1)) cr).1 5) + 1)) H := hL.setSc hA 5 hat rfl hk
    clear hat hz hk
    refine lv_goto (tgt := 78) hx hb dX1_mend_56 (by decide) ?_
    exact W.vret hx hb hr (hS.end (by rw [fX1_mend, if_neg c_23]; exact hL)) hS.2.2 dX1_mend_78
def bX1_mendCars_2 (v : LV) (i : Nat) (a : LV) : LV :=
  (if (fX0_runs a (nI i)) = 0 then fX1_mend a (nI i) else a)
def fX1_mendCars (v : LV) : LV :=
  itI ((v.1 2).toNatClampNeg) (bX1_mendCars_2 v) v
theorem sk_bX1_mendCars_2 (v : LV) (i : Nat) (a : LV) : sk a (bX1_mendCars_2 v i a) := by
  unfold bX1_mendCars_2
  (repeat' split) <;> first | exact sk_X1_mend _ _ | exact sk.rf _ | exact ⟨rfl, rfl, rfl⟩
theorem ski_bX1_mendCars_2 (v : LV) (i : Nat) (a : LV) : sk a (itI i (bX1_mendCars_2 v) a) := sk.it (sk_bX1_mendCars_2 v) a i
theorem sk_X1_mendCars (v : LV) : sk v (fX1_mendCars v) := by
  unfold fX1_mendCars
  (repeat' split) <;> first | exact ski_bX1_mendCars_2 v _ _
set_option maxHeartbeats 4000000 in
set_option maxRecDepth 100000 in
theorem c_X1_mendCars (l : Launch) (D : va_G) (cI : ClassId) (A : Nat → Nat) (hA : LInj A) (v : LV)   : Met l yX1_mendCars wsX1_mendCars ({ frames := 3, cells := 0, slots := 0, locals := 67 }) (tr_Pc D cI [.ref (A 0)] (LNE D cI A v)) (tr_Q none (LNE D cI A (fX1_mendCars v)) (lOwn A)) 0 0 (lOwn A) := by
  refine Met.ofW (cc := cX1_mendCars) (maxL := 2) (ret := none) (by decide) rfl ?_
  intro p e s m args below meth c s₁ B hml hv
  obtain ⟨rfl, hL, hK⟩ := hv
  have hx := B.exec
  have hb := B.bytes
  have hr := B.returns
  have hts := atoms_spec (ws := wsX1_mendCars) B.pre
  have hown : s.vm.findClass RX1 = some m.cls := findClass_of_methodNamed B.named
  have hlocks := B.notSynchronized
  have hiX0 : ∀ w ∈ u_ws RX0 TX0 9, w ∈ wsX1_mendCars := by decide +kernel
  have hiX1 : ∀ w ∈ u_ws RX1 TX1 6, w ∈ wsX1_mendCars := by decide +kernel
  have f28 := hts (.fieldLink RX1 28 "TramRibbon$Line" "fleet" "LTramRibbon$Fleet;") (by decide +kernel)
  have f80 := hts (.fieldLink RX1 80 "TramRibbon$Fleet" "size" "I") (by decide +kernel)
  have hl := lv_entry ([.ref (A 0)]) (n := 2) (Nat.le_of_ble_eq_true rfl)
  rw [lg_entry_eq]
  generalize (lg_sl ([.ref (A 0)]) ++ List.replicate (2 - (lg_sl ([.ref (A 0)])).length) Slot.unset).toArray = ls at hl ⊢
  replace hl : lv_has ls 2 [(0, .ref (A 0))] := hl
  have hS : tr_S (lOwn A) s.heap s.heap [] := tr_S.rf
  generalize h1 : s.heap = H, h2 : ([] : List Loc) = locs
  replace hS : tr_S (lOwn A) s.heap H locs := by rw [← h1, ← h2]; exact hS
  rw [h1] at hL
  clear h1 h2
  refine lv_iconst (v := 0) hx hb dX1_mendCars_0 (by decide) ?_
  refine lv_istore_n (lv' := [(1, .int 0), (0, .ref (A 0))]) hx hb dX1_mendCars_1 rfl hl (by decide) rfl (fun ls hl => ?_)
  have hinv := And.intro (show LNE D cI A v H ∧ tr_S (lOwn A) s.heap H locs from ⟨hL, hS⟩) hl
  clear hL hS hl
  revert hinv; revert ls; revert locs; revert H
  refine tr_forw (fun i H locs ls => (LNE D cI A (itI i (bX1_mendCars_2 v) v) H ∧ tr_S (lOwn A) s.heap H locs) ∧ lv_has ls 2 [(0, .ref (A 0)), (1, .int (nI i))]) ((v.1 2).toNatClampNeg) (fun H locs ls hinv => ?_) ?_
  · obtain ⟨⟨hL, hS⟩, hl⟩ := hinv
    exact ⟨⟨by rw [itI_0]; exact hL, hS⟩, lv_sub hl [1, 0] rfl⟩
  intro i H locs ls hi hinv ih
  obtain ⟨⟨hL, hS⟩, hl⟩ := hinv
  refine lv_iload_n hx hb dX1_mendCars_2 rfl (lv_at hl 1 rfl) ?_
  refine lv_aload_n hx hb dX1_mendCars_3 rfl (lv_at hl 0 rfl) ?_
  refine tr_get (ci := 1) (C := RX1) (T := TX1) (N := 6) hx hb hts hiX1 hown hK hL.c0 rfl 2 (by decide) f28 (v := .ref (A 3)) rfl dX1_mendCars_4 ?_
  refine tr_get (ci := 0) (C := RX0) (T := TX0) (N := 9) hx hb hts hiX0 hown hK hL.c3 rfl 0 (by decide) f80 (v := .int ((itI i (bX1_mendCars_2 v) v).1 2)) rfl dX1_mendCars_7 ?_
  refine lv_icmp_ge (tgt := 35) hx hb dX1_mendCars_10 (by decide) (fun c_10 => ?_) (fun c_10 => ?_)
  · have hN : i = (v.1 2).toNatClampNeg := tr_over (congrArg Int32.toNatClampNeg (ski_bX1_mendCars_2 v i v).2.2) hi c_10
    subst hN
    exact W.vret hx hb hr (hS.end (by rw [fX1_mendCars]; exact hL)) hS.2.2 dX1_mendCars_35
  · have hlt : i < (v.1 2).toNatClampNeg := tr_on (congrArg Int32.toNatClampNeg (ski_bX1_mendCars_2 v i v).2.2) hi c_10
    refine lv_aload_n hx hb dX1_mendCars_13 rfl (lv_at hl 0 rfl) ?_
    refine tr_get (ci := 1) (C := RX1) (T := TX1) (N := 6) hx hb hts hiX1 hown hK hL.c0 rfl 2 (by decide) f28 (v := .ref (A 3)) rfl dX1_mendCars_14 ?_
    refine lv_iload_n hx hb dX1_mendCars_17 rfl (lv_at hl 1 rfl) ?_
    refine tr_ri (va_runV (As := [.int (nI i)]) (rest := []) ⟨hx, hb, hml, hown, hts⟩ (c_X0_runs l D cI A hA (itI i (bX1_mendCars_2 v) v) (nI i)) (cwV 1 hts gX1_mendCars_X0_runs rfl rfl rfl (by decide +kernel) ⟨Nat.le_of_ble_eq_true rfl, Nat.le_of_ble_eq_true rfl⟩) (tr_preV hK hL.c3 rfl hL) rfl rfl hl.1 rfl (lv_room (Nat.le_of_ble_eq_true rfl)) dX1_mendCars_18 ⟨Nat.zero_le _, Nat.zero_le _⟩) ?_
    refine lv_if_ne (tgt := 29) hx hb dX1_mendCars_21 (by decide) (fun c_21 => ?_) (fun c_21 => ?_)
    · refine lv_iinc (v := nI (i + 1)) (lv' := [(1, .int (nI (i + 1))), (0, .ref (A 0))]) hx hb dX1_mendCars_29 hl (k := 1) rfl (tr_inc _) (by decide) rfl (fun ls hl => ?_)
      refine lv_goto (tgt := 2) hx hb dX1_mendCars_32 (by decide) ?_
      have e9 : itI (i + 1) (bX1_mendCars_2 v) v = itI i (bX1_mendCars_2 v) v := by rw [itI_s, bX1_mendCars_2, if_neg c_21]
      exact ih H locs ls hlt ⟨⟨by rw [e9]; exact hL, hS⟩, lv_sub hl [1, 0] rfl⟩
    · refine lv_aload_n hx hb dX1_mendCars_24 rfl (lv_at hl 0 rfl) ?_
      refine lv_iload_n hx hb dX1_mendCars_25 rfl (lv_at hl 1 rfl) ?_
      refine tr_cv (va_runV (As := [.int (nI i)]) (rest := []) ⟨hx, hb, hml, hown, hts⟩ (c_X1_mend l D cI A hA (itI i (bX1_mendCars_2 v) v) (nI i)) (cwV 1 hts gX1_mendCars_X1_mend rfl rfl rfl (by decide +kernel) ⟨Nat.le_of_ble_eq_true rfl, Nat.le_of_ble_eq_true rfl⟩) (tr_preV hK hL.c0 rfl hL) rfl rfl hl.1 rfl (lv_room (Nat.le_of_ble_eq_true rfl)) dX1_mendCars_26 ⟨Nat.zero_le _, Nat.zero_le _⟩) hS (fun _ h => h) (fun H locs hL hS => ?_)
      refine lv_iinc (v := nI (i + 1)) (lv' := [(1, .int (nI (i + 1))), (0, .ref (A 0))]) hx hb dX1_mendCars_29 hl (k := 1) rfl (tr_inc _) (by decide) rfl (fun ls hl => ?_)
      refine lv_goto (tgt := 2) hx hb dX1_mendCars_32 (by decide) ?_
      have e9 : itI (i + 1) (bX1_mendCars_2 v) v = fX1_mend (itI i (bX1_mendCars_2 v) v) (nI i) := by rw [itI_s, bX1_mendCars_2, if_pos c_21]
      exact ih H locs ls hlt ⟨⟨by rw [e9]; exact hL, hS⟩, lv_sub hl [1, 0] rfl⟩
def bX1_closeTick_2 (v : LV) (i : Nat) (a : LV) : LV :=
  (if ((a.1 3) - (a.1 3) / ((nI i) + 2) * ((nI i) + 2)) = 0 then fX3_welcome a (nI i) 1 else a)
def fX1_closeTick (v : LV) : LV :=
  lSc (fX4_recover (itI ((v.1 0).toNatClampNeg) (bX1_closeTick_2 v) v)) 3 (((fX4_recover (itI ((v.1 0).toNatClampNeg) (bX1_closeTick_2 v) v)).1 3) + 1)
theorem sk_bX1_closeTick_2 (v : LV) (i : Nat) (a : LV) : sk a (bX1_closeTick_2 v i a) := by
  unfold bX1_closeTick_2
  (repeat' split) <;> first | exact sk_X3_welcome _ _ _ | exact sk.rf _ | exact ⟨rfl, rfl, rfl⟩
theorem ski_bX1_closeTick_2 (v : LV) (i : Nat) (a : LV) : sk a (itI i (bX1_closeTick_2 v) a) := sk.it (sk_bX1_closeTick_2 v) a i
theorem sk_X1_closeTick (v : LV) : sk v (fX1_closeTick v) := by
  unfold fX1_closeTick
  (repeat' split) <;> first | exact ((ski_bX1_closeTick_2 v _ _).trans (sk_X4_recover _)).trans ⟨rfl, rfl, rfl⟩ | exact ski_bX1_closeTick_2 v _ _
set_option maxHeartbeats 4000000 in
set_option maxRecDepth 100000 in
theorem c_X1_closeTick (l : Launch) (D : va_G) (cI : ClassId) (A : Nat → Nat) (hA : LInj A) (v : LV)   : Met l yX1_closeTick wsX1_closeTick ({ frames := 2, cells := 0, slots := 0, locals := 44 }) (tr_Pc D cI [.ref (A 0)] (LNE D cI A v)) (tr_Q none (LNE D cI A (fX1_closeTick v)) (lOwn A)) 0 0 (lOwn A) := by
  refine Met.ofW (cc := cX1_closeTick) (maxL := 2) (ret := none) (by decide) rfl ?_
  intro p e s m args below meth c s₁ B hml hv
  obtain ⟨rfl, hL, hK⟩ := hv
  have hx := B.exec
  have hb := B.bytes
  have hr := B.returns
  have hts := atoms_spec (ws := wsX1_closeTick) B.pre
  have hown : s.vm.findClass RX1 = some m.cls := findClass_of_methodNamed B.named
  have hlocks := B.notSynchronized
  have hiX1 : ∀ w ∈ u_ws RX1 TX1 6, w ∈ wsX1_closeTick := by decide +kernel
  have hiX4 : ∀ w ∈ u_ws RX4 TX4 9, w ∈ wsX1_closeTick := by decide +kernel
  have f12 := hts (.fieldLink RX1 12 "TramRibbon$Line" "wire" "LTramRibbon$Wire;") (by decide +kernel)
  have f191 := hts (.fieldLink RX1 191 "TramRibbon$Wire" "poles" "I") (by decide +kernel)
  have f21 := hts (.fieldLink RX1 21 "TramRibbon$Line" "stops" "LTramRibbon$Stops;") (by decide +kernel)
  have f49 := hts (.fieldLink RX1 49 "TramRibbon$Line" "tick" "I") (by decide +kernel)
  have hl := lv_entry ([.ref (A 0)]) (n := 2) (Nat.le_of_ble_eq_true rfl)
  rw [lg_entry_eq]
  generalize (lg_sl ([.ref (A 0)]) ++ List.replicate (2 - (lg_sl ([.ref (A 0)])).length) Slot.unset).toArray = ls at hl ⊢
  replace hl : lv_has ls 2 [(0, .ref (A 0))] := hl
  have hS : tr_S (lOwn A) s.heap s.heap [] := tr_S.rf
  generalize h1 : s.heap = H, h2 : ([] : List Loc) = locs
  replace hS : tr_S (lOwn A) s.heap H locs := by rw [← h1, ← h2]; exact hS
  rw [h1] at hL
  clear h1 h2
  refine lv_iconst (v := 0) hx hb dX1_closeTick_0 (by decide) ?_
  refine lv_istore_n (lv' := [(1, .int 0), (0, .ref (A 0))]) hx hb dX1_closeTick_1 rfl hl (by decide) rfl (fun ls hl => ?_)
  have hinv := And.intro (show LNE D cI A v H ∧ tr_S (lOwn A) s.heap H locs from ⟨hL, hS⟩) hl
  clear hL hS hl
  revert hinv; revert ls; revert locs; revert H
  refine tr_forw (fun i H locs ls => (LNE D cI A (itI i (bX1_closeTick_2 v) v) H ∧ tr_S (lOwn A) s.heap H locs) ∧ lv_has ls 2 [(0, .ref (A 0)), (1, .int (nI i))]) ((v.1 0).toNatClampNeg) (fun H locs ls hinv => ?_) ?_
  · obtain ⟨⟨hL, hS⟩, hl⟩ := hinv
    exact ⟨⟨by rw [itI_0]; exact hL, hS⟩, lv_sub hl [1, 0] rfl⟩
  intro i H locs ls hi hinv ih
  obtain ⟨⟨hL, hS⟩, hl⟩ := hinv
  refine lv_iload_n hx hb dX1_closeTick_2 rfl (lv_at hl 1 rfl) ?_
  refine lv_aload_n hx hb dX1_closeTick_3 rfl (lv_at hl 0 rfl) ?_
  refine tr_get (ci := 1) (C := RX1) (T := TX1) (N := 6) hx hb hts hiX1 hown hK hL.c0 rfl 0 (by decide) f12 (v := .ref (A 1)) rfl dX1_closeTick_4 ?_
  refine tr_get (ci := 4) (C := RX4) (T := TX4) (N := 9) hx hb hts hiX4 hown hK hL.c1 rfl 0 (by decide) f191 (v := .int ((itI i (bX1_closeTick_2 v) v).1 0)) rfl dX1_closeTick_7 ?_
  refine lv_icmp_ge (tgt := 39) hx hb dX1_closeTick_10 (by decide) (fun c_10 => ?_) (fun c_10 => ?_)
  · have hN : i = (v.1 0).toNatClampNeg := tr_over (congrArg Int32.toNatClampNeg (ski_bX1_closeTick_2 v i v).1) hi c_10
    subst hN
    refine lv_aload_n hx hb dX1_closeTick_39 rfl (lv_at hl 0 rfl) ?_
    refine tr_get (ci := 1) (C := RX1) (T := TX1) (N := 6) hx hb hts hiX1 hown hK hL.c0 rfl 0 (by decide) f12 (v := .ref (A 1)) rfl dX1_closeTick_40 ?_
    refine tr_cv (va_runV (As := []) (rest := []) ⟨hx, hb, hml, hown, hts⟩ (c_X4_recover l D cI A hA (itI ((v.1 0).toNatClampNeg) (bX1_closeTick_2 v) v) ) (cwV 0 hts gX1_closeTick_X4_recover rfl rfl rfl (by decide +kernel) ⟨Nat.le_of_ble_eq_true rfl, Nat.le_of_ble_eq_true rfl⟩) (tr_preV hK hL.c1 rfl hL) rfl rfl hl.1 rfl (lv_room (Nat.le_of_ble_eq_true rfl)) dX1_closeTick_43 ⟨Nat.zero_le _, Nat.zero_le _⟩) hS (fun _ h => h) (fun H locs hL hS => ?_)
    refine lv_aload_n hx hb dX1_closeTick_46 rfl (lv_at hl 0 rfl) ?_
    refine lv_dup hx hb dX1_closeTick_47 rfl ?_
    refine tr_get (ci := 1) (C := RX1) (T := TX1) (N := 6) hx hb hts hiX1 hown hK hL.c0 rfl 3 (by decide) f49 (v := .int ((fX4_recover (itI ((v.1 0).toNatClampNeg) (bX1_closeTick_2 v) v)).1 3)) rfl dX1_closeTick_48 ?_
    refine lv_iconst (v := 1) hx hb dX1_closeTick_51 (by decide) ?_
    refine lv_iadd hx hb dX1_closeTick_52 ?_
    refine tr_put (ci := 1) (C := RX1) (T := TX1) (N := 6) (ty := .int) (v := .int (((fX4_recover (itI ((v.1 0).toNatClampNeg) (bX1_closeTick_2 v) v)).1 3) + 1)) hx hb hts hiX1 tyX1 tyX1_ok nmX1 hown hK hS (lOwn_k (k := 0) (by decide)) hL.c0 rfl 3 (by decide) f49 rfl (by decide +kernel) rfl rfl (Nat.le_of_ble_eq_true rfl) dX1_closeTick_53 (fun H locs hat hz hk hS => ?_)
    have hL : LNE D cI A (lSc (fX4_recover (itI ((v.1 0).toNatClampNeg) (bX1_closeTick_2 v) v)) 3 (((fX4_recover (itI ((v.1 0).toNatClampNeg) (bX1_closeTick_2 v) v)).1 3) + 1)) H := hL.setSc hA 3 hat rfl hk
    clear hat hz hk
    exact W.vret hx hb hr (hS.end (by rw [fX1_closeTick]; exact hL)) hS.2.2 dX1_closeTick_56
  · have hlt : i < (v.1 0).toNatClampNeg := tr_on (congrArg Int32.toNatClampNeg (ski_bX1_closeTick_2 v i v).1) hi c_10
    refine lv_aload_n hx hb dX1_closeTick_13 rfl (lv_at hl 0 rfl) ?_
    refine tr_get (ci := 1) (C := RX1) (T := TX1) (N := 6) hx hb hts hiX1 hown hK hL.c0 rfl 3 (by decide) f49 (v := .int ((itI i (bX1_closeTick_2 v) v).1 3)) rfl dX1_closeTick_14 ?_
    refine lv_iload_n hx hb dX1_closeTick_17 rfl (lv_at hl 1 rfl) ?_
    refine lv_iconst (v := 2) hx hb dX1_closeTick_18 (by decide) ?_
    refine lv_iadd hx hb dX1_closeTick_19 ?_
    refine lv_irem hx hb dX1_closeTick_20 (tr_nz2 rfl hlt) ?_
    refine lv_if_ne (tgt := 33) hx hb dX1_closeTick_21 (by decide) (fun c_21 => ?_) (fun c_21 => ?_)
    · refine lv_iinc (v := nI (i + 1)) (lv' := [(1, .int (nI (i + 1))), (0, .ref (A 0))]) hx hb dX1_closeTick_33 hl (k := 1) rfl (tr_inc _) (by decide) rfl (fun ls hl => ?_)
      refine lv_goto (tgt := 2) hx hb dX1_closeTick_36 (by decide) ?_
      have e9 : itI (i + 1) (bX1_closeTick_2 v) v = itI i (bX1_closeTick_2 v) v := by rw [itI_s, bX1_closeTick_2, if_neg c_21]
      exact ih H locs ls hlt ⟨⟨by rw [e9]; exact hL, hS⟩, lv_sub hl [1, 0] rfl⟩
    · refine lv_aload_n hx hb dX1_closeTick_24 rfl (lv_at hl 0 rfl) ?_
      refine tr_get (ci := 1) (C := RX1) (T := TX1) (N := 6) hx hb hts hiX1 hown hK hL.c0 rfl 1 (by decide) f21 (v := .ref (A 2)) rfl dX1_closeTick_25 ?_
      refine lv_iload_n hx hb dX1_closeTick_28 rfl (lv_at hl 1 rfl) ?_
      refine lv_iconst (v := 1) hx hb dX1_closeTick_29 (by decide) ?_
      refine tr_cv (va_runV (As := [.int (nI i), .int 1]) (rest := []) ⟨hx, hb, hml, hown, hts⟩ (c_X3_welcome l D cI A hA (itI i (bX1_closeTick_2 v) v) (nI i) 1) (cwV 2 hts gX1_closeTick_X3_welcome rfl rfl rfl (by decide +kernel) ⟨Nat.le_of_ble_eq_true rfl, Nat.le_of_ble_eq_true rfl⟩) (tr_preV hK hL.c2 rfl hL) rfl rfl hl.1 rfl (lv_room (Nat.le_of_ble_eq_true rfl)) dX1_closeTick_30 ⟨Nat.zero_le _, Nat.zero_le _⟩) hS (fun _ h => h) (fun H locs hL hS => ?_)
      refine lv_iinc (v := nI (i + 1)) (lv' := [(1, .int (nI (i + 1))), (0, .ref (A 0))]) hx hb dX1_closeTick_33 hl (k := 1) rfl (tr_inc _) (by decide) rfl (fun ls hl => ?_)
      refine lv_goto (tgt := 2) hx hb dX1_closeTick_36 (by decide) ?_
      have e9 : itI (i + 1) (bX1_closeTick_2 v) v = fX3_welcome (itI i (bX1_closeTick_2 v) v) (nI i) 1 := by rw [itI_s, bX1_closeTick_2, if_pos c_21]
      exact ih H locs ls hlt ⟨⟨by rw [e9]; exact hL, hS⟩, lv_sub hl [1, 0] rfl⟩
def fX1_tickOnce (v : LV) : LV :=
  fX1_closeTick (fX1_mendCars (fX1_serveStops (fX1_moveCars (fX1_drawCurrent (fX1_turnCars v)))))
theorem sk_X1_tickOnce (v : LV) : sk v (fX1_tickOnce v) := by
  unfold fX1_tickOnce
  (repeat' split) <;> first | exact ((((((sk_X1_turnCars v).trans (sk_X1_drawCurrent _)).trans (sk_X1_moveCars _)).trans (sk_X1_serveStops _)).trans (sk_X1_mendCars _)).trans (sk_X1_closeTick _))
set_option maxHeartbeats 4000000 in
set_option maxRecDepth 100000 in
theorem c_X1_tickOnce (l : Launch) (D : va_G) (cI : ClassId) (A : Nat → Nat) (hA : LInj A) (v : LV)   : Met l yX1_tickOnce wsX1_tickOnce ({ frames := 4, cells := 0, slots := 0, locals := 89 }) (tr_Pc D cI [.ref (A 0)] (LNE D cI A v)) (tr_Q none (LNE D cI A (fX1_tickOnce v)) (lOwn A)) 0 0 (lOwn A) := by
  refine Met.ofW (cc := cX1_tickOnce) (maxL := 1) (ret := none) (by decide) rfl ?_
  intro p e s m args below meth c s₁ B hml hv
  obtain ⟨rfl, hL, hK⟩ := hv
  have hx := B.exec
  have hb := B.bytes
  have hr := B.returns
  have hts := atoms_spec (ws := wsX1_tickOnce) B.pre
  have hown : s.vm.findClass RX1 = some m.cls := findClass_of_methodNamed B.named
  have hlocks := B.notSynchronized
  have hl := lv_entry ([.ref (A 0)]) (n := 1) (Nat.le_of_ble_eq_true rfl)
  rw [lg_entry_eq]
  generalize (lg_sl ([.ref (A 0)]) ++ List.replicate (1 - (lg_sl ([.ref (A 0)])).length) Slot.unset).toArray = ls at hl ⊢
  replace hl : lv_has ls 1 [(0, .ref (A 0))] := hl
  have hS : tr_S (lOwn A) s.heap s.heap [] := tr_S.rf
  generalize h1 : s.heap = H, h2 : ([] : List Loc) = locs
  replace hS : tr_S (lOwn A) s.heap H locs := by rw [← h1, ← h2]; exact hS
  rw [h1] at hL
  clear h1 h2
  refine lv_aload_n hx hb dX1_tickOnce_0 rfl (lv_at hl 0 rfl) ?_
  refine tr_cv (va_runV (As := []) (rest := []) ⟨hx, hb, hml, hown, hts⟩ (c_X1_turnCars l D cI A hA v ) (cwV 0 hts gX1_tickOnce_X1_turnCars rfl rfl rfl (by decide +kernel) ⟨Nat.le_of_ble_eq_true rfl, Nat.le_of_ble_eq_true rfl⟩) (tr_preV hK hL.c0 rfl hL) rfl rfl hl.1 rfl (lv_room (Nat.le_of_ble_eq_true rfl)) dX1_tickOnce_1 ⟨Nat.zero_le _, Nat.zero_le _⟩) hS (fun _ h => h) (fun H locs hL hS => ?_)
  refine lv_aload_n hx hb dX1_tickOnce_4 rfl (lv_at hl 0 rfl) ?_
  refine tr_cv (va_runV (As := []) (rest := []) ⟨hx, hb, hml, hown, hts⟩ (c_X1_drawCurrent l D cI A hA (fX1_turnCars v) ) (cwV 0 hts gX1_tickOnce_X1_drawCurrent rfl rfl rfl (by decide +kernel) ⟨Nat.le_of_ble_eq_true rfl, Nat.le_of_ble_eq_true rfl⟩) (tr_preV hK hL.c0 rfl hL) rfl rfl hl.1 rfl (lv_room (Nat.le_of_ble_eq_true rfl)) dX1_tickOnce_5 ⟨Nat.zero_le _, Nat.zero_le _⟩) hS (fun _ h => h) (fun H locs hL hS => ?_)
  refine lv_aload_n hx hb dX1_tickOnce_8 rfl (lv_at hl 0 rfl) ?_
  refine tr_cv (va_runV (As := []) (rest := []) ⟨hx, hb, hml, hown, hts⟩ (c_X1_moveCars l D cI A hA (fX1_drawCurrent (fX1_turnCars v)) ) (cwV 0 hts gX1_tickOnce_X1_moveCars rfl rfl rfl (by decide +kernel) ⟨Nat.le_of_ble_eq_true rfl, Nat.le_of_ble_eq_true rfl⟩) (tr_preV hK hL.c0 rfl hL) rfl rfl hl.1 rfl (lv_room (Nat.le_of_ble_eq_true rfl)) dX1_tickOnce_9 ⟨Nat.zero_le _, Nat.zero_le _⟩) hS (fun _ h => h) (fun H locs hL hS => ?_)
  refine lv_aload_n hx hb dX1_tickOnce_12 rfl (lv_at hl 0 rfl) ?_
  refine tr_cv (va_runV (As := []) (rest := []) ⟨hx, hb, hml, hown, hts⟩ (c_X1_serveStops l D cI A hA (fX1_moveCars (fX1_drawCurrent (fX1_turnCars v))) ) (cwV 0 hts gX1_tickOnce_X1_serveStops rfl rfl rfl (by decide +kernel) ⟨Nat.le_of_ble_eq_true rfl, Nat.le_of_ble_eq_true rfl⟩) (tr_preV hK hL.c0 rfl hL) rfl rfl hl.1 rfl (lv_room (Nat.le_of_ble_eq_true rfl)) dX1_tickOnce_13 ⟨Nat.zero_le _, Nat.zero_le _⟩) hS (fun _ h => h) (fun H locs hL hS => ?_)
  refine lv_aload_n hx hb dX1_tickOnce_16 rfl (lv_at hl 0 rfl) ?_
  refine tr_cv (va_runV (As := []) (rest := []) ⟨hx, hb, hml, hown, hts⟩ (c_X1_mendCars l D cI A hA (fX1_serveStops (fX1_moveCars (fX1_drawCurrent (fX1_turnCars v)))) ) (cwV 0 hts gX1_tickOnce_X1_mendCars rfl rfl rfl (by decide +kernel) ⟨Nat.le_of_ble_eq_true rfl, Nat.le_of_ble_eq_true rfl⟩) (tr_preV hK hL.c0 rfl hL) rfl rfl hl.1 rfl (lv_room (Nat.le_of_ble_eq_true rfl)) dX1_tickOnce_17 ⟨Nat.zero_le _, Nat.zero_le _⟩) hS (fun _ h => h) (fun H locs hL hS => ?_)
  refine lv_aload_n hx hb dX1_tickOnce_20 rfl (lv_at hl 0 rfl) ?_
  refine tr_cv (va_runV (As := []) (rest := []) ⟨hx, hb, hml, hown, hts⟩ (c_X1_closeTick l D cI A hA (fX1_mendCars (fX1_serveStops (fX1_moveCars (fX1_drawCurrent (fX1_turnCars v))))) ) (cwV 0 hts gX1_tickOnce_X1_closeTick rfl rfl rfl (by decide +kernel) ⟨Nat.le_of_ble_eq_true rfl, Nat.le_of_ble_eq_true rfl⟩) (tr_preV hK hL.c0 rfl hL) rfl rfl hl.1 rfl (lv_room (Nat.le_of_ble_eq_true rfl)) dX1_tickOnce_21 ⟨Nat.zero_le _, Nat.zero_le _⟩) hS (fun _ h => h) (fun H locs hL hS => ?_)
  exact W.vret hx hb hr (hS.end (by rw [fX1_tickOnce]; exact hL)) hS.2.2 dX1_tickOnce_24
def bX1_run_7 (v : LV) (tk : Int32) (i : Nat) (a : LV) : LV :=
  fX1_tickOnce a
def fX1_run (v : LV) (tk : Int32) : LV :=
  itI tk.toNatClampNeg (bX1_run_7 v tk) v
def rX1_run (v : LV) (tk : Int32) : Int32 :=
  ((itI tk.toNatClampNeg (bX1_run_7 v tk) v).1 4) - (v.1 4)
theorem sk_bX1_run_7 (v : LV) (tk : Int32) (i : Nat) (a : LV) : sk a (bX1_run_7 v tk i a) := by
  unfold bX1_run_7
  (repeat' split) <;> first | exact sk_X1_tickOnce _ | exact sk.rf _ | exact ⟨rfl, rfl, rfl⟩
theorem ski_bX1_run_7 (v : LV) (tk : Int32) (i : Nat) (a : LV) : sk a (itI i (bX1_run_7 v tk) a) := sk.it (sk_bX1_run_7 v tk) a i
theorem sk_X1_run (v : LV) (tk : Int32) : sk v (fX1_run v tk) := by
  unfold fX1_run
  (repeat' split) <;> first | exact ski_bX1_run_7 v tk _ _ | exact sk.rf _ | exact ⟨rfl, rfl, rfl⟩
set_option maxHeartbeats 4000000 in
set_option maxRecDepth 100000 in
theorem c_X1_run (l : Launch) (D : va_G) (cI : ClassId) (A : Nat → Nat) (hA : LInj A) (v : LV) (tk : Int32)  : Met l yX1_run wsX1_run ({ frames := 5, cells := 0, slots := 0, locals := 109 }) (tr_Pc D cI [.ref (A 0), .int tk] (LNE D cI A v)) (tr_Q (some (.int (rX1_run v tk))) (LNE D cI A (fX1_run v tk)) (lOwn A)) 0 0 (lOwn A) := by
  refine Met.ofW (cc := cX1_run) (maxL := 4) (ret := (some .int)) (by decide) rfl ?_
  intro p e s m args below meth c s₁ B hml hv
  obtain ⟨rfl, hL, hK⟩ := hv
  have hx := B.exec
  have hb := B.bytes
  have hr := B.returns
  have hts := atoms_spec (ws := wsX1_run) B.pre
  have hown : s.vm.findClass RX1 = some m.cls := findClass_of_methodNamed B.named
  have hlocks := B.notSynchronized
  have hiX1 : ∀ w ∈ u_ws RX1 TX1 6, w ∈ wsX1_run := by decide +kernel
  have f53 := hts (.fieldLink RX1 53 "TramRibbon$Line" "boarded" "I") (by decide +kernel)
  have hl := lv_entry ([.ref (A 0), .int tk]) (n := 4) (Nat.le_of_ble_eq_true rfl)
  rw [lg_entry_eq]
  generalize (lg_sl ([.ref (A 0), .int tk]) ++ List.replicate (4 - (lg_sl ([.ref (A 0), .int tk])).length) Slot.unset).toArray = ls at hl ⊢
  replace hl : lv_has ls 4 [(0, .ref (A 0)), (1, .int tk)] := hl
  have hS : tr_S (lOwn A) s.heap s.heap [] := tr_S.rf
  generalize h1 : s.heap = H, h2 : ([] : List Loc) = locs
  replace hS : tr_S (lOwn A) s.heap H locs := by rw [← h1, ← h2]; exact hS
  rw [h1] at hL
  clear h1 h2
  refine lv_aload_n hx hb dX1_run_0 rfl (lv_at hl 0 rfl) ?_
  refine tr_get (ci := 1) (C := RX1) (T := TX1) (N := 6) hx hb hts hiX1 hown hK hL.c0 rfl 4 (by decide) f53 (v := .int (v.1 4)) rfl dX1_run_1 ?_
  refine lv_istore_n (lv' := [(2, .int (v.1 4)), (0, .ref (A 0)), (1, .int tk)]) hx hb dX1_run_4 rfl hl (by decide) rfl (fun ls hl => ?_)
  refine lv_iconst (v := 0) hx hb dX1_run_5 (by decide) ?_
  refine lv_istore_n (lv' := [(3, .int 0), (2, .int (v.1 4)), (0, .ref (A 0)), (1, .int tk)]) hx hb dX1_run_6 rfl hl (by decide) rfl (fun ls hl => ?_)
  have hinv := And.intro (show LNE D cI A v H ∧ tr_S (lOwn A) s.heap H locs from ⟨hL, hS⟩) hl
  clear hL hS hl
  revert hinv; revert ls; revert locs; revert H
  refine tr_forw (fun i H locs ls => (LNE D cI A (itI i (bX1_run_7 v tk) v) H ∧ tr_S (lOwn A) s.heap H locs) ∧ lv_has ls 4 [(0, .ref (A 0)), (1, .int tk), (2, .int (v.1 4)), (3, .int (nI i))]) (tk.toNatClampNeg) (fun H locs ls hinv => ?_) ?_
  · obtain ⟨⟨hL, hS⟩, hl⟩ := hinv
    exact ⟨⟨by rw [itI_0]; exact hL, hS⟩, lv_sub hl [2, 3, 1, 0] rfl⟩
  intro i H locs ls hi hinv ih
  obtain ⟨⟨hL, hS⟩, hl⟩ := hinv
  refine lv_iload_n hx hb dX1_run_7 rfl (lv_at hl 3 rfl) ?_
  refine lv_iload_n hx hb dX1_run_8 rfl (lv_at hl 1 rfl) ?_
  refine lv_icmp_ge (tgt := 22) hx hb dX1_run_9 (by decide) (fun c_9 => ?_) (fun c_9 => ?_)
  · have hN : i = tk.toNatClampNeg := tr_over rfl hi c_9
    subst hN
    refine lv_aload_n hx hb dX1_run_22 rfl (lv_at hl 0 rfl) ?_
    refine tr_get (ci := 1) (C := RX1) (T := TX1) (N := 6) hx hb hts hiX1 hown hK hL.c0 rfl 4 (by decide) f53 (v := .int ((itI tk.toNatClampNeg (bX1_run_7 v tk) v).1 4)) rfl dX1_run_23 ?_
    refine lv_iload_n hx hb dX1_run_26 rfl (lv_at hl 2 rfl) ?_
    refine lv_isub hx hb dX1_run_27 ?_
    exact W.iret hx hb hr (hS.endr (by rw [rX1_run]) (by rw [fX1_run]; exact hL)) hS.2.2 dX1_run_28
  · have hlt : i < tk.toNatClampNeg := tr_on rfl hi c_9
    refine lv_aload_n hx hb dX1_run_12 rfl (lv_at hl 0 rfl) ?_
    refine tr_cv (va_runV (As := []) (rest := []) ⟨hx, hb, hml, hown, hts⟩ (c_X1_tickOnce l D cI A hA (itI i (bX1_run_7 v tk) v) ) (cwV 0 hts gX1_run_X1_tickOnce rfl rfl rfl (by decide +kernel) ⟨Nat.le_of_ble_eq_true rfl, Nat.le_of_ble_eq_true rfl⟩) (tr_preV hK hL.c0 rfl hL) rfl rfl hl.1 rfl (lv_room (Nat.le_of_ble_eq_true rfl)) dX1_run_13 ⟨Nat.zero_le _, Nat.zero_le _⟩) hS (fun _ h => h) (fun H locs hL hS => ?_)
    refine lv_iinc (v := nI (i + 1)) (lv' := [(3, .int (nI (i + 1))), (0, .ref (A 0)), (1, .int tk), (2, .int (v.1 4))]) hx hb dX1_run_16 hl (k := 3) rfl (tr_inc _) (by decide) rfl (fun ls hl => ?_)
    refine lv_goto (tgt := 7) hx hb dX1_run_19 (by decide) ?_
    have e9 : itI (i + 1) (bX1_run_7 v tk) v = fX1_tickOnce (itI i (bX1_run_7 v tk) v) := by rw [itI_s, bX1_run_7]
    exact ih H locs ls hlt ⟨⟨by rw [e9]; exact hL, hS⟩, lv_sub hl [1, 2, 3, 0] rfl⟩
