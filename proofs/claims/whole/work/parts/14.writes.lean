/-! Wire, Stops, Fleet: what is written -/
theorem fstI_ex {α : Type} {f : Nat → Option α} {r : α} : ∀ {n : Nat}, fstI n f = some r → ∃ i, i < n ∧ f i = some r
  | 0, h => by cases h
  | n + 1, h => by
    have h2 : (match fstI n f with | some r => some r | none => f n) = some r := h
    cases e : fstI n f with
    | none => rw [e] at h2; exact ⟨n, Nat.lt_succ_self n, h2⟩
    | some q => rw [e] at h2; obtain ⟨i, h3, h4⟩ := fstI_ex e; exact ⟨i, by omega, h4.trans h2⟩
/-- a counter that falls from x, one that grows from x: the test against y -/
def tr_dn (x y : Int32) : Nat := (x.toInt - y.toInt).toNat
theorem tr_dn_int {x y : Int32} {i : Nat} (hi : i ≤ tr_dn x y) : (x - nI i).toInt = x.toInt - i := by
  unfold tr_dn at hi
  have h1 := Int32.toInt_lt x; have h2 := Int32.le_toInt x; have h3 := Int32.toInt_lt y; have h4 := Int32.le_toInt y
  rcases Nat.eq_zero_or_pos i with rfl | h0
  · rw [show nI 0 = 0 from rfl, Int32.sub_zero]; simp
  · rw [Int32.toInt_sub, show (nI i).toInt = ((i : Int)).bmod (2 ^ 32) from Int32.toInt_ofNat]
    rw [Int.sub_bmod_bmod, Int.bmod_eq_of_le] <;> omega
theorem tr_overD {x y z : Int32} {i N : Nat} (hN : tr_dn x y = N) (hi : i ≤ N) (h : x - nI i ≤ y) : i = N := by
  have h1 := tr_dn_int (x := x) (y := y) (i := i) (by omega)
  have h2 := Int32.le_iff_toInt_le.mp h
  unfold tr_dn at hN
  omega
theorem tr_onD {x y z : Int32} {i N : Nat} (hN : tr_dn x y = N) (hi : i ≤ N) (h : ¬ x - nI i ≤ y) : i < N := by
  have h1 := tr_dn_int (x := x) (y := y) (i := i) (by omega)
  have h2 := mt Int32.le_iff_toInt_le.mpr h
  unfold tr_dn at hN
  omega
theorem tr_up_int {x y : Int32} {i : Nat} (hi : i ≤ tr_dn y x) : (x + nI i).toInt = x.toInt + i := by
  unfold tr_dn at hi
  have h1 := Int32.toInt_lt x; have h2 := Int32.le_toInt x; have h3 := Int32.toInt_lt y; have h4 := Int32.le_toInt y
  rcases Nat.eq_zero_or_pos i with rfl | h0
  · rw [show nI 0 = 0 from rfl, Int32.add_zero]; simp
  · rw [Int32.toInt_add, show (nI i).toInt = ((i : Int)).bmod (2 ^ 32) from Int32.toInt_ofNat]
    rw [Int.add_bmod_bmod, Int.bmod_eq_of_le] <;> omega
theorem tr_overU {x y : Int32} {i N : Nat} (hN : tr_dn y x = N) (hi : i ≤ N) (h : y ≤ x + nI i) : i = N := by
  have h1 := tr_up_int (x := x) (y := y) (i := i) (by omega)
  have h2 := Int32.le_iff_toInt_le.mp h
  unfold tr_dn at hN
  omega
theorem tr_onU {x y : Int32} {i N : Nat} (hN : tr_dn y x = N) (hi : i ≤ N) (h : ¬ y ≤ x + nI i) : i < N := by
  have h1 := tr_up_int (x := x) (y := y) (i := i) (by omega)
  have h2 := mt Int32.le_iff_toInt_le.mpr h
  unfold tr_dn at hN
  omega
theorem tr_sub0 (x : Int32) : x - nI 0 = x := Int32.sub_zero x
theorem tr_add0 (x : Int32) : x + nI 0 = x := Int32.add_zero x
theorem tr_subS (x : Int32) (i : Nat) : x - nI (i + 1) = x - nI i + (-1) := by rw [nI_succ]; apply Int32.toBitVec_inj.mp; simp only [Int32.toBitVec_sub, Int32.toBitVec_add, Int32.toBitVec_neg]; bv_omega
theorem tr_addS (x : Int32) (i : Nat) : x + nI (i + 1) = x + nI i + 1 := by rw [nI_succ, Int32.add_assoc]
theorem tr_nz2 {i N : Nat} {x : Int32} (hN : x.toNatClampNeg = N) (h : i < N) : ¬ nI i + 2 = 0 := by
  intro e
  have h3 := tr_cl31 x
  have e2 : (nI i + 2).toBitVec = (0 : Int32).toBitVec := by rw [e]
  have e3 : (nI i).toBitVec = BitVec.ofNat 32 i := rfl
  rw [Int32.toBitVec_add, e3] at e2
  have e4 := congrArg BitVec.toNat e2
  simp at e4
  omega
def fX0_turn (v : LV) (cr : Int32) : LV :=
  (if (fX0_pushes (lSet v 10 cr (1 - (lAt v 10 cr))) cr) = 0 then lSet v 10 cr (1 - (lAt v 10 cr)) else lSet (lSet v 10 cr (1 - (lAt v 10 cr))) 10 (lAt v 14 cr) (lAt (lSet v 10 cr (1 - (lAt v 10 cr))) 10 cr))
theorem sk_X0_turn (v : LV) (cr : Int32) : sk v (fX0_turn v cr) := by
  unfold fX0_turn
  (repeat' split) <;> first | exact sk.rf _ | exact ⟨rfl, rfl, rfl⟩
set_option maxHeartbeats 4000000 in
set_option maxRecDepth 100000 in
theorem c_X0_turn (l : Launch) (D : va_G) (cI : ClassId) (A : Nat → Nat) (hA : LInj A) (v : LV) (cr : Int32)  : Met l yX0_turn wsX0_turn ({ frames := 2, cells := 0, slots := 0, locals := 42 }) (tr_Pc D cI [.ref (A 3), .int cr] (LNE D cI A v)) (tr_Q none (LNE D cI A (fX0_turn v cr)) (lOwn A)) 0 0 (lOwn A) := by
  refine Met.ofW (cc := cX0_turn) (maxL := 2) (ret := none) (by decide) rfl ?_
  intro p e s m args below meth c s₁ B hml hv
  obtain ⟨rfl, hL, hK⟩ := hv
  have hx := B.exec
  have hb := B.bytes
  have hr := B.returns
  have hts := atoms_spec (ws := wsX0_turn) B.pre
  have hown : s.vm.findClass RX0 = some m.cls := findClass_of_methodNamed B.named
  have hlocks := B.notSynchronized
  have hiX0 : ∀ w ∈ u_ws RX0 TX0 9, w ∈ wsX0_turn := by decide +kernel
  have f20 := hts (.fieldLink RX0 20 "TramRibbon$Fleet" "up" "LTramRibbon$Row;") (by decide +kernel)
  have f32 := hts (.fieldLink RX0 32 "TramRibbon$Fleet" "pushed" "LTramRibbon$Row;") (by decide +kernel)
  have hl := lv_entry ([.ref (A 3), .int cr]) (n := 2) (Nat.le_of_ble_eq_true rfl)
  rw [lg_entry_eq]
  generalize (lg_sl ([.ref (A 3), .int cr]) ++ List.replicate (2 - (lg_sl ([.ref (A 3), .int cr])).length) Slot.unset).toArray = ls at hl ⊢
  replace hl : lv_has ls 2 [(0, .ref (A 3)), (1, .int cr)] := hl
  have hS : tr_S (lOwn A) s.heap s.heap [] := tr_S.rf
  generalize h1 : s.heap = H, h2 : ([] : List Loc) = locs
  replace hS : tr_S (lOwn A) s.heap H locs := by rw [← h1, ← h2]; exact hS
  rw [h1] at hL
  clear h1 h2
  refine lv_aload_n hx hb dX0_turn_0 rfl (lv_at hl 0 rfl) ?_
  refine tr_get (ci := 0) (C := RX0) (T := TX0) (N := 9) hx hb hts hiX0 hown hK hL.c3 rfl 2 (by decide) f20 (v := .ref (A 24)) rfl dX0_turn_1 ?_
  refine lv_iload_n hx hb dX0_turn_4 rfl (lv_at hl 1 rfl) ?_
  refine lv_iconst (v := 1) hx hb dX0_turn_5 (by decide) ?_
  refine lv_aload_n hx hb dX0_turn_6 rfl (lv_at hl 0 rfl) ?_
  refine tr_get (ci := 0) (C := RX0) (T := TX0) (N := 9) hx hb hts hiX0 hown hK hL.c3 rfl 2 (by decide) f20 (v := .ref (A 24)) rfl dX0_turn_7 ?_
  refine lv_iload_n hx hb dX0_turn_10 rfl (lv_at hl 1 rfl) ?_
  refine tr_ri (va_runV (As := [.int cr]) (rest := [.int 1, .int cr, .ref (A 24)]) ⟨hx, hb, hml, hown, hts⟩ (c_lat l D cI A hA v 10 (by decide) cr) (cwV 1 hts gX0_turn_X2_at rfl rfl rfl (by decide +kernel) ⟨Nat.le_of_ble_eq_true rfl, Nat.le_of_ble_eq_true rfl⟩) (tr_preV hK (hL.robj 10 (by decide)) rfl (hL.row 10 (by decide))) rfl rfl hl.1 rfl (lv_room (Nat.le_of_ble_eq_true rfl)) dX0_turn_11 ⟨Nat.zero_le _, Nat.zero_le _⟩) ?_
  refine lv_isub hx hb dX0_turn_14 ?_
  refine tr_cv (va_runV (As := [.int cr, .int (1 - (lAt v 10 cr))]) (rest := []) ⟨hx, hb, hml, hown, hts⟩ (c_lset l D cI A hA v 10 (by decide) cr (1 - (lAt v 10 cr))) (cwV 2 hts gX0_turn_X2_set rfl rfl rfl (by decide +kernel) ⟨Nat.le_of_ble_eq_true rfl, Nat.le_of_ble_eq_true rfl⟩) (tr_preV hK (hL.robj 10 (by decide)) rfl hL) rfl rfl hl.1 rfl (lv_room (Nat.le_of_ble_eq_true rfl)) dX0_turn_15 ⟨Nat.zero_le _, Nat.zero_le _⟩) hS (fun _ h => h) (fun H locs hL hS => ?_)
  refine lv_aload_n hx hb dX0_turn_18 rfl (lv_at hl 0 rfl) ?_
  refine lv_iload_n hx hb dX0_turn_19 rfl (lv_at hl 1 rfl) ?_
  refine tr_ri (va_runV (As := [.int cr]) (rest := []) ⟨hx, hb, hml, hown, hts⟩ (c_X0_pushes l D cI A hA (lSet v 10 cr (1 - (lAt v 10 cr))) cr) (cwV 1 hts gX0_turn_X0_pushes rfl rfl rfl (by decide +kernel) ⟨Nat.le_of_ble_eq_true rfl, Nat.le_of_ble_eq_true rfl⟩) (tr_preV hK hL.c3 rfl hL) rfl rfl hl.1 rfl (lv_room (Nat.le_of_ble_eq_true rfl)) dX0_turn_20 ⟨Nat.zero_le _, Nat.zero_le _⟩) ?_
  refine lv_if_eq (tgt := 49) hx hb dX0_turn_23 (by decide) (fun c_23 => ?_) (fun c_23 => ?_)
  · exact W.vret hx hb hr (hS.end (by rw [fX0_turn, if_pos c_23]; exact hL)) hS.2.2 dX0_turn_49
  · refine lv_aload_n hx hb dX0_turn_26 rfl (lv_at hl 0 rfl) ?_
    refine tr_get (ci := 0) (C := RX0) (T := TX0) (N := 9) hx hb hts hiX0 hown hK hL.c3 rfl 2 (by decide) f20 (v := .ref (A 24)) rfl dX0_turn_27 ?_
    refine lv_aload_n hx hb dX0_turn_30 rfl (lv_at hl 0 rfl) ?_
    refine tr_get (ci := 0) (C := RX0) (T := TX0) (N := 9) hx hb hts hiX0 hown hK hL.c3 rfl 6 (by decide) f32 (v := .ref (A 32)) rfl dX0_turn_31 ?_
    refine lv_iload_n hx hb dX0_turn_34 rfl (lv_at hl 1 rfl) ?_
    refine tr_ri (va_runV (As := [.int cr]) (rest := [.ref (A 24)]) ⟨hx, hb, hml, hown, hts⟩ (c_lat l D cI A hA v 14 (by decide) cr) (cwV 1 hts gX0_turn_X2_at rfl rfl rfl (by decide +kernel) ⟨Nat.le_of_ble_eq_true rfl, Nat.le_of_ble_eq_true rfl⟩) (tr_preV hK (hL.robj 14 (by decide)) rfl (hL.row 14 (by decide))) rfl rfl hl.1 rfl (lv_room (Nat.le_of_ble_eq_true rfl)) dX0_turn_35 ⟨Nat.zero_le _, Nat.zero_le _⟩) ?_
    refine lv_aload_n hx hb dX0_turn_38 rfl (lv_at hl 0 rfl) ?_
    refine tr_get (ci := 0) (C := RX0) (T := TX0) (N := 9) hx hb hts hiX0 hown hK hL.c3 rfl 2 (by decide) f20 (v := .ref (A 24)) rfl dX0_turn_39 ?_
    refine lv_iload_n hx hb dX0_turn_42 rfl (lv_at hl 1 rfl) ?_
    refine tr_ri (va_runV (As := [.int cr]) (rest := [.int (lAt v 14 cr), .ref (A 24)]) ⟨hx, hb, hml, hown, hts⟩ (c_lat l D cI A hA (lSet v 10 cr (1 - (lAt v 10 cr))) 10 (by decide) cr) (cwV 1 hts gX0_turn_X2_at rfl rfl rfl (by decide +kernel) ⟨Nat.le_of_ble_eq_true rfl, Nat.le_of_ble_eq_true rfl⟩) (tr_preV hK (hL.robj 10 (by decide)) rfl (hL.row 10 (by decide))) rfl rfl hl.1 rfl (lv_room (Nat.le_of_ble_eq_true rfl)) dX0_turn_43 ⟨Nat.zero_le _, Nat.zero_le _⟩) ?_
    refine tr_cv (va_runV (As := [.int (lAt v 14 cr), .int (lAt (lSet v 10 cr (1 - (lAt v 10 cr))) 10 cr)]) (rest := []) ⟨hx, hb, hml, hown, hts⟩ (c_lset l D cI A hA (lSet v 10 cr (1 - (lAt v 10 cr))) 10 (by decide) (lAt v 14 cr) (lAt (lSet v 10 cr (1 - (lAt v 10 cr))) 10 cr)) (cwV 2 hts gX0_turn_X2_set rfl rfl rfl (by decide +kernel) ⟨Nat.le_of_ble_eq_true rfl, Nat.le_of_ble_eq_true rfl⟩) (tr_preV hK (hL.robj 10 (by decide)) rfl hL) rfl rfl hl.1 rfl (lv_room (Nat.le_of_ble_eq_true rfl)) dX0_turn_46 ⟨Nat.zero_le _, Nat.zero_le _⟩) hS (fun _ h => h) (fun H locs hL hS => ?_)
    exact W.vret hx hb hr (hS.end (by rw [fX0_turn, if_neg c_23]; exact hL)) hS.2.2 dX0_turn_49
def fX0_arrive (v : LV) (cr : Int32) (po : Int32) : LV :=
  lAdd (lSet v 9 cr po) 15 cr 1
theorem sk_X0_arrive (v : LV) (cr : Int32) (po : Int32) : sk v (fX0_arrive v cr po) := by
  unfold fX0_arrive
  (repeat' split) <;> first | exact sk.rf _ | exact ⟨rfl, rfl, rfl⟩
set_option maxHeartbeats 4000000 in
set_option maxRecDepth 100000 in
theorem c_X0_arrive (l : Launch) (D : va_G) (cI : ClassId) (A : Nat → Nat) (hA : LInj A) (v : LV) (cr : Int32) (po : Int32)  : Met l yX0_arrive wsX0_arrive ({ frames := 1, cells := 0, slots := 0, locals := 22 }) (tr_Pc D cI [.ref (A 3), .int cr, .int po] (LNE D cI A v)) (tr_Q none (LNE D cI A (fX0_arrive v cr po)) (lOwn A)) 0 0 (lOwn A) := by
  refine Met.ofW (cc := cX0_arrive) (maxL := 3) (ret := none) (by decide) rfl ?_
  intro p e s m args below meth c s₁ B hml hv
  obtain ⟨rfl, hL, hK⟩ := hv
  have hx := B.exec
  have hb := B.bytes
  have hr := B.returns
  have hts := atoms_spec (ws := wsX0_arrive) B.pre
  have hown : s.vm.findClass RX0 = some m.cls := findClass_of_methodNamed B.named
  have hlocks := B.notSynchronized
  have hiX0 : ∀ w ∈ u_ws RX0 TX0 9, w ∈ wsX0_arrive := by decide +kernel
  have f14 := hts (.fieldLink RX0 14 "TramRibbon$Fleet" "place" "LTramRibbon$Row;") (by decide +kernel)
  have f35 := hts (.fieldLink RX0 35 "TramRibbon$Fleet" "arrivals" "LTramRibbon$Row;") (by decide +kernel)
  have hl := lv_entry ([.ref (A 3), .int cr, .int po]) (n := 3) (Nat.le_of_ble_eq_true rfl)
  rw [lg_entry_eq]
  generalize (lg_sl ([.ref (A 3), .int cr, .int po]) ++ List.replicate (3 - (lg_sl ([.ref (A 3), .int cr, .int po])).length) Slot.unset).toArray = ls at hl ⊢
  replace hl : lv_has ls 3 [(0, .ref (A 3)), (1, .int cr), (2, .int po)] := hl
  have hS : tr_S (lOwn A) s.heap s.heap [] := tr_S.rf
  generalize h1 : s.heap = H, h2 : ([] : List Loc) = locs
  replace hS : tr_S (lOwn A) s.heap H locs := by rw [← h1, ← h2]; exact hS
  rw [h1] at hL
  clear h1 h2
  refine lv_aload_n hx hb dX0_arrive_0 rfl (lv_at hl 0 rfl) ?_
  refine tr_get (ci := 0) (C := RX0) (T := TX0) (N := 9) hx hb hts hiX0 hown hK hL.c3 rfl 1 (by decide) f14 (v := .ref (A 22)) rfl dX0_arrive_1 ?_
  refine lv_iload_n hx hb dX0_arrive_4 rfl (lv_at hl 1 rfl) ?_
  refine lv_iload_n hx hb dX0_arrive_5 rfl (lv_at hl 2 rfl) ?_
  refine tr_cv (va_runV (As := [.int cr, .int po]) (rest := []) ⟨hx, hb, hml, hown, hts⟩ (c_lset l D cI A hA v 9 (by decide) cr po) (cwV 2 hts gX0_arrive_X2_set rfl rfl rfl (by decide +kernel) ⟨Nat.le_of_ble_eq_true rfl, Nat.le_of_ble_eq_true rfl⟩) (tr_preV hK (hL.robj 9 (by decide)) rfl hL) rfl rfl hl.1 rfl (lv_room (Nat.le_of_ble_eq_true rfl)) dX0_arrive_6 ⟨Nat.zero_le _, Nat.zero_le _⟩) hS (fun _ h => h) (fun H locs hL hS => ?_)
  refine lv_aload_n hx hb dX0_arrive_9 rfl (lv_at hl 0 rfl) ?_
  refine tr_get (ci := 0) (C := RX0) (T := TX0) (N := 9) hx hb hts hiX0 hown hK hL.c3 rfl 7 (by decide) f35 (v := .ref (A 34)) rfl dX0_arrive_10 ?_
  refine lv_iload_n hx hb dX0_arrive_13 rfl (lv_at hl 1 rfl) ?_
  refine lv_iconst (v := 1) hx hb dX0_arrive_14 (by decide) ?_
  refine tr_cv (va_runV (As := [.int cr, .int 1]) (rest := []) ⟨hx, hb, hml, hown, hts⟩ (c_ladd l D cI A hA (lSet v 9 cr po) 15 (by decide) cr 1) (cwV 2 hts gX0_arrive_X2_add rfl rfl rfl (by decide +kernel) ⟨Nat.le_of_ble_eq_true rfl, Nat.le_of_ble_eq_true rfl⟩) (tr_preV hK (hL.robj 15 (by decide)) rfl hL) rfl rfl hl.1 rfl (lv_room (Nat.le_of_ble_eq_true rfl)) dX0_arrive_15 ⟨Nat.zero_le _, Nat.zero_le _⟩) hS (fun _ h => h) (fun H locs hL hS => ?_)
  exact W.vret hx hb hr (hS.end (by rw [fX0_arrive]; exact hL)) hS.2.2 dX0_arrive_18
def fX0_moveTo (v : LV) (cr : Int32) (po : Int32) : LV :=
  (if (fX0_pushes (fX0_arrive (lSet v 16 cr 1) cr po) cr) = 0 then fX0_arrive (lSet v 16 cr 1) cr po else fX0_arrive (fX0_arrive (lSet v 16 cr 1) cr po) (lAt (fX0_arrive (lSet v 16 cr 1) cr po) 14 cr) po)
theorem sk_X0_moveTo (v : LV) (cr : Int32) (po : Int32) : sk v (fX0_moveTo v cr po) := by
  unfold fX0_moveTo
  (repeat' split) <;> first | exact sk.rf _ | exact ⟨rfl, rfl, rfl⟩
set_option maxHeartbeats 4000000 in
set_option maxRecDepth 100000 in
theorem c_X0_moveTo (l : Launch) (D : va_G) (cI : ClassId) (A : Nat → Nat) (hA : LInj A) (v : LV) (cr : Int32) (po : Int32)  : Met l yX0_moveTo wsX0_moveTo ({ frames := 2, cells := 0, slots := 0, locals := 44 }) (tr_Pc D cI [.ref (A 3), .int cr, .int po] (LNE D cI A v)) (tr_Q none (LNE D cI A (fX0_moveTo v cr po)) (lOwn A)) 0 0 (lOwn A) := by
  refine Met.ofW (cc := cX0_moveTo) (maxL := 3) (ret := none) (by decide) rfl ?_
  intro p e s m args below meth c s₁ B hml hv
  obtain ⟨rfl, hL, hK⟩ := hv
  have hx := B.exec
  have hb := B.bytes
  have hr := B.returns
  have hts := atoms_spec (ws := wsX0_moveTo) B.pre
  have hown : s.vm.findClass RX0 = some m.cls := findClass_of_methodNamed B.named
  have hlocks := B.notSynchronized
  have hiX0 : ∀ w ∈ u_ws RX0 TX0 9, w ∈ wsX0_moveTo := by decide +kernel
  have f32 := hts (.fieldLink RX0 32 "TramRibbon$Fleet" "pushed" "LTramRibbon$Row;") (by decide +kernel)
  have f38 := hts (.fieldLink RX0 38 "TramRibbon$Fleet" "went" "LTramRibbon$Row;") (by decide +kernel)
  have hl := lv_entry ([.ref (A 3), .int cr, .int po]) (n := 3) (Nat.le_of_ble_eq_true rfl)
  rw [lg_entry_eq]
  generalize (lg_sl ([.ref (A 3), .int cr, .int po]) ++ List.replicate (3 - (lg_sl ([.ref (A 3), .int cr, .int po])).length) Slot.unset).toArray = ls at hl ⊢
  replace hl : lv_has ls 3 [(0, .ref (A 3)), (1, .int cr), (2, .int po)] := hl
  have hS : tr_S (lOwn A) s.heap s.heap [] := tr_S.rf
  generalize h1 : s.heap = H, h2 : ([] : List Loc) = locs
  replace hS : tr_S (lOwn A) s.heap H locs := by rw [← h1, ← h2]; exact hS
  rw [h1] at hL
  clear h1 h2
  refine lv_aload_n hx hb dX0_moveTo_0 rfl (lv_at hl 0 rfl) ?_
  refine tr_get (ci := 0) (C := RX0) (T := TX0) (N := 9) hx hb hts hiX0 hown hK hL.c3 rfl 8 (by decide) f38 (v := .ref (A 36)) rfl dX0_moveTo_1 ?_
  refine lv_iload_n hx hb dX0_moveTo_4 rfl (lv_at hl 1 rfl) ?_
  refine lv_iconst (v := 1) hx hb dX0_moveTo_5 (by decide) ?_
  refine tr_cv (va_runV (As := [.int cr, .int 1]) (rest := []) ⟨hx, hb, hml, hown, hts⟩ (c_lset l D cI A hA v 16 (by decide) cr 1) (cwV 2 hts gX0_moveTo_X2_set rfl rfl rfl (by decide +kernel) ⟨Nat.le_of_ble_eq_true rfl, Nat.le_of_ble_eq_true rfl⟩) (tr_preV hK (hL.robj 16 (by decide)) rfl hL) rfl rfl hl.1 rfl (lv_room (Nat.le_of_ble_eq_true rfl)) dX0_moveTo_6 ⟨Nat.zero_le _, Nat.zero_le _⟩) hS (fun _ h => h) (fun H locs hL hS => ?_)
  refine lv_aload_n hx hb dX0_moveTo_9 rfl (lv_at hl 0 rfl) ?_
  refine lv_iload_n hx hb dX0_moveTo_10 rfl (lv_at hl 1 rfl) ?_
  refine lv_iload_n hx hb dX0_moveTo_11 rfl (lv_at hl 2 rfl) ?_
  refine tr_cv (va_runV (As := [.int cr, .int po]) (rest := []) ⟨hx, hb, hml, hown, hts⟩ (c_X0_arrive l D cI A hA (lSet v 16 cr 1) cr po) (cwV 2 hts gX0_moveTo_X0_arrive rfl rfl rfl (by decide +kernel) ⟨Nat.le_of_ble_eq_true rfl, Nat.le_of_ble_eq_true rfl⟩) (tr_preV hK hL.c3 rfl hL) rfl rfl hl.1 rfl (lv_room (Nat.le_of_ble_eq_true rfl)) dX0_moveTo_12 ⟨Nat.zero_le _, Nat.zero_le _⟩) hS (fun _ h => h) (fun H locs hL hS => ?_)
  refine lv_aload_n hx hb dX0_moveTo_15 rfl (lv_at hl 0 rfl) ?_
  refine lv_iload_n hx hb dX0_moveTo_16 rfl (lv_at hl 1 rfl) ?_
  refine tr_ri (va_runV (As := [.int cr]) (rest := []) ⟨hx, hb, hml, hown, hts⟩ (c_X0_pushes l D cI A hA (fX0_arrive (lSet v 16 cr 1) cr po) cr) (cwV 1 hts gX0_moveTo_X0_pushes rfl rfl rfl (by decide +kernel) ⟨Nat.le_of_ble_eq_true rfl, Nat.le_of_ble_eq_true rfl⟩) (tr_preV hK hL.c3 rfl hL) rfl rfl hl.1 rfl (lv_room (Nat.le_of_ble_eq_true rfl)) dX0_moveTo_17 ⟨Nat.zero_le _, Nat.zero_le _⟩) ?_
  refine lv_if_eq (tgt := 36) hx hb dX0_moveTo_20 (by decide) (fun c_20 => ?_) (fun c_20 => ?_)
  · exact W.vret hx hb hr (hS.end (by rw [fX0_moveTo, if_pos c_20]; exact hL)) hS.2.2 dX0_moveTo_36
  · refine lv_aload_n hx hb dX0_moveTo_23 rfl (lv_at hl 0 rfl) ?_
    refine lv_aload_n hx hb dX0_moveTo_24 rfl (lv_at hl 0 rfl) ?_
    refine tr_get (ci := 0) (C := RX0) (T := TX0) (N := 9) hx hb hts hiX0 hown hK hL.c3 rfl 6 (by decide) f32 (v := .ref (A 32)) rfl dX0_moveTo_25 ?_
    refine lv_iload_n hx hb dX0_moveTo_28 rfl (lv_at hl 1 rfl) ?_
    refine tr_ri (va_runV (As := [.int cr]) (rest := [.ref (A 3)]) ⟨hx, hb, hml, hown, hts⟩ (c_lat l D cI A hA (fX0_arrive (lSet v 16 cr 1) cr po) 14 (by decide) cr) (cwV 1 hts gX0_moveTo_X2_at rfl rfl rfl (by decide +kernel) ⟨Nat.le_of_ble_eq_true rfl, Nat.le_of_ble_eq_true rfl⟩) (tr_preV hK (hL.robj 14 (by decide)) rfl (hL.row 14 (by decide))) rfl rfl hl.1 rfl (lv_room (Nat.le_of_ble_eq_true rfl)) dX0_moveTo_29 ⟨Nat.zero_le _, Nat.zero_le _⟩) ?_
    refine lv_iload_n hx hb dX0_moveTo_32 rfl (lv_at hl 2 rfl) ?_
    refine tr_cv (va_runV (As := [.int (lAt (fX0_arrive (lSet v 16 cr 1) cr po) 14 cr), .int po]) (rest := []) ⟨hx, hb, hml, hown, hts⟩ (c_X0_arrive l D cI A hA (fX0_arrive (lSet v 16 cr 1) cr po) (lAt (fX0_arrive (lSet v 16 cr 1) cr po) 14 cr) po) (cwV 2 hts gX0_moveTo_X0_arrive rfl rfl rfl (by decide +kernel) ⟨Nat.le_of_ble_eq_true rfl, Nat.le_of_ble_eq_true rfl⟩) (tr_preV hK hL.c3 rfl hL) rfl rfl hl.1 rfl (lv_room (Nat.le_of_ble_eq_true rfl)) dX0_moveTo_33 ⟨Nat.zero_le _, Nat.zero_le _⟩) hS (fun _ h => h) (fun H locs hL hS => ?_)
    exact W.vret hx hb hr (hS.end (by rw [fX0_moveTo, if_neg c_20]; exact hL)) hS.2.2 dX0_moveTo_36
def bX0_findPusherFor_2 (v : LV) (cr : Int32) (i : Nat) : Option LV :=
  (if (lAt v 13 (nI i)) = 0 then (if (lAt v 14 (nI i)) = (-1) then (if (lAt v 10 (nI i)) = (lAt v 10 cr) then (if (lAt v 9 (nI i)) = (lAt v 9 cr) then some (lSet v 14 (nI i) cr) else none) else none) else none) else none)
def fX0_findPusherFor (v : LV) (cr : Int32) : LV :=
  ((fstI ((v.1 2).toNatClampNeg) (bX0_findPusherFor_2 v cr)).getD v)
theorem sk_X0_findPusherFor (v : LV) (cr : Int32) : sk v (fX0_findPusherFor v cr) := by
  unfold fX0_findPusherFor
  cases e : fstI ((v.1 2).toNatClampNeg) (bX0_findPusherFor_2 v cr) with
  | none => exact sk.rf _
  | some r =>
    obtain ⟨i, -, h⟩ := fstI_ex e
    unfold bX0_findPusherFor_2 at h
    (repeat' split at h) <;> first | (cases h; done) | (cases h; exact ⟨rfl, rfl, rfl⟩)
set_option maxHeartbeats 4000000 in
set_option maxRecDepth 100000 in
theorem c_X0_findPusherFor (l : Launch) (D : va_G) (cI : ClassId) (A : Nat → Nat) (hA : LInj A) (v : LV) (cr : Int32)  : Met l yX0_findPusherFor wsX0_findPusherFor ({ frames := 1, cells := 0, slots := 0, locals := 22 }) (tr_Pc D cI [.ref (A 3), .int cr] (LNE D cI A v)) (tr_Q none (LNE D cI A (fX0_findPusherFor v cr)) (lOwn A)) 0 0 (lOwn A) := by
  refine Met.ofW (cc := cX0_findPusherFor) (maxL := 4) (ret := none) (by decide) rfl ?_
  intro p e s m args below meth c s₁ B hml hv
  obtain ⟨rfl, hL, hK⟩ := hv
  have hx := B.exec
  have hb := B.bytes
  have hr := B.returns
  have hts := atoms_spec (ws := wsX0_findPusherFor) B.pre
  have hown : s.vm.findClass RX0 = some m.cls := findClass_of_methodNamed B.named
  have hlocks := B.notSynchronized
  have hiX0 : ∀ w ∈ u_ws RX0 TX0 9, w ∈ wsX0_findPusherFor := by decide +kernel
  have f14 := hts (.fieldLink RX0 14 "TramRibbon$Fleet" "place" "LTramRibbon$Row;") (by decide +kernel)
  have f20 := hts (.fieldLink RX0 20 "TramRibbon$Fleet" "up" "LTramRibbon$Row;") (by decide +kernel)
  have f29 := hts (.fieldLink RX0 29 "TramRibbon$Fleet" "broken" "LTramRibbon$Row;") (by decide +kernel)
  have f32 := hts (.fieldLink RX0 32 "TramRibbon$Fleet" "pushed" "LTramRibbon$Row;") (by decide +kernel)
  have f41 := hts (.fieldLink RX0 41 "TramRibbon$Fleet" "size" "I") (by decide +kernel)
  have hl := lv_entry ([.ref (A 3), .int cr]) (n := 4) (Nat.le_of_ble_eq_true rfl)
  rw [lg_entry_eq]
  generalize (lg_sl ([.ref (A 3), .int cr]) ++ List.replicate (4 - (lg_sl ([.ref (A 3), .int cr])).length) Slot.unset).toArray = ls at hl ⊢
  replace hl : lv_has ls 4 [(0, .ref (A 3)), (1, .int cr)] := hl
  have hS : tr_S (lOwn A) s.heap s.heap [] := tr_S.rf
  generalize h1 : s.heap = H, h2 : ([] : List Loc) = locs
  replace hS : tr_S (lOwn A) s.heap H locs := by rw [← h1, ← h2]; exact hS
  rw [h1] at hL
  clear h1 h2
  refine lv_iconst (v := 0) hx hb dX0_findPusherFor_0 (by decide) ?_
  refine lv_istore_n (lv' := [(2, .int 0), (0, .ref (A 3)), (1, .int cr)]) hx hb dX0_findPusherFor_1 rfl hl (by decide) rfl (fun ls hl => ?_)
  have hinv := And.intro (show LNE D cI A v H ∧ tr_S (lOwn A) s.heap H locs from ⟨hL, hS⟩) hl
  clear hL hS hl
  revert hinv; revert ls; revert locs; revert H
  refine tr_forw (fun i H locs ls => fstI i (bX0_findPusherFor_2 v cr) = none ∧ (LNE D cI A v H ∧ tr_S (lOwn A) s.heap H locs) ∧ lv_has ls 4 [(0, .ref (A 3)), (1, .int cr), (2, .int (nI i))]) ((v.1 2).toNatClampNeg) (fun H locs ls hinv => ?_) ?_
  · obtain ⟨⟨hL, hS⟩, hl⟩ := hinv
    exact ⟨rfl, ⟨hL, hS⟩, lv_sub hl [1, 2, 0] rfl⟩
  intro i H locs ls hi hinv ih
  obtain ⟨hex, ⟨hL, hS⟩, hl⟩ := hinv
  refine lv_iload_n hx hb dX0_findPusherFor_2 rfl (lv_at hl 2 rfl) ?_
  refine lv_aload_n hx hb dX0_findPusherFor_3 rfl (lv_at hl 0 rfl) ?_
  refine tr_get (ci := 0) (C := RX0) (T := TX0) (N := 9) hx hb hts hiX0 hown hK hL.c3 rfl 0 (by decide) f41 (v := .int (v.1 2)) rfl dX0_findPusherFor_4 ?_
  refine lv_icmp_ge (tgt := 97) hx hb dX0_findPusherFor_7 (by decide) (fun c_7 => ?_) (fun c_7 => ?_)
  · have hN : i = (v.1 2).toNatClampNeg := tr_over rfl hi c_7
    subst hN
    exact W.vret hx hb hr (hS.end (by rw [fX0_findPusherFor, hex]; exact hL)) hS.2.2 dX0_findPusherFor_97
  · have hlt : i < (v.1 2).toNatClampNeg := tr_on rfl hi c_7
    refine lv_aload_n hx hb dX0_findPusherFor_10 rfl (lv_at hl 0 rfl) ?_
    refine tr_get (ci := 0) (C := RX0) (T := TX0) (N := 9) hx hb hts hiX0 hown hK hL.c3 rfl 5 (by decide) f29 (v := .ref (A 30)) rfl dX0_findPusherFor_11 ?_
    refine lv_iload_n hx hb dX0_findPusherFor_14 rfl (lv_at hl 2 rfl) ?_
    refine tr_ri (va_runV (As := [.int (nI i)]) (rest := []) ⟨hx, hb, hml, hown, hts⟩ (c_lat l D cI A hA v 13 (by decide) (nI i)) (cwV 1 hts gX0_findPusherFor_X2_at rfl rfl rfl (by decide +kernel) ⟨Nat.le_of_ble_eq_true rfl, Nat.le_of_ble_eq_true rfl⟩) (tr_preV hK (hL.robj 13 (by decide)) rfl (hL.row 13 (by decide))) rfl rfl hl.1 rfl (lv_room (Nat.le_of_ble_eq_true rfl)) dX0_findPusherFor_15 ⟨Nat.zero_le _, Nat.zero_le _⟩) ?_
    refine lv_if_ne (tgt := 37) hx hb dX0_findPusherFor_18 (by decide) (fun c_18 => ?_) (fun c_18 => ?_)
    · refine lv_iconst (v := 0) hx hb dX0_findPusherFor_37 (by decide) ?_
      refine lv_istore_n (lv' := [(3, .int 0), (0, .ref (A 3)), (1, .int cr), (2, .int (nI i))]) hx hb dX0_findPusherFor_38 rfl hl (by decide) rfl (fun ls hl => ?_)
      refine lv_iload_n hx hb dX0_findPusherFor_39 rfl (lv_at hl 0 rfl) ?_
      refine lv_if_eq (tgt := 91) hx hb dX0_findPusherFor_40 (by decide) (fun _ => ?_) (fun h9 => absurd h9 (by decide))
      refine lv_iinc (v := nI (i + 1)) (lv' := [(2, .int (nI (i + 1))), (3, .int 0), (0, .ref (A 3)), (1, .int cr)]) hx hb dX0_findPusherFor_91 hl (k := 3) rfl (tr_inc _) (by decide) rfl (fun ls hl => ?_)
      refine lv_goto (tgt := 2) hx hb dX0_findPusherFor_94 (by decide) ?_
      exact ih H locs ls hlt ⟨(fstI_n hex (by rw [bX0_findPusherFor_2, if_neg c_18])), ⟨hL, hS⟩, lv_sub hl [2, 3, 0] rfl⟩
    · refine lv_aload_n hx hb dX0_findPusherFor_21 rfl (lv_at hl 0 rfl) ?_
      refine tr_get (ci := 0) (C := RX0) (T := TX0) (N := 9) hx hb hts hiX0 hown hK hL.c3 rfl 6 (by decide) f32 (v := .ref (A 32)) rfl dX0_findPusherFor_22 ?_
      refine lv_iload_n hx hb dX0_findPusherFor_25 rfl (lv_at hl 2 rfl) ?_
      refine tr_ri (va_runV (As := [.int (nI i)]) (rest := []) ⟨hx, hb, hml, hown, hts⟩ (c_lat l D cI A hA v 14 (by decide) (nI i)) (cwV 1 hts gX0_findPusherFor_X2_at rfl rfl rfl (by decide +kernel) ⟨Nat.le_of_ble_eq_true rfl, Nat.le_of_ble_eq_true rfl⟩) (tr_preV hK (hL.robj 14 (by decide)) rfl (hL.row 14 (by decide))) rfl rfl hl.1 rfl (lv_room (Nat.le_of_ble_eq_true rfl)) dX0_findPusherFor_26 ⟨Nat.zero_le _, Nat.zero_le _⟩) ?_
      refine lv_iconst (v := -1) hx hb dX0_findPusherFor_29 (by decide) ?_
      refine lv_icmp_ne (tgt := 37) hx hb dX0_findPusherFor_30 (by decide) (fun c_30 => ?_) (fun c_30 => ?_)
      · refine lv_iconst (v := 0) hx hb dX0_findPusherFor_37 (by decide) ?_
        refine lv_istore_n (lv' := [(3, .int 0), (0, .ref (A 3)), (1, .int cr), (2, .int (nI i))]) hx hb dX0_findPusherFor_38 rfl hl (by decide) rfl (fun ls hl => ?_)
        refine lv_iload_n hx hb dX0_findPusherFor_39 rfl (lv_at hl 0 rfl) ?_
        refine lv_if_eq (tgt := 91) hx hb dX0_findPusherFor_40 (by decide) (fun _ => ?_) (fun h9 => absurd h9 (by decide))
        refine lv_iinc (v := nI (i + 1)) (lv' := [(2, .int (nI (i + 1))), (3, .int 0), (0, .ref (A 3)), (1, .int cr)]) hx hb dX0_findPusherFor_91 hl (k := 3) rfl (tr_inc _) (by decide) rfl (fun ls hl => ?_)
        refine lv_goto (tgt := 2) hx hb dX0_findPusherFor_94 (by decide) ?_
        exact ih H locs ls hlt ⟨(fstI_n hex (by rw [bX0_findPusherFor_2, if_pos c_18, if_neg c_30])), ⟨hL, hS⟩, lv_sub hl [2, 3, 0] rfl⟩
      · refine lv_iconst (v := 1) hx hb dX0_findPusherFor_33 (by decide) ?_
        refine lv_goto (tgt := 38) hx hb dX0_findPusherFor_34 (by decide) ?_
        refine lv_istore_n (lv' := [(3, .int 1), (0, .ref (A 3)), (1, .int cr), (2, .int (nI i))]) hx hb dX0_findPusherFor_38 rfl hl (by decide) rfl (fun ls hl => ?_)
        refine lv_iload_n hx hb dX0_findPusherFor_39 rfl (lv_at hl 0 rfl) ?_
        refine lv_if_eq (tgt := 91) hx hb dX0_findPusherFor_40 (by decide) (fun h9 => absurd h9 (by decide)) (fun _ => ?_)
        refine lv_aload_n hx hb dX0_findPusherFor_43 rfl (lv_at hl 1 rfl) ?_
        refine tr_get (ci := 0) (C := RX0) (T := TX0) (N := 9) hx hb hts hiX0 hown hK hL.c3 rfl 2 (by decide) f20 (v := .ref (A 24)) rfl dX0_findPusherFor_44 ?_
        refine lv_iload_n hx hb dX0_findPusherFor_47 rfl (lv_at hl 3 rfl) ?_
        refine tr_ri (va_runV (As := [.int (nI i)]) (rest := []) ⟨hx, hb, hml, hown, hts⟩ (c_lat l D cI A hA v 10 (by decide) (nI i)) (cwV 1 hts gX0_findPusherFor_X2_at rfl rfl rfl (by decide +kernel) ⟨Nat.le_of_ble_eq_true rfl, Nat.le_of_ble_eq_true rfl⟩) (tr_preV hK (hL.robj 10 (by decide)) rfl (hL.row 10 (by decide))) rfl rfl hl.1 rfl (lv_room (Nat.le_of_ble_eq_true rfl)) dX0_findPusherFor_48 ⟨Nat.zero_le _, Nat.zero_le _⟩) ?_
        refine lv_aload_n hx hb dX0_findPusherFor_51 rfl (lv_at hl 1 rfl) ?_
        refine tr_get (ci := 0) (C := RX0) (T := TX0) (N := 9) hx hb hts hiX0 hown hK hL.c3 rfl 2 (by decide) f20 (v := .ref (A 24)) rfl dX0_findPusherFor_52 ?_
        refine lv_iload_n hx hb dX0_findPusherFor_55 rfl (lv_at hl 2 rfl) ?_
        refine tr_ri (va_runV (As := [.int cr]) (rest := [.int (lAt v 10 (nI i))]) ⟨hx, hb, hml, hown, hts⟩ (c_lat l D cI A hA v 10 (by decide) cr) (cwV 1 hts gX0_findPusherFor_X2_at rfl rfl rfl (by decide +kernel) ⟨Nat.le_of_ble_eq_true rfl, Nat.le_of_ble_eq_true rfl⟩) (tr_preV hK (hL.robj 10 (by decide)) rfl (hL.row 10 (by decide))) rfl rfl hl.1 rfl (lv_room (Nat.le_of_ble_eq_true rfl)) dX0_findPusherFor_56 ⟨Nat.zero_le _, Nat.zero_le _⟩) ?_
        refine lv_icmp_ne (tgt := 91) hx hb dX0_findPusherFor_59 (by decide) (fun c_59 => ?_) (fun c_59 => ?_)
        · refine lv_iinc (v := nI (i + 1)) (lv' := [(2, .int (nI (i + 1))), (3, .int 1), (0, .ref (A 3)), (1, .int cr)]) hx hb dX0_findPusherFor_91 hl (k := 3) rfl (tr_inc _) (by decide) rfl (fun ls hl => ?_)
          refine lv_goto (tgt := 2) hx hb dX0_findPusherFor_94 (by decide) ?_
          exact ih H locs ls hlt ⟨(fstI_n hex (by rw [bX0_findPusherFor_2, if_pos c_18, if_pos c_30, if_neg c_59])), ⟨hL, hS⟩, lv_sub hl [2, 3, 0] rfl⟩
        · refine lv_aload_n hx hb dX0_findPusherFor_62 rfl (lv_at hl 1 rfl) ?_
          refine tr_get (ci := 0) (C := RX0) (T := TX0) (N := 9) hx hb hts hiX0 hown hK hL.c3 rfl 1 (by decide) f14 (v := .ref (A 22)) rfl dX0_findPusherFor_63 ?_
          refine lv_iload_n hx hb dX0_findPusherFor_66 rfl (lv_at hl 3 rfl) ?_
          refine tr_ri (va_runV (As := [.int (nI i)]) (rest := []) ⟨hx, hb, hml, hown, hts⟩ (c_lat l D cI A hA v 9 (by decide) (nI i)) (cwV 1 hts gX0_findPusherFor_X2_at rfl rfl rfl (by decide +kernel) ⟨Nat.le_of_ble_eq_true rfl, Nat.le_of_ble_eq_true rfl⟩) (tr_preV hK (hL.robj 9 (by decide)) rfl (hL.row 9 (by decide))) rfl rfl hl.1 rfl (lv_room (Nat.le_of_ble_eq_true rfl)) dX0_findPusherFor_67 ⟨Nat.zero_le _, Nat.zero_le _⟩) ?_
          refine lv_aload_n hx hb dX0_findPusherFor_70 rfl (lv_at hl 1 rfl) ?_
          refine tr_get (ci := 0) (C := RX0) (T := TX0) (N := 9) hx hb hts hiX0 hown hK hL.c3 rfl 1 (by decide) f14 (v := .ref (A 22)) rfl dX0_findPusherFor_71 ?_
          refine lv_iload_n hx hb dX0_findPusherFor_74 rfl (lv_at hl 2 rfl) ?_
          refine tr_ri (va_runV (As := [.int cr]) (rest := [.int (lAt v 9 (nI i))]) ⟨hx, hb, hml, hown, hts⟩ (c_lat l D cI A hA v 9 (by decide) cr) (cwV 1 hts gX0_findPusherFor_X2_at rfl rfl rfl (by decide +kernel) ⟨Nat.le_of_ble_eq_true rfl, Nat.le_of_ble_eq_true rfl⟩) (tr_preV hK (hL.robj 9 (by decide)) rfl (hL.row 9 (by decide))) rfl rfl hl.1 rfl (lv_room (Nat.le_of_ble_eq_true rfl)) dX0_findPusherFor_75 ⟨Nat.zero_le _, Nat.zero_le _⟩) ?_
          refine lv_icmp_ne (tgt := 91) hx hb dX0_findPusherFor_78 (by decide) (fun c_78 => ?_) (fun c_78 => ?_)
          · refine lv_iinc (v := nI (i + 1)) (lv' := [(2, .int (nI (i + 1))), (3, .int 1), (0, .ref (A 3)), (1, .int cr)]) hx hb dX0_findPusherFor_91 hl (k := 3) rfl (tr_inc _) (by decide) rfl (fun ls hl => ?_)
            refine lv_goto (tgt := 2) hx hb dX0_findPusherFor_94 (by decide) ?_
            exact ih H locs ls hlt ⟨(fstI_n hex (by rw [bX0_findPusherFor_2, if_pos c_18, if_pos c_30, if_pos c_59, if_neg c_78])), ⟨hL, hS⟩, lv_sub hl [2, 3, 0] rfl⟩
          · refine lv_aload_n hx hb dX0_findPusherFor_81 rfl (lv_at hl 1 rfl) ?_
            refine tr_get (ci := 0) (C := RX0) (T := TX0) (N := 9) hx hb hts hiX0 hown hK hL.c3 rfl 6 (by decide) f32 (v := .ref (A 32)) rfl dX0_findPusherFor_82 ?_
            refine lv_iload_n hx hb dX0_findPusherFor_85 rfl (lv_at hl 3 rfl) ?_
            refine lv_iload_n hx hb dX0_findPusherFor_86 rfl (lv_at hl 2 rfl) ?_
            refine tr_cv (va_runV (As := [.int (nI i), .int cr]) (rest := []) ⟨hx, hb, hml, hown, hts⟩ (c_lset l D cI A hA v 14 (by decide) (nI i) cr) (cwV 2 hts gX0_findPusherFor_X2_set rfl rfl rfl (by decide +kernel) ⟨Nat.le_of_ble_eq_true rfl, Nat.le_of_ble_eq_true rfl⟩) (tr_preV hK (hL.robj 14 (by decide)) rfl hL) rfl rfl hl.1 rfl (lv_room (Nat.le_of_ble_eq_true rfl)) dX0_findPusherFor_87 ⟨Nat.zero_le _, Nat.zero_le _⟩) hS (fun _ h => h) (fun H locs hL hS => ?_)
            have e9 := fstI_s (N := (v.1 2).toNatClampNeg) hex (f := bX0_findPusherFor_2 v cr) (r := lSet v 14 (nI i) cr) (by rw [bX0_findPusherFor_2, if_pos c_18, if_pos c_30, if_pos c_59, if_pos c_78]) hlt
            exact W.vret hx hb hr (hS.end (by rw [fX0_findPusherFor, e9]; exact hL)) hS.2.2 dX0_findPusherFor_90
def fX0_breakDown (v : LV) (cr : Int32) : LV :=
  lSet (lSet (lSet (lSet v 13 cr 1) 12 cr 99) 11 cr 0) 14 cr (-1)
theorem sk_X0_breakDown (v : LV) (cr : Int32) : sk v (fX0_breakDown v cr) := by
  unfold fX0_breakDown
  (repeat' split) <;> first | exact sk.rf _ | exact ⟨rfl, rfl, rfl⟩
set_option maxHeartbeats 4000000 in
set_option maxRecDepth 100000 in
theorem c_X0_breakDown (l : Launch) (D : va_G) (cI : ClassId) (A : Nat → Nat) (hA : LInj A) (v : LV) (cr : Int32)  : Met l yX0_breakDown wsX0_breakDown ({ frames := 1, cells := 0, slots := 0, locals := 22 }) (tr_Pc D cI [.ref (A 3), .int cr] (LNE D cI A v)) (tr_Q none (LNE D cI A (fX0_breakDown v cr)) (lOwn A)) 0 0 (lOwn A) := by
  refine Met.ofW (cc := cX0_breakDown) (maxL := 2) (ret := none) (by decide) rfl ?_
  intro p e s m args below meth c s₁ B hml hv
  obtain ⟨rfl, hL, hK⟩ := hv
  have hx := B.exec
  have hb := B.bytes
  have hr := B.returns
  have hts := atoms_spec (ws := wsX0_breakDown) B.pre
  have hown : s.vm.findClass RX0 = some m.cls := findClass_of_methodNamed B.named
  have hlocks := B.notSynchronized
  have hiX0 : ∀ w ∈ u_ws RX0 TX0 9, w ∈ wsX0_breakDown := by decide +kernel
  have f23 := hts (.fieldLink RX0 23 "TramRibbon$Fleet" "riders" "LTramRibbon$Row;") (by decide +kernel)
  have f26 := hts (.fieldLink RX0 26 "TramRibbon$Fleet" "wear" "LTramRibbon$Row;") (by decide +kernel)
  have f29 := hts (.fieldLink RX0 29 "TramRibbon$Fleet" "broken" "LTramRibbon$Row;") (by decide +kernel)
  have f32 := hts (.fieldLink RX0 32 "TramRibbon$Fleet" "pushed" "LTramRibbon$Row;") (by decide +kernel)
  have hl := lv_entry ([.ref (A 3), .int cr]) (n := 2) (Nat.le_of_ble_eq_true rfl)
  rw [lg_entry_eq]
  generalize (lg_sl ([.ref (A 3), .int cr]) ++ List.replicate (2 - (lg_sl ([.ref (A 3), .int cr])).length) Slot.unset).toArray = ls at hl ⊢
  replace hl : lv_has ls 2 [(0, .ref (A 3)), (1, .int cr)] := hl
  have hS : tr_S (lOwn A) s.heap s.heap [] := tr_S.rf
  generalize h1 : s.heap = H, h2 : ([] : List Loc) = locs
  replace hS : tr_S (lOwn A) s.heap H locs := by rw [← h1, ← h2]; exact hS
  rw [h1] at hL
  clear h1 h2
  refine lv_aload_n hx hb dX0_breakDown_0 rfl (lv_at hl 0 rfl) ?_
  refine tr_get (ci := 0) (C := RX0) (T := TX0) (N := 9) hx hb hts hiX0 hown hK hL.c3 rfl 5 (by decide) f29 (v := .ref (A 30)) rfl dX0_breakDown_1 ?_
  refine lv_iload_n hx hb dX0_breakDown_4 rfl (lv_at hl 1 rfl) ?_
  refine lv_iconst (v := 1) hx hb dX0_breakDown_5 (by decide) ?_
  refine tr_cv (va_runV (As := [.int cr, .int 1]) (rest := []) ⟨hx, hb, hml, hown, hts⟩ (c_lset l D cI A hA v 13 (by decide) cr 1) (cwV 2 hts gX0_breakDown_X2_set rfl rfl rfl (by decide +kernel) ⟨Nat.le_of_ble_eq_true rfl, Nat.le_of_ble_eq_true rfl⟩) (tr_preV hK (hL.robj 13 (by decide)) rfl hL) rfl rfl hl.1 rfl (lv_room (Nat.le_of_ble_eq_true rfl)) dX0_breakDown_6 ⟨Nat.zero_le _, Nat.zero_le _⟩) hS (fun _ h => h) (fun H locs hL hS => ?_)
  refine lv_aload_n hx hb dX0_breakDown_9 rfl (lv_at hl 0 rfl) ?_
  refine tr_get (ci := 0) (C := RX0) (T := TX0) (N := 9) hx hb hts hiX0 hown hK hL.c3 rfl 4 (by decide) f26 (v := .ref (A 28)) rfl dX0_breakDown_10 ?_
  refine lv_iload_n hx hb dX0_breakDown_13 rfl (lv_at hl 1 rfl) ?_
  refine lv_bipush (v := 99) hx hb dX0_breakDown_14 (by decide) ?_
  refine tr_cv (va_runV (As := [.int cr, .int 99]) (rest := []) ⟨hx, hb, hml, hown, hts⟩ (c_lset l D cI A hA (lSet v 13 cr 1) 12 (by decide) cr 99) (cwV 2 hts gX0_breakDown_X2_set rfl rfl rfl (by decide +kernel) ⟨Nat.le_of_ble_eq_true rfl, Nat.le_of_ble_eq_true rfl⟩) (tr_preV hK (hL.robj 12 (by decide)) rfl hL) rfl rfl hl.1 rfl (lv_room (Nat.le_of_ble_eq_true rfl)) dX0_breakDown_16 ⟨Nat.zero_le _, Nat.zero_le _⟩) hS (fun _ h => h) (fun H locs hL hS => ?_)
  refine lv_aload_n hx hb dX0_breakDown_19 rfl (lv_at hl 0 rfl) ?_
  refine tr_get (ci := 0) (C := RX0) (T := TX0) (N := 9) hx hb hts hiX0 hown hK hL.c3 rfl 3 (by decide) f23 (v := .ref (A 26)) rfl dX0_breakDown_20 ?_
  refine lv_iload_n hx hb dX0_breakDown_23 rfl (lv_at hl 1 rfl) ?_
  refine lv_iconst (v := 0) hx hb dX0_breakDown_24 (by decide) ?_
  refine tr_cv (va_runV (As := [.int cr, .int 0]) (rest := []) ⟨hx, hb, hml, hown, hts⟩ (c_lset l D cI A hA (lSet (lSet v 13 cr 1) 12 cr 99) 11 (by decide) cr 0) (cwV 2 hts gX0_breakDown_X2_set rfl rfl rfl (by decide +kernel) ⟨Nat.le_of_ble_eq_true rfl, Nat.le_of_ble_eq_true rfl⟩) (tr_preV hK (hL.robj 11 (by decide)) rfl hL) rfl rfl hl.1 rfl (lv_room (Nat.le_of_ble_eq_true rfl)) dX0_breakDown_25 ⟨Nat.zero_le _, Nat.zero_le _⟩) hS (fun _ h => h) (fun H locs hL hS => ?_)
  refine lv_aload_n hx hb dX0_breakDown_28 rfl (lv_at hl 0 rfl) ?_
  refine tr_get (ci := 0) (C := RX0) (T := TX0) (N := 9) hx hb hts hiX0 hown hK hL.c3 rfl 6 (by decide) f32 (v := .ref (A 32)) rfl dX0_breakDown_29 ?_
  refine lv_iload_n hx hb dX0_breakDown_32 rfl (lv_at hl 1 rfl) ?_
  refine lv_iconst (v := -1) hx hb dX0_breakDown_33 (by decide) ?_
  refine tr_cv (va_runV (As := [.int cr, .int (-1)]) (rest := []) ⟨hx, hb, hml, hown, hts⟩ (c_lset l D cI A hA (lSet (lSet (lSet v 13 cr 1) 12 cr 99) 11 cr 0) 14 (by decide) cr (-1)) (cwV 2 hts gX0_breakDown_X2_set rfl rfl rfl (by decide +kernel) ⟨Nat.le_of_ble_eq_true rfl, Nat.le_of_ble_eq_true rfl⟩) (tr_preV hK (hL.robj 14 (by decide)) rfl hL) rfl rfl hl.1 rfl (lv_room (Nat.le_of_ble_eq_true rfl)) dX0_breakDown_34 ⟨Nat.zero_le _, Nat.zero_le _⟩) hS (fun _ h => h) (fun H locs hL hS => ?_)
  exact W.vret hx hb hr (hS.end (by rw [fX0_breakDown]; exact hL)) hS.2.2 dX0_breakDown_37
def bX0_renew_20 (v : LV) (cr : Int32) (i : Nat) (a : LV) : LV :=
  (if (lAt a 14 (nI i)) = cr then lSet a 14 (nI i) (-1) else a)
def fX0_renew (v : LV) (cr : Int32) : LV :=
  itI ((v.1 2).toNatClampNeg) (bX0_renew_20 v cr) (lSet (lSet v 13 cr 0) 12 cr 0)
theorem sk_bX0_renew_20 (v : LV) (cr : Int32) (i : Nat) (a : LV) : sk a (bX0_renew_20 v cr i a) := by
  unfold bX0_renew_20
  (repeat' split) <;> first | exact sk.rf _ | exact ⟨rfl, rfl, rfl⟩
theorem ski_bX0_renew_20 (v : LV) (cr : Int32) (i : Nat) (a : LV) : sk a (itI i (bX0_renew_20 v cr) a) := sk.it (sk_bX0_renew_20 v cr) a i
theorem sk_X0_renew (v : LV) (cr : Int32) : sk v (fX0_renew v cr) := by
  unfold fX0_renew
  (repeat' split) <;> first | exact (sk.trans (v := lSet (lSet v 13 cr 0) 12 cr 0) ⟨rfl, rfl, rfl⟩ (ski_bX0_renew_20 v cr _ _)) | exact ski_bX0_renew_20 v cr _ _
set_option maxHeartbeats 4000000 in
set_option maxRecDepth 100000 in
theorem c_X0_renew (l : Launch) (D : va_G) (cI : ClassId) (A : Nat → Nat) (hA : LInj A) (v : LV) (cr : Int32)  : Met l yX0_renew wsX0_renew ({ frames := 1, cells := 0, slots := 0, locals := 22 }) (tr_Pc D cI [.ref (A 3), .int cr] (LNE D cI A v)) (tr_Q none (LNE D cI A (fX0_renew v cr)) (lOwn A)) 0 0 (lOwn A) := by
  refine Met.ofW (cc := cX0_renew) (maxL := 3) (ret := none) (by decide) rfl ?_
  intro p e s m args below meth c s₁ B hml hv
  obtain ⟨rfl, hL, hK⟩ := hv
  have hx := B.exec
  have hb := B.bytes
  have hr := B.returns
  have hts := atoms_spec (ws := wsX0_renew) B.pre
  have hown : s.vm.findClass RX0 = some m.cls := findClass_of_methodNamed B.named
  have hlocks := B.notSynchronized
  have hiX0 : ∀ w ∈ u_ws RX0 TX0 9, w ∈ wsX0_renew := by decide +kernel
  have f26 := hts (.fieldLink RX0 26 "TramRibbon$Fleet" "wear" "LTramRibbon$Row;") (by decide +kernel)
  have f29 := hts (.fieldLink RX0 29 "TramRibbon$Fleet" "broken" "LTramRibbon$Row;") (by decide +kernel)
  have f32 := hts (.fieldLink RX0 32 "TramRibbon$Fleet" "pushed" "LTramRibbon$Row;") (by decide +kernel)
  have f41 := hts (.fieldLink RX0 41 "TramRibbon$Fleet" "size" "I") (by decide +kernel)
  have hl := lv_entry ([.ref (A 3), .int cr]) (n := 3) (Nat.le_of_ble_eq_true rfl)
  rw [lg_entry_eq]
  generalize (lg_sl ([.ref (A 3), .int cr]) ++ List.replicate (3 - (lg_sl ([.ref (A 3), .int cr])).length) Slot.unset).toArray = ls at hl ⊢
  replace hl : lv_has ls 3 [(0, .ref (A 3)), (1, .int cr)] := hl
  have hS : tr_S (lOwn A) s.heap s.heap [] := tr_S.rf
  generalize h1 : s.heap = H, h2 : ([] : List Loc) = locs
  replace hS : tr_S (lOwn A) s.heap H locs := by rw [← h1, ← h2]; exact hS
  rw [h1] at hL
  clear h1 h2
  refine lv_aload_n hx hb dX0_renew_0 rfl (lv_at hl 0 rfl) ?_
  refine tr_get (ci := 0) (C := RX0) (T := TX0) (N := 9) hx hb hts hiX0 hown hK hL.c3 rfl 5 (by decide) f29 (v := .ref (A 30)) rfl dX0_renew_1 ?_
  refine lv_iload_n hx hb dX0_renew_4 rfl (lv_at hl 1 rfl) ?_
  refine lv_iconst (v := 0) hx hb dX0_renew_5 (by decide) ?_
  refine tr_cv (va_runV (As := [.int cr, .int 0]) (rest := []) ⟨hx, hb, hml, hown, hts⟩ (c_lset l D cI A hA v 13 (by decide) cr 0) (cwV 2 hts gX0_renew_X2_set rfl rfl rfl (by decide +kernel) ⟨Nat.le_of_ble_eq_true rfl, Nat.le_of_ble_eq_true rfl⟩) (tr_preV hK (hL.robj 13 (by decide)) rfl hL) rfl rfl hl.1 rfl (lv_room (Nat.le_of_ble_eq_true rfl)) dX0_renew_6 ⟨Nat.zero_le _, Nat.zero_le _⟩) hS (fun _ h => h) (fun H locs hL hS => ?_)
  refine lv_aload_n hx hb dX0_renew_9 rfl (lv_at hl 0 rfl) ?_
  refine tr_get (ci := 0) (C := RX0) (T := TX0) (N := 9) hx hb hts hiX0 hown hK hL.c3 rfl 4 (by decide) f26 (v := .ref (A 28)) rfl dX0_renew_10 ?_
  refine lv_iload_n hx hb dX0_renew_13 rfl (lv_at hl 1 rfl) ?_
  refine lv_iconst (v := 0) hx hb dX0_renew_14 (by decide) ?_
  refine tr_cv (va_runV (As := [.int cr, .int 0]) (rest := []) ⟨hx, hb, hml, hown, hts⟩ (c_lset l D cI A hA (lSet v 13 cr 0) 12 (by decide) cr 0) (cwV 2 hts gX0_renew_X2_set rfl rfl rfl (by decide +kernel) ⟨Nat.le_of_ble_eq_true rfl, Nat.le_of_ble_eq_true rfl⟩) (tr_preV hK (hL.robj 12 (by decide)) rfl hL) rfl rfl hl.1 rfl (lv_room (Nat.le_of_ble_eq_true rfl)) dX0_renew_15 ⟨Nat.zero_le _, Nat.zero_le _⟩) hS (fun _ h => h) (fun H locs hL hS => ?_)
  refine lv_iconst (v := 0) hx hb dX0_renew_18 (by decide) ?_
  refine lv_istore_n (lv' := [(2, .int 0), (0, .ref (A 3)), (1, .int cr)]) hx hb dX0_renew_19 rfl hl (by decide) rfl (fun ls hl => ?_)
  have hinv := And.intro (show LNE D cI A (lSet (lSet v 13 cr 0) 12 cr 0) H ∧ tr_S (lOwn A) s.heap H locs from ⟨hL, hS⟩) hl
  clear hL hS hl
  revert hinv; revert ls; revert locs; revert H
  refine tr_forw (fun i H locs ls => (LNE D cI A (itI i (bX0_renew_20 v cr) (lSet (lSet v 13 cr 0) 12 cr 0)) H ∧ tr_S (lOwn A) s.heap H locs) ∧ lv_has ls 3 [(0, .ref (A 3)), (1, .int cr), (2, .int (nI i))]) ((v.1 2).toNatClampNeg) (fun H locs ls hinv => ?_) ?_
  · obtain ⟨⟨hL, hS⟩, hl⟩ := hinv
    exact ⟨⟨by rw [itI_0]; exact hL, hS⟩, lv_sub hl [1, 2, 0] rfl⟩
  intro i H locs ls hi hinv ih
  obtain ⟨⟨hL, hS⟩, hl⟩ := hinv
  refine lv_iload_n hx hb dX0_renew_20 rfl (lv_at hl 2 rfl) ?_
  refine lv_aload_n hx hb dX0_renew_21 rfl (lv_at hl 0 rfl) ?_
  refine tr_get (ci := 0) (C := RX0) (T := TX0) (N := 9) hx hb hts hiX0 hown hK hL.c3 rfl 0 (by decide) f41 (v := .int ((itI i (bX0_renew_20 v cr) (lSet (lSet v 13 cr 0) 12 cr 0)).1 2)) rfl dX0_renew_22 ?_
  refine lv_icmp_ge (tgt := 55) hx hb dX0_renew_25 (by decide) (fun c_25 => ?_) (fun c_25 => ?_)
  · have hN : i = (v.1 2).toNatClampNeg := tr_over (congrArg Int32.toNatClampNeg (ski_bX0_renew_20 v cr i (lSet (lSet v 13 cr 0) 12 cr 0)).2.2) hi c_25
    subst hN
    exact W.vret hx hb hr (hS.end (by rw [fX0_renew]; exact hL)) hS.2.2 dX0_renew_55
  · have hlt : i < (v.1 2).toNatClampNeg := tr_on (congrArg Int32.toNatClampNeg (ski_bX0_renew_20 v cr i (lSet (lSet v 13 cr 0) 12 cr 0)).2.2) hi c_25
    refine lv_aload_n hx hb dX0_renew_28 rfl (lv_at hl 0 rfl) ?_
    refine tr_get (ci := 0) (C := RX0) (T := TX0) (N := 9) hx hb hts hiX0 hown hK hL.c3 rfl 6 (by decide) f32 (v := .ref (A 32)) rfl dX0_renew_29 ?_
    refine lv_iload_n hx hb dX0_renew_32 rfl (lv_at hl 2 rfl) ?_
    refine tr_ri (va_runV (As := [.int (nI i)]) (rest := []) ⟨hx, hb, hml, hown, hts⟩ (c_lat l D cI A hA (itI i (bX0_renew_20 v cr) (lSet (lSet v 13 cr 0) 12 cr 0)) 14 (by decide) (nI i)) (cwV 1 hts gX0_renew_X2_at rfl rfl rfl (by decide +kernel) ⟨Nat.le_of_ble_eq_true rfl, Nat.le_of_ble_eq_true rfl⟩) (tr_preV hK (hL.robj 14 (by decide)) rfl (hL.row 14 (by decide))) rfl rfl hl.1 rfl (lv_room (Nat.le_of_ble_eq_true rfl)) dX0_renew_33 ⟨Nat.zero_le _, Nat.zero_le _⟩) ?_
    refine lv_iload_n hx hb dX0_renew_36 rfl (lv_at hl 1 rfl) ?_
    refine lv_icmp_ne (tgt := 49) hx hb dX0_renew_37 (by decide) (fun c_37 => ?_) (fun c_37 => ?_)
    · refine lv_iinc (v := nI (i + 1)) (lv' := [(2, .int (nI (i + 1))), (0, .ref (A 3)), (1, .int cr)]) hx hb dX0_renew_49 hl (k := 2) rfl (tr_inc _) (by decide) rfl (fun ls hl => ?_)
      refine lv_goto (tgt := 20) hx hb dX0_renew_52 (by decide) ?_
      have e9 : itI (i + 1) (bX0_renew_20 v cr) (lSet (lSet v 13 cr 0) 12 cr 0) = itI i (bX0_renew_20 v cr) (lSet (lSet v 13 cr 0) 12 cr 0) := by rw [itI_s, bX0_renew_20, if_neg c_37]
      exact ih H locs ls hlt ⟨⟨by rw [e9]; exact hL, hS⟩, lv_sub hl [1, 2, 0] rfl⟩
    · refine lv_aload_n hx hb dX0_renew_40 rfl (lv_at hl 0 rfl) ?_
      refine tr_get (ci := 0) (C := RX0) (T := TX0) (N := 9) hx hb hts hiX0 hown hK hL.c3 rfl 6 (by decide) f32 (v := .ref (A 32)) rfl dX0_renew_41 ?_
      refine lv_iload_n hx hb dX0_renew_44 rfl (lv_at hl 2 rfl) ?_
      refine lv_iconst (v := -1) hx hb dX0_renew_45 (by decide) ?_
      refine tr_cv (va_runV (As := [.int (nI i), .int (-1)]) (rest := []) ⟨hx, hb, hml, hown, hts⟩ (c_lset l D cI A hA (itI i (bX0_renew_20 v cr) (lSet (lSet v 13 cr 0) 12 cr 0)) 14 (by decide) (nI i) (-1)) (cwV 2 hts gX0_renew_X2_set rfl rfl rfl (by decide +kernel) ⟨Nat.le_of_ble_eq_true rfl, Nat.le_of_ble_eq_true rfl⟩) (tr_preV hK (hL.robj 14 (by decide)) rfl hL) rfl rfl hl.1 rfl (lv_room (Nat.le_of_ble_eq_true rfl)) dX0_renew_46 ⟨Nat.zero_le _, Nat.zero_le _⟩) hS (fun _ h => h) (fun H locs hL hS => ?_)
      refine lv_iinc (v := nI (i + 1)) (lv' := [(2, .int (nI (i + 1))), (0, .ref (A 3)), (1, .int cr)]) hx hb dX0_renew_49 hl (k := 2) rfl (tr_inc _) (by decide) rfl (fun ls hl => ?_)
      refine lv_goto (tgt := 20) hx hb dX0_renew_52 (by decide) ?_
      have e9 : itI (i + 1) (bX0_renew_20 v cr) (lSet (lSet v 13 cr 0) 12 cr 0) = lSet (itI i (bX0_renew_20 v cr) (lSet (lSet v 13 cr 0) 12 cr 0)) 14 (nI i) (-1) := by rw [itI_s, bX0_renew_20, if_pos c_37]
      exact ih H locs ls hlt ⟨⟨by rw [e9]; exact hL, hS⟩, lv_sub hl [1, 2, 0] rfl⟩
def fX0_enter (v : LV) (po : Int32) (up : Int32) (wh : Int32) : LV :=
  (if up = 0 then lSc (lSet (lSet (lSet (lSet v 9 (v.1 2) po) 10 (v.1 2) 0) 12 (v.1 2) wh) 14 (v.1 2) (-1)) 2 ((v.1 2) + 1) else lSc (lSet (lSet (lSet (lSet v 9 (v.1 2) po) 10 (v.1 2) 1) 12 (v.1 2) wh) 14 (v.1 2) (-1)) 2 ((v.1 2) + 1))
def rX0_enter (v : LV) (po : Int32) (up : Int32) (wh : Int32) : Int32 :=
  (if up = 0 then v.1 2 else v.1 2)
set_option maxHeartbeats 4000000 in
set_option maxRecDepth 100000 in
theorem c_X0_enter (l : Launch) (D : va_G) (cI : ClassId) (A : Nat → Nat) (hA : LInj A) (v : LV) (po : Int32) (up : Int32) (wh : Int32)  : Met l yX0_enter wsX0_enter ({ frames := 1, cells := 0, slots := 0, locals := 22 }) (tr_Pc D cI [.ref (A 3), .int po, .int up, .int wh] (LNE D cI A v)) (tr_Q (some (.int (rX0_enter v po up wh))) (LNE D cI A (fX0_enter v po up wh)) (lOwn A)) 0 0 (lOwn A) := by
  refine Met.ofW (cc := cX0_enter) (maxL := 5) (ret := (some .int)) (by decide) rfl ?_
  intro p e s m args below meth c s₁ B hml hv
  obtain ⟨rfl, hL, hK⟩ := hv
  have hx := B.exec
  have hb := B.bytes
  have hr := B.returns
  have hts := atoms_spec (ws := wsX0_enter) B.pre
  have hown : s.vm.findClass RX0 = some m.cls := findClass_of_methodNamed B.named
  have hlocks := B.notSynchronized
  have hiX0 : ∀ w ∈ u_ws RX0 TX0 9, w ∈ wsX0_enter := by decide +kernel
  have f14 := hts (.fieldLink RX0 14 "TramRibbon$Fleet" "place" "LTramRibbon$Row;") (by decide +kernel)
  have f20 := hts (.fieldLink RX0 20 "TramRibbon$Fleet" "up" "LTramRibbon$Row;") (by decide +kernel)
  have f26 := hts (.fieldLink RX0 26 "TramRibbon$Fleet" "wear" "LTramRibbon$Row;") (by decide +kernel)
  have f32 := hts (.fieldLink RX0 32 "TramRibbon$Fleet" "pushed" "LTramRibbon$Row;") (by decide +kernel)
  have f41 := hts (.fieldLink RX0 41 "TramRibbon$Fleet" "size" "I") (by decide +kernel)
  have hl := lv_entry ([.ref (A 3), .int po, .int up, .int wh]) (n := 5) (Nat.le_of_ble_eq_true rfl)
  rw [lg_entry_eq]
  generalize (lg_sl ([.ref (A 3), .int po, .int up, .int wh]) ++ List.replicate (5 - (lg_sl ([.ref (A 3), .int po, .int up, .int wh])).length) Slot.unset).toArray = ls at hl ⊢
  replace hl : lv_has ls 5 [(0, .ref (A 3)), (1, .int po), (2, .int up), (3, .int wh)] := hl
  have hS : tr_S (lOwn A) s.heap s.heap [] := tr_S.rf
  generalize h1 : s.heap = H, h2 : ([] : List Loc) = locs
  replace hS : tr_S (lOwn A) s.heap H locs := by rw [← h1, ← h2]; exact hS
  rw [h1] at hL
  clear h1 h2
  refine lv_aload_n hx hb dX0_enter_0 rfl (lv_at hl 0 rfl) ?_
  refine tr_get (ci := 0) (C := RX0) (T := TX0) (N := 9) hx hb hts hiX0 hown hK hL.c3 rfl 0 (by decide) f41 (v := .int (v.1 2)) rfl dX0_enter_1 ?_
  refine lv_istore (lv' := [(4, .int (v.1 2)), (0, .ref (A 3)), (1, .int po), (2, .int up), (3, .int wh)]) hx hb dX0_enter_4 hl (by decide) rfl (fun ls hl => ?_)
  refine lv_aload_n hx hb dX0_enter_6 rfl (lv_at hl 1 rfl) ?_
  refine tr_get (ci := 0) (C := RX0) (T := TX0) (N := 9) hx hb hts hiX0 hown hK hL.c3 rfl 1 (by decide) f14 (v := .ref (A 22)) rfl dX0_enter_7 ?_
  refine lv_iload hx hb dX0_enter_10 (lv_at hl 0 rfl) ?_
  refine lv_iload_n hx hb dX0_enter_12 rfl (lv_at hl 2 rfl) ?_
  refine tr_cv (va_runV (As := [.int (v.1 2), .int po]) (rest := []) ⟨hx, hb, hml, hown, hts⟩ (c_lset l D cI A hA v 9 (by decide) (v.1 2) po) (cwV 2 hts gX0_enter_X2_set rfl rfl rfl (by decide +kernel) ⟨Nat.le_of_ble_eq_true rfl, Nat.le_of_ble_eq_true rfl⟩) (tr_preV hK (hL.robj 9 (by decide)) rfl hL) rfl rfl hl.1 rfl (lv_room (Nat.le_of_ble_eq_true rfl)) dX0_enter_13 ⟨Nat.zero_le _, Nat.zero_le _⟩) hS (fun _ h => h) (fun H locs hL hS => ?_)
  refine lv_aload_n hx hb dX0_enter_16 rfl (lv_at hl 1 rfl) ?_
  refine tr_get (ci := 0) (C := RX0) (T := TX0) (N := 9) hx hb hts hiX0 hown hK hL.c3 rfl 2 (by decide) f20 (v := .ref (A 24)) rfl dX0_enter_17 ?_
  refine lv_iload hx hb dX0_enter_20 (lv_at hl 0 rfl) ?_
  refine lv_iload_n hx hb dX0_enter_22 rfl (lv_at hl 3 rfl) ?_
  refine lv_if_eq (tgt := 30) hx hb dX0_enter_23 (by decide) (fun c_23 => ?_) (fun c_23 => ?_)
  · refine lv_iconst (v := 0) hx hb dX0_enter_30 (by decide) ?_
    refine tr_cv (va_runV (As := [.int (v.1 2), .int 0]) (rest := []) ⟨hx, hb, hml, hown, hts⟩ (c_lset l D cI A hA (lSet v 9 (v.1 2) po) 10 (by decide) (v.1 2) 0) (cwV 2 hts gX0_enter_X2_set rfl rfl rfl (by decide +kernel) ⟨Nat.le_of_ble_eq_true rfl, Nat.le_of_ble_eq_true rfl⟩) (tr_preV hK (hL.robj 10 (by decide)) rfl hL) rfl rfl hl.1 rfl (lv_room (Nat.le_of_ble_eq_true rfl)) dX0_enter_31 ⟨Nat.zero_le _, Nat.zero_le _⟩) hS (fun _ h => h) (fun H locs hL hS => ?_)
    refine lv_aload_n hx hb dX0_enter_34 rfl (lv_at hl 1 rfl) ?_
    refine tr_get (ci := 0) (C := RX0) (T := TX0) (N := 9) hx hb hts hiX0 hown hK hL.c3 rfl 4 (by decide) f26 (v := .ref (A 28)) rfl dX0_enter_35 ?_
    refine lv_iload hx hb dX0_enter_38 (lv_at hl 0 rfl) ?_
    refine lv_iload_n hx hb dX0_enter_40 rfl (lv_at hl 4 rfl) ?_
    refine tr_cv (va_runV (As := [.int (v.1 2), .int wh]) (rest := []) ⟨hx, hb, hml, hown, hts⟩ (c_lset l D cI A hA (lSet (lSet v 9 (v.1 2) po) 10 (v.1 2) 0) 12 (by decide) (v.1 2) wh) (cwV 2 hts gX0_enter_X2_set rfl rfl rfl (by decide +kernel) ⟨Nat.le_of_ble_eq_true rfl, Nat.le_of_ble_eq_true rfl⟩) (tr_preV hK (hL.robj 12 (by decide)) rfl hL) rfl rfl hl.1 rfl (lv_room (Nat.le_of_ble_eq_true rfl)) dX0_enter_41 ⟨Nat.zero_le _, Nat.zero_le _⟩) hS (fun _ h => h) (fun H locs hL hS => ?_)
    refine lv_aload_n hx hb dX0_enter_44 rfl (lv_at hl 1 rfl) ?_
    refine tr_get (ci := 0) (C := RX0) (T := TX0) (N := 9) hx hb hts hiX0 hown hK hL.c3 rfl 6 (by decide) f32 (v := .ref (A 32)) rfl dX0_enter_45 ?_
    refine lv_iload hx hb dX0_enter_48 (lv_at hl 0 rfl) ?_
    refine lv_iconst (v := -1) hx hb dX0_enter_50 (by decide) ?_
    refine tr_cv (va_runV (As := [.int (v.1 2), .int (-1)]) (rest := []) ⟨hx, hb, hml, hown, hts⟩ (c_lset l D cI A hA (lSet (lSet (lSet v 9 (v.1 2) po) 10 (v.1 2) 0) 12 (v.1 2) wh) 14 (by decide) (v.1 2) (-1)) (cwV 2 hts gX0_enter_X2_set rfl rfl rfl (by decide +kernel) ⟨Nat.le_of_ble_eq_true rfl, Nat.le_of_ble_eq_true rfl⟩) (tr_preV hK (hL.robj 14 (by decide)) rfl hL) rfl rfl hl.1 rfl (lv_room (Nat.le_of_ble_eq_true rfl)) dX0_enter_51 ⟨Nat.zero_le _, Nat.zero_le _⟩) hS (fun _ h => h) (fun H locs hL hS => ?_)
    refine lv_aload_n hx hb dX0_enter_54 rfl (lv_at hl 1 rfl) ?_
    refine lv_dup hx hb dX0_enter_55 rfl ?_
    refine tr_get (ci := 0) (C := RX0) (T := TX0) (N := 9) hx hb hts hiX0 hown hK hL.c3 rfl 0 (by decide) f41 (v := .int (v.1 2)) rfl dX0_enter_56 ?_
    refine lv_iconst (v := 1) hx hb dX0_enter_59 (by decide) ?_
    refine lv_iadd hx hb dX0_enter_60 ?_
    refine tr_put (ci := 0) (C := RX0) (T := TX0) (N := 9) (ty := .int) (v := .int ((v.1 2) + 1)) hx hb hts hiX0 tyX0 tyX0_ok nmX0 hown hK hS (lOwn_k (k := 3) (by decide)) hL.c3 rfl 0 (by decide) f41 rfl (by decide +kernel) rfl rfl (Nat.le_of_ble_eq_true rfl) dX0_enter_61 (fun H locs hat hz hk hS => ?_)
    have hL : LNE D cI A (lSc (lSet (lSet (lSet (lSet v 9 (v.1 2) po) 10 (v.1 2) 0) 12 (v.1 2) wh) 14 (v.1 2) (-1)) 2 ((v.1 2) + 1)) H := hL.setSc hA 2 hat rfl hk
    clear hat hz hk
    refine lv_iload hx hb dX0_enter_64 (lv_at hl 0 rfl) ?_
    exact W.iret hx hb hr (hS.endr (by rw [rX0_enter, if_pos c_23]) (by rw [fX0_enter, if_pos c_23]; exact hL)) hS.2.2 dX0_enter_66
  · refine lv_iconst (v := 1) hx hb dX0_enter_26 (by decide) ?_
    refine lv_goto (tgt := 31) hx hb dX0_enter_27 (by decide) ?_
    refine tr_cv (va_runV (As := [.int (v.1 2), .int 1]) (rest := []) ⟨hx, hb, hml, hown, hts⟩ (c_lset l D cI A hA (lSet v 9 (v.1 2) po) 10 (by decide) (v.1 2) 1) (cwV 2 hts gX0_enter_X2_set rfl rfl rfl (by decide +kernel) ⟨Nat.le_of_ble_eq_true rfl, Nat.le_of_ble_eq_true rfl⟩) (tr_preV hK (hL.robj 10 (by decide)) rfl hL) rfl rfl hl.1 rfl (lv_room (Nat.le_of_ble_eq_true rfl)) dX0_enter_31 ⟨Nat.zero_le _, Nat.zero_le _⟩) hS (fun _ h => h) (fun H locs hL hS => ?_)
    refine lv_aload_n hx hb dX0_enter_34 rfl (lv_at hl 1 rfl) ?_
    refine tr_get (ci := 0) (C := RX0) (T := TX0) (N := 9) hx hb hts hiX0 hown hK hL.c3 rfl 4 (by decide) f26 (v := .ref (A 28)) rfl dX0_enter_35 ?_
    refine lv_iload hx hb dX0_enter_38 (lv_at hl 0 rfl) ?_
    refine lv_iload_n hx hb dX0_enter_40 rfl (lv_at hl 4 rfl) ?_
    refine tr_cv (va_runV (As := [.int (v.1 2), .int wh]) (rest := []) ⟨hx, hb, hml, hown, hts⟩ (c_lset l D cI A hA (lSet (lSet v 9 (v.1 2) po) 10 (v.1 2) 1) 12 (by decide) (v.1 2) wh) (cwV 2 hts gX0_enter_X2_set rfl rfl rfl (by decide +kernel) ⟨Nat.le_of_ble_eq_true rfl, Nat.le_of_ble_eq_true rfl⟩) (tr_preV hK (hL.robj 12 (by decide)) rfl hL) rfl rfl hl.1 rfl (lv_room (Nat.le_of_ble_eq_true rfl)) dX0_enter_41 ⟨Nat.zero_le _, Nat.zero_le _⟩) hS (fun _ h => h) (fun H locs hL hS => ?_)
    refine lv_aload_n hx hb dX0_enter_44 rfl (lv_at hl 1 rfl) ?_
    refine tr_get (ci := 0) (C := RX0) (T := TX0) (N := 9) hx hb hts hiX0 hown hK hL.c3 rfl 6 (by decide) f32 (v := .ref (A 32)) rfl dX0_enter_45 ?_
    refine lv_iload hx hb dX0_enter_48 (lv_at hl 0 rfl) ?_
    refine lv_iconst (v := -1) hx hb dX0_enter_50 (by decide) ?_
    refine tr_cv (va_runV (As := [.int (v.1 2), .int (-1)]) (rest := []) ⟨hx, hb, hml, hown, hts⟩ (c_lset l D cI A hA (lSet (lSet (lSet v 9 (v.1 2) po) 10 (v.1 2) 1) 12 (v.1 2) wh) 14 (by decide) (v.1 2) (-1)) (cwV 2 hts gX0_enter_X2_set rfl rfl rfl (by decide +kernel) ⟨Nat.le_of_ble_eq_true rfl, Nat.le_of_ble_eq_true rfl⟩) (tr_preV hK (hL.robj 14 (by decide)) rfl hL) rfl rfl hl.1 rfl (lv_room (Nat.le_of_ble_eq_true rfl)) dX0_enter_51 ⟨Nat.zero_le _, Nat.zero_le _⟩) hS (fun _ h => h) (fun H locs hL hS => ?_)
    refine lv_aload_n hx hb dX0_enter_54 rfl (lv_at hl 1 rfl) ?_
    refine lv_dup hx hb dX0_enter_55 rfl ?_
    refine tr_get (ci := 0) (C := RX0) (T := TX0) (N := 9) hx hb hts hiX0 hown hK hL.c3 rfl 0 (by decide) f41 (v := .int (v.1 2)) rfl dX0_enter_56 ?_
    refine lv_iconst (v := 1) hx hb dX0_enter_59 (by decide) ?_
    refine lv_iadd hx hb dX0_enter_60 ?_
    refine tr_put (ci := 0) (C := RX0) (T := TX0) (N := 9) (ty := .int) (v := .int ((v.1 2) + 1)) hx hb hts hiX0 tyX0 tyX0_ok nmX0 hown hK hS (lOwn_k (k := 3) (by decide)) hL.c3 rfl 0 (by decide) f41 rfl (by decide +kernel) rfl rfl (Nat.le_of_ble_eq_true rfl) dX0_enter_61 (fun H locs hat hz hk hS => ?_)
    have hL : LNE D cI A (lSc (lSet (lSet (lSet (lSet v 9 (v.1 2) po) 10 (v.1 2) 1) 12 (v.1 2) wh) 14 (v.1 2) (-1)) 2 ((v.1 2) + 1)) H := hL.setSc hA 2 hat rfl hk
    clear hat hz hk
    refine lv_iload hx hb dX0_enter_64 (lv_at hl 0 rfl) ?_
    exact W.iret hx hb hr (hS.endr (by rw [rX0_enter, if_neg c_23]) (by rw [fX0_enter, if_neg c_23]; exact hL)) hS.2.2 dX0_enter_66
def fX3_clear (v : LV) : LV :=
  lFill (lFill v 7 0) 8 (-1)
theorem sk_X3_clear (v : LV) : sk v (fX3_clear v) := by
  unfold fX3_clear
  (repeat' split) <;> first | exact sk.rf _ | exact ⟨rfl, rfl, rfl⟩
set_option maxHeartbeats 4000000 in
set_option maxRecDepth 100000 in
theorem c_X3_clear (l : Launch) (D : va_G) (cI : ClassId) (A : Nat → Nat) (hA : LInj A) (v : LV)   : Met l yX3_clear wsX3_clear ({ frames := 1, cells := 0, slots := 0, locals := 22 }) (tr_Pc D cI [.ref (A 2)] (LNE D cI A v)) (tr_Q none (LNE D cI A (fX3_clear v)) (lOwn A)) 0 0 (lOwn A) := by
  refine Met.ofW (cc := cX3_clear) (maxL := 1) (ret := none) (by decide) rfl ?_
  intro p e s m args below meth c s₁ B hml hv
  obtain ⟨rfl, hL, hK⟩ := hv
  have hx := B.exec
  have hb := B.bytes
  have hr := B.returns
  have hts := atoms_spec (ws := wsX3_clear) B.pre
  have hown : s.vm.findClass RX3 = some m.cls := findClass_of_methodNamed B.named
  have hlocks := B.notSynchronized
  have hiX3 : ∀ w ∈ u_ws RX3 TX3 2, w ∈ wsX3_clear := by decide +kernel
  have f14 := hts (.fieldLink RX3 14 "TramRibbon$Stops" "waiting" "LTramRibbon$Row;") (by decide +kernel)
  have f20 := hts (.fieldLink RX3 20 "TramRibbon$Stops" "spares" "LTramRibbon$Row;") (by decide +kernel)
  have hl := lv_entry ([.ref (A 2)]) (n := 1) (Nat.le_of_ble_eq_true rfl)
  rw [lg_entry_eq]
  generalize (lg_sl ([.ref (A 2)]) ++ List.replicate (1 - (lg_sl ([.ref (A 2)])).length) Slot.unset).toArray = ls at hl ⊢
  replace hl : lv_has ls 1 [(0, .ref (A 2))] := hl
  have hS : tr_S (lOwn A) s.heap s.heap [] := tr_S.rf
  generalize h1 : s.heap = H, h2 : ([] : List Loc) = locs
  replace hS : tr_S (lOwn A) s.heap H locs := by rw [← h1, ← h2]; exact hS
  rw [h1] at hL
  clear h1 h2
  refine lv_aload_n hx hb dX3_clear_0 rfl (lv_at hl 0 rfl) ?_
  refine tr_get (ci := 3) (C := RX3) (T := TX3) (N := 2) hx hb hts hiX3 hown hK hL.c2 rfl 0 (by decide) f14 (v := .ref (A 18)) rfl dX3_clear_1 ?_
  refine lv_iconst (v := 0) hx hb dX3_clear_4 (by decide) ?_
  refine tr_cv (va_runV (As := [.int 0]) (rest := []) ⟨hx, hb, hml, hown, hts⟩ (c_lfill l D cI A hA v 7 (by decide) 0) (cwV 1 hts gX3_clear_X2_fill rfl rfl rfl (by decide +kernel) ⟨Nat.le_of_ble_eq_true rfl, Nat.le_of_ble_eq_true rfl⟩) (tr_preV hK (hL.robj 7 (by decide)) rfl hL) rfl rfl hl.1 rfl (lv_room (Nat.le_of_ble_eq_true rfl)) dX3_clear_5 ⟨Nat.zero_le _, Nat.zero_le _⟩) hS (fun _ h => h) (fun H locs hL hS => ?_)
  refine lv_aload_n hx hb dX3_clear_8 rfl (lv_at hl 0 rfl) ?_
  refine tr_get (ci := 3) (C := RX3) (T := TX3) (N := 2) hx hb hts hiX3 hown hK hL.c2 rfl 1 (by decide) f20 (v := .ref (A 20)) rfl dX3_clear_9 ?_
  refine lv_iconst (v := -1) hx hb dX3_clear_12 (by decide) ?_
  refine tr_cv (va_runV (As := [.int (-1)]) (rest := []) ⟨hx, hb, hml, hown, hts⟩ (c_lfill l D cI A hA (lFill v 7 0) 8 (by decide) (-1)) (cwV 1 hts gX3_clear_X2_fill rfl rfl rfl (by decide +kernel) ⟨Nat.le_of_ble_eq_true rfl, Nat.le_of_ble_eq_true rfl⟩) (tr_preV hK (hL.robj 8 (by decide)) rfl hL) rfl rfl hl.1 rfl (lv_room (Nat.le_of_ble_eq_true rfl)) dX3_clear_13 ⟨Nat.zero_le _, Nat.zero_le _⟩) hS (fun _ h => h) (fun H locs hL hS => ?_)
  exact W.vret hx hb hr (hS.end (by rw [fX3_clear]; exact hL)) hS.2.2 dX3_clear_16
def fX3_welcome (v : LV) (po : Int32) (nn : Int32) : LV :=
  lSet v 7 po (aMin 99 ((lAt v 7 po) + nn))
theorem sk_X3_welcome (v : LV) (po : Int32) (nn : Int32) : sk v (fX3_welcome v po nn) := by
  unfold fX3_welcome
  (repeat' split) <;> first | exact sk.rf _ | exact ⟨rfl, rfl, rfl⟩
set_option maxHeartbeats 4000000 in
set_option maxRecDepth 100000 in
theorem c_X3_welcome (l : Launch) (D : va_G) (cI : ClassId) (A : Nat → Nat) (hA : LInj A) (v : LV) (po : Int32) (nn : Int32)  : Met l yX3_welcome wsX3_welcome ({ frames := 1, cells := 0, slots := 0, locals := 22 }) (tr_Pc D cI [.ref (A 2), .int po, .int nn] (LNE D cI A v)) (tr_Q none (LNE D cI A (fX3_welcome v po nn)) (lOwn A)) 0 0 (lOwn A) := by
  refine Met.ofW (cc := cX3_welcome) (maxL := 3) (ret := none) (by decide) rfl ?_
  intro p e s m args below meth c s₁ B hml hv
  obtain ⟨rfl, hL, hK⟩ := hv
  have hx := B.exec
  have hb := B.bytes
  have hr := B.returns
  have hts := atoms_spec (ws := wsX3_welcome) B.pre
  have hown : s.vm.findClass RX3 = some m.cls := findClass_of_methodNamed B.named
  have hlocks := B.notSynchronized
  have hiX3 : ∀ w ∈ u_ws RX3 TX3 2, w ∈ wsX3_welcome := by decide +kernel
  have f14 := hts (.fieldLink RX3 14 "TramRibbon$Stops" "waiting" "LTramRibbon$Row;") (by decide +kernel)
  have mC_min := hts (.code Lib.Math.min.name Lib.Math.min.code 2 (some .int)) (by decide +kernel)
  have mI := hts (.initialized "java/lang/Math") (by decide +kernel)
  have mL30 := hts (.methodLink RX3 30 Lib.Math.min.name) (by decide +kernel)
  have mS_min := hts (.static Lib.Math.min.name) (by decide +kernel)
  have hl := lv_entry ([.ref (A 2), .int po, .int nn]) (n := 3) (Nat.le_of_ble_eq_true rfl)
  rw [lg_entry_eq]
  generalize (lg_sl ([.ref (A 2), .int po, .int nn]) ++ List.replicate (3 - (lg_sl ([.ref (A 2), .int po, .int nn])).length) Slot.unset).toArray = ls at hl ⊢
  replace hl : lv_has ls 3 [(0, .ref (A 2)), (1, .int po), (2, .int nn)] := hl
  have hS : tr_S (lOwn A) s.heap s.heap [] := tr_S.rf
  generalize h1 : s.heap = H, h2 : ([] : List Loc) = locs
  replace hS : tr_S (lOwn A) s.heap H locs := by rw [← h1, ← h2]; exact hS
  rw [h1] at hL
  clear h1 h2
  refine lv_aload_n hx hb dX3_welcome_0 rfl (lv_at hl 0 rfl) ?_
  refine tr_get (ci := 3) (C := RX3) (T := TX3) (N := 2) hx hb hts hiX3 hown hK hL.c2 rfl 0 (by decide) f14 (v := .ref (A 18)) rfl dX3_welcome_1 ?_
  refine lv_iload_n hx hb dX3_welcome_4 rfl (lv_at hl 1 rfl) ?_
  refine lv_bipush (v := 99) hx hb dX3_welcome_5 (by decide) ?_
  refine lv_aload_n hx hb dX3_welcome_7 rfl (lv_at hl 0 rfl) ?_
  refine tr_get (ci := 3) (C := RX3) (T := TX3) (N := 2) hx hb hts hiX3 hown hK hL.c2 rfl 0 (by decide) f14 (v := .ref (A 18)) rfl dX3_welcome_8 ?_
  refine lv_iload_n hx hb dX3_welcome_11 rfl (lv_at hl 1 rfl) ?_
  refine tr_ri (va_runV (As := [.int po]) (rest := [.int 99, .int po, .ref (A 18)]) ⟨hx, hb, hml, hown, hts⟩ (c_lat l D cI A hA v 7 (by decide) po) (cwV 1 hts gX3_welcome_X2_at rfl rfl rfl (by decide +kernel) ⟨Nat.le_of_ble_eq_true rfl, Nat.le_of_ble_eq_true rfl⟩) (tr_preV hK (hL.robj 7 (by decide)) rfl (hL.row 7 (by decide))) rfl rfl hl.1 rfl (lv_room (Nat.le_of_ble_eq_true rfl)) dX3_welcome_12 ⟨Nat.zero_le _, Nat.zero_le _⟩) ?_
  refine lv_iload_n hx hb dX3_welcome_15 rfl (lv_at hl 2 rfl) ?_
  refine lv_iadd hx hb dX3_welcome_16 ?_
  refine tr_min hx hb (by rw [hml]; exact hl.1.symm) hown mL30 mS_min mI mC_min (Nat.le_of_ble_eq_true rfl) (Nat.le_of_ble_eq_true rfl) (Nat.zero_le _) (Nat.zero_le _) dX3_welcome_17 ?_
  refine tr_cv (va_runV (As := [.int po, .int (aMin 99 ((lAt v 7 po) + nn))]) (rest := []) ⟨hx, hb, hml, hown, hts⟩ (c_lset l D cI A hA v 7 (by decide) po (aMin 99 ((lAt v 7 po) + nn))) (cwV 2 hts gX3_welcome_X2_set rfl rfl rfl (by decide +kernel) ⟨Nat.le_of_ble_eq_true rfl, Nat.le_of_ble_eq_true rfl⟩) (tr_preV hK (hL.robj 7 (by decide)) rfl hL) rfl rfl hl.1 rfl (lv_room (Nat.le_of_ble_eq_true rfl)) dX3_welcome_20 ⟨Nat.zero_le _, Nat.zero_le _⟩) hS (fun _ h => h) (fun H locs hL hS => ?_)
  exact W.vret hx hb hr (hS.end (by rw [fX3_welcome]; exact hL)) hS.2.2 dX3_welcome_23
def fX4_lay (v : LV) (po : Int32) : LV :=
  lFill (lFill (lFill (lFill (lFill (lFill (lFill (lSc (lSc v 0 po) 1 1) 0 0) 1 0) 2 0) 3 20) 4 0) 5 0) 6 0
set_option maxHeartbeats 4000000 in
set_option maxRecDepth 100000 in
theorem c_X4_lay (l : Launch) (D : va_G) (cI : ClassId) (A : Nat → Nat) (hA : LInj A) (v : LV) (po : Int32)  : Met l yX4_lay wsX4_lay ({ frames := 1, cells := 0, slots := 0, locals := 22 }) (tr_Pc D cI [.ref (A 1), .int po] (LNE D cI A v)) (tr_Q none (LNE D cI A (fX4_lay v po)) (lOwn A)) 0 0 (lOwn A) := by
  refine Met.ofW (cc := cX4_lay) (maxL := 2) (ret := none) (by decide) rfl ?_
  intro p e s m args below meth c s₁ B hml hv
  obtain ⟨rfl, hL, hK⟩ := hv
  have hx := B.exec
  have hb := B.bytes
  have hr := B.returns
  have hts := atoms_spec (ws := wsX4_lay) B.pre
  have hown : s.vm.findClass RX4 = some m.cls := findClass_of_methodNamed B.named
  have hlocks := B.notSynchronized
  have hiX4 : ∀ w ∈ u_ws RX4 TX4 9, w ∈ wsX4_lay := by decide +kernel
  have f14 := hts (.fieldLink RX4 14 "TramRibbon$Wire" "slope" "LTramRibbon$Row;") (by decide +kernel)
  have f20 := hts (.fieldLink RX4 20 "TramRibbon$Wire" "sectionAt" "LTramRibbon$Row;") (by decide +kernel)
  have f23 := hts (.fieldLink RX4 23 "TramRibbon$Wire" "insulator" "LTramRibbon$Row;") (by decide +kernel)
  have f26 := hts (.fieldLink RX4 26 "TramRibbon$Wire" "bound" "LTramRibbon$Row;") (by decide +kernel)
  have f29 := hts (.fieldLink RX4 29 "TramRibbon$Wire" "dead" "LTramRibbon$Row;") (by decide +kernel)
  have f32 := hts (.fieldLink RX4 32 "TramRibbon$Wire" "deaths" "LTramRibbon$Row;") (by decide +kernel)
  have f35 := hts (.fieldLink RX4 35 "TramRibbon$Wire" "drawn" "LTramRibbon$Row;") (by decide +kernel)
  have f38 := hts (.fieldLink RX4 38 "TramRibbon$Wire" "poles" "I") (by decide +kernel)
  have f42 := hts (.fieldLink RX4 42 "TramRibbon$Wire" "sections" "I") (by decide +kernel)
  have hl := lv_entry ([.ref (A 1), .int po]) (n := 2) (Nat.le_of_ble_eq_true rfl)
  rw [lg_entry_eq]
  generalize (lg_sl ([.ref (A 1), .int po]) ++ List.replicate (2 - (lg_sl ([.ref (A 1), .int po])).length) Slot.unset).toArray = ls at hl ⊢
  replace hl : lv_has ls 2 [(0, .ref (A 1)), (1, .int po)] := hl
  have hS : tr_S (lOwn A) s.heap s.heap [] := tr_S.rf
  generalize h1 : s.heap = H, h2 : ([] : List Loc) = locs
  replace hS : tr_S (lOwn A) s.heap H locs := by rw [← h1, ← h2]; exact hS
  rw [h1] at hL
  clear h1 h2
  refine lv_aload_n hx hb dX4_lay_0 rfl (lv_at hl 0 rfl) ?_
  refine lv_iload_n hx hb dX4_lay_1 rfl (lv_at hl 1 rfl) ?_
  refine tr_put (ci := 4) (C := RX4) (T := TX4) (N := 9) (ty := .int) (v := .int po) hx hb hts hiX4 tyX4 tyX4_ok nmX4 hown hK hS (lOwn_k (k := 1) (by decide)) hL.c1 rfl 0 (by decide) f38 rfl (by decide +kernel) rfl rfl (Nat.le_of_ble_eq_true rfl) dX4_lay_2 (fun H locs hat hz hk hS => ?_)
  have hL : LNE D cI A (lSc v 0 po) H := hL.setSc hA 0 hat rfl hk
  clear hat hz hk
  refine lv_aload_n hx hb dX4_lay_5 rfl (lv_at hl 0 rfl) ?_
  refine lv_iconst (v := 1) hx hb dX4_lay_6 (by decide) ?_
  refine tr_put (ci := 4) (C := RX4) (T := TX4) (N := 9) (ty := .int) (v := .int 1) hx hb hts hiX4 tyX4 tyX4_ok nmX4 hown hK hS (lOwn_k (k := 1) (by decide)) hL.c1 rfl 1 (by decide) f42 rfl (by decide +kernel) rfl rfl (Nat.le_of_ble_eq_true rfl) dX4_lay_7 (fun H locs hat hz hk hS => ?_)
  have hL : LNE D cI A (lSc (lSc v 0 po) 1 1) H := hL.setSc hA 1 hat rfl hk
  clear hat hz hk
  refine lv_aload_n hx hb dX4_lay_10 rfl (lv_at hl 0 rfl) ?_
  refine tr_get (ci := 4) (C := RX4) (T := TX4) (N := 9) hx hb hts hiX4 hown hK hL.c1 rfl 2 (by decide) f14 (v := .ref (A 4)) rfl dX4_lay_11 ?_
  refine lv_iconst (v := 0) hx hb dX4_lay_14 (by decide) ?_
  refine tr_cv (va_runV (As := [.int 0]) (rest := []) ⟨hx, hb, hml, hown, hts⟩ (c_lfill l D cI A hA (lSc (lSc v 0 po) 1 1) 0 (by decide) 0) (cwV 1 hts gX4_lay_X2_fill rfl rfl rfl (by decide +kernel) ⟨Nat.le_of_ble_eq_true rfl, Nat.le_of_ble_eq_true rfl⟩) (tr_preV hK (hL.robj 0 (by decide)) rfl hL) rfl rfl hl.1 rfl (lv_room (Nat.le_of_ble_eq_true rfl)) dX4_lay_15 ⟨Nat.zero_le _, Nat.zero_le _⟩) hS (fun _ h => h) (fun H locs hL hS => ?_)
  refine lv_aload_n hx hb dX4_lay_18 rfl (lv_at hl 0 rfl) ?_
  refine tr_get (ci := 4) (C := RX4) (T := TX4) (N := 9) hx hb hts hiX4 hown hK hL.c1 rfl 3 (by decide) f20 (v := .ref (A 6)) rfl dX4_lay_19 ?_
  refine lv_iconst (v := 0) hx hb dX4_lay_22 (by decide) ?_
  refine tr_cv (va_runV (As := [.int 0]) (rest := []) ⟨hx, hb, hml, hown, hts⟩ (c_lfill l D cI A hA (lFill (lSc (lSc v 0 po) 1 1) 0 0) 1 (by decide) 0) (cwV 1 hts gX4_lay_X2_fill rfl rfl rfl (by decide +kernel) ⟨Nat.le_of_ble_eq_true rfl, Nat.le_of_ble_eq_true rfl⟩) (tr_preV hK (hL.robj 1 (by decide)) rfl hL) rfl rfl hl.1 rfl (lv_room (Nat.le_of_ble_eq_true rfl)) dX4_lay_23 ⟨Nat.zero_le _, Nat.zero_le _⟩) hS (fun _ h => h) (fun H locs hL hS => ?_)
  refine lv_aload_n hx hb dX4_lay_26 rfl (lv_at hl 0 rfl) ?_
  refine tr_get (ci := 4) (C := RX4) (T := TX4) (N := 9) hx hb hts hiX4 hown hK hL.c1 rfl 4 (by decide) f23 (v := .ref (A 8)) rfl dX4_lay_27 ?_
  refine lv_iconst (v := 0) hx hb dX4_lay_30 (by decide) ?_
  refine tr_cv (va_runV (As := [.int 0]) (rest := []) ⟨hx, hb, hml, hown, hts⟩ (c_lfill l D cI A hA (lFill (lFill (lSc (lSc v 0 po) 1 1) 0 0) 1 0) 2 (by decide) 0) (cwV 1 hts gX4_lay_X2_fill rfl rfl rfl (by decide +kernel) ⟨Nat.le_of_ble_eq_true rfl, Nat.le_of_ble_eq_true rfl⟩) (tr_preV hK (hL.robj 2 (by decide)) rfl hL) rfl rfl hl.1 rfl (lv_room (Nat.le_of_ble_eq_true rfl)) dX4_lay_31 ⟨Nat.zero_le _, Nat.zero_le _⟩) hS (fun _ h => h) (fun H locs hL hS => ?_)
  refine lv_aload_n hx hb dX4_lay_34 rfl (lv_at hl 0 rfl) ?_
  refine tr_get (ci := 4) (C := RX4) (T := TX4) (N := 9) hx hb hts hiX4 hown hK hL.c1 rfl 5 (by decide) f26 (v := .ref (A 10)) rfl dX4_lay_35 ?_
  refine lv_bipush (v := 20) hx hb dX4_lay_38 (by decide) ?_
  refine tr_cv (va_runV (As := [.int 20]) (rest := []) ⟨hx, hb, hml, hown, hts⟩ (c_lfill l D cI A hA (lFill (lFill (lFill (lSc (lSc v 0 po) 1 1) 0 0) 1 0) 2 0) 3 (by decide) 20) (cwV 1 hts gX4_lay_X2_fill rfl rfl rfl (by decide +kernel) ⟨Nat.le_of_ble_eq_true rfl, Nat.le_of_ble_eq_true rfl⟩) (tr_preV hK (hL.robj 3 (by decide)) rfl hL) rfl rfl hl.1 rfl (lv_room (Nat.le_of_ble_eq_true rfl)) dX4_lay_40 ⟨Nat.zero_le _, Nat.zero_le _⟩) hS (fun _ h => h) (fun H locs hL hS => ?_)
  refine lv_aload_n hx hb dX4_lay_43 rfl (lv_at hl 0 rfl) ?_
  refine tr_get (ci := 4) (C := RX4) (T := TX4) (N := 9) hx hb hts hiX4 hown hK hL.c1 rfl 6 (by decide) f29 (v := .ref (A 12)) rfl dX4_lay_44 ?_
  refine lv_iconst (v := 0) hx hb dX4_lay_47 (by decide) ?_
  refine tr_cv (va_runV (As := [.int 0]) (rest := []) ⟨hx, hb, hml, hown, hts⟩ (c_lfill l D cI A hA (lFill (lFill (lFill (lFill (lSc (lSc v 0 po) 1 1) 0 0) 1 0) 2 0) 3 20) 4 (by decide) 0) (cwV 1 hts gX4_lay_X2_fill rfl rfl rfl (by decide +kernel) ⟨Nat.le_of_ble_eq_true rfl, Nat.le_of_ble_eq_true rfl⟩) (tr_preV hK (hL.robj 4 (by decide)) rfl hL) rfl rfl hl.1 rfl (lv_room (Nat.le_of_ble_eq_true rfl)) dX4_lay_48 ⟨Nat.zero_le _, Nat.zero_le _⟩) hS (fun _ h => h) (fun H locs hL hS => ?_)
  refine lv_aload_n hx hb dX4_lay_51 rfl (lv_at hl 0 rfl) ?_
  refine tr_get (ci := 4) (C := RX4) (T := TX4) (N := 9) hx hb hts hiX4 hown hK hL.c1 rfl 7 (by decide) f32 (v := .ref (A 14)) rfl dX4_lay_52 ?_
  refine lv_iconst (v := 0) hx hb dX4_lay_55 (by decide) ?_
  refine tr_cv (va_runV (As := [.int 0]) (rest := []) ⟨hx, hb, hml, hown, hts⟩ (c_lfill l D cI A hA (lFill (lFill (lFill (lFill (lFill (lSc (lSc v 0 po) 1 1) 0 0) 1 0) 2 0) 3 20) 4 0) 5 (by decide) 0) (cwV 1 hts gX4_lay_X2_fill rfl rfl rfl (by decide +kernel) ⟨Nat.le_of_ble_eq_true rfl, Nat.le_of_ble_eq_true rfl⟩) (tr_preV hK (hL.robj 5 (by decide)) rfl hL) rfl rfl hl.1 rfl (lv_room (Nat.le_of_ble_eq_true rfl)) dX4_lay_56 ⟨Nat.zero_le _, Nat.zero_le _⟩) hS (fun _ h => h) (fun H locs hL hS => ?_)
  refine lv_aload_n hx hb dX4_lay_59 rfl (lv_at hl 0 rfl) ?_
  refine tr_get (ci := 4) (C := RX4) (T := TX4) (N := 9) hx hb hts hiX4 hown hK hL.c1 rfl 8 (by decide) f35 (v := .ref (A 16)) rfl dX4_lay_60 ?_
  refine lv_iconst (v := 0) hx hb dX4_lay_63 (by decide) ?_
  refine tr_cv (va_runV (As := [.int 0]) (rest := []) ⟨hx, hb, hml, hown, hts⟩ (c_lfill l D cI A hA (lFill (lFill (lFill (lFill (lFill (lFill (lSc (lSc v 0 po) 1 1) 0 0) 1 0) 2 0) 3 20) 4 0) 5 0) 6 (by decide) 0) (cwV 1 hts gX4_lay_X2_fill rfl rfl rfl (by decide +kernel) ⟨Nat.le_of_ble_eq_true rfl, Nat.le_of_ble_eq_true rfl⟩) (tr_preV hK (hL.robj 6 (by decide)) rfl hL) rfl rfl hl.1 rfl (lv_room (Nat.le_of_ble_eq_true rfl)) dX4_lay_64 ⟨Nat.zero_le _, Nat.zero_le _⟩) hS (fun _ h => h) (fun H locs hL hS => ?_)
  exact W.vret hx hb hr (hS.end (by rw [fX4_lay]; exact hL)) hS.2.2 dX4_lay_67
def bX4_insulate_14 (v : LV) (po : Int32) (i : Nat) (a : LV) : LV :=
  lSet (lSet (lSet a 3 ((v.1 1) - nI i) (lAt a 3 (((v.1 1) - nI i) - 1))) 4 ((v.1 1) - nI i) (lAt a 4 (((v.1 1) - nI i) - 1))) 5 ((v.1 1) - nI i) (lAt a 5 (((v.1 1) - nI i) - 1))
def bX4_insulate_92 (v : LV) (po : Int32) (i : Nat) (a : LV) : LV :=
  lAdd a 1 (po + nI i) 1
def fX4_insulate (v : LV) (po : Int32) : LV :=
  lSc (lSet (itI (tr_dn (fX4_spans v) po) (bX4_insulate_92 v po) (lSet (itI (tr_dn (v.1 1) (lAt v 1 po)) (bX4_insulate_14 v po) v) 5 ((lAt v 1 po) + 1) 0)) 2 po 1) 1 (((itI (tr_dn (fX4_spans v) po) (bX4_insulate_92 v po) (lSet (itI (tr_dn (v.1 1) (lAt v 1 po)) (bX4_insulate_14 v po) v) 5 ((lAt v 1 po) + 1) 0)).1 1) + 1)
theorem sk_bX4_insulate_14 (v : LV) (po : Int32) (i : Nat) (a : LV) : sk a (bX4_insulate_14 v po i a) := by
  unfold bX4_insulate_14
  (repeat' split) <;> first | exact sk.rf _ | exact ⟨rfl, rfl, rfl⟩
theorem ski_bX4_insulate_14 (v : LV) (po : Int32) (i : Nat) (a : LV) : sk a (itI i (bX4_insulate_14 v po) a) := sk.it (sk_bX4_insulate_14 v po) a i
theorem sk_bX4_insulate_92 (v : LV) (po : Int32) (i : Nat) (a : LV) : sk a (bX4_insulate_92 v po i a) := by
  unfold bX4_insulate_92
  (repeat' split) <;> first | exact sk.rf _ | exact ⟨rfl, rfl, rfl⟩
theorem ski_bX4_insulate_92 (v : LV) (po : Int32) (i : Nat) (a : LV) : sk a (itI i (bX4_insulate_92 v po) a) := sk.it (sk_bX4_insulate_92 v po) a i
set_option maxHeartbeats 4000000 in
set_option maxRecDepth 100000 in
theorem c_X4_insulate (l : Launch) (D : va_G) (cI : ClassId) (A : Nat → Nat) (hA : LInj A) (v : LV) (po : Int32)  : Met l yX4_insulate wsX4_insulate ({ frames := 1, cells := 0, slots := 0, locals := 22 }) (tr_Pc D cI [.ref (A 1), .int po] (LNE D cI A v)) (tr_Q none (LNE D cI A (fX4_insulate v po)) (lOwn A)) 0 0 (lOwn A) := by
  refine Met.ofW (cc := cX4_insulate) (maxL := 4) (ret := none) (by decide) rfl ?_
  intro p e s m args below meth c s₁ B hml hv
  obtain ⟨rfl, hL, hK⟩ := hv
  have hx := B.exec
  have hb := B.bytes
  have hr := B.returns
  have hts := atoms_spec (ws := wsX4_insulate) B.pre
  have hown : s.vm.findClass RX4 = some m.cls := findClass_of_methodNamed B.named
  have hlocks := B.notSynchronized
  have hiX4 : ∀ w ∈ u_ws RX4 TX4 9, w ∈ wsX4_insulate := by decide +kernel
  have f20 := hts (.fieldLink RX4 20 "TramRibbon$Wire" "sectionAt" "LTramRibbon$Row;") (by decide +kernel)
  have f23 := hts (.fieldLink RX4 23 "TramRibbon$Wire" "insulator" "LTramRibbon$Row;") (by decide +kernel)
  have f26 := hts (.fieldLink RX4 26 "TramRibbon$Wire" "bound" "LTramRibbon$Row;") (by decide +kernel)
  have f29 := hts (.fieldLink RX4 29 "TramRibbon$Wire" "dead" "LTramRibbon$Row;") (by decide +kernel)
  have f32 := hts (.fieldLink RX4 32 "TramRibbon$Wire" "deaths" "LTramRibbon$Row;") (by decide +kernel)
  have f42 := hts (.fieldLink RX4 42 "TramRibbon$Wire" "sections" "I") (by decide +kernel)
  have hl := lv_entry ([.ref (A 1), .int po]) (n := 4) (Nat.le_of_ble_eq_true rfl)
  rw [lg_entry_eq]
  generalize (lg_sl ([.ref (A 1), .int po]) ++ List.replicate (4 - (lg_sl ([.ref (A 1), .int po])).length) Slot.unset).toArray = ls at hl ⊢
  replace hl : lv_has ls 4 [(0, .ref (A 1)), (1, .int po)] := hl
  have hS : tr_S (lOwn A) s.heap s.heap [] := tr_S.rf
  generalize h1 : s.heap = H, h2 : ([] : List Loc) = locs
  replace hS : tr_S (lOwn A) s.heap H locs := by rw [← h1, ← h2]; exact hS
  rw [h1] at hL
  clear h1 h2
  refine lv_aload_n hx hb dX4_insulate_0 rfl (lv_at hl 0 rfl) ?_
  refine tr_get (ci := 4) (C := RX4) (T := TX4) (N := 9) hx hb hts hiX4 hown hK hL.c1 rfl 3 (by decide) f20 (v := .ref (A 6)) rfl dX4_insulate_1 ?_
  refine lv_iload_n hx hb dX4_insulate_4 rfl (lv_at hl 1 rfl) ?_
  refine tr_ri (va_runV (As := [.int po]) (rest := []) ⟨hx, hb, hml, hown, hts⟩ (c_lat l D cI A hA v 1 (by decide) po) (cwV 1 hts gX4_insulate_X2_at rfl rfl rfl (by decide +kernel) ⟨Nat.le_of_ble_eq_true rfl, Nat.le_of_ble_eq_true rfl⟩) (tr_preV hK (hL.robj 1 (by decide)) rfl (hL.row 1 (by decide))) rfl rfl hl.1 rfl (lv_room (Nat.le_of_ble_eq_true rfl)) dX4_insulate_5 ⟨Nat.zero_le _, Nat.zero_le _⟩) ?_
  refine lv_istore_n (lv' := [(2, .int (lAt v 1 po)), (0, .ref (A 1)), (1, .int po)]) hx hb dX4_insulate_8 rfl hl (by decide) rfl (fun ls hl => ?_)
  refine lv_aload_n hx hb dX4_insulate_9 rfl (lv_at hl 1 rfl) ?_
  refine tr_get (ci := 4) (C := RX4) (T := TX4) (N := 9) hx hb hts hiX4 hown hK hL.c1 rfl 1 (by decide) f42 (v := .int (v.1 1)) rfl dX4_insulate_10 ?_
  refine lv_istore_n (lv' := [(3, .int (v.1 1)), (2, .int (lAt v 1 po)), (0, .ref (A 1)), (1, .int po)]) hx hb dX4_insulate_13 rfl hl (by decide) rfl (fun ls hl => ?_)
  have hinv := And.intro (show LNE D cI A v H ∧ tr_S (lOwn A) s.heap H locs from ⟨hL, hS⟩) hl
  clear hL hS hl
  revert hinv; revert ls; revert locs; revert H
  refine tr_forw (fun i H locs ls => (LNE D cI A (itI i (bX4_insulate_14 v po) v) H ∧ tr_S (lOwn A) s.heap H locs) ∧ lv_has ls 4 [(0, .ref (A 1)), (1, .int po), (2, .int (lAt v 1 po)), (3, .int ((v.1 1) - nI i))]) (tr_dn (v.1 1) (lAt v 1 po)) (fun H locs ls hinv => ?_) ?_
  · obtain ⟨⟨hL, hS⟩, hl⟩ := hinv
    exact ⟨⟨by rw [itI_0]; exact hL, hS⟩, by rw [tr_sub0]; exact lv_sub hl [2, 3, 1, 0] rfl⟩
  intro i H locs ls hi hinv ih
  obtain ⟨⟨hL, hS⟩, hl⟩ := hinv
  refine lv_iload_n hx hb dX4_insulate_14 rfl (lv_at hl 3 rfl) ?_
  refine lv_iload_n hx hb dX4_insulate_15 rfl (lv_at hl 2 rfl) ?_
  refine lv_icmp_le (tgt := 79) hx hb dX4_insulate_16 (by decide) (fun c_16 => ?_) (fun c_16 => ?_)
  · have hN : i = tr_dn (v.1 1) (lAt v 1 po) := tr_overD (z := 0) rfl hi c_16
    subst hN
    refine lv_aload_n hx hb dX4_insulate_79 rfl (lv_at hl 0 rfl) ?_
    refine tr_get (ci := 4) (C := RX4) (T := TX4) (N := 9) hx hb hts hiX4 hown hK hL.c1 rfl 7 (by decide) f32 (v := .ref (A 14)) rfl dX4_insulate_80 ?_
    refine lv_iload_n hx hb dX4_insulate_83 rfl (lv_at hl 2 rfl) ?_
    refine lv_iconst (v := 1) hx hb dX4_insulate_84 (by decide) ?_
    refine lv_iadd hx hb dX4_insulate_85 ?_
    refine lv_iconst (v := 0) hx hb dX4_insulate_86 (by decide) ?_
    refine tr_cv (va_runV (As := [.int ((lAt v 1 po) + 1), .int 0]) (rest := []) ⟨hx, hb, hml, hown, hts⟩ (c_lset l D cI A hA (itI (tr_dn (v.1 1) (lAt v 1 po)) (bX4_insulate_14 v po) v) 5 (by decide) ((lAt v 1 po) + 1) 0) (cwV 2 hts gX4_insulate_X2_set rfl rfl rfl (by decide +kernel) ⟨Nat.le_of_ble_eq_true rfl, Nat.le_of_ble_eq_true rfl⟩) (tr_preV hK (hL.robj 5 (by decide)) rfl hL) rfl rfl hl.1 rfl (lv_room (Nat.le_of_ble_eq_true rfl)) dX4_insulate_87 ⟨Nat.zero_le _, Nat.zero_le _⟩) hS (fun _ h => h) (fun H locs hL hS => ?_)
    refine lv_iload_n hx hb dX4_insulate_90 rfl (lv_at hl 1 rfl) ?_
    refine lv_istore_n (lv' := [(3, .int po), (0, .ref (A 1)), (1, .int po), (2, .int (lAt v 1 po))]) hx hb dX4_insulate_91 rfl hl (by decide) rfl (fun ls hl => ?_)
    have hinv := And.intro (show LNE D cI A (lSet (itI (tr_dn (v.1 1) (lAt v 1 po)) (bX4_insulate_14 v po) v) 5 ((lAt v 1 po) + 1) 0) H ∧ tr_S (lOwn A) s.heap H locs from ⟨hL, hS⟩) hl
    clear hL hS hl
    revert hinv; revert ls; revert locs; revert H
    refine tr_forw (fun i H locs ls => (LNE D cI A (itI i (bX4_insulate_92 v po) (lSet (itI (tr_dn (v.1 1) (lAt v 1 po)) (bX4_insulate_14 v po) v) 5 ((lAt v 1 po) + 1) 0)) H ∧ tr_S (lOwn A) s.heap H locs) ∧ lv_has ls 4 [(0, .ref (A 1)), (1, .int po), (2, .int (lAt v 1 po)), (3, .int (po + nI i))]) (tr_dn (fX4_spans v) po) (fun H locs ls hinv => ?_) ?_
    · obtain ⟨⟨hL, hS⟩, hl⟩ := hinv
      exact ⟨⟨by rw [itI_0]; exact hL, hS⟩, by rw [tr_add0]; exact lv_sub hl [1, 2, 3, 0] rfl⟩
    intro i H locs ls hi hinv ih
    obtain ⟨⟨hL, hS⟩, hl⟩ := hinv
    refine lv_iload_n hx hb dX4_insulate_92 rfl (lv_at hl 3 rfl) ?_
    refine lv_aload_n hx hb dX4_insulate_93 rfl (lv_at hl 0 rfl) ?_
    refine tr_ri (va_runV (As := []) (rest := [.int (po + nI i)]) ⟨hx, hb, hml, hown, hts⟩ (c_X4_spans l D cI A hA (itI i (bX4_insulate_92 v po) (lSet (itI (tr_dn (v.1 1) (lAt v 1 po)) (bX4_insulate_14 v po) v) 5 ((lAt v 1 po) + 1) 0)) ) (cwV 0 hts gX4_insulate_X4_spans rfl rfl rfl (by decide +kernel) ⟨Nat.le_of_ble_eq_true rfl, Nat.le_of_ble_eq_true rfl⟩) (tr_preV hK hL.c1 rfl hL) rfl rfl hl.1 rfl (lv_room (Nat.le_of_ble_eq_true rfl)) dX4_insulate_94 ⟨Nat.zero_le _, Nat.zero_le _⟩) ?_
    refine lv_icmp_ge (tgt := 115) hx hb dX4_insulate_97 (by decide) (fun c_97 => ?_) (fun c_97 => ?_)
    · have hN : i = tr_dn (fX4_spans v) po := tr_overU (by rw [show fX4_spans _ = fX4_spans v from congrArg (fun x => x - 1) (sk.trans (v := lSet _ 5 _ _) (sk.trans (ski_bX4_insulate_14 v po _ _) ⟨rfl, rfl, rfl⟩) (ski_bX4_insulate_92 v po _ _)).1]) hi c_97
      subst hN
      refine lv_aload_n hx hb dX4_insulate_115 rfl (lv_at hl 0 rfl) ?_
      refine tr_get (ci := 4) (C := RX4) (T := TX4) (N := 9) hx hb hts hiX4 hown hK hL.c1 rfl 4 (by decide) f23 (v := .ref (A 8)) rfl dX4_insulate_116 ?_
      refine lv_iload_n hx hb dX4_insulate_119 rfl (lv_at hl 1 rfl) ?_
      refine lv_iconst (v := 1) hx hb dX4_insulate_120 (by decide) ?_
      refine tr_cv (va_runV (As := [.int po, .int 1]) (rest := []) ⟨hx, hb, hml, hown, hts⟩ (c_lset l D cI A hA (itI (tr_dn (fX4_spans v) po) (bX4_insulate_92 v po) (lSet (itI (tr_dn (v.1 1) (lAt v 1 po)) (bX4_insulate_14 v po) v) 5 ((lAt v 1 po) + 1) 0)) 2 (by decide) po 1) (cwV 2 hts gX4_insulate_X2_set rfl rfl rfl (by decide +kernel) ⟨Nat.le_of_ble_eq_true rfl, Nat.le_of_ble_eq_true rfl⟩) (tr_preV hK (hL.robj 2 (by decide)) rfl hL) rfl rfl hl.1 rfl (lv_room (Nat.le_of_ble_eq_true rfl)) dX4_insulate_121 ⟨Nat.zero_le _, Nat.zero_le _⟩) hS (fun _ h => h) (fun H locs hL hS => ?_)
      refine lv_aload_n hx hb dX4_insulate_124 rfl (lv_at hl 0 rfl) ?_
      refine lv_dup hx hb dX4_insulate_125 rfl ?_
      refine tr_get (ci := 4) (C := RX4) (T := TX4) (N := 9) hx hb hts hiX4 hown hK hL.c1 rfl 1 (by decide) f42 (v := .int ((itI (tr_dn (fX4_spans v) po) (bX4_insulate_92 v po) (lSet (itI (tr_dn (v.1 1) (lAt v 1 po)) (bX4_insulate_14 v po) v) 5 ((lAt v 1 po) + 1) 0)).1 1)) rfl dX4_insulate_126 ?_
      refine lv_iconst (v := 1) hx hb dX4_insulate_129 (by decide) ?_
      refine lv_iadd hx hb dX4_insulate_130 ?_
      refine tr_put (ci := 4) (C := RX4) (T := TX4) (N := 9) (ty := .int) (v := .int (((itI (tr_dn (fX4_spans v) po) (bX4_insulate_92 v po) (lSet (itI (tr_dn (v.1 1) (lAt v 1 po)) (bX4_insulate_14 v po) v) 5 ((lAt v 1 po) + 1) 0)).1 1) + 1)) hx hb hts hiX4 tyX4 tyX4_ok nmX4 hown hK hS (lOwn_k (k := 1) (by decide)) hL.c1 rfl 1 (by decide) f42 rfl (by decide +kernel) rfl rfl (Nat.le_of_ble_eq_true rfl) dX4_insulate_131 (fun H locs hat hz hk hS => ?_)
      have hL : LNE D cI A (lSc (lSet (itI (tr_dn (fX4_spans v) po) (bX4_insulate_92 v po) (lSet (itI (tr_dn (v.1 1) (lAt v 1 po)) (bX4_insulate_14 v po) v) 5 ((lAt v 1 po) + 1) 0)) 2 po 1) 1 (((itI (tr_dn (fX4_spans v) po) (bX4_insulate_92 v po) (lSet (itI (tr_dn (v.1 1) (lAt v 1 po)) (bX4_insulate_14 v po) v) 5 ((lAt v 1 po) + 1) 0)).1 1) + 1)) H := hL.setSc hA 1 hat rfl hk
      clear hat hz hk
      exact W.vret hx hb hr (hS.end (by rw [fX4_insulate]; exact hL)) hS.2.2 dX4_insulate_134
    · have hlt : i < tr_dn (fX4_spans v) po := tr_onU (by rw [show fX4_spans _ = fX4_spans v from congrArg (fun x => x - 1) (sk.trans (v := lSet _ 5 _ _) (sk.trans (ski_bX4_insulate_14 v po _ _) ⟨rfl, rfl, rfl⟩) (ski_bX4_insulate_92 v po _ _)).1]) hi c_97
      refine lv_aload_n hx hb dX4_insulate_100 rfl (lv_at hl 0 rfl) ?_
      refine tr_get (ci := 4) (C := RX4) (T := TX4) (N := 9) hx hb hts hiX4 hown hK hL.c1 rfl 3 (by decide) f20 (v := .ref (A 6)) rfl dX4_insulate_101 ?_
      refine lv_iload_n hx hb dX4_insulate_104 rfl (lv_at hl 3 rfl) ?_
      refine lv_iconst (v := 1) hx hb dX4_insulate_105 (by decide) ?_
      refine tr_cv (va_runV (As := [.int (po + nI i), .int 1]) (rest := []) ⟨hx, hb, hml, hown, hts⟩ (c_ladd l D cI A hA (itI i (bX4_insulate_92 v po) (lSet (itI (tr_dn (v.1 1) (lAt v 1 po)) (bX4_insulate_14 v po) v) 5 ((lAt v 1 po) + 1) 0)) 1 (by decide) (po + nI i) 1) (cwV 2 hts gX4_insulate_X2_add rfl rfl rfl (by decide +kernel) ⟨Nat.le_of_ble_eq_true rfl, Nat.le_of_ble_eq_true rfl⟩) (tr_preV hK (hL.robj 1 (by decide)) rfl hL) rfl rfl hl.1 rfl (lv_room (Nat.le_of_ble_eq_true rfl)) dX4_insulate_106 ⟨Nat.zero_le _, Nat.zero_le _⟩) hS (fun _ h => h) (fun H locs hL hS => ?_)
      refine lv_iinc (v := (po + nI i) + 1) (lv' := [(3, .int ((po + nI i) + 1)), (0, .ref (A 1)), (1, .int po), (2, .int (lAt v 1 po))]) hx hb dX4_insulate_109 hl (k := 3) rfl rfl (by decide) rfl (fun ls hl => ?_)
      refine lv_goto (tgt := 92) hx hb dX4_insulate_112 (by decide) ?_
      have e9 : itI (i + 1) (bX4_insulate_92 v po) (lSet (itI (tr_dn (v.1 1) (lAt v 1 po)) (bX4_insulate_14 v po) v) 5 ((lAt v 1 po) + 1) 0) = lAdd (itI i (bX4_insulate_92 v po) (lSet (itI (tr_dn (v.1 1) (lAt v 1 po)) (bX4_insulate_14 v po) v) 5 ((lAt v 1 po) + 1) 0)) 1 (po + nI i) 1 := by rw [itI_s, bX4_insulate_92]
      exact ih H locs ls hlt ⟨⟨by rw [e9]; exact hL, hS⟩, by rw [tr_addS]; exact lv_sub hl [1, 2, 3, 0] rfl⟩
  · have hlt : i < tr_dn (v.1 1) (lAt v 1 po) := tr_onD (z := 0) rfl hi c_16
    refine lv_aload_n hx hb dX4_insulate_19 rfl (lv_at hl 0 rfl) ?_
    refine tr_get (ci := 4) (C := RX4) (T := TX4) (N := 9) hx hb hts hiX4 hown hK hL.c1 rfl 5 (by decide) f26 (v := .ref (A 10)) rfl dX4_insulate_20 ?_
    refine lv_iload_n hx hb dX4_insulate_23 rfl (lv_at hl 3 rfl) ?_
    refine lv_aload_n hx hb dX4_insulate_24 rfl (lv_at hl 0 rfl) ?_
    refine tr_get (ci := 4) (C := RX4) (T := TX4) (N := 9) hx hb hts hiX4 hown hK hL.c1 rfl 5 (by decide) f26 (v := .ref (A 10)) rfl dX4_insulate_25 ?_
    refine lv_iload_n hx hb dX4_insulate_28 rfl (lv_at hl 3 rfl) ?_
    refine lv_iconst (v := 1) hx hb dX4_insulate_29 (by decide) ?_
    refine lv_isub hx hb dX4_insulate_30 ?_
    refine tr_ri (va_runV (As := [.int (((v.1 1) - nI i) - 1)]) (rest := [.int ((v.1 1) - nI i), .ref (A 10)]) ⟨hx, hb, hml, hown, hts⟩ (c_lat l D cI A hA (itI i (bX4_insulate_14 v po) v) 3 (by decide) (((v.1 1) - nI i) - 1)) (cwV 1 hts gX4_insulate_X2_at rfl rfl rfl (by decide +kernel) ⟨Nat.le_of_ble_eq_true rfl, Nat.le_of_ble_eq_true rfl⟩) (tr_preV hK (hL.robj 3 (by decide)) rfl (hL.row 3 (by decide))) rfl rfl hl.1 rfl (lv_room (Nat.le_of_ble_eq_true rfl)) dX4_insulate_31 ⟨Nat.zero_le _, Nat.zero_le _⟩) ?_
    refine tr_cv (va_runV (As := [.int ((v.1 1) - nI i), .int (lAt (itI i (bX4_insulate_14 v po) v) 3 (((v.1 1) - nI i) - 1))]) (rest := []) ⟨hx, hb, hml, hown, hts⟩ (c_lset l D cI A hA (itI i (bX4_insulate_14 v po) v) 3 (by decide) ((v.1 1) - nI i) (lAt (itI i (bX4_insulate_14 v po) v) 3 (((v.1 1) - nI i) - 1))) (cwV 2 hts gX4_insulate_X2_set rfl rfl rfl (by decide +kernel) ⟨Nat.le_of_ble_eq_true rfl, Nat.le_of_ble_eq_true rfl⟩) (tr_preV hK (hL.robj 3 (by decide)) rfl hL) rfl rfl hl.1 rfl (lv_room (Nat.le_of_ble_eq_true rfl)) dX4_insulate_34 ⟨Nat.zero_le _, Nat.zero_le _⟩) hS (fun _ h => h) (fun H locs hL hS => ?_)
    refine lv_aload_n hx hb dX4_insulate_37 rfl (lv_at hl 0 rfl) ?_
    refine tr_get (ci := 4) (C := RX4) (T := TX4) (N := 9) hx hb hts hiX4 hown hK hL.c1 rfl 6 (by decide) f29 (v := .ref (A 12)) rfl dX4_insulate_38 ?_
    refine lv_iload_n hx hb dX4_insulate_41 rfl (lv_at hl 3 rfl) ?_
    refine lv_aload_n hx hb dX4_insulate_42 rfl (lv_at hl 0 rfl) ?_
    refine tr_get (ci := 4) (C := RX4) (T := TX4) (N := 9) hx hb hts hiX4 hown hK hL.c1 rfl 6 (by decide) f29 (v := .ref (A 12)) rfl dX4_insulate_43 ?_
    refine lv_iload_n hx hb dX4_insulate_46 rfl (lv_at hl 3 rfl) ?_
    refine lv_iconst (v := 1) hx hb dX4_insulate_47 (by decide) ?_
    refine lv_isub hx hb dX4_insulate_48 ?_
    refine tr_ri (va_runV (As := [.int (((v.1 1) - nI i) - 1)]) (rest := [.int ((v.1 1) - nI i), .ref (A 12)]) ⟨hx, hb, hml, hown, hts⟩ (c_lat l D cI A hA (itI i (bX4_insulate_14 v po) v) 4 (by decide) (((v.1 1) - nI i) - 1)) (cwV 1 hts gX4_insulate_X2_at rfl rfl rfl (by decide +kernel) ⟨Nat.le_of_ble_eq_true rfl, Nat.le_of_ble_eq_true rfl⟩) (tr_preV hK (hL.robj 4 (by decide)) rfl (hL.row 4 (by decide))) rfl rfl hl.1 rfl (lv_room (Nat.le_of_ble_eq_true rfl)) dX4_insulate_49 ⟨Nat.zero_le _, Nat.zero_le _⟩) ?_
    refine tr_cv (va_runV (As := [.int ((v.1 1) - nI i), .int (lAt (itI i (bX4_insulate_14 v po) v) 4 (((v.1 1) - nI i) - 1))]) (rest := []) ⟨hx, hb, hml, hown, hts⟩ (c_lset l D cI A hA (lSet (itI i (bX4_insulate_14 v po) v) 3 ((v.1 1) - nI i) (lAt (itI i (bX4_insulate_14 v po) v) 3 (((v.1 1) - nI i) - 1))) 4 (by decide) ((v.1 1) - nI i) (lAt (itI i (bX4_insulate_14 v po) v) 4 (((v.1 1) - nI i) - 1))) (cwV 2 hts gX4_insulate_X2_set rfl rfl rfl (by decide +kernel) ⟨Nat.le_of_ble_eq_true rfl, Nat.le_of_ble_eq_true rfl⟩) (tr_preV hK (hL.robj 4 (by decide)) rfl hL) rfl rfl hl.1 rfl (lv_room (Nat.le_of_ble_eq_true rfl)) dX4_insulate_52 ⟨Nat.zero_le _, Nat.zero_le _⟩) hS (fun _ h => h) (fun H locs hL hS => ?_)
    refine lv_aload_n hx hb dX4_insulate_55 rfl (lv_at hl 0 rfl) ?_
    refine tr_get (ci := 4) (C := RX4) (T := TX4) (N := 9) hx hb hts hiX4 hown hK hL.c1 rfl 7 (by decide) f32 (v := .ref (A 14)) rfl dX4_insulate_56 ?_
    refine lv_iload_n hx hb dX4_insulate_59 rfl (lv_at hl 3 rfl) ?_
    refine lv_aload_n hx hb dX4_insulate_60 rfl (lv_at hl 0 rfl) ?_
    refine tr_get (ci := 4) (C := RX4) (T := TX4) (N := 9) hx hb hts hiX4 hown hK hL.c1 rfl 7 (by decide) f32 (v := .ref (A 14)) rfl dX4_insulate_61 ?_
    refine lv_iload_n hx hb dX4_insulate_64 rfl (lv_at hl 3 rfl) ?_
    refine lv_iconst (v := 1) hx hb dX4_insulate_65 (by decide) ?_
    refine lv_isub hx hb dX4_insulate_66 ?_
    refine tr_ri (va_runV (As := [.int (((v.1 1) - nI i) - 1)]) (rest := [.int ((v.1 1) - nI i), .ref (A 14)]) ⟨hx, hb, hml, hown, hts⟩ (c_lat l D cI A hA (itI i (bX4_insulate_14 v po) v) 5 (by decide) (((v.1 1) - nI i) - 1)) (cwV 1 hts gX4_insulate_X2_at rfl rfl rfl (by decide +kernel) ⟨Nat.le_of_ble_eq_true rfl, Nat.le_of_ble_eq_true rfl⟩) (tr_preV hK (hL.robj 5 (by decide)) rfl (hL.row 5 (by decide))) rfl rfl hl.1 rfl (lv_room (Nat.le_of_ble_eq_true rfl)) dX4_insulate_67 ⟨Nat.zero_le _, Nat.zero_le _⟩) ?_
    refine tr_cv (va_runV (As := [.int ((v.1 1) - nI i), .int (lAt (itI i (bX4_insulate_14 v po) v) 5 (((v.1 1) - nI i) - 1))]) (rest := []) ⟨hx, hb, hml, hown, hts⟩ (c_lset l D cI A hA (lSet (lSet (itI i (bX4_insulate_14 v po) v) 3 ((v.1 1) - nI i) (lAt (itI i (bX4_insulate_14 v po) v) 3 (((v.1 1) - nI i) - 1))) 4 ((v.1 1) - nI i) (lAt (itI i (bX4_insulate_14 v po) v) 4 (((v.1 1) - nI i) - 1))) 5 (by decide) ((v.1 1) - nI i) (lAt (itI i (bX4_insulate_14 v po) v) 5 (((v.1 1) - nI i) - 1))) (cwV 2 hts gX4_insulate_X2_set rfl rfl rfl (by decide +kernel) ⟨Nat.le_of_ble_eq_true rfl, Nat.le_of_ble_eq_true rfl⟩) (tr_preV hK (hL.robj 5 (by decide)) rfl hL) rfl rfl hl.1 rfl (lv_room (Nat.le_of_ble_eq_true rfl)) dX4_insulate_70 ⟨Nat.zero_le _, Nat.zero_le _⟩) hS (fun _ h => h) (fun H locs hL hS => ?_)
    refine lv_iinc (v := ((v.1 1) - nI i) + (-1)) (lv' := [(3, .int (((v.1 1) - nI i) + (-1))), (0, .ref (A 1)), (1, .int po), (2, .int (lAt v 1 po))]) hx hb dX4_insulate_73 hl (k := 3) rfl rfl (by decide) rfl (fun ls hl => ?_)
    refine lv_goto (tgt := 14) hx hb dX4_insulate_76 (by decide) ?_
    have e9 : itI (i + 1) (bX4_insulate_14 v po) v = lSet (lSet (lSet (itI i (bX4_insulate_14 v po) v) 3 ((v.1 1) - nI i) (lAt (itI i (bX4_insulate_14 v po) v) 3 (((v.1 1) - nI i) - 1))) 4 ((v.1 1) - nI i) (lAt (itI i (bX4_insulate_14 v po) v) 4 (((v.1 1) - nI i) - 1))) 5 ((v.1 1) - nI i) (lAt (itI i (bX4_insulate_14 v po) v) 5 (((v.1 1) - nI i) - 1)) := by rw [itI_s, bX4_insulate_14]
    exact ih H locs ls hlt ⟨⟨by rw [e9]; exact hL, hS⟩, by rw [tr_subS]; exact lv_sub hl [1, 2, 3, 0] rfl⟩
def bX4_breakOverdrawn_2 (v : LV) (i : Nat) (a : LV) : LV :=
  (if (lAt a 4 (nI i)) = 0 then (if (lAt a 6 (nI i)) ≤ (lAt a 3 (nI i)) then a else lAdd (lSet a 4 (nI i) 3) 5 (nI i) 1) else a)
def fX4_breakOverdrawn (v : LV) : LV :=
  itI ((v.1 1).toNatClampNeg) (bX4_breakOverdrawn_2 v) v
theorem sk_bX4_breakOverdrawn_2 (v : LV) (i : Nat) (a : LV) : sk a (bX4_breakOverdrawn_2 v i a) := by
  unfold bX4_breakOverdrawn_2
  (repeat' split) <;> first | exact sk.rf _ | exact ⟨rfl, rfl, rfl⟩
theorem ski_bX4_breakOverdrawn_2 (v : LV) (i : Nat) (a : LV) : sk a (itI i (bX4_breakOverdrawn_2 v) a) := sk.it (sk_bX4_breakOverdrawn_2 v) a i
theorem sk_X4_breakOverdrawn (v : LV) : sk v (fX4_breakOverdrawn v) := by
  unfold fX4_breakOverdrawn
  (repeat' split) <;> first | exact ski_bX4_breakOverdrawn_2 v _ _
set_option maxHeartbeats 4000000 in
set_option maxRecDepth 100000 in
theorem c_X4_breakOverdrawn (l : Launch) (D : va_G) (cI : ClassId) (A : Nat → Nat) (hA : LInj A) (v : LV)   : Met l yX4_breakOverdrawn wsX4_breakOverdrawn ({ frames := 1, cells := 0, slots := 0, locals := 22 }) (tr_Pc D cI [.ref (A 1)] (LNE D cI A v)) (tr_Q none (LNE D cI A (fX4_breakOverdrawn v)) (lOwn A)) 0 0 (lOwn A) := by
  refine Met.ofW (cc := cX4_breakOverdrawn) (maxL := 2) (ret := none) (by decide) rfl ?_
  intro p e s m args below meth c s₁ B hml hv
  obtain ⟨rfl, hL, hK⟩ := hv
  have hx := B.exec
  have hb := B.bytes
  have hr := B.returns
  have hts := atoms_spec (ws := wsX4_breakOverdrawn) B.pre
  have hown : s.vm.findClass RX4 = some m.cls := findClass_of_methodNamed B.named
  have hlocks := B.notSynchronized
  have hiX4 : ∀ w ∈ u_ws RX4 TX4 9, w ∈ wsX4_breakOverdrawn := by decide +kernel
  have f26 := hts (.fieldLink RX4 26 "TramRibbon$Wire" "bound" "LTramRibbon$Row;") (by decide +kernel)
  have f29 := hts (.fieldLink RX4 29 "TramRibbon$Wire" "dead" "LTramRibbon$Row;") (by decide +kernel)
  have f32 := hts (.fieldLink RX4 32 "TramRibbon$Wire" "deaths" "LTramRibbon$Row;") (by decide +kernel)
  have f35 := hts (.fieldLink RX4 35 "TramRibbon$Wire" "drawn" "LTramRibbon$Row;") (by decide +kernel)
  have f42 := hts (.fieldLink RX4 42 "TramRibbon$Wire" "sections" "I") (by decide +kernel)
  have hl := lv_entry ([.ref (A 1)]) (n := 2) (Nat.le_of_ble_eq_true rfl)
  rw [lg_entry_eq]
  generalize (lg_sl ([.ref (A 1)]) ++ List.replicate (2 - (lg_sl ([.ref (A 1)])).length) Slot.unset).toArray = ls at hl ⊢
  replace hl : lv_has ls 2 [(0, .ref (A 1))] := hl
  have hS : tr_S (lOwn A) s.heap s.heap [] := tr_S.rf
  generalize h1 : s.heap = H, h2 : ([] : List Loc) = locs
  replace hS : tr_S (lOwn A) s.heap H locs := by rw [← h1, ← h2]; exact hS
  rw [h1] at hL
  clear h1 h2
  refine lv_iconst (v := 0) hx hb dX4_breakOverdrawn_0 (by decide) ?_
  refine lv_istore_n (lv' := [(1, .int 0), (0, .ref (A 1))]) hx hb dX4_breakOverdrawn_1 rfl hl (by decide) rfl (fun ls hl => ?_)
  have hinv := And.intro (show LNE D cI A v H ∧ tr_S (lOwn A) s.heap H locs from ⟨hL, hS⟩) hl
  clear hL hS hl
  revert hinv; revert ls; revert locs; revert H
  refine tr_forw (fun i H locs ls => (LNE D cI A (itI i (bX4_breakOverdrawn_2 v) v) H ∧ tr_S (lOwn A) s.heap H locs) ∧ lv_has ls 2 [(0, .ref (A 1)), (1, .int (nI i))]) ((v.1 1).toNatClampNeg) (fun H locs ls hinv => ?_) ?_
  · obtain ⟨⟨hL, hS⟩, hl⟩ := hinv
    exact ⟨⟨by rw [itI_0]; exact hL, hS⟩, lv_sub hl [1, 0] rfl⟩
  intro i H locs ls hi hinv ih
  obtain ⟨⟨hL, hS⟩, hl⟩ := hinv
  refine lv_iload_n hx hb dX4_breakOverdrawn_2 rfl (lv_at hl 1 rfl) ?_
  refine lv_aload_n hx hb dX4_breakOverdrawn_3 rfl (lv_at hl 0 rfl) ?_
  refine tr_get (ci := 4) (C := RX4) (T := TX4) (N := 9) hx hb hts hiX4 hown hK hL.c1 rfl 1 (by decide) f42 (v := .int ((itI i (bX4_breakOverdrawn_2 v) v).1 1)) rfl dX4_breakOverdrawn_4 ?_
  refine lv_icmp_ge (tgt := 64) hx hb dX4_breakOverdrawn_7 (by decide) (fun c_7 => ?_) (fun c_7 => ?_)
  · have hN : i = (v.1 1).toNatClampNeg := tr_over (congrArg Int32.toNatClampNeg (ski_bX4_breakOverdrawn_2 v i v).2.1) hi c_7
    subst hN
    exact W.vret hx hb hr (hS.end (by rw [fX4_breakOverdrawn]; exact hL)) hS.2.2 dX4_breakOverdrawn_64
  · have hlt : i < (v.1 1).toNatClampNeg := tr_on (congrArg Int32.toNatClampNeg (ski_bX4_breakOverdrawn_2 v i v).2.1) hi c_7
    refine lv_aload_n hx hb dX4_breakOverdrawn_10 rfl (lv_at hl 0 rfl) ?_
    refine tr_get (ci := 4) (C := RX4) (T := TX4) (N := 9) hx hb hts hiX4 hown hK hL.c1 rfl 6 (by decide) f29 (v := .ref (A 12)) rfl dX4_breakOverdrawn_11 ?_
    refine lv_iload_n hx hb dX4_breakOverdrawn_14 rfl (lv_at hl 1 rfl) ?_
    refine tr_ri (va_runV (As := [.int (nI i)]) (rest := []) ⟨hx, hb, hml, hown, hts⟩ (c_lat l D cI A hA (itI i (bX4_breakOverdrawn_2 v) v) 4 (by decide) (nI i)) (cwV 1 hts gX4_breakOverdrawn_X2_at rfl rfl rfl (by decide +kernel) ⟨Nat.le_of_ble_eq_true rfl, Nat.le_of_ble_eq_true rfl⟩) (tr_preV hK (hL.robj 4 (by decide)) rfl (hL.row 4 (by decide))) rfl rfl hl.1 rfl (lv_room (Nat.le_of_ble_eq_true rfl)) dX4_breakOverdrawn_15 ⟨Nat.zero_le _, Nat.zero_le _⟩) ?_
    refine lv_if_ne (tgt := 58) hx hb dX4_breakOverdrawn_18 (by decide) (fun c_18 => ?_) (fun c_18 => ?_)
    · refine lv_iinc (v := nI (i + 1)) (lv' := [(1, .int (nI (i + 1))), (0, .ref (A 1))]) hx hb dX4_breakOverdrawn_58 hl (k := 1) rfl (tr_inc _) (by decide) rfl (fun ls hl => ?_)
      refine lv_goto (tgt := 2) hx hb dX4_breakOverdrawn_61 (by decide) ?_
      have e9 : itI (i + 1) (bX4_breakOverdrawn_2 v) v = itI i (bX4_breakOverdrawn_2 v) v := by rw [itI_s, bX4_breakOverdrawn_2, if_neg c_18]
      exact ih H locs ls hlt ⟨⟨by rw [e9]; exact hL, hS⟩, lv_sub hl [1, 0] rfl⟩
    · refine lv_aload_n hx hb dX4_breakOverdrawn_21 rfl (lv_at hl 0 rfl) ?_
      refine tr_get (ci := 4) (C := RX4) (T := TX4) (N := 9) hx hb hts hiX4 hown hK hL.c1 rfl 8 (by decide) f35 (v := .ref (A 16)) rfl dX4_breakOverdrawn_22 ?_
      refine lv_iload_n hx hb dX4_breakOverdrawn_25 rfl (lv_at hl 1 rfl) ?_
      refine tr_ri (va_runV (As := [.int (nI i)]) (rest := []) ⟨hx, hb, hml, hown, hts⟩ (c_lat l D cI A hA (itI i (bX4_breakOverdrawn_2 v) v) 6 (by decide) (nI i)) (cwV 1 hts gX4_breakOverdrawn_X2_at rfl rfl rfl (by decide +kernel) ⟨Nat.le_of_ble_eq_true rfl, Nat.le_of_ble_eq_true rfl⟩) (tr_preV hK (hL.robj 6 (by decide)) rfl (hL.row 6 (by decide))) rfl rfl hl.1 rfl (lv_room (Nat.le_of_ble_eq_true rfl)) dX4_breakOverdrawn_26 ⟨Nat.zero_le _, Nat.zero_le _⟩) ?_
      refine lv_aload_n hx hb dX4_breakOverdrawn_29 rfl (lv_at hl 0 rfl) ?_
      refine tr_get (ci := 4) (C := RX4) (T := TX4) (N := 9) hx hb hts hiX4 hown hK hL.c1 rfl 5 (by decide) f26 (v := .ref (A 10)) rfl dX4_breakOverdrawn_30 ?_
      refine lv_iload_n hx hb dX4_breakOverdrawn_33 rfl (lv_at hl 1 rfl) ?_
      refine tr_ri (va_runV (As := [.int (nI i)]) (rest := [.int (lAt (itI i (bX4_breakOverdrawn_2 v) v) 6 (nI i))]) ⟨hx, hb, hml, hown, hts⟩ (c_lat l D cI A hA (itI i (bX4_breakOverdrawn_2 v) v) 3 (by decide) (nI i)) (cwV 1 hts gX4_breakOverdrawn_X2_at rfl rfl rfl (by decide +kernel) ⟨Nat.le_of_ble_eq_true rfl, Nat.le_of_ble_eq_true rfl⟩) (tr_preV hK (hL.robj 3 (by decide)) rfl (hL.row 3 (by decide))) rfl rfl hl.1 rfl (lv_room (Nat.le_of_ble_eq_true rfl)) dX4_breakOverdrawn_34 ⟨Nat.zero_le _, Nat.zero_le _⟩) ?_
      refine lv_icmp_le (tgt := 58) hx hb dX4_breakOverdrawn_37 (by decide) (fun c_37 => ?_) (fun c_37 => ?_)
      · refine lv_iinc (v := nI (i + 1)) (lv' := [(1, .int (nI (i + 1))), (0, .ref (A 1))]) hx hb dX4_breakOverdrawn_58 hl (k := 1) rfl (tr_inc _) (by decide) rfl (fun ls hl => ?_)
        refine lv_goto (tgt := 2) hx hb dX4_breakOverdrawn_61 (by decide) ?_
        have e9 : itI (i + 1) (bX4_breakOverdrawn_2 v) v = itI i (bX4_breakOverdrawn_2 v) v := by rw [itI_s, bX4_breakOverdrawn_2, if_pos c_18, if_pos c_37]
        exact ih H locs ls hlt ⟨⟨by rw [e9]; exact hL, hS⟩, lv_sub hl [1, 0] rfl⟩
      · refine lv_aload_n hx hb dX4_breakOverdrawn_40 rfl (lv_at hl 0 rfl) ?_
        refine tr_get (ci := 4) (C := RX4) (T := TX4) (N := 9) hx hb hts hiX4 hown hK hL.c1 rfl 6 (by decide) f29 (v := .ref (A 12)) rfl dX4_breakOverdrawn_41 ?_
        refine lv_iload_n hx hb dX4_breakOverdrawn_44 rfl (lv_at hl 1 rfl) ?_
        refine lv_iconst (v := 3) hx hb dX4_breakOverdrawn_45 (by decide) ?_
        refine tr_cv (va_runV (As := [.int (nI i), .int 3]) (rest := []) ⟨hx, hb, hml, hown, hts⟩ (c_lset l D cI A hA (itI i (bX4_breakOverdrawn_2 v) v) 4 (by decide) (nI i) 3) (cwV 2 hts gX4_breakOverdrawn_X2_set rfl rfl rfl (by decide +kernel) ⟨Nat.le_of_ble_eq_true rfl, Nat.le_of_ble_eq_true rfl⟩) (tr_preV hK (hL.robj 4 (by decide)) rfl hL) rfl rfl hl.1 rfl (lv_room (Nat.le_of_ble_eq_true rfl)) dX4_breakOverdrawn_46 ⟨Nat.zero_le _, Nat.zero_le _⟩) hS (fun _ h => h) (fun H locs hL hS => ?_)
        refine lv_aload_n hx hb dX4_breakOverdrawn_49 rfl (lv_at hl 0 rfl) ?_
        refine tr_get (ci := 4) (C := RX4) (T := TX4) (N := 9) hx hb hts hiX4 hown hK hL.c1 rfl 7 (by decide) f32 (v := .ref (A 14)) rfl dX4_breakOverdrawn_50 ?_
        refine lv_iload_n hx hb dX4_breakOverdrawn_53 rfl (lv_at hl 1 rfl) ?_
        refine lv_iconst (v := 1) hx hb dX4_breakOverdrawn_54 (by decide) ?_
        refine tr_cv (va_runV (As := [.int (nI i), .int 1]) (rest := []) ⟨hx, hb, hml, hown, hts⟩ (c_ladd l D cI A hA (lSet (itI i (bX4_breakOverdrawn_2 v) v) 4 (nI i) 3) 5 (by decide) (nI i) 1) (cwV 2 hts gX4_breakOverdrawn_X2_add rfl rfl rfl (by decide +kernel) ⟨Nat.le_of_ble_eq_true rfl, Nat.le_of_ble_eq_true rfl⟩) (tr_preV hK (hL.robj 5 (by decide)) rfl hL) rfl rfl hl.1 rfl (lv_room (Nat.le_of_ble_eq_true rfl)) dX4_breakOverdrawn_55 ⟨Nat.zero_le _, Nat.zero_le _⟩) hS (fun _ h => h) (fun H locs hL hS => ?_)
        refine lv_iinc (v := nI (i + 1)) (lv' := [(1, .int (nI (i + 1))), (0, .ref (A 1))]) hx hb dX4_breakOverdrawn_58 hl (k := 1) rfl (tr_inc _) (by decide) rfl (fun ls hl => ?_)
        refine lv_goto (tgt := 2) hx hb dX4_breakOverdrawn_61 (by decide) ?_
        have e9 : itI (i + 1) (bX4_breakOverdrawn_2 v) v = lAdd (lSet (itI i (bX4_breakOverdrawn_2 v) v) 4 (nI i) 3) 5 (nI i) 1 := by rw [itI_s, bX4_breakOverdrawn_2, if_pos c_18, if_neg c_37]
        exact ih H locs ls hlt ⟨⟨by rw [e9]; exact hL, hS⟩, lv_sub hl [1, 0] rfl⟩
def bX4_recover_2 (v : LV) (i : Nat) (a : LV) : LV :=
  (if (lAt a 4 (nI i)) ≤ 0 then a else lAdd a 4 (nI i) (-1))
def fX4_recover (v : LV) : LV :=
  itI ((v.1 1).toNatClampNeg) (bX4_recover_2 v) v
theorem sk_bX4_recover_2 (v : LV) (i : Nat) (a : LV) : sk a (bX4_recover_2 v i a) := by
  unfold bX4_recover_2
  (repeat' split) <;> first | exact sk.rf _ | exact ⟨rfl, rfl, rfl⟩
theorem ski_bX4_recover_2 (v : LV) (i : Nat) (a : LV) : sk a (itI i (bX4_recover_2 v) a) := sk.it (sk_bX4_recover_2 v) a i
theorem sk_X4_recover (v : LV) : sk v (fX4_recover v) := by
  unfold fX4_recover
  (repeat' split) <;> first | exact ski_bX4_recover_2 v _ _
set_option maxHeartbeats 4000000 in
set_option maxRecDepth 100000 in
theorem c_X4_recover (l : Launch) (D : va_G) (cI : ClassId) (A : Nat → Nat) (hA : LInj A) (v : LV)   : Met l yX4_recover wsX4_recover ({ frames := 1, cells := 0, slots := 0, locals := 22 }) (tr_Pc D cI [.ref (A 1)] (LNE D cI A v)) (tr_Q none (LNE D cI A (fX4_recover v)) (lOwn A)) 0 0 (lOwn A) := by
  refine Met.ofW (cc := cX4_recover) (maxL := 2) (ret := none) (by decide) rfl ?_
  intro p e s m args below meth c s₁ B hml hv
  obtain ⟨rfl, hL, hK⟩ := hv
  have hx := B.exec
  have hb := B.bytes
  have hr := B.returns
  have hts := atoms_spec (ws := wsX4_recover) B.pre
  have hown : s.vm.findClass RX4 = some m.cls := findClass_of_methodNamed B.named
  have hlocks := B.notSynchronized
  have hiX4 : ∀ w ∈ u_ws RX4 TX4 9, w ∈ wsX4_recover := by decide +kernel
  have f29 := hts (.fieldLink RX4 29 "TramRibbon$Wire" "dead" "LTramRibbon$Row;") (by decide +kernel)
  have f42 := hts (.fieldLink RX4 42 "TramRibbon$Wire" "sections" "I") (by decide +kernel)
  have hl := lv_entry ([.ref (A 1)]) (n := 2) (Nat.le_of_ble_eq_true rfl)
  rw [lg_entry_eq]
  generalize (lg_sl ([.ref (A 1)]) ++ List.replicate (2 - (lg_sl ([.ref (A 1)])).length) Slot.unset).toArray = ls at hl ⊢
  replace hl : lv_has ls 2 [(0, .ref (A 1))] := hl
  have hS : tr_S (lOwn A) s.heap s.heap [] := tr_S.rf
  generalize h1 : s.heap = H, h2 : ([] : List Loc) = locs
  replace hS : tr_S (lOwn A) s.heap H locs := by rw [← h1, ← h2]; exact hS
  rw [h1] at hL
  clear h1 h2
  refine lv_iconst (v := 0) hx hb dX4_recover_0 (by decide) ?_
  refine lv_istore_n (lv' := [(1, .int 0), (0, .ref (A 1))]) hx hb dX4_recover_1 rfl hl (by decide) rfl (fun ls hl => ?_)
  have hinv := And.intro (show LNE D cI A v H ∧ tr_S (lOwn A) s.heap H locs from ⟨hL, hS⟩) hl
  clear hL hS hl
  revert hinv; revert ls; revert locs; revert H
  refine tr_forw (fun i H locs ls => (LNE D cI A (itI i (bX4_recover_2 v) v) H ∧ tr_S (lOwn A) s.heap H locs) ∧ lv_has ls 2 [(0, .ref (A 1)), (1, .int (nI i))]) ((v.1 1).toNatClampNeg) (fun H locs ls hinv => ?_) ?_
  · obtain ⟨⟨hL, hS⟩, hl⟩ := hinv
    exact ⟨⟨by rw [itI_0]; exact hL, hS⟩, lv_sub hl [1, 0] rfl⟩
  intro i H locs ls hi hinv ih
  obtain ⟨⟨hL, hS⟩, hl⟩ := hinv
  refine lv_iload_n hx hb dX4_recover_2 rfl (lv_at hl 1 rfl) ?_
  refine lv_aload_n hx hb dX4_recover_3 rfl (lv_at hl 0 rfl) ?_
  refine tr_get (ci := 4) (C := RX4) (T := TX4) (N := 9) hx hb hts hiX4 hown hK hL.c1 rfl 1 (by decide) f42 (v := .int ((itI i (bX4_recover_2 v) v).1 1)) rfl dX4_recover_4 ?_
  refine lv_icmp_ge (tgt := 36) hx hb dX4_recover_7 (by decide) (fun c_7 => ?_) (fun c_7 => ?_)
  · have hN : i = (v.1 1).toNatClampNeg := tr_over (congrArg Int32.toNatClampNeg (ski_bX4_recover_2 v i v).2.1) hi c_7
    subst hN
    exact W.vret hx hb hr (hS.end (by rw [fX4_recover]; exact hL)) hS.2.2 dX4_recover_36
  · have hlt : i < (v.1 1).toNatClampNeg := tr_on (congrArg Int32.toNatClampNeg (ski_bX4_recover_2 v i v).2.1) hi c_7
    refine lv_aload_n hx hb dX4_recover_10 rfl (lv_at hl 0 rfl) ?_
    refine tr_get (ci := 4) (C := RX4) (T := TX4) (N := 9) hx hb hts hiX4 hown hK hL.c1 rfl 6 (by decide) f29 (v := .ref (A 12)) rfl dX4_recover_11 ?_
    refine lv_iload_n hx hb dX4_recover_14 rfl (lv_at hl 1 rfl) ?_
    refine tr_ri (va_runV (As := [.int (nI i)]) (rest := []) ⟨hx, hb, hml, hown, hts⟩ (c_lat l D cI A hA (itI i (bX4_recover_2 v) v) 4 (by decide) (nI i)) (cwV 1 hts gX4_recover_X2_at rfl rfl rfl (by decide +kernel) ⟨Nat.le_of_ble_eq_true rfl, Nat.le_of_ble_eq_true rfl⟩) (tr_preV hK (hL.robj 4 (by decide)) rfl (hL.row 4 (by decide))) rfl rfl hl.1 rfl (lv_room (Nat.le_of_ble_eq_true rfl)) dX4_recover_15 ⟨Nat.zero_le _, Nat.zero_le _⟩) ?_
    refine lv_if_le (tgt := 30) hx hb dX4_recover_18 (by decide) (fun c_18 => ?_) (fun c_18 => ?_)
    · refine lv_iinc (v := nI (i + 1)) (lv' := [(1, .int (nI (i + 1))), (0, .ref (A 1))]) hx hb dX4_recover_30 hl (k := 1) rfl (tr_inc _) (by decide) rfl (fun ls hl => ?_)
      refine lv_goto (tgt := 2) hx hb dX4_recover_33 (by decide) ?_
      have e9 : itI (i + 1) (bX4_recover_2 v) v = itI i (bX4_recover_2 v) v := by rw [itI_s, bX4_recover_2, if_pos c_18]
      exact ih H locs ls hlt ⟨⟨by rw [e9]; exact hL, hS⟩, lv_sub hl [1, 0] rfl⟩
    · refine lv_aload_n hx hb dX4_recover_21 rfl (lv_at hl 0 rfl) ?_
      refine tr_get (ci := 4) (C := RX4) (T := TX4) (N := 9) hx hb hts hiX4 hown hK hL.c1 rfl 6 (by decide) f29 (v := .ref (A 12)) rfl dX4_recover_22 ?_
      refine lv_iload_n hx hb dX4_recover_25 rfl (lv_at hl 1 rfl) ?_
      refine lv_iconst (v := -1) hx hb dX4_recover_26 (by decide) ?_
      refine tr_cv (va_runV (As := [.int (nI i), .int (-1)]) (rest := []) ⟨hx, hb, hml, hown, hts⟩ (c_ladd l D cI A hA (itI i (bX4_recover_2 v) v) 4 (by decide) (nI i) (-1)) (cwV 2 hts gX4_recover_X2_add rfl rfl rfl (by decide +kernel) ⟨Nat.le_of_ble_eq_true rfl, Nat.le_of_ble_eq_true rfl⟩) (tr_preV hK (hL.robj 4 (by decide)) rfl hL) rfl rfl hl.1 rfl (lv_room (Nat.le_of_ble_eq_true rfl)) dX4_recover_27 ⟨Nat.zero_le _, Nat.zero_le _⟩) hS (fun _ h => h) (fun H locs hL hS => ?_)
      refine lv_iinc (v := nI (i + 1)) (lv' := [(1, .int (nI (i + 1))), (0, .ref (A 1))]) hx hb dX4_recover_30 hl (k := 1) rfl (tr_inc _) (by decide) rfl (fun ls hl => ?_)
      refine lv_goto (tgt := 2) hx hb dX4_recover_33 (by decide) ?_
      have e9 : itI (i + 1) (bX4_recover_2 v) v = lAdd (itI i (bX4_recover_2 v) v) 4 (nI i) (-1) := by rw [itI_s, bX4_recover_2, if_neg c_18]
      exact ih H locs ls hlt ⟨⟨by rw [e9]; exact hL, hS⟩, lv_sub hl [1, 0] rfl⟩
