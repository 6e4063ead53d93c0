/-! the ribbon: looking ahead -/
theorem tr_over1 {i N : Nat} {x : Int32} (hN : x.toNatClampNeg = N) (hi : i ≤ N) (hx : x.toInt ≤ 1000) (h : x < nI (i + 1)) : i = N := tr_overG hN hi h
def bX5_next_31 (v : LV) (u : LV) (po : Int32) (i : Nat) (a : LV) : LV :=
  fX1_tickOnce a
def bX5_next_31_g (v : LV) (u : LV) (po : Int32) (i : Nat) : Option Int32 :=
  (if (fX0_hasComeTo (fX1_tickOnce (itI i (bX5_next_31 v u po) v)) po) = 0 then none else some (nI (i + 1)))
def fX5_next (v : LV) (u : LV) (po : Int32) : LV :=
  (if (fX5_noPole v u po) = 0 then v else v)
def xX5_next (v : LV) (u : LV) (po : Int32) : Option String :=
  (if (fX5_noPole v u po) = 0 then none else some "java/lang/IndexOutOfBoundsException")
def rX5_next (v : LV) (u : LV) (po : Int32) : Int32 :=
  (if (fX5_noPole v u po) = 0 then ((fstI (150) (bX5_next_31_g v u po)).getD (-1)) else 0)
set_option maxHeartbeats 4000000 in
set_option maxRecDepth 100000 in
theorem c_X5_next (l : Launch) (hst : l.stackTraces = false) (D : va_G) (cI : ClassId) (z0 : Nat) (A A2 : Nat → Nat) (hd : TDis z0 A A2) (v u : LV) (po : Int32)  : vx_Met l yX5_next wsX5_next ({ frames := 6, cells := 1, slots := 6, locals := 109 }) (tr_PcX D cI [.ref z0, .int po] (TRB D cI z0 A A2 (v, u))) (tr_QX (xX5_next v u po) (some (.int (rX5_next v u po))) (fun H => ∃ u2, TRB D cI z0 A A2 (fX5_next v u po, u2) H) (tOwn A A2)) (tr_XC (xX5_next v u po)) 1 6 (tOwn A A2) := by
  refine vx_ofW (cc := cX5_next) (maxL := 3) (ret := (some .int)) (by decide) rfl ?_
  intro p e s m args below meth c s₁ B hml hnt hv
  obtain ⟨rfl, ⟨⟨hZ, hL, hO⟩, hK⟩, hXK⟩ := hv
  have hx := B.exec
  have hb := B.bytes
  have hr := B.returns
  have hts := atoms_spec (ws := wsX5_next) B.pre
  have hown : s.vm.findClass RX5 = some m.cls := findClass_of_methodNamed B.named
  have hlocks := B.notSynchronized
  replace hL : LNE D cI A v s.heap := hL
  replace hO : LNE D cI A2 u s.heap := hO
  have hiX1 : ∀ w ∈ u_ws RX1 TX1 6, w ∈ wsX5_next := by decide +kernel
  have hiX5 : ∀ w ∈ u_ws RX5 TX5 2, w ∈ wsX5_next := by decide +kernel
  have ax75 := vx_hat (L := (vx_atS RX5 75 "java/lang/IndexOutOfBoundsException" ["java/lang/RuntimeException", "java/lang/Exception"])) (B := tr_bad) (fun w h => hts w ((by decide +kernel : ∀ w ∈ (vx_atS RX5 75 "java/lang/IndexOutOfBoundsException" ["java/lang/RuntimeException", "java/lang/Exception"]).filter goodWord, w ∈ wsX5_next) w h)) (by decide +kernel) (fun w hw => va_tabs (tr_bad_t w hw) rfl (hXK.2.1 w hw))
  have f10 := hts (.fieldLink RX5 10 "TramRibbon" "line" "LTramRibbon$Line;") (by decide +kernel)
  have f16 := hts (.fieldLink RX5 16 "TramRibbon" "trial" "LTramRibbon$Line;") (by decide +kernel)
  have f30 := hts (.fieldLink RX5 30 "TramRibbon$Line" "fleet" "LTramRibbon$Fleet;") (by decide +kernel)
  have ix75 := hts (.initialized "java/lang/IndexOutOfBoundsException") (by decide +kernel)
  have kx75 := hts (.classLink RX5 71 "java/lang/IndexOutOfBoundsException") (by decide +kernel)
  have hl := lv_entry ([.ref z0, .int po]) (n := 3) (Nat.le_of_ble_eq_true rfl)
  rw [lg_entry_eq]
  generalize (lg_sl ([.ref z0, .int po]) ++ List.replicate (3 - (lg_sl ([.ref z0, .int po])).length) Slot.unset).toArray = ls at hl ⊢
  replace hl : lv_has ls 3 [(0, .ref z0), (1, .int po)] := hl
  have hS : tr_S (tOwn A A2) s.heap s.heap [] := tr_S.rf
  refine lv_aload_n hx hb dX5_next_0 rfl (lv_at hl 0 rfl) ?_
  refine lv_iload_n hx hb dX5_next_1 rfl (lv_at hl 1 rfl) ?_
  refine tr_ri (va_runV (As := [.int po]) (rest := []) ⟨hx, hb, hml, hown, hts⟩ (c_X5_noPole l D cI z0 A A2 hd v u po) (cwV 1 hts gX5_next_X5_noPole rfl rfl rfl (by decide +kernel) ⟨Nat.le_of_ble_eq_true rfl, Nat.le_of_ble_eq_true rfl⟩) (tr_preV hK hZ rfl ⟨hZ, hL, hO⟩) rfl rfl hl.1 rfl (lv_room (Nat.le_of_ble_eq_true rfl)) dX5_next_2 ⟨Nat.zero_le _, Nat.zero_le _⟩) ?_
  refine lv_if_eq (tgt := 18) hx hb dX5_next_5 (by decide) (fun c_5 => ?_) (fun c_5 => ?_)
  · refine lv_aload_n hx hb dX5_next_18 rfl (lv_at hl 0 rfl) ?_
    refine tr_get (ci := 5) (C := RX5) (T := TX5) (N := 2) hx hb hts hiX5 hown hK hZ rfl 1 (by decide) f16 (v := .ref (A2 0)) rfl dX5_next_19 ?_
    refine lv_aload_n hx hb dX5_next_22 rfl (lv_at hl 0 rfl) ?_
    refine tr_get (ci := 5) (C := RX5) (T := TX5) (N := 2) hx hb hts hiX5 hown hK hZ rfl 0 (by decide) f10 (v := .ref (A 0)) rfl dX5_next_23 ?_
    refine tr_wv (va_runV (As := [.ref (A 0)]) (rest := []) ⟨hx, hb, hml, hown, hts⟩ (c_copy l D cI A2 A hd.1.symm u v) (cwV 1 hts gX5_next_X1_copyFrom rfl rfl rfl (by decide +kernel) ⟨Nat.le_of_ble_eq_true rfl, Nat.le_of_ble_eq_true rfl⟩) (tr_preV hK hO.c0 rfl ⟨hO, hL⟩) rfl rfl hl.1 rfl (lv_room (Nat.le_of_ble_eq_true rfl)) dX5_next_26 ⟨Nat.zero_le _, Nat.zero_le _⟩) hS (fun _ h => Or.inr h) (fun H locs h9 hz hk hS => ?_)
    obtain ⟨hO, hL⟩ := h9
    replace hZ := rb_keep2 hd hZ hk
    clear hk hz
    refine lv_iconst (v := 1) hx hb dX5_next_29 (by decide) ?_
    refine lv_istore_n (lv' := [(2, .int 1), (0, .ref z0), (1, .int po)]) hx hb dX5_next_30 rfl hl (by decide) rfl (fun ls hl => ?_)
    have hinv := And.intro (show LNE D cI A2 v H ∧ LNE D cI A v H ∧ va_at D vwCl (z0, .inr (5, [.ref (A 0), .ref (A2 0)])) H ∧ tr_S (tOwn A A2) s.heap H locs from ⟨hO, hL, hZ, hS⟩) hl
    clear hO hL hZ hS hl
    revert hinv; revert ls; revert locs; revert H
    refine tr_forw (fun i H locs ls => fstI i (bX5_next_31_g v u po) = none ∧ (LNE D cI A2 (itI i (bX5_next_31 v u po) v) H ∧ LNE D cI A v H ∧ va_at D vwCl (z0, .inr (5, [.ref (A 0), .ref (A2 0)])) H ∧ tr_S (tOwn A A2) s.heap H locs) ∧ lv_has ls 3 [(0, .ref z0), (1, .int po), (2, .int (nI (i + 1)))]) (150) (fun H locs ls hinv => ?_) ?_
    · obtain ⟨⟨hO, hL, hZ, hS⟩, hl⟩ := hinv
      exact ⟨rfl, ⟨by rw [itI_0]; exact hO, hL, hZ, hS⟩, lv_sub hl [1, 2, 0] rfl⟩
    intro i H locs ls hi hinv ih
    obtain ⟨hex, ⟨hO, hL, hZ, hS⟩, hl⟩ := hinv
    refine lv_iload_n hx hb dX5_next_31 rfl (lv_at hl 2 rfl) ?_
    refine lv_sipush (v := 150) hx hb dX5_next_32 (by decide) ?_
    refine lv_icmp_gt (tgt := 67) hx hb dX5_next_35 (by decide) (fun c_35 => ?_) (fun c_35 => ?_)
    · have hN : i = 150 := tr_overG (rfl : (150 : Int32).toNatClampNeg = 150) hi c_35
      subst hN
      refine lv_iconst (v := -1) hx hb dX5_next_67 (by decide) ?_
      refine vx_ret (W.widen (k := 1) (n := 6) (Nat.zero_le _) (Nat.zero_le _) ?_)
      exact W.iret hx hb hr (fun t h1 h2 => ⟨(by rw [xX5_next, if_pos c_5]), hS.endr (by rw [rX5_next, if_pos c_5, hex]; rfl) (by rw [fX5_next, if_pos c_5]; exact ⟨_, hZ, hL, hO⟩) t h1 h2⟩) hS.2.2 dX5_next_68
    · have hlt : i < 150 := (fun h1 h2 h3 => tr_onG h1 h2 (by decide) h3) (rfl : (150 : Int32).toNatClampNeg = 150) hi c_35
      refine lv_aload_n hx hb dX5_next_38 rfl (lv_at hl 0 rfl) ?_
      refine tr_get (ci := 5) (C := RX5) (T := TX5) (N := 2) hx hb hts hiX5 hown hK hZ rfl 1 (by decide) f16 (v := .ref (A2 0)) rfl dX5_next_39 ?_
      refine tr_wv (va_runV (As := []) (rest := []) ⟨hx, hb, hml, hown, hts⟩ (c_X1_tickOnce l D cI A2 hd.1.2.1 (itI i (bX5_next_31 v u po) v) ) (cwV 0 hts gX5_next_X1_tickOnce rfl rfl rfl (by decide +kernel) ⟨Nat.le_of_ble_eq_true rfl, Nat.le_of_ble_eq_true rfl⟩) (tr_preV hK hO.c0 rfl hO) rfl rfl hl.1 rfl (lv_room (Nat.le_of_ble_eq_true rfl)) dX5_next_42 ⟨Nat.zero_le _, Nat.zero_le _⟩) hS (fun _ h => Or.inr h) (fun H locs hO hz hk hS => ?_)
      replace hL := ln_keepO hd.1.symm hL hk
      replace hZ := rb_keep2 hd hZ hk
      clear hk hz
      refine lv_aload_n hx hb dX5_next_45 rfl (lv_at hl 0 rfl) ?_
      refine tr_get (ci := 5) (C := RX5) (T := TX5) (N := 2) hx hb hts hiX5 hown hK hZ rfl 1 (by decide) f16 (v := .ref (A2 0)) rfl dX5_next_46 ?_
      refine tr_get (ci := 1) (C := RX1) (T := TX1) (N := 6) hx hb hts hiX1 hown hK hO.c0 rfl 2 (by decide) f30 (v := .ref (A2 3)) rfl dX5_next_49 ?_
      refine lv_iload_n hx hb dX5_next_52 rfl (lv_at hl 1 rfl) ?_
      refine tr_ri (va_runV (As := [.int po]) (rest := []) ⟨hx, hb, hml, hown, hts⟩ (c_X0_hasComeTo l D cI A2 hd.1.2.1 (fX1_tickOnce (itI i (bX5_next_31 v u po) v)) po) (cwV 1 hts gX5_next_X0_hasComeTo rfl rfl rfl (by decide +kernel) ⟨Nat.le_of_ble_eq_true rfl, Nat.le_of_ble_eq_true rfl⟩) (tr_preV hK hO.c3 rfl hO) rfl rfl hl.1 rfl (lv_room (Nat.le_of_ble_eq_true rfl)) dX5_next_53 ⟨Nat.zero_le _, Nat.zero_le _⟩) ?_
      refine lv_if_eq (tgt := 61) hx hb dX5_next_56 (by decide) (fun c_56 => ?_) (fun c_56 => ?_)
      · refine lv_iinc (v := nI ((i + 1) + 1)) (lv' := [(2, .int (nI ((i + 1) + 1))), (0, .ref z0), (1, .int po)]) hx hb dX5_next_61 hl (k := 2) rfl (tr_inc _) (by decide) rfl (fun ls hl => ?_)
        refine lv_goto (tgt := 31) hx hb dX5_next_64 (by decide) ?_
        have e9 : itI (i + 1) (bX5_next_31 v u po) v = fX1_tickOnce (itI i (bX5_next_31 v u po) v) := by first | rw [itI_s, bX5_next_31, if_pos c_56] | (rw [itI_s, bX5_next_31]; done) | (rw [itI_s, bX5_next_31]; simp only [if_pos c_56])
        exact ih H locs ls hlt ⟨(fstI_n hex (by rw [bX5_next_31_g, if_pos c_56])), ⟨by rw [e9]; exact hO, hL, hZ, hS⟩, lv_sub hl [1, 2, 0] rfl⟩
      · refine lv_iload_n hx hb dX5_next_59 rfl (lv_at hl 2 rfl) ?_
        have e9 := fstI_s (N := 150) hex (f := bX5_next_31_g v u po) (r := nI (i + 1)) (by rw [bX5_next_31_g, if_neg c_56]) hlt
        refine vx_ret (W.widen (k := 1) (n := 6) (Nat.zero_le _) (Nat.zero_le _) ?_)
        exact W.iret hx hb hr (fun t h1 h2 => ⟨(by rw [xX5_next, if_pos c_5]), hS.endr (by rw [rX5_next, if_pos c_5, e9]; rfl) (by rw [fX5_next, if_pos c_5]; exact ⟨_, hZ, hL, hO⟩) t h1 h2⟩) hS.2.2 dX5_next_60
  · obtain ⟨sa, hsa⟩ := hXK.1 (95, "there is no such pole") (by decide +kernel)
    exact vx_throwS (cls := "java/lang/IndexOutOfBoundsException") (names := ["java/lang/RuntimeException", "java/lang/Exception"]) (ik := 71) (ic := 75) (A := fun _ => False) hx hb hst hown (by decide +kernel) (by decide +kernel) kx75 ix75 hsa ax75 (by decide +kernel) hXK.2.2.1 hXK.2.2.2 va_S.rf (by rw [hml]; exact hl.1) dX5_next_8 dX5_next_11 dX5_next_12 dX5_next_14 dX5_next_17 (fun x h => (hnt x h).elim) (Nat.le_of_ble_eq_true rfl) (Nat.le_of_ble_eq_true rfl) (Nat.le_of_ble_eq_true rfl) (Nat.le_of_ble_eq_true rfl) hlocks (fun t _ h2 h3 => ⟨by rw [xX5_next, if_neg c_5], h2, h3⟩) (fun _ h => by cases h) (Nat.le_of_ble_eq_true rfl) (Nat.le_of_ble_eq_true rfl)
def bX5_needs_54 (v : LV) (u : LV) (q : Int32) (tk : Int32) (i : Nat) (a : LV) : LV :=
  fX1_tickOnce a
def bX5_needs_54_3 (v : LV) (u : LV) (q : Int32) (tk : Int32) (i : Nat) (a : Int32) : Int32 :=
  aMax a (lAt (fX1_tickOnce (itI i (bX5_needs_54 v u q tk) v)) 6 q)
def fX5_needs (v : LV) (u : LV) (q : Int32) (tk : Int32) : LV :=
  (if (fX5_noSection v u q) = 0 then (if (fX5_outside tk 1 100) = 0 then v else v) else v)
def xX5_needs (v : LV) (u : LV) (q : Int32) (tk : Int32) : Option String :=
  (if (fX5_noSection v u q) = 0 then (if (fX5_outside tk 1 100) = 0 then none else some "java/lang/IllegalArgumentException") else some "java/lang/IndexOutOfBoundsException")
def rX5_needs (v : LV) (u : LV) (q : Int32) (tk : Int32) : Int32 :=
  (if (fX5_noSection v u q) = 0 then (if (fX5_outside tk 1 100) = 0 then itI tk.toNatClampNeg (bX5_needs_54_3 v u q tk) 0 else 0) else 0)
set_option maxHeartbeats 4000000 in
set_option maxRecDepth 100000 in
theorem c_X5_needs (l : Launch) (hst : l.stackTraces = false) (D : va_G) (cI : ClassId) (z0 : Nat) (A A2 : Nat → Nat) (hd : TDis z0 A A2) (v u : LV) (q : Int32) (tk : Int32)  : vx_Met l yX5_needs wsX5_needs ({ frames := 6, cells := 1, slots := 6, locals := 109 }) (tr_PcX D cI [.ref z0, .int q, .int tk] (TRB D cI z0 A A2 (v, u))) (tr_QX (xX5_needs v u q tk) (some (.int (rX5_needs v u q tk))) (fun H => ∃ u2, TRB D cI z0 A A2 (fX5_needs v u q tk, u2) H) (tOwn A A2)) (tr_XC (xX5_needs v u q tk)) 1 6 (tOwn A A2) := by
  refine vx_ofW (cc := cX5_needs) (maxL := 5) (ret := (some .int)) (by decide) rfl ?_
  intro p e s m args below meth c s₁ B hml hnt hv
  obtain ⟨rfl, ⟨⟨hZ, hL, hO⟩, hK⟩, hXK⟩ := hv
  have hx := B.exec
  have hb := B.bytes
  have hr := B.returns
  have hts := atoms_spec (ws := wsX5_needs) B.pre
  have hown : s.vm.findClass RX5 = some m.cls := findClass_of_methodNamed B.named
  have hlocks := B.notSynchronized
  replace hL : LNE D cI A v s.heap := hL
  replace hO : LNE D cI A2 u s.heap := hO
  have hiX1 : ∀ w ∈ u_ws RX1 TX1 6, w ∈ wsX5_needs := by decide +kernel
  have hiX4 : ∀ w ∈ u_ws RX4 TX4 9, w ∈ wsX5_needs := by decide +kernel
  have hiX5 : ∀ w ∈ u_ws RX5 TX5 2, w ∈ wsX5_needs := by decide +kernel
  have ax27 := vx_hat (L := (vx_atS RX5 27 "java/lang/IllegalArgumentException" ["java/lang/RuntimeException", "java/lang/Exception"])) (B := tr_bad) (fun w h => hts w ((by decide +kernel : ∀ w ∈ (vx_atS RX5 27 "java/lang/IllegalArgumentException" ["java/lang/RuntimeException", "java/lang/Exception"]).filter goodWord, w ∈ wsX5_needs) w h)) (by decide +kernel) (fun w hw => va_tabs (tr_bad_t w hw) rfl (hXK.2.1 w hw))
  have ax75 := vx_hat (L := (vx_atS RX5 75 "java/lang/IndexOutOfBoundsException" ["java/lang/RuntimeException", "java/lang/Exception"])) (B := tr_bad) (fun w h => hts w ((by decide +kernel : ∀ w ∈ (vx_atS RX5 75 "java/lang/IndexOutOfBoundsException" ["java/lang/RuntimeException", "java/lang/Exception"]).filter goodWord, w ∈ wsX5_needs) w h)) (by decide +kernel) (fun w hw => va_tabs (tr_bad_t w hw) rfl (hXK.2.1 w hw))
  have f10 := hts (.fieldLink RX5 10 "TramRibbon" "line" "LTramRibbon$Line;") (by decide +kernel)
  have f16 := hts (.fieldLink RX5 16 "TramRibbon" "trial" "LTramRibbon$Line;") (by decide +kernel)
  have f190 := hts (.fieldLink RX5 190 "TramRibbon$Wire" "drawn" "LTramRibbon$Row;") (by decide +kernel)
  have f45 := hts (.fieldLink RX5 45 "TramRibbon$Line" "wire" "LTramRibbon$Wire;") (by decide +kernel)
  have ix27 := hts (.initialized "java/lang/IllegalArgumentException") (by decide +kernel)
  have ix75 := hts (.initialized "java/lang/IndexOutOfBoundsException") (by decide +kernel)
  have kx27 := hts (.classLink RX5 23 "java/lang/IllegalArgumentException") (by decide +kernel)
  have kx75 := hts (.classLink RX5 71 "java/lang/IndexOutOfBoundsException") (by decide +kernel)
  have mC_max := hts (.code Lib.Math.max.name Lib.Math.max.code 2 (some .int)) (by decide +kernel)
  have mI := hts (.initialized "java/lang/Math") (by decide +kernel)
  have mL123 := hts (.methodLink RX5 123 Lib.Math.max.name) (by decide +kernel)
  have mS_max := hts (.static Lib.Math.max.name) (by decide +kernel)
  have hl := lv_entry ([.ref z0, .int q, .int tk]) (n := 5) (Nat.le_of_ble_eq_true rfl)
  rw [lg_entry_eq]
  generalize (lg_sl ([.ref z0, .int q, .int tk]) ++ List.replicate (5 - (lg_sl ([.ref z0, .int q, .int tk])).length) Slot.unset).toArray = ls at hl ⊢
  replace hl : lv_has ls 5 [(0, .ref z0), (1, .int q), (2, .int tk)] := hl
  have hS : tr_S (tOwn A A2) s.heap s.heap [] := tr_S.rf
  refine lv_aload_n hx hb dX5_needs_0 rfl (lv_at hl 0 rfl) ?_
  refine lv_iload_n hx hb dX5_needs_1 rfl (lv_at hl 1 rfl) ?_
  refine tr_ri (va_runV (As := [.int q]) (rest := []) ⟨hx, hb, hml, hown, hts⟩ (c_X5_noSection l D cI z0 A A2 hd v u q) (cwV 1 hts gX5_needs_X5_noSection rfl rfl rfl (by decide +kernel) ⟨Nat.le_of_ble_eq_true rfl, Nat.le_of_ble_eq_true rfl⟩) (tr_preV hK hZ rfl ⟨hZ, hL, hO⟩) rfl rfl hl.1 rfl (lv_room (Nat.le_of_ble_eq_true rfl)) dX5_needs_2 ⟨Nat.zero_le _, Nat.zero_le _⟩) ?_
  refine lv_if_eq (tgt := 18) hx hb dX5_needs_5 (by decide) (fun c_5 => ?_) (fun c_5 => ?_)
  · refine lv_iload_n hx hb dX5_needs_18 rfl (lv_at hl 2 rfl) ?_
    refine lv_iconst (v := 1) hx hb dX5_needs_19 (by decide) ?_
    refine lv_bipush (v := 100) hx hb dX5_needs_20 (by decide) ?_
    refine tr_ri (va_runS (As := [.int tk, .int 1, .int 100]) (rest := []) ⟨hx, hb, hml, hown, hts⟩ (c_X5_outside l D cI tk 1 100) (va_cwS 3 hts gX5_needs_X5_outside rfl rfl rfl (by decide +kernel) ⟨Nat.le_of_ble_eq_true rfl, Nat.le_of_ble_eq_true rfl⟩) (tr_preS hK trivial) rfl rfl hl.1 rfl (lv_room (Nat.le_of_ble_eq_true rfl)) dX5_needs_22 ⟨Nat.zero_le _, Nat.zero_le _⟩) ?_
    refine lv_if_eq (tgt := 38) hx hb dX5_needs_25 (by decide) (fun c_25 => ?_) (fun c_25 => ?_)
    · refine lv_aload_n hx hb dX5_needs_38 rfl (lv_at hl 0 rfl) ?_
      refine tr_get (ci := 5) (C := RX5) (T := TX5) (N := 2) hx hb hts hiX5 hown hK hZ rfl 1 (by decide) f16 (v := .ref (A2 0)) rfl dX5_needs_39 ?_
      refine lv_aload_n hx hb dX5_needs_42 rfl (lv_at hl 0 rfl) ?_
      refine tr_get (ci := 5) (C := RX5) (T := TX5) (N := 2) hx hb hts hiX5 hown hK hZ rfl 0 (by decide) f10 (v := .ref (A 0)) rfl dX5_needs_43 ?_
      refine tr_wv (va_runV (As := [.ref (A 0)]) (rest := []) ⟨hx, hb, hml, hown, hts⟩ (c_copy l D cI A2 A hd.1.symm u v) (cwV 1 hts gX5_needs_X1_copyFrom rfl rfl rfl (by decide +kernel) ⟨Nat.le_of_ble_eq_true rfl, Nat.le_of_ble_eq_true rfl⟩) (tr_preV hK hO.c0 rfl ⟨hO, hL⟩) rfl rfl hl.1 rfl (lv_room (Nat.le_of_ble_eq_true rfl)) dX5_needs_46 ⟨Nat.zero_le _, Nat.zero_le _⟩) hS (fun _ h => Or.inr h) (fun H locs h9 hz hk hS => ?_)
      obtain ⟨hO, hL⟩ := h9
      replace hZ := rb_keep2 hd hZ hk
      clear hk hz
      refine lv_iconst (v := 0) hx hb dX5_needs_49 (by decide) ?_
      refine lv_istore_n (lv' := [(3, .int 0), (0, .ref z0), (1, .int q), (2, .int tk)]) hx hb dX5_needs_50 rfl hl (by decide) rfl (fun ls hl => ?_)
      refine lv_iconst (v := 0) hx hb dX5_needs_51 (by decide) ?_
      refine lv_istore (lv' := [(4, .int 0), (3, .int 0), (0, .ref z0), (1, .int q), (2, .int tk)]) hx hb dX5_needs_52 hl (by decide) rfl (fun ls hl => ?_)
      have hinv := And.intro (show LNE D cI A2 v H ∧ LNE D cI A v H ∧ va_at D vwCl (z0, .inr (5, [.ref (A 0), .ref (A2 0)])) H ∧ tr_S (tOwn A A2) s.heap H locs from ⟨hO, hL, hZ, hS⟩) hl
      clear hO hL hZ hS hl
      revert hinv; revert ls; revert locs; revert H
      refine tr_forw (fun i H locs ls => (LNE D cI A2 (itI i (bX5_needs_54 v u q tk) v) H ∧ LNE D cI A v H ∧ va_at D vwCl (z0, .inr (5, [.ref (A 0), .ref (A2 0)])) H ∧ tr_S (tOwn A A2) s.heap H locs) ∧ lv_has ls 5 [(0, .ref z0), (1, .int q), (2, .int tk), (3, .int (itI i (bX5_needs_54_3 v u q tk) 0)), (4, .int (nI i))]) (tk.toNatClampNeg) (fun H locs ls hinv => ?_) ?_
      · obtain ⟨⟨hO, hL, hZ, hS⟩, hl⟩ := hinv
        exact ⟨⟨by rw [itI_0]; exact hO, hL, hZ, hS⟩, lv_sub hl [2, 3, 4, 1, 0] rfl⟩
      intro i H locs ls hi hinv ih
      obtain ⟨⟨hO, hL, hZ, hS⟩, hl⟩ := hinv
      refine lv_iload hx hb dX5_needs_54 (lv_at hl 4 rfl) ?_
      refine lv_iload_n hx hb dX5_needs_56 rfl (lv_at hl 2 rfl) ?_
      refine lv_icmp_ge (tgt := 92) hx hb dX5_needs_57 (by decide) (fun c_57 => ?_) (fun c_57 => ?_)
      · have hN : i = tk.toNatClampNeg := tr_over rfl hi c_57
        subst hN
        refine lv_iload_n hx hb dX5_needs_92 rfl (lv_at hl 3 rfl) ?_
        refine vx_ret (W.widen (k := 1) (n := 6) (Nat.zero_le _) (Nat.zero_le _) ?_)
        exact W.iret hx hb hr (fun t h1 h2 => ⟨(by rw [xX5_needs, if_pos c_5, if_pos c_25]), hS.endr (by rw [rX5_needs, if_pos c_5, if_pos c_25]) (by rw [fX5_needs, if_pos c_5, if_pos c_25]; exact ⟨_, hZ, hL, hO⟩) t h1 h2⟩) hS.2.2 dX5_needs_93
      · have hlt : i < tk.toNatClampNeg := tr_on rfl hi c_57
        refine lv_aload_n hx hb dX5_needs_60 rfl (lv_at hl 0 rfl) ?_
        refine tr_get (ci := 5) (C := RX5) (T := TX5) (N := 2) hx hb hts hiX5 hown hK hZ rfl 1 (by decide) f16 (v := .ref (A2 0)) rfl dX5_needs_61 ?_
        refine tr_wv (va_runV (As := []) (rest := []) ⟨hx, hb, hml, hown, hts⟩ (c_X1_tickOnce l D cI A2 hd.1.2.1 (itI i (bX5_needs_54 v u q tk) v) ) (cwV 0 hts gX5_needs_X1_tickOnce rfl rfl rfl (by decide +kernel) ⟨Nat.le_of_ble_eq_true rfl, Nat.le_of_ble_eq_true rfl⟩) (tr_preV hK hO.c0 rfl hO) rfl rfl hl.1 rfl (lv_room (Nat.le_of_ble_eq_true rfl)) dX5_needs_64 ⟨Nat.zero_le _, Nat.zero_le _⟩) hS (fun _ h => Or.inr h) (fun H locs hO hz hk hS => ?_)
        replace hL := ln_keepO hd.1.symm hL hk
        replace hZ := rb_keep2 hd hZ hk
        clear hk hz
        refine lv_iload_n hx hb dX5_needs_67 rfl (lv_at hl 3 rfl) ?_
        refine lv_aload_n hx hb dX5_needs_68 rfl (lv_at hl 0 rfl) ?_
        refine tr_get (ci := 5) (C := RX5) (T := TX5) (N := 2) hx hb hts hiX5 hown hK hZ rfl 1 (by decide) f16 (v := .ref (A2 0)) rfl dX5_needs_69 ?_
        refine tr_get (ci := 1) (C := RX1) (T := TX1) (N := 6) hx hb hts hiX1 hown hK hO.c0 rfl 0 (by decide) f45 (v := .ref (A2 1)) rfl dX5_needs_72 ?_
        refine tr_get (ci := 4) (C := RX4) (T := TX4) (N := 9) hx hb hts hiX4 hown hK hO.c1 rfl 8 (by decide) f190 (v := .ref (A2 16)) rfl dX5_needs_75 ?_
        refine lv_iload_n hx hb dX5_needs_78 rfl (lv_at hl 1 rfl) ?_
        refine tr_ri (va_runV (As := [.int q]) (rest := [.int (itI i (bX5_needs_54_3 v u q tk) 0)]) ⟨hx, hb, hml, hown, hts⟩ (c_lat l D cI A2 hd.1.2.1 (fX1_tickOnce (itI i (bX5_needs_54 v u q tk) v)) 6 (by decide) q) (cwV 1 hts gX5_needs_X2_at rfl rfl rfl (by decide +kernel) ⟨Nat.le_of_ble_eq_true rfl, Nat.le_of_ble_eq_true rfl⟩) (tr_preV hK (hO.robj 6 (by decide)) rfl (hO.row 6 (by decide))) rfl rfl hl.1 rfl (lv_room (Nat.le_of_ble_eq_true rfl)) dX5_needs_79 ⟨Nat.zero_le _, Nat.zero_le _⟩) ?_
        refine tr_max hx hb (by rw [hml]; exact hl.1.symm) hown mL123 mS_max mI mC_max (Nat.le_of_ble_eq_true rfl) (Nat.le_of_ble_eq_true rfl) (Nat.zero_le _) (Nat.zero_le _) dX5_needs_82 ?_
        refine lv_istore_n (lv' := [(3, .int (aMax (itI i (bX5_needs_54_3 v u q tk) 0) (lAt (fX1_tickOnce (itI i (bX5_needs_54 v u q tk) v)) 6 q))), (0, .ref z0), (1, .int q), (2, .int tk), (4, .int (nI i))]) hx hb dX5_needs_85 rfl hl (by decide) rfl (fun ls hl => ?_)
        refine lv_iinc (v := nI (i + 1)) (lv' := [(4, .int (nI (i + 1))), (3, .int (aMax (itI i (bX5_needs_54_3 v u q tk) 0) (lAt (fX1_tickOnce (itI i (bX5_needs_54 v u q tk) v)) 6 q))), (0, .ref z0), (1, .int q), (2, .int tk)]) hx hb dX5_needs_86 hl (k := 4) rfl (tr_inc _) (by decide) rfl (fun ls hl => ?_)
        refine lv_goto (tgt := 54) hx hb dX5_needs_89 (by decide) ?_
        have e_3 : itI (i + 1) (bX5_needs_54_3 v u q tk) 0 = aMax (itI i (bX5_needs_54_3 v u q tk) 0) (lAt (fX1_tickOnce (itI i (bX5_needs_54 v u q tk) v)) 6 q) := by rw [itI_s, bX5_needs_54_3]
        have e9 : itI (i + 1) (bX5_needs_54 v u q tk) v = fX1_tickOnce (itI i (bX5_needs_54 v u q tk) v) := by rw [itI_s, bX5_needs_54]
        exact ih H locs ls hlt ⟨⟨by rw [e9]; exact hO, hL, hZ, hS⟩, by rw [e_3]; exact lv_sub hl [2, 3, 4, 1, 0] rfl⟩
    · obtain ⟨sa, hsa⟩ := hXK.1 (188, "ticks is not 1 to 100") (by decide +kernel)
      exact vx_throwS (cls := "java/lang/IllegalArgumentException") (names := ["java/lang/RuntimeException", "java/lang/Exception"]) (ik := 23) (ic := 27) (A := fun _ => False) hx hb hst hown (by decide +kernel) (by decide +kernel) kx27 ix27 hsa ax27 (by decide +kernel) hXK.2.2.1 hXK.2.2.2 va_S.rf (by rw [hml]; exact hl.1) dX5_needs_28 dX5_needs_31 dX5_needs_32 dX5_needs_34 dX5_needs_37 (fun x h => (hnt x h).elim) (Nat.le_of_ble_eq_true rfl) (Nat.le_of_ble_eq_true rfl) (Nat.le_of_ble_eq_true rfl) (Nat.le_of_ble_eq_true rfl) hlocks (fun t _ h2 h3 => ⟨by rw [xX5_needs, if_pos c_5, if_neg c_25], h2, h3⟩) (fun _ h => by cases h) (Nat.le_of_ble_eq_true rfl) (Nat.le_of_ble_eq_true rfl)
  · obtain ⟨sa, hsa⟩ := hXK.1 (111, "there is no such section") (by decide +kernel)
    exact vx_throwS (cls := "java/lang/IndexOutOfBoundsException") (names := ["java/lang/RuntimeException", "java/lang/Exception"]) (ik := 71) (ic := 75) (A := fun _ => False) hx hb hst hown (by decide +kernel) (by decide +kernel) kx75 ix75 hsa ax75 (by decide +kernel) hXK.2.2.1 hXK.2.2.2 va_S.rf (by rw [hml]; exact hl.1) dX5_needs_8 dX5_needs_11 dX5_needs_12 dX5_needs_14 dX5_needs_17 (fun x h => (hnt x h).elim) (Nat.le_of_ble_eq_true rfl) (Nat.le_of_ble_eq_true rfl) (Nat.le_of_ble_eq_true rfl) (Nat.le_of_ble_eq_true rfl) hlocks (fun t _ h2 h3 => ⟨by rw [xX5_needs, if_neg c_5], h2, h3⟩) (fun _ h => by cases h) (Nat.le_of_ble_eq_true rfl) (Nat.le_of_ble_eq_true rfl)
def fX5_foresee (v : LV) (u : LV) (tk : Int32) (wh : Int32) : LV :=
  (if (fX5_outside tk 1 150) = 0 then (if (fX5_outside wh 0 2) = 0 then (if wh = 0 then v else (if wh = 1 then v else v)) else v) else v)
def xX5_foresee (v : LV) (u : LV) (tk : Int32) (wh : Int32) : Option String :=
  (if (fX5_outside tk 1 150) = 0 then (if (fX5_outside wh 0 2) = 0 then (if wh = 0 then none else (if wh = 1 then none else none)) else some "java/lang/IndexOutOfBoundsException") else some "java/lang/IllegalArgumentException")
def rX5_foresee (v : LV) (u : LV) (tk : Int32) (wh : Int32) : Int32 :=
  (if (fX5_outside tk 1 150) = 0 then (if (fX5_outside wh 0 2) = 0 then (if wh = 0 then rX1_run v tk else (if wh = 1 then lSum (fX1_run v tk) 7 else lSum (fX1_run v tk) 13)) else 0) else 0)
set_option maxHeartbeats 4000000 in
set_option maxRecDepth 100000 in
theorem c_X5_foresee (l : Launch) (hst : l.stackTraces = false) (D : va_G) (cI : ClassId) (z0 : Nat) (A A2 : Nat → Nat) (hd : TDis z0 A A2) (v u : LV) (tk : Int32) (wh : Int32)  : vx_Met l yX5_foresee wsX5_foresee ({ frames := 6, cells := 1, slots := 6, locals := 132 }) (tr_PcX D cI [.ref z0, .int tk, .int wh] (TRB D cI z0 A A2 (v, u))) (tr_QX (xX5_foresee v u tk wh) (some (.int (rX5_foresee v u tk wh))) (fun H => ∃ u2, TRB D cI z0 A A2 (fX5_foresee v u tk wh, u2) H) (tOwn A A2)) (tr_XC (xX5_foresee v u tk wh)) 1 6 (tOwn A A2) := by
  refine vx_ofW (cc := cX5_foresee) (maxL := 4) (ret := (some .int)) (by decide) rfl ?_
  intro p e s m args below meth c s₁ B hml hnt hv
  obtain ⟨rfl, ⟨⟨hZ, hL, hO⟩, hK⟩, hXK⟩ := hv
  have hx := B.exec
  have hb := B.bytes
  have hr := B.returns
  have hts := atoms_spec (ws := wsX5_foresee) B.pre
  have hown : s.vm.findClass RX5 = some m.cls := findClass_of_methodNamed B.named
  have hlocks := B.notSynchronized
  replace hL : LNE D cI A v s.heap := hL
  replace hO : LNE D cI A2 u s.heap := hO
  have hiX0 : ∀ w ∈ u_ws RX0 TX0 9, w ∈ wsX5_foresee := by decide +kernel
  have hiX1 : ∀ w ∈ u_ws RX1 TX1 6, w ∈ wsX5_foresee := by decide +kernel
  have hiX3 : ∀ w ∈ u_ws RX3 TX3 2, w ∈ wsX5_foresee := by decide +kernel
  have hiX5 : ∀ w ∈ u_ws RX5 TX5 2, w ∈ wsX5_foresee := by decide +kernel
  have ax27 := vx_hat (L := (vx_atS RX5 27 "java/lang/IllegalArgumentException" ["java/lang/RuntimeException", "java/lang/Exception"])) (B := tr_bad) (fun w h => hts w ((by decide +kernel : ∀ w ∈ (vx_atS RX5 27 "java/lang/IllegalArgumentException" ["java/lang/RuntimeException", "java/lang/Exception"]).filter goodWord, w ∈ wsX5_foresee) w h)) (by decide +kernel) (fun w hw => va_tabs (tr_bad_t w hw) rfl (hXK.2.1 w hw))
  have ax75 := vx_hat (L := (vx_atS RX5 75 "java/lang/IndexOutOfBoundsException" ["java/lang/RuntimeException", "java/lang/Exception"])) (B := tr_bad) (fun w h => hts w ((by decide +kernel : ∀ w ∈ (vx_atS RX5 75 "java/lang/IndexOutOfBoundsException" ["java/lang/RuntimeException", "java/lang/Exception"]).filter goodWord, w ∈ wsX5_foresee) w h)) (by decide +kernel) (fun w hw => va_tabs (tr_bad_t w hw) rfl (hXK.2.1 w hw))
  have f10 := hts (.fieldLink RX5 10 "TramRibbon" "line" "LTramRibbon$Line;") (by decide +kernel)
  have f136 := hts (.fieldLink RX5 136 "TramRibbon$Stops" "waiting" "LTramRibbon$Row;") (by decide +kernel)
  have f16 := hts (.fieldLink RX5 16 "TramRibbon" "trial" "LTramRibbon$Line;") (by decide +kernel)
  have f201 := hts (.fieldLink RX5 201 "TramRibbon$Fleet" "broken" "LTramRibbon$Row;") (by decide +kernel)
  have f30 := hts (.fieldLink RX5 30 "TramRibbon$Line" "fleet" "LTramRibbon$Fleet;") (by decide +kernel)
  have f58 := hts (.fieldLink RX5 58 "TramRibbon$Line" "stops" "LTramRibbon$Stops;") (by decide +kernel)
  have ix27 := hts (.initialized "java/lang/IllegalArgumentException") (by decide +kernel)
  have ix75 := hts (.initialized "java/lang/IndexOutOfBoundsException") (by decide +kernel)
  have kx27 := hts (.classLink RX5 23 "java/lang/IllegalArgumentException") (by decide +kernel)
  have kx75 := hts (.classLink RX5 71 "java/lang/IndexOutOfBoundsException") (by decide +kernel)
  have hl := lv_entry ([.ref z0, .int tk, .int wh]) (n := 4) (Nat.le_of_ble_eq_true rfl)
  rw [lg_entry_eq]
  generalize (lg_sl ([.ref z0, .int tk, .int wh]) ++ List.replicate (4 - (lg_sl ([.ref z0, .int tk, .int wh])).length) Slot.unset).toArray = ls at hl ⊢
  replace hl : lv_has ls 4 [(0, .ref z0), (1, .int tk), (2, .int wh)] := hl
  have hS : tr_S (tOwn A A2) s.heap s.heap [] := tr_S.rf
  refine lv_iload_n hx hb dX5_foresee_0 rfl (lv_at hl 1 rfl) ?_
  refine lv_iconst (v := 1) hx hb dX5_foresee_1 (by decide) ?_
  refine lv_sipush (v := 150) hx hb dX5_foresee_2 (by decide) ?_
  refine tr_ri (va_runS (As := [.int tk, .int 1, .int 150]) (rest := []) ⟨hx, hb, hml, hown, hts⟩ (c_X5_outside l D cI tk 1 150) (va_cwS 3 hts gX5_foresee_X5_outside rfl rfl rfl (by decide +kernel) ⟨Nat.le_of_ble_eq_true rfl, Nat.le_of_ble_eq_true rfl⟩) (tr_preS hK trivial) rfl rfl hl.1 rfl (lv_room (Nat.le_of_ble_eq_true rfl)) dX5_foresee_5 ⟨Nat.zero_le _, Nat.zero_le _⟩) ?_
  refine lv_if_eq (tgt := 21) hx hb dX5_foresee_8 (by decide) (fun c_8 => ?_) (fun c_8 => ?_)
  · refine lv_iload_n hx hb dX5_foresee_21 rfl (lv_at hl 2 rfl) ?_
    refine lv_iconst (v := 0) hx hb dX5_foresee_22 (by decide) ?_
    refine lv_iconst (v := 2) hx hb dX5_foresee_23 (by decide) ?_
    refine tr_ri (va_runS (As := [.int wh, .int 0, .int 2]) (rest := []) ⟨hx, hb, hml, hown, hts⟩ (c_X5_outside l D cI wh 0 2) (va_cwS 3 hts gX5_foresee_X5_outside rfl rfl rfl (by decide +kernel) ⟨Nat.le_of_ble_eq_true rfl, Nat.le_of_ble_eq_true rfl⟩) (tr_preS hK trivial) rfl rfl hl.1 rfl (lv_room (Nat.le_of_ble_eq_true rfl)) dX5_foresee_24 ⟨Nat.zero_le _, Nat.zero_le _⟩) ?_
    refine lv_if_eq (tgt := 40) hx hb dX5_foresee_27 (by decide) (fun c_27 => ?_) (fun c_27 => ?_)
    · refine lv_aload_n hx hb dX5_foresee_40 rfl (lv_at hl 0 rfl) ?_
      refine tr_get (ci := 5) (C := RX5) (T := TX5) (N := 2) hx hb hts hiX5 hown hK hZ rfl 1 (by decide) f16 (v := .ref (A2 0)) rfl dX5_foresee_41 ?_
      refine lv_aload_n hx hb dX5_foresee_44 rfl (lv_at hl 0 rfl) ?_
      refine tr_get (ci := 5) (C := RX5) (T := TX5) (N := 2) hx hb hts hiX5 hown hK hZ rfl 0 (by decide) f10 (v := .ref (A 0)) rfl dX5_foresee_45 ?_
      refine tr_wv (va_runV (As := [.ref (A 0)]) (rest := []) ⟨hx, hb, hml, hown, hts⟩ (c_copy l D cI A2 A hd.1.symm u v) (cwV 1 hts gX5_foresee_X1_copyFrom rfl rfl rfl (by decide +kernel) ⟨Nat.le_of_ble_eq_true rfl, Nat.le_of_ble_eq_true rfl⟩) (tr_preV hK hO.c0 rfl ⟨hO, hL⟩) rfl rfl hl.1 rfl (lv_room (Nat.le_of_ble_eq_true rfl)) dX5_foresee_48 ⟨Nat.zero_le _, Nat.zero_le _⟩) hS (fun _ h => Or.inr h) (fun H locs h9 hz hk hS => ?_)
      obtain ⟨hO, hL⟩ := h9
      replace hZ := rb_keep2 hd hZ hk
      clear hk hz
      refine lv_aload_n hx hb dX5_foresee_51 rfl (lv_at hl 0 rfl) ?_
      refine tr_get (ci := 5) (C := RX5) (T := TX5) (N := 2) hx hb hts hiX5 hown hK hZ rfl 1 (by decide) f16 (v := .ref (A2 0)) rfl dX5_foresee_52 ?_
      refine lv_iload_n hx hb dX5_foresee_55 rfl (lv_at hl 1 rfl) ?_
      refine tr_wi (va_runV (As := [.int tk]) (rest := []) ⟨hx, hb, hml, hown, hts⟩ (c_X1_run l D cI A2 hd.1.2.1 v tk) (cwV 1 hts gX5_foresee_X1_run rfl rfl rfl (by decide +kernel) ⟨Nat.le_of_ble_eq_true rfl, Nat.le_of_ble_eq_true rfl⟩) (tr_preV hK hO.c0 rfl hO) rfl rfl hl.1 rfl (lv_room (Nat.le_of_ble_eq_true rfl)) dX5_foresee_56 ⟨Nat.zero_le _, Nat.zero_le _⟩) hS (fun _ h => Or.inr h) (fun H locs hO hz hk hS => ?_)
      replace hL := ln_keepO hd.1.symm hL hk
      replace hZ := rb_keep2 hd hZ hk
      clear hk hz
      refine lv_istore_n (lv' := [(3, .int (rX1_run v tk)), (0, .ref z0), (1, .int tk), (2, .int wh)]) hx hb dX5_foresee_59 rfl hl (by decide) rfl (fun ls hl => ?_)
      refine lv_iload_n hx hb dX5_foresee_60 rfl (lv_at hl 3 rfl) ?_
      by_cases s_61_0 : wh = 0
      · refine lv_lookup (tgt := 88) (off := 27) hx hb dX5_foresee_61 (by decide) (by rw [s_61_0]; rfl) (by decide) ?_
        refine lv_iload_n hx hb dX5_foresee_88 rfl (lv_at hl 0 rfl) ?_
        refine vx_ret (W.widen (k := 1) (n := 6) (Nat.zero_le _) (Nat.zero_le _) ?_)
        exact W.iret hx hb hr (fun t h1 h2 => ⟨(by rw [xX5_foresee, if_pos c_8, if_pos c_27, if_pos s_61_0]), hS.endr (by rw [rX5_foresee, if_pos c_8, if_pos c_27, if_pos s_61_0]) (by rw [fX5_foresee, if_pos c_8, if_pos c_27, if_pos s_61_0]; exact ⟨_, hZ, hL, hO⟩) t h1 h2⟩) hS.2.2 dX5_foresee_89
      by_cases s_61_1 : wh = 1
      · refine lv_lookup (tgt := 90) (off := 29) hx hb dX5_foresee_61 (by decide) (by rw [s_61_1]; rfl) (by decide) ?_
        refine lv_aload_n hx hb dX5_foresee_90 rfl (lv_at hl 1 rfl) ?_
        refine tr_get (ci := 5) (C := RX5) (T := TX5) (N := 2) hx hb hts hiX5 hown hK hZ rfl 1 (by decide) f16 (v := .ref (A2 0)) rfl dX5_foresee_91 ?_
        refine tr_get (ci := 1) (C := RX1) (T := TX1) (N := 6) hx hb hts hiX1 hown hK hO.c0 rfl 1 (by decide) f58 (v := .ref (A2 2)) rfl dX5_foresee_94 ?_
        refine tr_get (ci := 3) (C := RX3) (T := TX3) (N := 2) hx hb hts hiX3 hown hK hO.c2 rfl 0 (by decide) f136 (v := .ref (A2 18)) rfl dX5_foresee_97 ?_
        refine tr_ri (va_runV (As := []) (rest := []) ⟨hx, hb, hml, hown, hts⟩ (c_lsum l D cI A2 hd.1.2.1 (fX1_run v tk) 7 (by decide) ) (cwV 0 hts gX5_foresee_X2_sum rfl rfl rfl (by decide +kernel) ⟨Nat.le_of_ble_eq_true rfl, Nat.le_of_ble_eq_true rfl⟩) (tr_preV hK (hO.robj 7 (by decide)) rfl (hO.row 7 (by decide))) rfl rfl hl.1 rfl (lv_room (Nat.le_of_ble_eq_true rfl)) dX5_foresee_100 ⟨Nat.zero_le _, Nat.zero_le _⟩) ?_
        refine vx_ret (W.widen (k := 1) (n := 6) (Nat.zero_le _) (Nat.zero_le _) ?_)
        exact W.iret hx hb hr (fun t h1 h2 => ⟨(by rw [xX5_foresee, if_pos c_8, if_pos c_27, if_neg s_61_0, if_pos s_61_1]), hS.endr (by rw [rX5_foresee, if_pos c_8, if_pos c_27, if_neg s_61_0, if_pos s_61_1]) (by rw [fX5_foresee, if_pos c_8, if_pos c_27, if_neg s_61_0, if_pos s_61_1]; exact ⟨_, hZ, hL, hO⟩) t h1 h2⟩) hS.2.2 dX5_foresee_103
      refine lv_lookup (tgt := 104) (off := 43) hx hb dX5_foresee_61 (by decide) (show Op.lookupswitch.offset [(0, 27), (1, 29)] 43 wh.toInt = 43 from by rw [lv_osw (k := 0) (a := 0) s_61_0 rfl, lv_osw (k := 1) (a := 1) s_61_1 rfl]; rfl) (by decide) ?_
      refine lv_aload_n hx hb dX5_foresee_104 rfl (lv_at hl 1 rfl) ?_
      refine tr_get (ci := 5) (C := RX5) (T := TX5) (N := 2) hx hb hts hiX5 hown hK hZ rfl 1 (by decide) f16 (v := .ref (A2 0)) rfl dX5_foresee_105 ?_
      refine tr_get (ci := 1) (C := RX1) (T := TX1) (N := 6) hx hb hts hiX1 hown hK hO.c0 rfl 2 (by decide) f30 (v := .ref (A2 3)) rfl dX5_foresee_108 ?_
      refine tr_get (ci := 0) (C := RX0) (T := TX0) (N := 9) hx hb hts hiX0 hown hK hO.c3 rfl 5 (by decide) f201 (v := .ref (A2 30)) rfl dX5_foresee_111 ?_
      refine tr_ri (va_runV (As := []) (rest := []) ⟨hx, hb, hml, hown, hts⟩ (c_lsum l D cI A2 hd.1.2.1 (fX1_run v tk) 13 (by decide) ) (cwV 0 hts gX5_foresee_X2_sum rfl rfl rfl (by decide +kernel) ⟨Nat.le_of_ble_eq_true rfl, Nat.le_of_ble_eq_true rfl⟩) (tr_preV hK (hO.robj 13 (by decide)) rfl (hO.row 13 (by decide))) rfl rfl hl.1 rfl (lv_room (Nat.le_of_ble_eq_true rfl)) dX5_foresee_114 ⟨Nat.zero_le _, Nat.zero_le _⟩) ?_
      refine vx_ret (W.widen (k := 1) (n := 6) (Nat.zero_le _) (Nat.zero_le _) ?_)
      exact W.iret hx hb hr (fun t h1 h2 => ⟨(by rw [xX5_foresee, if_pos c_8, if_pos c_27, if_neg s_61_0, if_neg s_61_1]), hS.endr (by rw [rX5_foresee, if_pos c_8, if_pos c_27, if_neg s_61_0, if_neg s_61_1]) (by rw [fX5_foresee, if_pos c_8, if_pos c_27, if_neg s_61_0, if_neg s_61_1]; exact ⟨_, hZ, hL, hO⟩) t h1 h2⟩) hS.2.2 dX5_foresee_117
    · obtain ⟨sa, hsa⟩ := hXK.1 (195, "what is not 0 to 2") (by decide +kernel)
      exact vx_throwS (cls := "java/lang/IndexOutOfBoundsException") (names := ["java/lang/RuntimeException", "java/lang/Exception"]) (ik := 71) (ic := 75) (A := fun _ => False) hx hb hst hown (by decide +kernel) (by decide +kernel) kx75 ix75 hsa ax75 (by decide +kernel) hXK.2.2.1 hXK.2.2.2 va_S.rf (by rw [hml]; exact hl.1) dX5_foresee_30 dX5_foresee_33 dX5_foresee_34 dX5_foresee_36 dX5_foresee_39 (fun x h => (hnt x h).elim) (Nat.le_of_ble_eq_true rfl) (Nat.le_of_ble_eq_true rfl) (Nat.le_of_ble_eq_true rfl) (Nat.le_of_ble_eq_true rfl) hlocks (fun t _ h2 h3 => ⟨by rw [xX5_foresee, if_pos c_8, if_neg c_27], h2, h3⟩) (fun _ h => by cases h) (Nat.le_of_ble_eq_true rfl) (Nat.le_of_ble_eq_true rfl)
  · obtain ⟨sa, hsa⟩ := hXK.1 (193, "ticks is not 1 to 150") (by decide +kernel)
    exact vx_throwS (cls := "java/lang/IllegalArgumentException") (names := ["java/lang/RuntimeException", "java/lang/Exception"]) (ik := 23) (ic := 27) (A := fun _ => False) hx hb hst hown (by decide +kernel) (by decide +kernel) kx27 ix27 hsa ax27 (by decide +kernel) hXK.2.2.1 hXK.2.2.2 va_S.rf (by rw [hml]; exact hl.1) dX5_foresee_11 dX5_foresee_14 dX5_foresee_15 dX5_foresee_17 dX5_foresee_20 (fun x h => (hnt x h).elim) (Nat.le_of_ble_eq_true rfl) (Nat.le_of_ble_eq_true rfl) (Nat.le_of_ble_eq_true rfl) (Nat.le_of_ble_eq_true rfl) hlocks (fun t _ h2 h3 => ⟨by rw [xX5_foresee, if_neg c_8], h2, h3⟩) (fun _ h => by cases h) (Nat.le_of_ble_eq_true rfl) (Nat.le_of_ble_eq_true rfl)
def bX5_advise_45 (v : LV) (u : LV) (tk : Int32) (i : Nat) (a : LV) : LV :=
  (if (fX4_canInsulate v (nI i)) = 0 then a else fX1_run (fX4_insulate v (nI i)) tk)
def bX5_advise_45_2 (v : LV) (u : LV) (tk : Int32) (i : Nat) (a : Int32) : Int32 :=
  (if (fX4_canInsulate v (nI i)) = 0 then a else (if (rX1_run (fX4_insulate v (nI i)) tk) ≤ a then a else rX1_run (fX4_insulate v (nI i)) tk))
def bX5_advise_45_3 (v : LV) (u : LV) (tk : Int32) (i : Nat) (a : Int32) : Int32 :=
  (if (fX4_canInsulate v (nI i)) = 0 then a else (if (rX1_run (fX4_insulate v (nI i)) tk) ≤ (itI i (bX5_advise_45_2 v u tk) (rX1_run v tk)) then a else nI i))
def fX5_advise (v : LV) (u : LV) (tk : Int32) : LV :=
  (if (fX5_outside tk 1 100) = 0 then v else v)
def xX5_advise (v : LV) (u : LV) (tk : Int32) : Option String :=
  (if (fX5_outside tk 1 100) = 0 then none else some "java/lang/IllegalArgumentException")
def rX5_advise (v : LV) (u : LV) (tk : Int32) : Int32 :=
  (if (fX5_outside tk 1 100) = 0 then itI ((v.1 0).toNatClampNeg) (bX5_advise_45_3 v u tk) (-1) else 0)
set_option maxHeartbeats 4000000 in
set_option maxRecDepth 100000 in
theorem c_X5_advise (l : Launch) (hst : l.stackTraces = false) (D : va_G) (cI : ClassId) (z0 : Nat) (A A2 : Nat → Nat) (hd : TDis z0 A A2) (v u : LV) (tk : Int32)  : vx_Met l yX5_advise wsX5_advise ({ frames := 6, cells := 1, slots := 6, locals := 132 }) (tr_PcX D cI [.ref z0, .int tk] (TRB D cI z0 A A2 (v, u))) (tr_QX (xX5_advise v u tk) (some (.int (rX5_advise v u tk))) (fun H => ∃ u2, TRB D cI z0 A A2 (fX5_advise v u tk, u2) H) (tOwn A A2)) (tr_XC (xX5_advise v u tk)) 1 6 (tOwn A A2) := by
  refine vx_ofW (cc := cX5_advise) (maxL := 6) (ret := (some .int)) (by decide) rfl ?_
  intro p e s m args below meth c s₁ B hml hnt hv
  obtain ⟨rfl, ⟨⟨hZ, hL, hO⟩, hK⟩, hXK⟩ := hv
  have hx := B.exec
  have hb := B.bytes
  have hr := B.returns
  have hts := atoms_spec (ws := wsX5_advise) B.pre
  have hown : s.vm.findClass RX5 = some m.cls := findClass_of_methodNamed B.named
  have hlocks := B.notSynchronized
  replace hL : LNE D cI A v s.heap := hL
  replace hO : LNE D cI A2 u s.heap := hO
  have hiX1 : ∀ w ∈ u_ws RX1 TX1 6, w ∈ wsX5_advise := by decide +kernel
  have hiX4 : ∀ w ∈ u_ws RX4 TX4 9, w ∈ wsX5_advise := by decide +kernel
  have hiX5 : ∀ w ∈ u_ws RX5 TX5 2, w ∈ wsX5_advise := by decide +kernel
  have ax27 := vx_hat (L := (vx_atS RX5 27 "java/lang/IllegalArgumentException" ["java/lang/RuntimeException", "java/lang/Exception"])) (B := tr_bad) (fun w h => hts w ((by decide +kernel : ∀ w ∈ (vx_atS RX5 27 "java/lang/IllegalArgumentException" ["java/lang/RuntimeException", "java/lang/Exception"]).filter goodWord, w ∈ wsX5_advise) w h)) (by decide +kernel) (fun w hw => va_tabs (tr_bad_t w hw) rfl (hXK.2.1 w hw))
  have f10 := hts (.fieldLink RX5 10 "TramRibbon" "line" "LTramRibbon$Line;") (by decide +kernel)
  have f16 := hts (.fieldLink RX5 16 "TramRibbon" "trial" "LTramRibbon$Line;") (by decide +kernel)
  have f45 := hts (.fieldLink RX5 45 "TramRibbon$Line" "wire" "LTramRibbon$Wire;") (by decide +kernel)
  have f49 := hts (.fieldLink RX5 49 "TramRibbon$Wire" "poles" "I") (by decide +kernel)
  have ix27 := hts (.initialized "java/lang/IllegalArgumentException") (by decide +kernel)
  have kx27 := hts (.classLink RX5 23 "java/lang/IllegalArgumentException") (by decide +kernel)
  have hl := lv_entry ([.ref z0, .int tk]) (n := 6) (Nat.le_of_ble_eq_true rfl)
  rw [lg_entry_eq]
  generalize (lg_sl ([.ref z0, .int tk]) ++ List.replicate (6 - (lg_sl ([.ref z0, .int tk])).length) Slot.unset).toArray = ls at hl ⊢
  replace hl : lv_has ls 6 [(0, .ref z0), (1, .int tk)] := hl
  have hS : tr_S (tOwn A A2) s.heap s.heap [] := tr_S.rf
  refine lv_iload_n hx hb dX5_advise_0 rfl (lv_at hl 1 rfl) ?_
  refine lv_iconst (v := 1) hx hb dX5_advise_1 (by decide) ?_
  refine lv_bipush (v := 100) hx hb dX5_advise_2 (by decide) ?_
  refine tr_ri (va_runS (As := [.int tk, .int 1, .int 100]) (rest := []) ⟨hx, hb, hml, hown, hts⟩ (c_X5_outside l D cI tk 1 100) (va_cwS 3 hts gX5_advise_X5_outside rfl rfl rfl (by decide +kernel) ⟨Nat.le_of_ble_eq_true rfl, Nat.le_of_ble_eq_true rfl⟩) (tr_preS hK trivial) rfl rfl hl.1 rfl (lv_room (Nat.le_of_ble_eq_true rfl)) dX5_advise_4 ⟨Nat.zero_le _, Nat.zero_le _⟩) ?_
  refine lv_if_eq (tgt := 20) hx hb dX5_advise_7 (by decide) (fun c_7 => ?_) (fun c_7 => ?_)
  · refine lv_aload_n hx hb dX5_advise_20 rfl (lv_at hl 0 rfl) ?_
    refine tr_get (ci := 5) (C := RX5) (T := TX5) (N := 2) hx hb hts hiX5 hown hK hZ rfl 1 (by decide) f16 (v := .ref (A2 0)) rfl dX5_advise_21 ?_
    refine lv_aload_n hx hb dX5_advise_24 rfl (lv_at hl 0 rfl) ?_
    refine tr_get (ci := 5) (C := RX5) (T := TX5) (N := 2) hx hb hts hiX5 hown hK hZ rfl 0 (by decide) f10 (v := .ref (A 0)) rfl dX5_advise_25 ?_
    refine tr_wv (va_runV (As := [.ref (A 0)]) (rest := []) ⟨hx, hb, hml, hown, hts⟩ (c_copy l D cI A2 A hd.1.symm u v) (cwV 1 hts gX5_advise_X1_copyFrom rfl rfl rfl (by decide +kernel) ⟨Nat.le_of_ble_eq_true rfl, Nat.le_of_ble_eq_true rfl⟩) (tr_preV hK hO.c0 rfl ⟨hO, hL⟩) rfl rfl hl.1 rfl (lv_room (Nat.le_of_ble_eq_true rfl)) dX5_advise_28 ⟨Nat.zero_le _, Nat.zero_le _⟩) hS (fun _ h => Or.inr h) (fun H locs h9 hz hk hS => ?_)
    obtain ⟨hO, hL⟩ := h9
    replace hZ := rb_keep2 hd hZ hk
    clear hk hz
    refine lv_aload_n hx hb dX5_advise_31 rfl (lv_at hl 0 rfl) ?_
    refine tr_get (ci := 5) (C := RX5) (T := TX5) (N := 2) hx hb hts hiX5 hown hK hZ rfl 1 (by decide) f16 (v := .ref (A2 0)) rfl dX5_advise_32 ?_
    refine lv_iload_n hx hb dX5_advise_35 rfl (lv_at hl 1 rfl) ?_
    refine tr_wi (va_runV (As := [.int tk]) (rest := []) ⟨hx, hb, hml, hown, hts⟩ (c_X1_run l D cI A2 hd.1.2.1 v tk) (cwV 1 hts gX5_advise_X1_run rfl rfl rfl (by decide +kernel) ⟨Nat.le_of_ble_eq_true rfl, Nat.le_of_ble_eq_true rfl⟩) (tr_preV hK hO.c0 rfl hO) rfl rfl hl.1 rfl (lv_room (Nat.le_of_ble_eq_true rfl)) dX5_advise_36 ⟨Nat.zero_le _, Nat.zero_le _⟩) hS (fun _ h => Or.inr h) (fun H locs hO hz hk hS => ?_)
    replace hL := ln_keepO hd.1.symm hL hk
    replace hZ := rb_keep2 hd hZ hk
    clear hk hz
    refine lv_istore_n (lv' := [(2, .int (rX1_run v tk)), (0, .ref z0), (1, .int tk)]) hx hb dX5_advise_39 rfl hl (by decide) rfl (fun ls hl => ?_)
    refine lv_iconst (v := -1) hx hb dX5_advise_40 (by decide) ?_
    refine lv_istore_n (lv' := [(3, .int (-1)), (2, .int (rX1_run v tk)), (0, .ref z0), (1, .int tk)]) hx hb dX5_advise_41 rfl hl (by decide) rfl (fun ls hl => ?_)
    refine lv_iconst (v := 0) hx hb dX5_advise_42 (by decide) ?_
    refine lv_istore (lv' := [(4, .int 0), (3, .int (-1)), (2, .int (rX1_run v tk)), (0, .ref z0), (1, .int tk)]) hx hb dX5_advise_43 hl (by decide) rfl (fun ls hl => ?_)
    have hinv := And.intro (show LNE D cI A2 (fX1_run v tk) H ∧ LNE D cI A v H ∧ va_at D vwCl (z0, .inr (5, [.ref (A 0), .ref (A2 0)])) H ∧ tr_S (tOwn A A2) s.heap H locs from ⟨hO, hL, hZ, hS⟩) hl
    clear hO hL hZ hS hl
    revert hinv; revert ls; revert locs; revert H
    refine tr_forw (fun i H locs ls => (LNE D cI A2 (itI i (bX5_advise_45 v u tk) (fX1_run v tk)) H ∧ LNE D cI A v H ∧ va_at D vwCl (z0, .inr (5, [.ref (A 0), .ref (A2 0)])) H ∧ tr_S (tOwn A A2) s.heap H locs) ∧ lv_has ls 6 [(0, .ref z0), (1, .int tk), (2, .int (itI i (bX5_advise_45_2 v u tk) (rX1_run v tk))), (3, .int (itI i (bX5_advise_45_3 v u tk) (-1))), (4, .int (nI i))]) ((v.1 0).toNatClampNeg) (fun H locs ls hinv => ?_) ?_
    · obtain ⟨⟨hO, hL, hZ, hS⟩, hl⟩ := hinv
      exact ⟨⟨by rw [itI_0]; exact hO, hL, hZ, hS⟩, lv_sub hl [3, 4, 2, 1, 0] rfl⟩
    intro i H locs ls hi hinv ih
    obtain ⟨⟨hO, hL, hZ, hS⟩, hl⟩ := hinv
    refine lv_iload hx hb dX5_advise_45 (lv_at hl 4 rfl) ?_
    refine lv_aload_n hx hb dX5_advise_47 rfl (lv_at hl 0 rfl) ?_
    refine tr_get (ci := 5) (C := RX5) (T := TX5) (N := 2) hx hb hts hiX5 hown hK hZ rfl 0 (by decide) f10 (v := .ref (A 0)) rfl dX5_advise_48 ?_
    refine tr_get (ci := 1) (C := RX1) (T := TX1) (N := 6) hx hb hts hiX1 hown hK hL.c0 rfl 0 (by decide) f45 (v := .ref (A 1)) rfl dX5_advise_51 ?_
    refine tr_get (ci := 4) (C := RX4) (T := TX4) (N := 9) hx hb hts hiX4 hown hK hL.c1 rfl 0 (by decide) f49 (v := .int (v.1 0)) rfl dX5_advise_54 ?_
    refine lv_icmp_ge (tgt := 126) hx hb dX5_advise_57 (by decide) (fun c_57 => ?_) (fun c_57 => ?_)
    · have hN : i = (v.1 0).toNatClampNeg := tr_over rfl hi c_57
      subst hN
      refine lv_iload_n hx hb dX5_advise_126 rfl (lv_at hl 3 rfl) ?_
      refine vx_ret (W.widen (k := 1) (n := 6) (Nat.zero_le _) (Nat.zero_le _) ?_)
      exact W.iret hx hb hr (fun t h1 h2 => ⟨(by rw [xX5_advise, if_pos c_7]), hS.endr (by rw [rX5_advise, if_pos c_7]) (by rw [fX5_advise, if_pos c_7]; exact ⟨_, hZ, hL, hO⟩) t h1 h2⟩) hS.2.2 dX5_advise_127
    · have hlt : i < (v.1 0).toNatClampNeg := tr_on rfl hi c_57
      refine lv_aload_n hx hb dX5_advise_60 rfl (lv_at hl 0 rfl) ?_
      refine tr_get (ci := 5) (C := RX5) (T := TX5) (N := 2) hx hb hts hiX5 hown hK hZ rfl 0 (by decide) f10 (v := .ref (A 0)) rfl dX5_advise_61 ?_
      refine tr_get (ci := 1) (C := RX1) (T := TX1) (N := 6) hx hb hts hiX1 hown hK hL.c0 rfl 0 (by decide) f45 (v := .ref (A 1)) rfl dX5_advise_64 ?_
      refine lv_iload hx hb dX5_advise_67 (lv_at hl 4 rfl) ?_
      refine tr_ri (va_runV (As := [.int (nI i)]) (rest := []) ⟨hx, hb, hml, hown, hts⟩ (c_X4_canInsulate l D cI A hd.1.1 v (nI i)) (cwV 1 hts gX5_advise_X4_canInsulate rfl rfl rfl (by decide +kernel) ⟨Nat.le_of_ble_eq_true rfl, Nat.le_of_ble_eq_true rfl⟩) (tr_preV hK hL.c1 rfl hL) rfl rfl hl.1 rfl (lv_room (Nat.le_of_ble_eq_true rfl)) dX5_advise_69 ⟨Nat.zero_le _, Nat.zero_le _⟩) ?_
      refine lv_if_eq (tgt := 120) hx hb dX5_advise_72 (by decide) (fun c_72 => ?_) (fun c_72 => ?_)
      · refine lv_iinc (v := nI (i + 1)) (lv' := [(4, .int (nI (i + 1))), (0, .ref z0), (1, .int tk), (2, .int (itI i (bX5_advise_45_2 v u tk) (rX1_run v tk))), (3, .int (itI i (bX5_advise_45_3 v u tk) (-1)))]) hx hb dX5_advise_120 hl (k := 4) rfl (tr_inc _) (by decide) rfl (fun ls hl => ?_)
        refine lv_goto (tgt := 45) hx hb dX5_advise_123 (by decide) ?_
        have e_2 : itI (i + 1) (bX5_advise_45_2 v u tk) (rX1_run v tk) = itI i (bX5_advise_45_2 v u tk) (rX1_run v tk) := by first | rw [itI_s, bX5_advise_45_2, if_pos c_72] | (rw [itI_s, bX5_advise_45_2]; done) | (rw [itI_s, bX5_advise_45_2]; simp only [if_pos c_72])
        have e_3 : itI (i + 1) (bX5_advise_45_3 v u tk) (-1) = itI i (bX5_advise_45_3 v u tk) (-1) := by first | rw [itI_s, bX5_advise_45_3, if_pos c_72] | (rw [itI_s, bX5_advise_45_3]; done) | (rw [itI_s, bX5_advise_45_3]; simp only [if_pos c_72])
        have e9 : itI (i + 1) (bX5_advise_45 v u tk) (fX1_run v tk) = itI i (bX5_advise_45 v u tk) (fX1_run v tk) := by first | rw [itI_s, bX5_advise_45, if_pos c_72] | (rw [itI_s, bX5_advise_45]; done) | (rw [itI_s, bX5_advise_45]; simp only [if_pos c_72])
        exact ih H locs ls hlt ⟨⟨by rw [e9]; exact hO, hL, hZ, hS⟩, by rw [e_2, e_3]; exact lv_sub hl [1, 2, 3, 4, 0] rfl⟩
      · refine lv_aload_n hx hb dX5_advise_75 rfl (lv_at hl 0 rfl) ?_
        refine tr_get (ci := 5) (C := RX5) (T := TX5) (N := 2) hx hb hts hiX5 hown hK hZ rfl 1 (by decide) f16 (v := .ref (A2 0)) rfl dX5_advise_76 ?_
        refine lv_aload_n hx hb dX5_advise_79 rfl (lv_at hl 0 rfl) ?_
        refine tr_get (ci := 5) (C := RX5) (T := TX5) (N := 2) hx hb hts hiX5 hown hK hZ rfl 0 (by decide) f10 (v := .ref (A 0)) rfl dX5_advise_80 ?_
        refine tr_wv (va_runV (As := [.ref (A 0)]) (rest := []) ⟨hx, hb, hml, hown, hts⟩ (c_copy l D cI A2 A hd.1.symm (itI i (bX5_advise_45 v u tk) (fX1_run v tk)) v) (cwV 1 hts gX5_advise_X1_copyFrom rfl rfl rfl (by decide +kernel) ⟨Nat.le_of_ble_eq_true rfl, Nat.le_of_ble_eq_true rfl⟩) (tr_preV hK hO.c0 rfl ⟨hO, hL⟩) rfl rfl hl.1 rfl (lv_room (Nat.le_of_ble_eq_true rfl)) dX5_advise_83 ⟨Nat.zero_le _, Nat.zero_le _⟩) hS (fun _ h => Or.inr h) (fun H locs h9 hz hk hS => ?_)
        obtain ⟨hO, hL⟩ := h9
        replace hZ := rb_keep2 hd hZ hk
        clear hk hz
        refine lv_aload_n hx hb dX5_advise_86 rfl (lv_at hl 0 rfl) ?_
        refine tr_get (ci := 5) (C := RX5) (T := TX5) (N := 2) hx hb hts hiX5 hown hK hZ rfl 1 (by decide) f16 (v := .ref (A2 0)) rfl dX5_advise_87 ?_
        refine tr_get (ci := 1) (C := RX1) (T := TX1) (N := 6) hx hb hts hiX1 hown hK hO.c0 rfl 0 (by decide) f45 (v := .ref (A2 1)) rfl dX5_advise_90 ?_
        refine lv_iload hx hb dX5_advise_93 (lv_at hl 4 rfl) ?_
        refine tr_wv (va_runV (As := [.int (nI i)]) (rest := []) ⟨hx, hb, hml, hown, hts⟩ (c_X4_insulate l D cI A2 hd.1.2.1 v (nI i)) (cwV 1 hts gX5_advise_X4_insulate rfl rfl rfl (by decide +kernel) ⟨Nat.le_of_ble_eq_true rfl, Nat.le_of_ble_eq_true rfl⟩) (tr_preV hK hO.c1 rfl hO) rfl rfl hl.1 rfl (lv_room (Nat.le_of_ble_eq_true rfl)) dX5_advise_95 ⟨Nat.zero_le _, Nat.zero_le _⟩) hS (fun _ h => Or.inr h) (fun H locs hO hz hk hS => ?_)
        replace hL := ln_keepO hd.1.symm hL hk
        replace hZ := rb_keep2 hd hZ hk
        clear hk hz
        refine lv_aload_n hx hb dX5_advise_98 rfl (lv_at hl 0 rfl) ?_
        refine tr_get (ci := 5) (C := RX5) (T := TX5) (N := 2) hx hb hts hiX5 hown hK hZ rfl 1 (by decide) f16 (v := .ref (A2 0)) rfl dX5_advise_99 ?_
        refine lv_iload_n hx hb dX5_advise_102 rfl (lv_at hl 1 rfl) ?_
        refine tr_wi (va_runV (As := [.int tk]) (rest := []) ⟨hx, hb, hml, hown, hts⟩ (c_X1_run l D cI A2 hd.1.2.1 (fX4_insulate v (nI i)) tk) (cwV 1 hts gX5_advise_X1_run rfl rfl rfl (by decide +kernel) ⟨Nat.le_of_ble_eq_true rfl, Nat.le_of_ble_eq_true rfl⟩) (tr_preV hK hO.c0 rfl hO) rfl rfl hl.1 rfl (lv_room (Nat.le_of_ble_eq_true rfl)) dX5_advise_103 ⟨Nat.zero_le _, Nat.zero_le _⟩) hS (fun _ h => Or.inr h) (fun H locs hO hz hk hS => ?_)
        replace hL := ln_keepO hd.1.symm hL hk
        replace hZ := rb_keep2 hd hZ hk
        clear hk hz
        refine lv_istore (lv' := [(5, .int (rX1_run (fX4_insulate v (nI i)) tk)), (0, .ref z0), (1, .int tk), (2, .int (itI i (bX5_advise_45_2 v u tk) (rX1_run v tk))), (3, .int (itI i (bX5_advise_45_3 v u tk) (-1))), (4, .int (nI i))]) hx hb dX5_advise_106 hl (by decide) rfl (fun ls hl => ?_)
        refine lv_iload hx hb dX5_advise_108 (lv_at hl 0 rfl) ?_
        refine lv_iload_n hx hb dX5_advise_110 rfl (lv_at hl 3 rfl) ?_
        refine lv_icmp_le (tgt := 120) hx hb dX5_advise_111 (by decide) (fun c_111 => ?_) (fun c_111 => ?_)
        · refine lv_iinc (v := nI (i + 1)) (lv' := [(4, .int (nI (i + 1))), (5, .int (rX1_run (fX4_insulate v (nI i)) tk)), (0, .ref z0), (1, .int tk), (2, .int (itI i (bX5_advise_45_2 v u tk) (rX1_run v tk))), (3, .int (itI i (bX5_advise_45_3 v u tk) (-1)))]) hx hb dX5_advise_120 hl (k := 5) rfl (tr_inc _) (by decide) rfl (fun ls hl => ?_)
          refine lv_goto (tgt := 45) hx hb dX5_advise_123 (by decide) ?_
          have e_2 : itI (i + 1) (bX5_advise_45_2 v u tk) (rX1_run v tk) = itI i (bX5_advise_45_2 v u tk) (rX1_run v tk) := by first | rw [itI_s, bX5_advise_45_2, if_neg c_72, if_pos c_111] | (rw [itI_s, bX5_advise_45_2]; done) | (rw [itI_s, bX5_advise_45_2]; simp only [if_neg c_72, if_pos c_111])
          have e_3 : itI (i + 1) (bX5_advise_45_3 v u tk) (-1) = itI i (bX5_advise_45_3 v u tk) (-1) := by first | rw [itI_s, bX5_advise_45_3, if_neg c_72, if_pos c_111] | (rw [itI_s, bX5_advise_45_3]; done) | (rw [itI_s, bX5_advise_45_3]; simp only [if_neg c_72, if_pos c_111])
          have e9 : itI (i + 1) (bX5_advise_45 v u tk) (fX1_run v tk) = fX1_run (fX4_insulate v (nI i)) tk := by first | rw [itI_s, bX5_advise_45, if_neg c_72, if_pos c_111] | (rw [itI_s, bX5_advise_45]; done) | (rw [itI_s, bX5_advise_45]; simp only [if_neg c_72, if_pos c_111])
          exact ih H locs ls hlt ⟨⟨by rw [e9]; exact hO, hL, hZ, hS⟩, by rw [e_2, e_3]; exact lv_sub hl [2, 3, 4, 5, 0] rfl⟩
        · refine lv_iload hx hb dX5_advise_114 (lv_at hl 0 rfl) ?_
          refine lv_istore_n (lv' := [(2, .int (rX1_run (fX4_insulate v (nI i)) tk)), (5, .int (rX1_run (fX4_insulate v (nI i)) tk)), (0, .ref z0), (1, .int tk), (3, .int (itI i (bX5_advise_45_3 v u tk) (-1))), (4, .int (nI i))]) hx hb dX5_advise_116 rfl hl (by decide) rfl (fun ls hl => ?_)
          refine lv_iload hx hb dX5_advise_117 (lv_at hl 5 rfl) ?_
          refine lv_istore_n (lv' := [(3, .int (nI i)), (2, .int (rX1_run (fX4_insulate v (nI i)) tk)), (5, .int (rX1_run (fX4_insulate v (nI i)) tk)), (0, .ref z0), (1, .int tk), (4, .int (nI i))]) hx hb dX5_advise_119 rfl hl (by decide) rfl (fun ls hl => ?_)
          refine lv_iinc (v := nI (i + 1)) (lv' := [(4, .int (nI (i + 1))), (3, .int (nI i)), (2, .int (rX1_run (fX4_insulate v (nI i)) tk)), (5, .int (rX1_run (fX4_insulate v (nI i)) tk)), (0, .ref z0), (1, .int tk)]) hx hb dX5_advise_120 hl (k := 5) rfl (tr_inc _) (by decide) rfl (fun ls hl => ?_)
          refine lv_goto (tgt := 45) hx hb dX5_advise_123 (by decide) ?_
          have e_2 : itI (i + 1) (bX5_advise_45_2 v u tk) (rX1_run v tk) = rX1_run (fX4_insulate v (nI i)) tk := by first | rw [itI_s, bX5_advise_45_2, if_neg c_72, if_neg c_111] | (rw [itI_s, bX5_advise_45_2]; done) | (rw [itI_s, bX5_advise_45_2]; simp only [if_neg c_72, if_neg c_111])
          have e_3 : itI (i + 1) (bX5_advise_45_3 v u tk) (-1) = nI i := by first | rw [itI_s, bX5_advise_45_3, if_neg c_72, if_neg c_111] | (rw [itI_s, bX5_advise_45_3]; done) | (rw [itI_s, bX5_advise_45_3]; simp only [if_neg c_72, if_neg c_111])
          have e9 : itI (i + 1) (bX5_advise_45 v u tk) (fX1_run v tk) = fX1_run (fX4_insulate v (nI i)) tk := by first | rw [itI_s, bX5_advise_45, if_neg c_72, if_neg c_111] | (rw [itI_s, bX5_advise_45]; done) | (rw [itI_s, bX5_advise_45]; simp only [if_neg c_72, if_neg c_111])
          exact ih H locs ls hlt ⟨⟨by rw [e9]; exact hO, hL, hZ, hS⟩, by rw [e_2, e_3]; exact lv_sub hl [4, 5, 2, 1, 0] rfl⟩
  · obtain ⟨sa, hsa⟩ := hXK.1 (188, "ticks is not 1 to 100") (by decide +kernel)
    exact vx_throwS (cls := "java/lang/IllegalArgumentException") (names := ["java/lang/RuntimeException", "java/lang/Exception"]) (ik := 23) (ic := 27) (A := fun _ => False) hx hb hst hown (by decide +kernel) (by decide +kernel) kx27 ix27 hsa ax27 (by decide +kernel) hXK.2.2.1 hXK.2.2.2 va_S.rf (by rw [hml]; exact hl.1) dX5_advise_10 dX5_advise_13 dX5_advise_14 dX5_advise_16 dX5_advise_19 (fun x h => (hnt x h).elim) (Nat.le_of_ble_eq_true rfl) (Nat.le_of_ble_eq_true rfl) (Nat.le_of_ble_eq_true rfl) (Nat.le_of_ble_eq_true rfl) hlocks (fun t _ h2 h3 => ⟨by rw [xX5_advise, if_neg c_7], h2, h3⟩) (fun _ h => by cases h) (Nat.le_of_ble_eq_true rfl) (Nat.le_of_ble_eq_true rfl)
