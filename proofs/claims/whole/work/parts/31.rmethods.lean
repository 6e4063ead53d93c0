/-! the ribbon: the line, what is there -/
def fX5_noPole (v : LV) (u : LV) (k : Int32) : Int32 :=
  fX5_outside k 0 ((v.1 0) - 1)
set_option maxHeartbeats 4000000 in
set_option maxRecDepth 100000 in
theorem c_X5_noPole (l : Launch) (D : va_G) (cI : ClassId) (z0 : Nat) (A A2 : Nat → Nat) (hd : TDis z0 A A2) (v u : LV) (k : Int32)  : Met l yX5_noPole wsX5_noPole ({ frames := 1, cells := 0, slots := 0, locals := 22 }) (tr_Pc D cI [.ref z0, .int k] (TRB D cI z0 A A2 (v, u))) (vp_Si (fun r => r = fX5_noPole v u k)) 0 0 (fun _ => False) := by
  refine Met.ofW (cc := cX5_noPole) (maxL := 2) (ret := (some .boolean)) (by decide) rfl ?_
  intro p e s m args below meth c s₁ B hml hv
  obtain ⟨rfl, ⟨hZ, hL, hO⟩, hK⟩ := hv
  have hx := B.exec
  have hb := B.bytes
  have hr := B.returns
  have hts := atoms_spec (ws := wsX5_noPole) B.pre
  have hown : s.vm.findClass RX5 = some m.cls := findClass_of_methodNamed B.named
  have hlocks := B.notSynchronized
  replace hL : LNE D cI A v s.heap := hL
  replace hO : LNE D cI A2 u s.heap := hO
  have hiX1 : ∀ w ∈ u_ws RX1 TX1 6, w ∈ wsX5_noPole := by decide +kernel
  have hiX4 : ∀ w ∈ u_ws RX4 TX4 9, w ∈ wsX5_noPole := by decide +kernel
  have hiX5 : ∀ w ∈ u_ws RX5 TX5 2, w ∈ wsX5_noPole := by decide +kernel
  have f10 := hts (.fieldLink RX5 10 "TramRibbon" "line" "LTramRibbon$Line;") (by decide +kernel)
  have f45 := hts (.fieldLink RX5 45 "TramRibbon$Line" "wire" "LTramRibbon$Wire;") (by decide +kernel)
  have f49 := hts (.fieldLink RX5 49 "TramRibbon$Wire" "poles" "I") (by decide +kernel)
  have hl := lv_entry ([.ref z0, .int k]) (n := 2) (Nat.le_of_ble_eq_true rfl)
  rw [lg_entry_eq]
  generalize (lg_sl ([.ref z0, .int k]) ++ List.replicate (2 - (lg_sl ([.ref z0, .int k])).length) Slot.unset).toArray = ls at hl ⊢
  replace hl : lv_has ls 2 [(0, .ref z0), (1, .int k)] := hl
  refine lv_iload_n hx hb dX5_noPole_0 rfl (lv_at hl 1 rfl) ?_
  refine lv_iconst (v := 0) hx hb dX5_noPole_1 (by decide) ?_
  refine lv_aload_n hx hb dX5_noPole_2 rfl (lv_at hl 0 rfl) ?_
  refine tr_get (ci := 5) (C := RX5) (T := TX5) (N := 2) hx hb hts hiX5 hown hK hZ rfl 0 (by decide) f10 (v := .ref (A 0)) rfl dX5_noPole_3 ?_
  refine tr_get (ci := 1) (C := RX1) (T := TX1) (N := 6) hx hb hts hiX1 hown hK hL.c0 rfl 0 (by decide) f45 (v := .ref (A 1)) rfl dX5_noPole_6 ?_
  refine tr_get (ci := 4) (C := RX4) (T := TX4) (N := 9) hx hb hts hiX4 hown hK hL.c1 rfl 0 (by decide) f49 (v := .int (v.1 0)) rfl dX5_noPole_9 ?_
  refine lv_iconst (v := 1) hx hb dX5_noPole_12 (by decide) ?_
  refine lv_isub hx hb dX5_noPole_13 ?_
  refine tr_ri (va_runS (As := [.int k, .int 0, .int ((v.1 0) - 1)]) (rest := []) ⟨hx, hb, hml, hown, hts⟩ (c_X5_outside l D cI k 0 ((v.1 0) - 1)) (va_cwS 3 hts gX5_noPole_X5_outside rfl rfl rfl (by decide +kernel) ⟨Nat.le_of_ble_eq_true rfl, Nat.le_of_ble_eq_true rfl⟩) (tr_preS hK trivial) rfl rfl hl.1 rfl (lv_room (Nat.le_of_ble_eq_true rfl)) dX5_noPole_14 ⟨Nat.zero_le _, Nat.zero_le _⟩) ?_
  exact W.zret (ty := .boolean) hx hb hr (by unfold fX5_outside; (repeat' split) <;> rfl) (tr_endi (by rw [fX5_noPole])) (fun _ h => by cases h) dX5_noPole_17
def fX5_noSpan (v : LV) (u : LV) (k : Int32) : Int32 :=
  fX5_outside k 0 ((fX4_spans v) - 1)
set_option maxHeartbeats 4000000 in
set_option maxRecDepth 100000 in
theorem c_X5_noSpan (l : Launch) (D : va_G) (cI : ClassId) (z0 : Nat) (A A2 : Nat → Nat) (hd : TDis z0 A A2) (v u : LV) (k : Int32)  : Met l yX5_noSpan wsX5_noSpan ({ frames := 1, cells := 0, slots := 0, locals := 22 }) (tr_Pc D cI [.ref z0, .int k] (TRB D cI z0 A A2 (v, u))) (vp_Si (fun r => r = fX5_noSpan v u k)) 0 0 (fun _ => False) := by
  refine Met.ofW (cc := cX5_noSpan) (maxL := 2) (ret := (some .boolean)) (by decide) rfl ?_
  intro p e s m args below meth c s₁ B hml hv
  obtain ⟨rfl, ⟨hZ, hL, hO⟩, hK⟩ := hv
  have hx := B.exec
  have hb := B.bytes
  have hr := B.returns
  have hts := atoms_spec (ws := wsX5_noSpan) B.pre
  have hown : s.vm.findClass RX5 = some m.cls := findClass_of_methodNamed B.named
  have hlocks := B.notSynchronized
  replace hL : LNE D cI A v s.heap := hL
  replace hO : LNE D cI A2 u s.heap := hO
  have hiX1 : ∀ w ∈ u_ws RX1 TX1 6, w ∈ wsX5_noSpan := by decide +kernel
  have hiX5 : ∀ w ∈ u_ws RX5 TX5 2, w ∈ wsX5_noSpan := by decide +kernel
  have f10 := hts (.fieldLink RX5 10 "TramRibbon" "line" "LTramRibbon$Line;") (by decide +kernel)
  have f45 := hts (.fieldLink RX5 45 "TramRibbon$Line" "wire" "LTramRibbon$Wire;") (by decide +kernel)
  have hl := lv_entry ([.ref z0, .int k]) (n := 2) (Nat.le_of_ble_eq_true rfl)
  rw [lg_entry_eq]
  generalize (lg_sl ([.ref z0, .int k]) ++ List.replicate (2 - (lg_sl ([.ref z0, .int k])).length) Slot.unset).toArray = ls at hl ⊢
  replace hl : lv_has ls 2 [(0, .ref z0), (1, .int k)] := hl
  refine lv_iload_n hx hb dX5_noSpan_0 rfl (lv_at hl 1 rfl) ?_
  refine lv_iconst (v := 0) hx hb dX5_noSpan_1 (by decide) ?_
  refine lv_aload_n hx hb dX5_noSpan_2 rfl (lv_at hl 0 rfl) ?_
  refine tr_get (ci := 5) (C := RX5) (T := TX5) (N := 2) hx hb hts hiX5 hown hK hZ rfl 0 (by decide) f10 (v := .ref (A 0)) rfl dX5_noSpan_3 ?_
  refine tr_get (ci := 1) (C := RX1) (T := TX1) (N := 6) hx hb hts hiX1 hown hK hL.c0 rfl 0 (by decide) f45 (v := .ref (A 1)) rfl dX5_noSpan_6 ?_
  refine tr_ri (va_runV (As := []) (rest := [.int 0, .int k]) ⟨hx, hb, hml, hown, hts⟩ (c_X4_spans l D cI A hd.1.1 v ) (cwV 0 hts gX5_noSpan_X4_spans rfl rfl rfl (by decide +kernel) ⟨Nat.le_of_ble_eq_true rfl, Nat.le_of_ble_eq_true rfl⟩) (tr_preV hK hL.c1 rfl hL) rfl rfl hl.1 rfl (lv_room (Nat.le_of_ble_eq_true rfl)) dX5_noSpan_9 ⟨Nat.zero_le _, Nat.zero_le _⟩) ?_
  refine lv_iconst (v := 1) hx hb dX5_noSpan_12 (by decide) ?_
  refine lv_isub hx hb dX5_noSpan_13 ?_
  refine tr_ri (va_runS (As := [.int k, .int 0, .int ((fX4_spans v) - 1)]) (rest := []) ⟨hx, hb, hml, hown, hts⟩ (c_X5_outside l D cI k 0 ((fX4_spans v) - 1)) (va_cwS 3 hts gX5_noSpan_X5_outside rfl rfl rfl (by decide +kernel) ⟨Nat.le_of_ble_eq_true rfl, Nat.le_of_ble_eq_true rfl⟩) (tr_preS hK trivial) rfl rfl hl.1 rfl (lv_room (Nat.le_of_ble_eq_true rfl)) dX5_noSpan_14 ⟨Nat.zero_le _, Nat.zero_le _⟩) ?_
  exact W.zret (ty := .boolean) hx hb hr (by unfold fX5_outside; (repeat' split) <;> rfl) (tr_endi (by rw [fX5_noSpan])) (fun _ h => by cases h) dX5_noSpan_17
def fX5_noSection (v : LV) (u : LV) (k : Int32) : Int32 :=
  fX5_outside k 0 ((v.1 1) - 1)
set_option maxHeartbeats 4000000 in
set_option maxRecDepth 100000 in
theorem c_X5_noSection (l : Launch) (D : va_G) (cI : ClassId) (z0 : Nat) (A A2 : Nat → Nat) (hd : TDis z0 A A2) (v u : LV) (k : Int32)  : Met l yX5_noSection wsX5_noSection ({ frames := 1, cells := 0, slots := 0, locals := 22 }) (tr_Pc D cI [.ref z0, .int k] (TRB D cI z0 A A2 (v, u))) (vp_Si (fun r => r = fX5_noSection v u k)) 0 0 (fun _ => False) := by
  refine Met.ofW (cc := cX5_noSection) (maxL := 2) (ret := (some .boolean)) (by decide) rfl ?_
  intro p e s m args below meth c s₁ B hml hv
  obtain ⟨rfl, ⟨hZ, hL, hO⟩, hK⟩ := hv
  have hx := B.exec
  have hb := B.bytes
  have hr := B.returns
  have hts := atoms_spec (ws := wsX5_noSection) B.pre
  have hown : s.vm.findClass RX5 = some m.cls := findClass_of_methodNamed B.named
  have hlocks := B.notSynchronized
  replace hL : LNE D cI A v s.heap := hL
  replace hO : LNE D cI A2 u s.heap := hO
  have hiX1 : ∀ w ∈ u_ws RX1 TX1 6, w ∈ wsX5_noSection := by decide +kernel
  have hiX4 : ∀ w ∈ u_ws RX4 TX4 9, w ∈ wsX5_noSection := by decide +kernel
  have hiX5 : ∀ w ∈ u_ws RX5 TX5 2, w ∈ wsX5_noSection := by decide +kernel
  have f10 := hts (.fieldLink RX5 10 "TramRibbon" "line" "LTramRibbon$Line;") (by decide +kernel)
  have f105 := hts (.fieldLink RX5 105 "TramRibbon$Wire" "sections" "I") (by decide +kernel)
  have f45 := hts (.fieldLink RX5 45 "TramRibbon$Line" "wire" "LTramRibbon$Wire;") (by decide +kernel)
  have hl := lv_entry ([.ref z0, .int k]) (n := 2) (Nat.le_of_ble_eq_true rfl)
  rw [lg_entry_eq]
  generalize (lg_sl ([.ref z0, .int k]) ++ List.replicate (2 - (lg_sl ([.ref z0, .int k])).length) Slot.unset).toArray = ls at hl ⊢
  replace hl : lv_has ls 2 [(0, .ref z0), (1, .int k)] := hl
  refine lv_iload_n hx hb dX5_noSection_0 rfl (lv_at hl 1 rfl) ?_
  refine lv_iconst (v := 0) hx hb dX5_noSection_1 (by decide) ?_
  refine lv_aload_n hx hb dX5_noSection_2 rfl (lv_at hl 0 rfl) ?_
  refine tr_get (ci := 5) (C := RX5) (T := TX5) (N := 2) hx hb hts hiX5 hown hK hZ rfl 0 (by decide) f10 (v := .ref (A 0)) rfl dX5_noSection_3 ?_
  refine tr_get (ci := 1) (C := RX1) (T := TX1) (N := 6) hx hb hts hiX1 hown hK hL.c0 rfl 0 (by decide) f45 (v := .ref (A 1)) rfl dX5_noSection_6 ?_
  refine tr_get (ci := 4) (C := RX4) (T := TX4) (N := 9) hx hb hts hiX4 hown hK hL.c1 rfl 1 (by decide) f105 (v := .int (v.1 1)) rfl dX5_noSection_9 ?_
  refine lv_iconst (v := 1) hx hb dX5_noSection_12 (by decide) ?_
  refine lv_isub hx hb dX5_noSection_13 ?_
  refine tr_ri (va_runS (As := [.int k, .int 0, .int ((v.1 1) - 1)]) (rest := []) ⟨hx, hb, hml, hown, hts⟩ (c_X5_outside l D cI k 0 ((v.1 1) - 1)) (va_cwS 3 hts gX5_noSection_X5_outside rfl rfl rfl (by decide +kernel) ⟨Nat.le_of_ble_eq_true rfl, Nat.le_of_ble_eq_true rfl⟩) (tr_preS hK trivial) rfl rfl hl.1 rfl (lv_room (Nat.le_of_ble_eq_true rfl)) dX5_noSection_14 ⟨Nat.zero_le _, Nat.zero_le _⟩) ?_
  exact W.zret (ty := .boolean) hx hb hr (by unfold fX5_outside; (repeat' split) <;> rfl) (tr_endi (by rw [fX5_noSection])) (fun _ h => by cases h) dX5_noSection_17
def fX5_build (v : LV) (u : LV) (po : Int32) : LV × LV :=
  (if (fX5_outside po 3 16) = 0 then (if (v.1 2) ≤ 0 then (fX3_clear (fX4_lay v po), u) else (v, u)) else (v, u))
def xX5_build (v : LV) (u : LV) (po : Int32) : Option String :=
  (if (fX5_outside po 3 16) = 0 then (if (v.1 2) ≤ 0 then none else some "java/lang/IllegalStateException") else some "java/lang/IllegalArgumentException")
def rX5_build (v : LV) (u : LV) (po : Int32) : Int32 :=
  (if (fX5_outside po 3 16) = 0 then (if (v.1 2) ≤ 0 then v.1 0 else 0) else 0)
set_option maxHeartbeats 4000000 in
set_option maxRecDepth 100000 in
theorem c_X5_build (l : Launch) (hst : l.stackTraces = false) (D : va_G) (cI : ClassId) (z0 : Nat) (A A2 : Nat → Nat) (hd : TDis z0 A A2) (v u : LV) (po : Int32)  : vx_Met l yX5_build wsX5_build ({ frames := 6, cells := 1, slots := 6, locals := 100 }) (tr_PcX D cI [.ref z0, .int po] (TRB D cI z0 A A2 (v, u))) (tr_QX (xX5_build v u po) (some (.int (rX5_build v u po))) (TRB D cI z0 A A2 (fX5_build v u po)) (tOwn A A2)) (tr_XC (xX5_build v u po)) 1 6 (tOwn A A2) := by
  refine vx_ofW (cc := cX5_build) (maxL := 3) (ret := (some .int)) (by decide) rfl ?_
  intro p e s m args below meth c s₁ B hml hnt hv
  obtain ⟨rfl, ⟨⟨hZ, hL, hO⟩, hK⟩, hXK⟩ := hv
  have hx := B.exec
  have hb := B.bytes
  have hr := B.returns
  have hts := atoms_spec (ws := wsX5_build) B.pre
  have hown : s.vm.findClass RX5 = some m.cls := findClass_of_methodNamed B.named
  have hlocks := B.notSynchronized
  replace hL : LNE D cI A v s.heap := hL
  replace hO : LNE D cI A2 u s.heap := hO
  have hiX0 : ∀ w ∈ u_ws RX0 TX0 9, w ∈ wsX5_build := by decide +kernel
  have hiX1 : ∀ w ∈ u_ws RX1 TX1 6, w ∈ wsX5_build := by decide +kernel
  have hiX4 : ∀ w ∈ u_ws RX4 TX4 9, w ∈ wsX5_build := by decide +kernel
  have hiX5 : ∀ w ∈ u_ws RX5 TX5 2, w ∈ wsX5_build := by decide +kernel
  have ax27 := vx_hat (L := (vx_atS RX5 27 "java/lang/IllegalArgumentException" ["java/lang/RuntimeException", "java/lang/Exception"])) (B := tr_bad) (fun w h => hts w ((by decide +kernel : ∀ w ∈ (vx_atS RX5 27 "java/lang/IllegalArgumentException" ["java/lang/RuntimeException", "java/lang/Exception"]).filter goodWord, w ∈ wsX5_build) w h)) (by decide +kernel) (fun w hw => va_tabs (tr_bad_t w hw) rfl (hXK.2.1 w hw))
  have ax44 := vx_hat (L := (vx_atS RX5 44 "java/lang/IllegalStateException" ["java/lang/RuntimeException", "java/lang/Exception"])) (B := tr_bad) (fun w h => hts w ((by decide +kernel : ∀ w ∈ (vx_atS RX5 44 "java/lang/IllegalStateException" ["java/lang/RuntimeException", "java/lang/Exception"]).filter goodWord, w ∈ wsX5_build) w h)) (by decide +kernel) (fun w hw => va_tabs (tr_bad_t w hw) rfl (hXK.2.1 w hw))
  have f10 := hts (.fieldLink RX5 10 "TramRibbon" "line" "LTramRibbon$Line;") (by decide +kernel)
  have f30 := hts (.fieldLink RX5 30 "TramRibbon$Line" "fleet" "LTramRibbon$Fleet;") (by decide +kernel)
  have f34 := hts (.fieldLink RX5 34 "TramRibbon$Fleet" "size" "I") (by decide +kernel)
  have f45 := hts (.fieldLink RX5 45 "TramRibbon$Line" "wire" "LTramRibbon$Wire;") (by decide +kernel)
  have f49 := hts (.fieldLink RX5 49 "TramRibbon$Wire" "poles" "I") (by decide +kernel)
  have f58 := hts (.fieldLink RX5 58 "TramRibbon$Line" "stops" "LTramRibbon$Stops;") (by decide +kernel)
  have ix27 := hts (.initialized "java/lang/IllegalArgumentException") (by decide +kernel)
  have ix44 := hts (.initialized "java/lang/IllegalStateException") (by decide +kernel)
  have kx27 := hts (.classLink RX5 23 "java/lang/IllegalArgumentException") (by decide +kernel)
  have kx44 := hts (.classLink RX5 40 "java/lang/IllegalStateException") (by decide +kernel)
  have hl := lv_entry ([.ref z0, .int po]) (n := 3) (Nat.le_of_ble_eq_true rfl)
  rw [lg_entry_eq]
  generalize (lg_sl ([.ref z0, .int po]) ++ List.replicate (3 - (lg_sl ([.ref z0, .int po])).length) Slot.unset).toArray = ls at hl ⊢
  replace hl : lv_has ls 3 [(0, .ref z0), (1, .int po)] := hl
  have hS : tr_S (tOwn A A2) s.heap s.heap [] := tr_S.rf
  refine lv_iload_n hx hb dX5_build_0 rfl (lv_at hl 1 rfl) ?_
  refine lv_iconst (v := 3) hx hb dX5_build_1 (by decide) ?_
  refine lv_bipush (v := 16) hx hb dX5_build_2 (by decide) ?_
  refine tr_ri (va_runS (As := [.int po, .int 3, .int 16]) (rest := []) ⟨hx, hb, hml, hown, hts⟩ (c_X5_outside l D cI po 3 16) (va_cwS 3 hts gX5_build_X5_outside rfl rfl rfl (by decide +kernel) ⟨Nat.le_of_ble_eq_true rfl, Nat.le_of_ble_eq_true rfl⟩) (tr_preS hK trivial) rfl rfl hl.1 rfl (lv_room (Nat.le_of_ble_eq_true rfl)) dX5_build_4 ⟨Nat.zero_le _, Nat.zero_le _⟩) ?_
  refine lv_if_eq (tgt := 20) hx hb dX5_build_7 (by decide) (fun c_7 => ?_) (fun c_7 => ?_)
  · refine lv_aload_n hx hb dX5_build_20 rfl (lv_at hl 0 rfl) ?_
    refine tr_get (ci := 5) (C := RX5) (T := TX5) (N := 2) hx hb hts hiX5 hown hK hZ rfl 0 (by decide) f10 (v := .ref (A 0)) rfl dX5_build_21 ?_
    refine tr_get (ci := 1) (C := RX1) (T := TX1) (N := 6) hx hb hts hiX1 hown hK hL.c0 rfl 2 (by decide) f30 (v := .ref (A 3)) rfl dX5_build_24 ?_
    refine tr_get (ci := 0) (C := RX0) (T := TX0) (N := 9) hx hb hts hiX0 hown hK hL.c3 rfl 0 (by decide) f34 (v := .int (v.1 2)) rfl dX5_build_27 ?_
    refine lv_if_le (tgt := 43) hx hb dX5_build_30 (by decide) (fun c_30 => ?_) (fun c_30 => ?_)
    · refine lv_aload_n hx hb dX5_build_43 rfl (lv_at hl 0 rfl) ?_
      refine tr_get (ci := 5) (C := RX5) (T := TX5) (N := 2) hx hb hts hiX5 hown hK hZ rfl 0 (by decide) f10 (v := .ref (A 0)) rfl dX5_build_44 ?_
      refine tr_get (ci := 1) (C := RX1) (T := TX1) (N := 6) hx hb hts hiX1 hown hK hL.c0 rfl 0 (by decide) f45 (v := .ref (A 1)) rfl dX5_build_47 ?_
      refine tr_get (ci := 4) (C := RX4) (T := TX4) (N := 9) hx hb hts hiX4 hown hK hL.c1 rfl 0 (by decide) f49 (v := .int (v.1 0)) rfl dX5_build_50 ?_
      refine lv_istore_n (lv' := [(2, .int (v.1 0)), (0, .ref z0), (1, .int po)]) hx hb dX5_build_53 rfl hl (by decide) rfl (fun ls hl => ?_)
      refine lv_aload_n hx hb dX5_build_54 rfl (lv_at hl 1 rfl) ?_
      refine tr_get (ci := 5) (C := RX5) (T := TX5) (N := 2) hx hb hts hiX5 hown hK hZ rfl 0 (by decide) f10 (v := .ref (A 0)) rfl dX5_build_55 ?_
      refine tr_get (ci := 1) (C := RX1) (T := TX1) (N := 6) hx hb hts hiX1 hown hK hL.c0 rfl 0 (by decide) f45 (v := .ref (A 1)) rfl dX5_build_58 ?_
      refine lv_iload_n hx hb dX5_build_61 rfl (lv_at hl 2 rfl) ?_
      refine tr_wv (va_runV (As := [.int po]) (rest := []) ⟨hx, hb, hml, hown, hts⟩ (c_X4_lay l D cI A hd.1.1 v po) (cwV 1 hts gX5_build_X4_lay rfl rfl rfl (by decide +kernel) ⟨Nat.le_of_ble_eq_true rfl, Nat.le_of_ble_eq_true rfl⟩) (tr_preV hK hL.c1 rfl hL) rfl rfl hl.1 rfl (lv_room (Nat.le_of_ble_eq_true rfl)) dX5_build_62 ⟨Nat.zero_le _, Nat.zero_le _⟩) hS (fun _ h => Or.inl h) (fun H locs hL hz hk hS => ?_)
      replace hO := ln_keepO hd.1 hO hk
      replace hZ := rb_keep1 hd hZ hk
      clear hk hz
      refine lv_aload_n hx hb dX5_build_65 rfl (lv_at hl 1 rfl) ?_
      refine tr_get (ci := 5) (C := RX5) (T := TX5) (N := 2) hx hb hts hiX5 hown hK hZ rfl 0 (by decide) f10 (v := .ref (A 0)) rfl dX5_build_66 ?_
      refine tr_get (ci := 1) (C := RX1) (T := TX1) (N := 6) hx hb hts hiX1 hown hK hL.c0 rfl 1 (by decide) f58 (v := .ref (A 2)) rfl dX5_build_69 ?_
      refine tr_wv (va_runV (As := []) (rest := []) ⟨hx, hb, hml, hown, hts⟩ (c_X3_clear l D cI A hd.1.1 (fX4_lay v po) ) (cwV 0 hts gX5_build_X3_clear rfl rfl rfl (by decide +kernel) ⟨Nat.le_of_ble_eq_true rfl, Nat.le_of_ble_eq_true rfl⟩) (tr_preV hK hL.c2 rfl hL) rfl rfl hl.1 rfl (lv_room (Nat.le_of_ble_eq_true rfl)) dX5_build_72 ⟨Nat.zero_le _, Nat.zero_le _⟩) hS (fun _ h => Or.inl h) (fun H locs hL hz hk hS => ?_)
      replace hO := ln_keepO hd.1 hO hk
      replace hZ := rb_keep1 hd hZ hk
      clear hk hz
      refine lv_iload_n hx hb dX5_build_75 rfl (lv_at hl 0 rfl) ?_
      refine vx_ret (W.widen (k := 1) (n := 6) (Nat.zero_le _) (Nat.zero_le _) ?_)
      exact W.iret hx hb hr (fun t h1 h2 => ⟨(by rw [xX5_build, if_pos c_7, if_pos c_30]), hS.endr (by rw [rX5_build, if_pos c_7, if_pos c_30]) (by rw [fX5_build, if_pos c_7, if_pos c_30]; exact ⟨hZ, hL, hO⟩) t h1 h2⟩) hS.2.2 dX5_build_76
    · obtain ⟨sa, hsa⟩ := hXK.1 (42, "there are cars") (by decide +kernel)
      exact vx_throwS (cls := "java/lang/IllegalStateException") (names := ["java/lang/RuntimeException", "java/lang/Exception"]) (ik := 40) (ic := 44) (A := fun _ => False) hx hb hst hown (by decide +kernel) (by decide +kernel) kx44 ix44 hsa ax44 (by decide +kernel) hXK.2.2.1 hXK.2.2.2 va_S.rf (by rw [hml]; exact hl.1) dX5_build_33 dX5_build_36 dX5_build_37 dX5_build_39 dX5_build_42 (fun x h => (hnt x h).elim) (Nat.le_of_ble_eq_true rfl) (Nat.le_of_ble_eq_true rfl) (Nat.le_of_ble_eq_true rfl) (Nat.le_of_ble_eq_true rfl) hlocks (fun t _ h2 h3 => ⟨by rw [xX5_build, if_pos c_7, if_neg c_30], h2, h3⟩) (fun _ h => by cases h) (Nat.le_of_ble_eq_true rfl) (Nat.le_of_ble_eq_true rfl)
  · obtain ⟨sa, hsa⟩ := hXK.1 (25, "poles is not 3 to 16") (by decide +kernel)
    exact vx_throwS (cls := "java/lang/IllegalArgumentException") (names := ["java/lang/RuntimeException", "java/lang/Exception"]) (ik := 23) (ic := 27) (A := fun _ => False) hx hb hst hown (by decide +kernel) (by decide +kernel) kx27 ix27 hsa ax27 (by decide +kernel) hXK.2.2.1 hXK.2.2.2 va_S.rf (by rw [hml]; exact hl.1) dX5_build_10 dX5_build_13 dX5_build_14 dX5_build_16 dX5_build_19 (fun x h => (hnt x h).elim) (Nat.le_of_ble_eq_true rfl) (Nat.le_of_ble_eq_true rfl) (Nat.le_of_ble_eq_true rfl) (Nat.le_of_ble_eq_true rfl) hlocks (fun t _ h2 h3 => ⟨by rw [xX5_build, if_neg c_7], h2, h3⟩) (fun _ h => by cases h) (Nat.le_of_ble_eq_true rfl) (Nat.le_of_ble_eq_true rfl)
def fX5_setSlope (v : LV) (u : LV) (sp : Int32) (sl : Int32) : LV × LV :=
  (if (fX5_noSpan v u sp) = 0 then (if (fX5_outside sl (-3) 3) = 0 then (lSet v 0 sp sl, u) else (v, u)) else (v, u))
def xX5_setSlope (v : LV) (u : LV) (sp : Int32) (sl : Int32) : Option String :=
  (if (fX5_noSpan v u sp) = 0 then (if (fX5_outside sl (-3) 3) = 0 then none else some "java/lang/IllegalArgumentException") else some "java/lang/IndexOutOfBoundsException")
def rX5_setSlope (v : LV) (u : LV) (sp : Int32) (sl : Int32) : Int32 :=
  (if (fX5_noSpan v u sp) = 0 then (if (fX5_outside sl (-3) 3) = 0 then lAt v 0 sp else 0) else 0)
set_option maxHeartbeats 4000000 in
set_option maxRecDepth 100000 in
theorem c_X5_setSlope (l : Launch) (hst : l.stackTraces = false) (D : va_G) (cI : ClassId) (z0 : Nat) (A A2 : Nat → Nat) (hd : TDis z0 A A2) (v u : LV) (sp : Int32) (sl : Int32)  : vx_Met l yX5_setSlope wsX5_setSlope ({ frames := 6, cells := 1, slots := 6, locals := 100 }) (tr_PcX D cI [.ref z0, .int sp, .int sl] (TRB D cI z0 A A2 (v, u))) (tr_QX (xX5_setSlope v u sp sl) (some (.int (rX5_setSlope v u sp sl))) (TRB D cI z0 A A2 (fX5_setSlope v u sp sl)) (tOwn A A2)) (tr_XC (xX5_setSlope v u sp sl)) 1 6 (tOwn A A2) := by
  refine vx_ofW (cc := cX5_setSlope) (maxL := 4) (ret := (some .int)) (by decide) rfl ?_
  intro p e s m args below meth c s₁ B hml hnt hv
  obtain ⟨rfl, ⟨⟨hZ, hL, hO⟩, hK⟩, hXK⟩ := hv
  have hx := B.exec
  have hb := B.bytes
  have hr := B.returns
  have hts := atoms_spec (ws := wsX5_setSlope) B.pre
  have hown : s.vm.findClass RX5 = some m.cls := findClass_of_methodNamed B.named
  have hlocks := B.notSynchronized
  replace hL : LNE D cI A v s.heap := hL
  replace hO : LNE D cI A2 u s.heap := hO
  have hiX1 : ∀ w ∈ u_ws RX1 TX1 6, w ∈ wsX5_setSlope := by decide +kernel
  have hiX4 : ∀ w ∈ u_ws RX4 TX4 9, w ∈ wsX5_setSlope := by decide +kernel
  have hiX5 : ∀ w ∈ u_ws RX5 TX5 2, w ∈ wsX5_setSlope := by decide +kernel
  have ax27 := vx_hat (L := (vx_atS RX5 27 "java/lang/IllegalArgumentException" ["java/lang/RuntimeException", "java/lang/Exception"])) (B := tr_bad) (fun w h => hts w ((by decide +kernel : ∀ w ∈ (vx_atS RX5 27 "java/lang/IllegalArgumentException" ["java/lang/RuntimeException", "java/lang/Exception"]).filter goodWord, w ∈ wsX5_setSlope) w h)) (by decide +kernel) (fun w hw => va_tabs (tr_bad_t w hw) rfl (hXK.2.1 w hw))
  have ax75 := vx_hat (L := (vx_atS RX5 75 "java/lang/IndexOutOfBoundsException" ["java/lang/RuntimeException", "java/lang/Exception"])) (B := tr_bad) (fun w h => hts w ((by decide +kernel : ∀ w ∈ (vx_atS RX5 75 "java/lang/IndexOutOfBoundsException" ["java/lang/RuntimeException", "java/lang/Exception"]).filter goodWord, w ∈ wsX5_setSlope) w h)) (by decide +kernel) (fun w hw => va_tabs (tr_bad_t w hw) rfl (hXK.2.1 w hw))
  have f10 := hts (.fieldLink RX5 10 "TramRibbon" "line" "LTramRibbon$Line;") (by decide +kernel)
  have f45 := hts (.fieldLink RX5 45 "TramRibbon$Line" "wire" "LTramRibbon$Wire;") (by decide +kernel)
  have f78 := hts (.fieldLink RX5 78 "TramRibbon$Wire" "slope" "LTramRibbon$Row;") (by decide +kernel)
  have ix27 := hts (.initialized "java/lang/IllegalArgumentException") (by decide +kernel)
  have ix75 := hts (.initialized "java/lang/IndexOutOfBoundsException") (by decide +kernel)
  have kx27 := hts (.classLink RX5 23 "java/lang/IllegalArgumentException") (by decide +kernel)
  have kx75 := hts (.classLink RX5 71 "java/lang/IndexOutOfBoundsException") (by decide +kernel)
  have hl := lv_entry ([.ref z0, .int sp, .int sl]) (n := 4) (Nat.le_of_ble_eq_true rfl)
  rw [lg_entry_eq]
  generalize (lg_sl ([.ref z0, .int sp, .int sl]) ++ List.replicate (4 - (lg_sl ([.ref z0, .int sp, .int sl])).length) Slot.unset).toArray = ls at hl ⊢
  replace hl : lv_has ls 4 [(0, .ref z0), (1, .int sp), (2, .int sl)] := hl
  have hS : tr_S (tOwn A A2) s.heap s.heap [] := tr_S.rf
  refine lv_aload_n hx hb dX5_setSlope_0 rfl (lv_at hl 0 rfl) ?_
  refine lv_iload_n hx hb dX5_setSlope_1 rfl (lv_at hl 1 rfl) ?_
  refine tr_ri (va_runV (As := [.int sp]) (rest := []) ⟨hx, hb, hml, hown, hts⟩ (c_X5_noSpan l D cI z0 A A2 hd v u sp) (cwV 1 hts gX5_setSlope_X5_noSpan rfl rfl rfl (by decide +kernel) ⟨Nat.le_of_ble_eq_true rfl, Nat.le_of_ble_eq_true rfl⟩) (tr_preV hK hZ rfl ⟨hZ, hL, hO⟩) rfl rfl hl.1 rfl (lv_room (Nat.le_of_ble_eq_true rfl)) dX5_setSlope_2 ⟨Nat.zero_le _, Nat.zero_le _⟩) ?_
  refine lv_if_eq (tgt := 18) hx hb dX5_setSlope_5 (by decide) (fun c_5 => ?_) (fun c_5 => ?_)
  · refine lv_iload_n hx hb dX5_setSlope_18 rfl (lv_at hl 2 rfl) ?_
    refine lv_bipush (v := -3) hx hb dX5_setSlope_19 (by decide) ?_
    refine lv_iconst (v := 3) hx hb dX5_setSlope_21 (by decide) ?_
    refine tr_ri (va_runS (As := [.int sl, .int (-3), .int 3]) (rest := []) ⟨hx, hb, hml, hown, hts⟩ (c_X5_outside l D cI sl (-3) 3) (va_cwS 3 hts gX5_setSlope_X5_outside rfl rfl rfl (by decide +kernel) ⟨Nat.le_of_ble_eq_true rfl, Nat.le_of_ble_eq_true rfl⟩) (tr_preS hK trivial) rfl rfl hl.1 rfl (lv_room (Nat.le_of_ble_eq_true rfl)) dX5_setSlope_22 ⟨Nat.zero_le _, Nat.zero_le _⟩) ?_
    refine lv_if_eq (tgt := 38) hx hb dX5_setSlope_25 (by decide) (fun c_25 => ?_) (fun c_25 => ?_)
    · refine lv_aload_n hx hb dX5_setSlope_38 rfl (lv_at hl 0 rfl) ?_
      refine tr_get (ci := 5) (C := RX5) (T := TX5) (N := 2) hx hb hts hiX5 hown hK hZ rfl 0 (by decide) f10 (v := .ref (A 0)) rfl dX5_setSlope_39 ?_
      refine tr_get (ci := 1) (C := RX1) (T := TX1) (N := 6) hx hb hts hiX1 hown hK hL.c0 rfl 0 (by decide) f45 (v := .ref (A 1)) rfl dX5_setSlope_42 ?_
      refine tr_get (ci := 4) (C := RX4) (T := TX4) (N := 9) hx hb hts hiX4 hown hK hL.c1 rfl 2 (by decide) f78 (v := .ref (A 4)) rfl dX5_setSlope_45 ?_
      refine lv_iload_n hx hb dX5_setSlope_48 rfl (lv_at hl 1 rfl) ?_
      refine tr_ri (va_runV (As := [.int sp]) (rest := []) ⟨hx, hb, hml, hown, hts⟩ (c_lat l D cI A hd.1.1 v 0 (by decide) sp) (cwV 1 hts gX5_setSlope_X2_at rfl rfl rfl (by decide +kernel) ⟨Nat.le_of_ble_eq_true rfl, Nat.le_of_ble_eq_true rfl⟩) (tr_preV hK (hL.robj 0 (by decide)) rfl (hL.row 0 (by decide))) rfl rfl hl.1 rfl (lv_room (Nat.le_of_ble_eq_true rfl)) dX5_setSlope_49 ⟨Nat.zero_le _, Nat.zero_le _⟩) ?_
      refine lv_istore_n (lv' := [(3, .int (lAt v 0 sp)), (0, .ref z0), (1, .int sp), (2, .int sl)]) hx hb dX5_setSlope_52 rfl hl (by decide) rfl (fun ls hl => ?_)
      refine lv_aload_n hx hb dX5_setSlope_53 rfl (lv_at hl 1 rfl) ?_
      refine tr_get (ci := 5) (C := RX5) (T := TX5) (N := 2) hx hb hts hiX5 hown hK hZ rfl 0 (by decide) f10 (v := .ref (A 0)) rfl dX5_setSlope_54 ?_
      refine tr_get (ci := 1) (C := RX1) (T := TX1) (N := 6) hx hb hts hiX1 hown hK hL.c0 rfl 0 (by decide) f45 (v := .ref (A 1)) rfl dX5_setSlope_57 ?_
      refine tr_get (ci := 4) (C := RX4) (T := TX4) (N := 9) hx hb hts hiX4 hown hK hL.c1 rfl 2 (by decide) f78 (v := .ref (A 4)) rfl dX5_setSlope_60 ?_
      refine lv_iload_n hx hb dX5_setSlope_63 rfl (lv_at hl 2 rfl) ?_
      refine lv_iload_n hx hb dX5_setSlope_64 rfl (lv_at hl 3 rfl) ?_
      refine tr_wv (va_runV (As := [.int sp, .int sl]) (rest := []) ⟨hx, hb, hml, hown, hts⟩ (c_lset l D cI A hd.1.1 v 0 (by decide) sp sl) (cwV 2 hts gX5_setSlope_X2_set rfl rfl rfl (by decide +kernel) ⟨Nat.le_of_ble_eq_true rfl, Nat.le_of_ble_eq_true rfl⟩) (tr_preV hK (hL.robj 0 (by decide)) rfl hL) rfl rfl hl.1 rfl (lv_room (Nat.le_of_ble_eq_true rfl)) dX5_setSlope_65 ⟨Nat.zero_le _, Nat.zero_le _⟩) hS (fun _ h => Or.inl h) (fun H locs hL hz hk hS => ?_)
      replace hO := ln_keepO hd.1 hO hk
      replace hZ := rb_keep1 hd hZ hk
      clear hk hz
      refine lv_iload_n hx hb dX5_setSlope_68 rfl (lv_at hl 0 rfl) ?_
      refine vx_ret (W.widen (k := 1) (n := 6) (Nat.zero_le _) (Nat.zero_le _) ?_)
      exact W.iret hx hb hr (fun t h1 h2 => ⟨(by rw [xX5_setSlope, if_pos c_5, if_pos c_25]), hS.endr (by rw [rX5_setSlope, if_pos c_5, if_pos c_25]) (by rw [fX5_setSlope, if_pos c_5, if_pos c_25]; exact ⟨hZ, hL, hO⟩) t h1 h2⟩) hS.2.2 dX5_setSlope_69
    · obtain ⟨sa, hsa⟩ := hXK.1 (76, "slope is not -3 to 3") (by decide +kernel)
      exact vx_throwS (cls := "java/lang/IllegalArgumentException") (names := ["java/lang/RuntimeException", "java/lang/Exception"]) (ik := 23) (ic := 27) (A := fun _ => False) hx hb hst hown (by decide +kernel) (by decide +kernel) kx27 ix27 hsa ax27 (by decide +kernel) hXK.2.2.1 hXK.2.2.2 va_S.rf (by rw [hml]; exact hl.1) dX5_setSlope_28 dX5_setSlope_31 dX5_setSlope_32 dX5_setSlope_34 dX5_setSlope_37 (fun x h => (hnt x h).elim) (Nat.le_of_ble_eq_true rfl) (Nat.le_of_ble_eq_true rfl) (Nat.le_of_ble_eq_true rfl) (Nat.le_of_ble_eq_true rfl) hlocks (fun t _ h2 h3 => ⟨by rw [xX5_setSlope, if_pos c_5, if_neg c_25], h2, h3⟩) (fun _ h => by cases h) (Nat.le_of_ble_eq_true rfl) (Nat.le_of_ble_eq_true rfl)
  · obtain ⟨sa, hsa⟩ := hXK.1 (73, "there is no such span") (by decide +kernel)
    exact vx_throwS (cls := "java/lang/IndexOutOfBoundsException") (names := ["java/lang/RuntimeException", "java/lang/Exception"]) (ik := 71) (ic := 75) (A := fun _ => False) hx hb hst hown (by decide +kernel) (by decide +kernel) kx75 ix75 hsa ax75 (by decide +kernel) hXK.2.2.1 hXK.2.2.2 va_S.rf (by rw [hml]; exact hl.1) dX5_setSlope_8 dX5_setSlope_11 dX5_setSlope_12 dX5_setSlope_14 dX5_setSlope_17 (fun x h => (hnt x h).elim) (Nat.le_of_ble_eq_true rfl) (Nat.le_of_ble_eq_true rfl) (Nat.le_of_ble_eq_true rfl) (Nat.le_of_ble_eq_true rfl) hlocks (fun t _ h2 h3 => ⟨by rw [xX5_setSlope, if_neg c_5], h2, h3⟩) (fun _ h => by cases h) (Nat.le_of_ble_eq_true rfl) (Nat.le_of_ble_eq_true rfl)
def fX5_cut (v : LV) (u : LV) (po : Int32) : LV × LV :=
  (if (fX5_noPole v u po) = 0 then (if (fX4_canInsulate v po) = 0 then (v, u) else (fX4_insulate v po, u)) else (v, u))
def xX5_cut (v : LV) (u : LV) (po : Int32) : Option String :=
  (if (fX5_noPole v u po) = 0 then (if (fX4_canInsulate v po) = 0 then some "java/lang/IllegalStateException" else none) else some "java/lang/IndexOutOfBoundsException")
def rX5_cut (v : LV) (u : LV) (po : Int32) : Int32 :=
  (if (fX5_noPole v u po) = 0 then (if (fX4_canInsulate v po) = 0 then 0 else (fX4_insulate v po).1 1) else 0)
set_option maxHeartbeats 4000000 in
set_option maxRecDepth 100000 in
theorem c_X5_cut (l : Launch) (hst : l.stackTraces = false) (D : va_G) (cI : ClassId) (z0 : Nat) (A A2 : Nat → Nat) (hd : TDis z0 A A2) (v u : LV) (po : Int32)  : vx_Met l yX5_cut wsX5_cut ({ frames := 6, cells := 1, slots := 6, locals := 100 }) (tr_PcX D cI [.ref z0, .int po] (TRB D cI z0 A A2 (v, u))) (tr_QX (xX5_cut v u po) (some (.int (rX5_cut v u po))) (TRB D cI z0 A A2 (fX5_cut v u po)) (tOwn A A2)) (tr_XC (xX5_cut v u po)) 1 6 (tOwn A A2) := by
  refine vx_ofW (cc := cX5_cut) (maxL := 2) (ret := (some .int)) (by decide) rfl ?_
  intro p e s m args below meth c s₁ B hml hnt hv
  obtain ⟨rfl, ⟨⟨hZ, hL, hO⟩, hK⟩, hXK⟩ := hv
  have hx := B.exec
  have hb := B.bytes
  have hr := B.returns
  have hts := atoms_spec (ws := wsX5_cut) B.pre
  have hown : s.vm.findClass RX5 = some m.cls := findClass_of_methodNamed B.named
  have hlocks := B.notSynchronized
  replace hL : LNE D cI A v s.heap := hL
  replace hO : LNE D cI A2 u s.heap := hO
  have hiX1 : ∀ w ∈ u_ws RX1 TX1 6, w ∈ wsX5_cut := by decide +kernel
  have hiX4 : ∀ w ∈ u_ws RX4 TX4 9, w ∈ wsX5_cut := by decide +kernel
  have hiX5 : ∀ w ∈ u_ws RX5 TX5 2, w ∈ wsX5_cut := by decide +kernel
  have ax44 := vx_hat (L := (vx_atS RX5 44 "java/lang/IllegalStateException" ["java/lang/RuntimeException", "java/lang/Exception"])) (B := tr_bad) (fun w h => hts w ((by decide +kernel : ∀ w ∈ (vx_atS RX5 44 "java/lang/IllegalStateException" ["java/lang/RuntimeException", "java/lang/Exception"]).filter goodWord, w ∈ wsX5_cut) w h)) (by decide +kernel) (fun w hw => va_tabs (tr_bad_t w hw) rfl (hXK.2.1 w hw))
  have ax75 := vx_hat (L := (vx_atS RX5 75 "java/lang/IndexOutOfBoundsException" ["java/lang/RuntimeException", "java/lang/Exception"])) (B := tr_bad) (fun w h => hts w ((by decide +kernel : ∀ w ∈ (vx_atS RX5 75 "java/lang/IndexOutOfBoundsException" ["java/lang/RuntimeException", "java/lang/Exception"]).filter goodWord, w ∈ wsX5_cut) w h)) (by decide +kernel) (fun w hw => va_tabs (tr_bad_t w hw) rfl (hXK.2.1 w hw))
  have f10 := hts (.fieldLink RX5 10 "TramRibbon" "line" "LTramRibbon$Line;") (by decide +kernel)
  have f105 := hts (.fieldLink RX5 105 "TramRibbon$Wire" "sections" "I") (by decide +kernel)
  have f45 := hts (.fieldLink RX5 45 "TramRibbon$Line" "wire" "LTramRibbon$Wire;") (by decide +kernel)
  have ix44 := hts (.initialized "java/lang/IllegalStateException") (by decide +kernel)
  have ix75 := hts (.initialized "java/lang/IndexOutOfBoundsException") (by decide +kernel)
  have kx44 := hts (.classLink RX5 40 "java/lang/IllegalStateException") (by decide +kernel)
  have kx75 := hts (.classLink RX5 71 "java/lang/IndexOutOfBoundsException") (by decide +kernel)
  have hl := lv_entry ([.ref z0, .int po]) (n := 2) (Nat.le_of_ble_eq_true rfl)
  rw [lg_entry_eq]
  generalize (lg_sl ([.ref z0, .int po]) ++ List.replicate (2 - (lg_sl ([.ref z0, .int po])).length) Slot.unset).toArray = ls at hl ⊢
  replace hl : lv_has ls 2 [(0, .ref z0), (1, .int po)] := hl
  have hS : tr_S (tOwn A A2) s.heap s.heap [] := tr_S.rf
  refine lv_aload_n hx hb dX5_cut_0 rfl (lv_at hl 0 rfl) ?_
  refine lv_iload_n hx hb dX5_cut_1 rfl (lv_at hl 1 rfl) ?_
  refine tr_ri (va_runV (As := [.int po]) (rest := []) ⟨hx, hb, hml, hown, hts⟩ (c_X5_noPole l D cI z0 A A2 hd v u po) (cwV 1 hts gX5_cut_X5_noPole rfl rfl rfl (by decide +kernel) ⟨Nat.le_of_ble_eq_true rfl, Nat.le_of_ble_eq_true rfl⟩) (tr_preV hK hZ rfl ⟨hZ, hL, hO⟩) rfl rfl hl.1 rfl (lv_room (Nat.le_of_ble_eq_true rfl)) dX5_cut_2 ⟨Nat.zero_le _, Nat.zero_le _⟩) ?_
  refine lv_if_eq (tgt := 18) hx hb dX5_cut_5 (by decide) (fun c_5 => ?_) (fun c_5 => ?_)
  · refine lv_aload_n hx hb dX5_cut_18 rfl (lv_at hl 0 rfl) ?_
    refine tr_get (ci := 5) (C := RX5) (T := TX5) (N := 2) hx hb hts hiX5 hown hK hZ rfl 0 (by decide) f10 (v := .ref (A 0)) rfl dX5_cut_19 ?_
    refine tr_get (ci := 1) (C := RX1) (T := TX1) (N := 6) hx hb hts hiX1 hown hK hL.c0 rfl 0 (by decide) f45 (v := .ref (A 1)) rfl dX5_cut_22 ?_
    refine lv_iload_n hx hb dX5_cut_25 rfl (lv_at hl 1 rfl) ?_
    refine tr_ri (va_runV (As := [.int po]) (rest := []) ⟨hx, hb, hml, hown, hts⟩ (c_X4_canInsulate l D cI A hd.1.1 v po) (cwV 1 hts gX5_cut_X4_canInsulate rfl rfl rfl (by decide +kernel) ⟨Nat.le_of_ble_eq_true rfl, Nat.le_of_ble_eq_true rfl⟩) (tr_preV hK hL.c1 rfl hL) rfl rfl hl.1 rfl (lv_room (Nat.le_of_ble_eq_true rfl)) dX5_cut_26 ⟨Nat.zero_le _, Nat.zero_le _⟩) ?_
    refine lv_if_ne (tgt := 42) hx hb dX5_cut_29 (by decide) (fun c_29 => ?_) (fun c_29 => ?_)
    · refine lv_aload_n hx hb dX5_cut_42 rfl (lv_at hl 0 rfl) ?_
      refine tr_get (ci := 5) (C := RX5) (T := TX5) (N := 2) hx hb hts hiX5 hown hK hZ rfl 0 (by decide) f10 (v := .ref (A 0)) rfl dX5_cut_43 ?_
      refine tr_get (ci := 1) (C := RX1) (T := TX1) (N := 6) hx hb hts hiX1 hown hK hL.c0 rfl 0 (by decide) f45 (v := .ref (A 1)) rfl dX5_cut_46 ?_
      refine lv_iload_n hx hb dX5_cut_49 rfl (lv_at hl 1 rfl) ?_
      refine tr_wv (va_runV (As := [.int po]) (rest := []) ⟨hx, hb, hml, hown, hts⟩ (c_X4_insulate l D cI A hd.1.1 v po) (cwV 1 hts gX5_cut_X4_insulate rfl rfl rfl (by decide +kernel) ⟨Nat.le_of_ble_eq_true rfl, Nat.le_of_ble_eq_true rfl⟩) (tr_preV hK hL.c1 rfl hL) rfl rfl hl.1 rfl (lv_room (Nat.le_of_ble_eq_true rfl)) dX5_cut_50 ⟨Nat.zero_le _, Nat.zero_le _⟩) hS (fun _ h => Or.inl h) (fun H locs hL hz hk hS => ?_)
      replace hO := ln_keepO hd.1 hO hk
      replace hZ := rb_keep1 hd hZ hk
      clear hk hz
      refine lv_aload_n hx hb dX5_cut_53 rfl (lv_at hl 0 rfl) ?_
      refine tr_get (ci := 5) (C := RX5) (T := TX5) (N := 2) hx hb hts hiX5 hown hK hZ rfl 0 (by decide) f10 (v := .ref (A 0)) rfl dX5_cut_54 ?_
      refine tr_get (ci := 1) (C := RX1) (T := TX1) (N := 6) hx hb hts hiX1 hown hK hL.c0 rfl 0 (by decide) f45 (v := .ref (A 1)) rfl dX5_cut_57 ?_
      refine tr_get (ci := 4) (C := RX4) (T := TX4) (N := 9) hx hb hts hiX4 hown hK hL.c1 rfl 1 (by decide) f105 (v := .int ((fX4_insulate v po).1 1)) rfl dX5_cut_60 ?_
      refine vx_ret (W.widen (k := 1) (n := 6) (Nat.zero_le _) (Nat.zero_le _) ?_)
      exact W.iret hx hb hr (fun t h1 h2 => ⟨(by rw [xX5_cut, if_pos c_5, if_neg c_29]), hS.endr (by rw [rX5_cut, if_pos c_5, if_neg c_29]) (by rw [fX5_cut, if_pos c_5, if_neg c_29]; exact ⟨hZ, hL, hO⟩) t h1 h2⟩) hS.2.2 dX5_cut_63
    · obtain ⟨sa, hsa⟩ := hXK.1 (100, "it is the first or the last one, or there is an insulator") (by decide +kernel)
      exact vx_throwS (cls := "java/lang/IllegalStateException") (names := ["java/lang/RuntimeException", "java/lang/Exception"]) (ik := 40) (ic := 44) (A := fun _ => False) hx hb hst hown (by decide +kernel) (by decide +kernel) kx44 ix44 hsa ax44 (by decide +kernel) hXK.2.2.1 hXK.2.2.2 va_S.rf (by rw [hml]; exact hl.1) dX5_cut_32 dX5_cut_35 dX5_cut_36 dX5_cut_38 dX5_cut_41 (fun x h => (hnt x h).elim) (Nat.le_of_ble_eq_true rfl) (Nat.le_of_ble_eq_true rfl) (Nat.le_of_ble_eq_true rfl) (Nat.le_of_ble_eq_true rfl) hlocks (fun t _ h2 h3 => ⟨by rw [xX5_cut, if_pos c_5, if_pos c_29], h2, h3⟩) (fun _ h => by cases h) (Nat.le_of_ble_eq_true rfl) (Nat.le_of_ble_eq_true rfl)
  · obtain ⟨sa, hsa⟩ := hXK.1 (95, "there is no such pole") (by decide +kernel)
    exact vx_throwS (cls := "java/lang/IndexOutOfBoundsException") (names := ["java/lang/RuntimeException", "java/lang/Exception"]) (ik := 71) (ic := 75) (A := fun _ => False) hx hb hst hown (by decide +kernel) (by decide +kernel) kx75 ix75 hsa ax75 (by decide +kernel) hXK.2.2.1 hXK.2.2.2 va_S.rf (by rw [hml]; exact hl.1) dX5_cut_8 dX5_cut_11 dX5_cut_12 dX5_cut_14 dX5_cut_17 (fun x h => (hnt x h).elim) (Nat.le_of_ble_eq_true rfl) (Nat.le_of_ble_eq_true rfl) (Nat.le_of_ble_eq_true rfl) (Nat.le_of_ble_eq_true rfl) hlocks (fun t _ h2 h3 => ⟨by rw [xX5_cut, if_neg c_5], h2, h3⟩) (fun _ h => by cases h) (Nat.le_of_ble_eq_true rfl) (Nat.le_of_ble_eq_true rfl)
def fX5_setBound (v : LV) (u : LV) (q : Int32) (bo : Int32) : LV × LV :=
  (if (fX5_noSection v u q) = 0 then (if (fX5_outside bo 1 60) = 0 then (lSet v 3 q bo, u) else (v, u)) else (v, u))
def xX5_setBound (v : LV) (u : LV) (q : Int32) (bo : Int32) : Option String :=
  (if (fX5_noSection v u q) = 0 then (if (fX5_outside bo 1 60) = 0 then none else some "java/lang/IllegalArgumentException") else some "java/lang/IndexOutOfBoundsException")
def rX5_setBound (v : LV) (u : LV) (q : Int32) (bo : Int32) : Int32 :=
  (if (fX5_noSection v u q) = 0 then (if (fX5_outside bo 1 60) = 0 then lAt v 3 q else 0) else 0)
set_option maxHeartbeats 4000000 in
set_option maxRecDepth 100000 in
theorem c_X5_setBound (l : Launch) (hst : l.stackTraces = false) (D : va_G) (cI : ClassId) (z0 : Nat) (A A2 : Nat → Nat) (hd : TDis z0 A A2) (v u : LV) (q : Int32) (bo : Int32)  : vx_Met l yX5_setBound wsX5_setBound ({ frames := 6, cells := 1, slots := 6, locals := 100 }) (tr_PcX D cI [.ref z0, .int q, .int bo] (TRB D cI z0 A A2 (v, u))) (tr_QX (xX5_setBound v u q bo) (some (.int (rX5_setBound v u q bo))) (TRB D cI z0 A A2 (fX5_setBound v u q bo)) (tOwn A A2)) (tr_XC (xX5_setBound v u q bo)) 1 6 (tOwn A A2) := by
  refine vx_ofW (cc := cX5_setBound) (maxL := 4) (ret := (some .int)) (by decide) rfl ?_
  intro p e s m args below meth c s₁ B hml hnt hv
  obtain ⟨rfl, ⟨⟨hZ, hL, hO⟩, hK⟩, hXK⟩ := hv
  have hx := B.exec
  have hb := B.bytes
  have hr := B.returns
  have hts := atoms_spec (ws := wsX5_setBound) B.pre
  have hown : s.vm.findClass RX5 = some m.cls := findClass_of_methodNamed B.named
  have hlocks := B.notSynchronized
  replace hL : LNE D cI A v s.heap := hL
  replace hO : LNE D cI A2 u s.heap := hO
  have hiX1 : ∀ w ∈ u_ws RX1 TX1 6, w ∈ wsX5_setBound := by decide +kernel
  have hiX4 : ∀ w ∈ u_ws RX4 TX4 9, w ∈ wsX5_setBound := by decide +kernel
  have hiX5 : ∀ w ∈ u_ws RX5 TX5 2, w ∈ wsX5_setBound := by decide +kernel
  have ax27 := vx_hat (L := (vx_atS RX5 27 "java/lang/IllegalArgumentException" ["java/lang/RuntimeException", "java/lang/Exception"])) (B := tr_bad) (fun w h => hts w ((by decide +kernel : ∀ w ∈ (vx_atS RX5 27 "java/lang/IllegalArgumentException" ["java/lang/RuntimeException", "java/lang/Exception"]).filter goodWord, w ∈ wsX5_setBound) w h)) (by decide +kernel) (fun w hw => va_tabs (tr_bad_t w hw) rfl (hXK.2.1 w hw))
  have ax75 := vx_hat (L := (vx_atS RX5 75 "java/lang/IndexOutOfBoundsException" ["java/lang/RuntimeException", "java/lang/Exception"])) (B := tr_bad) (fun w h => hts w ((by decide +kernel : ∀ w ∈ (vx_atS RX5 75 "java/lang/IndexOutOfBoundsException" ["java/lang/RuntimeException", "java/lang/Exception"]).filter goodWord, w ∈ wsX5_setBound) w h)) (by decide +kernel) (fun w hw => va_tabs (tr_bad_t w hw) rfl (hXK.2.1 w hw))
  have f10 := hts (.fieldLink RX5 10 "TramRibbon" "line" "LTramRibbon$Line;") (by decide +kernel)
  have f115 := hts (.fieldLink RX5 115 "TramRibbon$Wire" "bound" "LTramRibbon$Row;") (by decide +kernel)
  have f45 := hts (.fieldLink RX5 45 "TramRibbon$Line" "wire" "LTramRibbon$Wire;") (by decide +kernel)
  have ix27 := hts (.initialized "java/lang/IllegalArgumentException") (by decide +kernel)
  have ix75 := hts (.initialized "java/lang/IndexOutOfBoundsException") (by decide +kernel)
  have kx27 := hts (.classLink RX5 23 "java/lang/IllegalArgumentException") (by decide +kernel)
  have kx75 := hts (.classLink RX5 71 "java/lang/IndexOutOfBoundsException") (by decide +kernel)
  have hl := lv_entry ([.ref z0, .int q, .int bo]) (n := 4) (Nat.le_of_ble_eq_true rfl)
  rw [lg_entry_eq]
  generalize (lg_sl ([.ref z0, .int q, .int bo]) ++ List.replicate (4 - (lg_sl ([.ref z0, .int q, .int bo])).length) Slot.unset).toArray = ls at hl ⊢
  replace hl : lv_has ls 4 [(0, .ref z0), (1, .int q), (2, .int bo)] := hl
  have hS : tr_S (tOwn A A2) s.heap s.heap [] := tr_S.rf
  refine lv_aload_n hx hb dX5_setBound_0 rfl (lv_at hl 0 rfl) ?_
  refine lv_iload_n hx hb dX5_setBound_1 rfl (lv_at hl 1 rfl) ?_
  refine tr_ri (va_runV (As := [.int q]) (rest := []) ⟨hx, hb, hml, hown, hts⟩ (c_X5_noSection l D cI z0 A A2 hd v u q) (cwV 1 hts gX5_setBound_X5_noSection rfl rfl rfl (by decide +kernel) ⟨Nat.le_of_ble_eq_true rfl, Nat.le_of_ble_eq_true rfl⟩) (tr_preV hK hZ rfl ⟨hZ, hL, hO⟩) rfl rfl hl.1 rfl (lv_room (Nat.le_of_ble_eq_true rfl)) dX5_setBound_2 ⟨Nat.zero_le _, Nat.zero_le _⟩) ?_
  refine lv_if_eq (tgt := 18) hx hb dX5_setBound_5 (by decide) (fun c_5 => ?_) (fun c_5 => ?_)
  · refine lv_iload_n hx hb dX5_setBound_18 rfl (lv_at hl 2 rfl) ?_
    refine lv_iconst (v := 1) hx hb dX5_setBound_19 (by decide) ?_
    refine lv_bipush (v := 60) hx hb dX5_setBound_20 (by decide) ?_
    refine tr_ri (va_runS (As := [.int bo, .int 1, .int 60]) (rest := []) ⟨hx, hb, hml, hown, hts⟩ (c_X5_outside l D cI bo 1 60) (va_cwS 3 hts gX5_setBound_X5_outside rfl rfl rfl (by decide +kernel) ⟨Nat.le_of_ble_eq_true rfl, Nat.le_of_ble_eq_true rfl⟩) (tr_preS hK trivial) rfl rfl hl.1 rfl (lv_room (Nat.le_of_ble_eq_true rfl)) dX5_setBound_22 ⟨Nat.zero_le _, Nat.zero_le _⟩) ?_
    refine lv_if_eq (tgt := 38) hx hb dX5_setBound_25 (by decide) (fun c_25 => ?_) (fun c_25 => ?_)
    · refine lv_aload_n hx hb dX5_setBound_38 rfl (lv_at hl 0 rfl) ?_
      refine tr_get (ci := 5) (C := RX5) (T := TX5) (N := 2) hx hb hts hiX5 hown hK hZ rfl 0 (by decide) f10 (v := .ref (A 0)) rfl dX5_setBound_39 ?_
      refine tr_get (ci := 1) (C := RX1) (T := TX1) (N := 6) hx hb hts hiX1 hown hK hL.c0 rfl 0 (by decide) f45 (v := .ref (A 1)) rfl dX5_setBound_42 ?_
      refine tr_get (ci := 4) (C := RX4) (T := TX4) (N := 9) hx hb hts hiX4 hown hK hL.c1 rfl 5 (by decide) f115 (v := .ref (A 10)) rfl dX5_setBound_45 ?_
      refine lv_iload_n hx hb dX5_setBound_48 rfl (lv_at hl 1 rfl) ?_
      refine tr_ri (va_runV (As := [.int q]) (rest := []) ⟨hx, hb, hml, hown, hts⟩ (c_lat l D cI A hd.1.1 v 3 (by decide) q) (cwV 1 hts gX5_setBound_X2_at rfl rfl rfl (by decide +kernel) ⟨Nat.le_of_ble_eq_true rfl, Nat.le_of_ble_eq_true rfl⟩) (tr_preV hK (hL.robj 3 (by decide)) rfl (hL.row 3 (by decide))) rfl rfl hl.1 rfl (lv_room (Nat.le_of_ble_eq_true rfl)) dX5_setBound_49 ⟨Nat.zero_le _, Nat.zero_le _⟩) ?_
      refine lv_istore_n (lv' := [(3, .int (lAt v 3 q)), (0, .ref z0), (1, .int q), (2, .int bo)]) hx hb dX5_setBound_52 rfl hl (by decide) rfl (fun ls hl => ?_)
      refine lv_aload_n hx hb dX5_setBound_53 rfl (lv_at hl 1 rfl) ?_
      refine tr_get (ci := 5) (C := RX5) (T := TX5) (N := 2) hx hb hts hiX5 hown hK hZ rfl 0 (by decide) f10 (v := .ref (A 0)) rfl dX5_setBound_54 ?_
      refine tr_get (ci := 1) (C := RX1) (T := TX1) (N := 6) hx hb hts hiX1 hown hK hL.c0 rfl 0 (by decide) f45 (v := .ref (A 1)) rfl dX5_setBound_57 ?_
      refine tr_get (ci := 4) (C := RX4) (T := TX4) (N := 9) hx hb hts hiX4 hown hK hL.c1 rfl 5 (by decide) f115 (v := .ref (A 10)) rfl dX5_setBound_60 ?_
      refine lv_iload_n hx hb dX5_setBound_63 rfl (lv_at hl 2 rfl) ?_
      refine lv_iload_n hx hb dX5_setBound_64 rfl (lv_at hl 3 rfl) ?_
      refine tr_wv (va_runV (As := [.int q, .int bo]) (rest := []) ⟨hx, hb, hml, hown, hts⟩ (c_lset l D cI A hd.1.1 v 3 (by decide) q bo) (cwV 2 hts gX5_setBound_X2_set rfl rfl rfl (by decide +kernel) ⟨Nat.le_of_ble_eq_true rfl, Nat.le_of_ble_eq_true rfl⟩) (tr_preV hK (hL.robj 3 (by decide)) rfl hL) rfl rfl hl.1 rfl (lv_room (Nat.le_of_ble_eq_true rfl)) dX5_setBound_65 ⟨Nat.zero_le _, Nat.zero_le _⟩) hS (fun _ h => Or.inl h) (fun H locs hL hz hk hS => ?_)
      replace hO := ln_keepO hd.1 hO hk
      replace hZ := rb_keep1 hd hZ hk
      clear hk hz
      refine lv_iload_n hx hb dX5_setBound_68 rfl (lv_at hl 0 rfl) ?_
      refine vx_ret (W.widen (k := 1) (n := 6) (Nat.zero_le _) (Nat.zero_le _) ?_)
      exact W.iret hx hb hr (fun t h1 h2 => ⟨(by rw [xX5_setBound, if_pos c_5, if_pos c_25]), hS.endr (by rw [rX5_setBound, if_pos c_5, if_pos c_25]) (by rw [fX5_setBound, if_pos c_5, if_pos c_25]; exact ⟨hZ, hL, hO⟩) t h1 h2⟩) hS.2.2 dX5_setBound_69
    · obtain ⟨sa, hsa⟩ := hXK.1 (113, "bound is not 1 to 60") (by decide +kernel)
      exact vx_throwS (cls := "java/lang/IllegalArgumentException") (names := ["java/lang/RuntimeException", "java/lang/Exception"]) (ik := 23) (ic := 27) (A := fun _ => False) hx hb hst hown (by decide +kernel) (by decide +kernel) kx27 ix27 hsa ax27 (by decide +kernel) hXK.2.2.1 hXK.2.2.2 va_S.rf (by rw [hml]; exact hl.1) dX5_setBound_28 dX5_setBound_31 dX5_setBound_32 dX5_setBound_34 dX5_setBound_37 (fun x h => (hnt x h).elim) (Nat.le_of_ble_eq_true rfl) (Nat.le_of_ble_eq_true rfl) (Nat.le_of_ble_eq_true rfl) (Nat.le_of_ble_eq_true rfl) hlocks (fun t _ h2 h3 => ⟨by rw [xX5_setBound, if_pos c_5, if_neg c_25], h2, h3⟩) (fun _ h => by cases h) (Nat.le_of_ble_eq_true rfl) (Nat.le_of_ble_eq_true rfl)
  · obtain ⟨sa, hsa⟩ := hXK.1 (111, "there is no such section") (by decide +kernel)
    exact vx_throwS (cls := "java/lang/IndexOutOfBoundsException") (names := ["java/lang/RuntimeException", "java/lang/Exception"]) (ik := 71) (ic := 75) (A := fun _ => False) hx hb hst hown (by decide +kernel) (by decide +kernel) kx75 ix75 hsa ax75 (by decide +kernel) hXK.2.2.1 hXK.2.2.2 va_S.rf (by rw [hml]; exact hl.1) dX5_setBound_8 dX5_setBound_11 dX5_setBound_12 dX5_setBound_14 dX5_setBound_17 (fun x h => (hnt x h).elim) (Nat.le_of_ble_eq_true rfl) (Nat.le_of_ble_eq_true rfl) (Nat.le_of_ble_eq_true rfl) (Nat.le_of_ble_eq_true rfl) hlocks (fun t _ h2 h3 => ⟨by rw [xX5_setBound, if_neg c_5], h2, h3⟩) (fun _ h => by cases h) (Nat.le_of_ble_eq_true rfl) (Nat.le_of_ble_eq_true rfl)
def fX5_depot (v : LV) (u : LV) (po : Int32) (nn : Int32) : LV × LV :=
  (if (fX5_noPole v u po) = 0 then (if (fX5_outside nn 0 9) = 0 then (if ((aMax 0 (lAt v 8 po)) + nn) ≤ 9 then (lSet v 8 po ((aMax 0 (lAt v 8 po)) + nn), u) else (v, u)) else (v, u)) else (v, u))
def xX5_depot (v : LV) (u : LV) (po : Int32) (nn : Int32) : Option String :=
  (if (fX5_noPole v u po) = 0 then (if (fX5_outside nn 0 9) = 0 then (if ((aMax 0 (lAt v 8 po)) + nn) ≤ 9 then none else some "java/lang/IllegalStateException") else some "java/lang/IllegalArgumentException") else some "java/lang/IndexOutOfBoundsException")
def rX5_depot (v : LV) (u : LV) (po : Int32) (nn : Int32) : Int32 :=
  (if (fX5_noPole v u po) = 0 then (if (fX5_outside nn 0 9) = 0 then (if ((aMax 0 (lAt v 8 po)) + nn) ≤ 9 then (aMax 0 (lAt v 8 po)) + nn else 0) else 0) else 0)
set_option maxHeartbeats 4000000 in
set_option maxRecDepth 100000 in
theorem c_X5_depot (l : Launch) (hst : l.stackTraces = false) (D : va_G) (cI : ClassId) (z0 : Nat) (A A2 : Nat → Nat) (hd : TDis z0 A A2) (v u : LV) (po : Int32) (nn : Int32)  : vx_Met l yX5_depot wsX5_depot ({ frames := 6, cells := 1, slots := 6, locals := 100 }) (tr_PcX D cI [.ref z0, .int po, .int nn] (TRB D cI z0 A A2 (v, u))) (tr_QX (xX5_depot v u po nn) (some (.int (rX5_depot v u po nn))) (TRB D cI z0 A A2 (fX5_depot v u po nn)) (tOwn A A2)) (tr_XC (xX5_depot v u po nn)) 1 6 (tOwn A A2) := by
  refine vx_ofW (cc := cX5_depot) (maxL := 4) (ret := (some .int)) (by decide) rfl ?_
  intro p e s m args below meth c s₁ B hml hnt hv
  obtain ⟨rfl, ⟨⟨hZ, hL, hO⟩, hK⟩, hXK⟩ := hv
  have hx := B.exec
  have hb := B.bytes
  have hr := B.returns
  have hts := atoms_spec (ws := wsX5_depot) B.pre
  have hown : s.vm.findClass RX5 = some m.cls := findClass_of_methodNamed B.named
  have hlocks := B.notSynchronized
  replace hL : LNE D cI A v s.heap := hL
  replace hO : LNE D cI A2 u s.heap := hO
  have hiX1 : ∀ w ∈ u_ws RX1 TX1 6, w ∈ wsX5_depot := by decide +kernel
  have hiX3 : ∀ w ∈ u_ws RX3 TX3 2, w ∈ wsX5_depot := by decide +kernel
  have hiX5 : ∀ w ∈ u_ws RX5 TX5 2, w ∈ wsX5_depot := by decide +kernel
  have ax27 := vx_hat (L := (vx_atS RX5 27 "java/lang/IllegalArgumentException" ["java/lang/RuntimeException", "java/lang/Exception"])) (B := tr_bad) (fun w h => hts w ((by decide +kernel : ∀ w ∈ (vx_atS RX5 27 "java/lang/IllegalArgumentException" ["java/lang/RuntimeException", "java/lang/Exception"]).filter goodWord, w ∈ wsX5_depot) w h)) (by decide +kernel) (fun w hw => va_tabs (tr_bad_t w hw) rfl (hXK.2.1 w hw))
  have ax44 := vx_hat (L := (vx_atS RX5 44 "java/lang/IllegalStateException" ["java/lang/RuntimeException", "java/lang/Exception"])) (B := tr_bad) (fun w h => hts w ((by decide +kernel : ∀ w ∈ (vx_atS RX5 44 "java/lang/IllegalStateException" ["java/lang/RuntimeException", "java/lang/Exception"]).filter goodWord, w ∈ wsX5_depot) w h)) (by decide +kernel) (fun w hw => va_tabs (tr_bad_t w hw) rfl (hXK.2.1 w hw))
  have ax75 := vx_hat (L := (vx_atS RX5 75 "java/lang/IndexOutOfBoundsException" ["java/lang/RuntimeException", "java/lang/Exception"])) (B := tr_bad) (fun w h => hts w ((by decide +kernel : ∀ w ∈ (vx_atS RX5 75 "java/lang/IndexOutOfBoundsException" ["java/lang/RuntimeException", "java/lang/Exception"]).filter goodWord, w ∈ wsX5_depot) w h)) (by decide +kernel) (fun w hw => va_tabs (tr_bad_t w hw) rfl (hXK.2.1 w hw))
  have f10 := hts (.fieldLink RX5 10 "TramRibbon" "line" "LTramRibbon$Line;") (by decide +kernel)
  have f120 := hts (.fieldLink RX5 120 "TramRibbon$Stops" "spares" "LTramRibbon$Row;") (by decide +kernel)
  have f58 := hts (.fieldLink RX5 58 "TramRibbon$Line" "stops" "LTramRibbon$Stops;") (by decide +kernel)
  have ix27 := hts (.initialized "java/lang/IllegalArgumentException") (by decide +kernel)
  have ix44 := hts (.initialized "java/lang/IllegalStateException") (by decide +kernel)
  have ix75 := hts (.initialized "java/lang/IndexOutOfBoundsException") (by decide +kernel)
  have kx27 := hts (.classLink RX5 23 "java/lang/IllegalArgumentException") (by decide +kernel)
  have kx44 := hts (.classLink RX5 40 "java/lang/IllegalStateException") (by decide +kernel)
  have kx75 := hts (.classLink RX5 71 "java/lang/IndexOutOfBoundsException") (by decide +kernel)
  have mC_max := hts (.code Lib.Math.max.name Lib.Math.max.code 2 (some .int)) (by decide +kernel)
  have mI := hts (.initialized "java/lang/Math") (by decide +kernel)
  have mL123 := hts (.methodLink RX5 123 Lib.Math.max.name) (by decide +kernel)
  have mS_max := hts (.static Lib.Math.max.name) (by decide +kernel)
  have hl := lv_entry ([.ref z0, .int po, .int nn]) (n := 4) (Nat.le_of_ble_eq_true rfl)
  rw [lg_entry_eq]
  generalize (lg_sl ([.ref z0, .int po, .int nn]) ++ List.replicate (4 - (lg_sl ([.ref z0, .int po, .int nn])).length) Slot.unset).toArray = ls at hl ⊢
  replace hl : lv_has ls 4 [(0, .ref z0), (1, .int po), (2, .int nn)] := hl
  have hS : tr_S (tOwn A A2) s.heap s.heap [] := tr_S.rf
  refine lv_aload_n hx hb dX5_depot_0 rfl (lv_at hl 0 rfl) ?_
  refine lv_iload_n hx hb dX5_depot_1 rfl (lv_at hl 1 rfl) ?_
  refine tr_ri (va_runV (As := [.int po]) (rest := []) ⟨hx, hb, hml, hown, hts⟩ (c_X5_noPole l D cI z0 A A2 hd v u po) (cwV 1 hts gX5_depot_X5_noPole rfl rfl rfl (by decide +kernel) ⟨Nat.le_of_ble_eq_true rfl, Nat.le_of_ble_eq_true rfl⟩) (tr_preV hK hZ rfl ⟨hZ, hL, hO⟩) rfl rfl hl.1 rfl (lv_room (Nat.le_of_ble_eq_true rfl)) dX5_depot_2 ⟨Nat.zero_le _, Nat.zero_le _⟩) ?_
  refine lv_if_eq (tgt := 18) hx hb dX5_depot_5 (by decide) (fun c_5 => ?_) (fun c_5 => ?_)
  · refine lv_iload_n hx hb dX5_depot_18 rfl (lv_at hl 2 rfl) ?_
    refine lv_iconst (v := 0) hx hb dX5_depot_19 (by decide) ?_
    refine lv_bipush (v := 9) hx hb dX5_depot_20 (by decide) ?_
    refine tr_ri (va_runS (As := [.int nn, .int 0, .int 9]) (rest := []) ⟨hx, hb, hml, hown, hts⟩ (c_X5_outside l D cI nn 0 9) (va_cwS 3 hts gX5_depot_X5_outside rfl rfl rfl (by decide +kernel) ⟨Nat.le_of_ble_eq_true rfl, Nat.le_of_ble_eq_true rfl⟩) (tr_preS hK trivial) rfl rfl hl.1 rfl (lv_room (Nat.le_of_ble_eq_true rfl)) dX5_depot_22 ⟨Nat.zero_le _, Nat.zero_le _⟩) ?_
    refine lv_if_eq (tgt := 38) hx hb dX5_depot_25 (by decide) (fun c_25 => ?_) (fun c_25 => ?_)
    · refine lv_iconst (v := 0) hx hb dX5_depot_38 (by decide) ?_
      refine lv_aload_n hx hb dX5_depot_39 rfl (lv_at hl 0 rfl) ?_
      refine tr_get (ci := 5) (C := RX5) (T := TX5) (N := 2) hx hb hts hiX5 hown hK hZ rfl 0 (by decide) f10 (v := .ref (A 0)) rfl dX5_depot_40 ?_
      refine tr_get (ci := 1) (C := RX1) (T := TX1) (N := 6) hx hb hts hiX1 hown hK hL.c0 rfl 1 (by decide) f58 (v := .ref (A 2)) rfl dX5_depot_43 ?_
      refine tr_get (ci := 3) (C := RX3) (T := TX3) (N := 2) hx hb hts hiX3 hown hK hL.c2 rfl 1 (by decide) f120 (v := .ref (A 20)) rfl dX5_depot_46 ?_
      refine lv_iload_n hx hb dX5_depot_49 rfl (lv_at hl 1 rfl) ?_
      refine tr_ri (va_runV (As := [.int po]) (rest := [.int 0]) ⟨hx, hb, hml, hown, hts⟩ (c_lat l D cI A hd.1.1 v 8 (by decide) po) (cwV 1 hts gX5_depot_X2_at rfl rfl rfl (by decide +kernel) ⟨Nat.le_of_ble_eq_true rfl, Nat.le_of_ble_eq_true rfl⟩) (tr_preV hK (hL.robj 8 (by decide)) rfl (hL.row 8 (by decide))) rfl rfl hl.1 rfl (lv_room (Nat.le_of_ble_eq_true rfl)) dX5_depot_50 ⟨Nat.zero_le _, Nat.zero_le _⟩) ?_
      refine tr_max hx hb (by rw [hml]; exact hl.1.symm) hown mL123 mS_max mI mC_max (Nat.le_of_ble_eq_true rfl) (Nat.le_of_ble_eq_true rfl) (Nat.zero_le _) (Nat.zero_le _) dX5_depot_53 ?_
      refine lv_iload_n hx hb dX5_depot_56 rfl (lv_at hl 2 rfl) ?_
      refine lv_iadd hx hb dX5_depot_57 ?_
      refine lv_istore_n (lv' := [(3, .int ((aMax 0 (lAt v 8 po)) + nn)), (0, .ref z0), (1, .int po), (2, .int nn)]) hx hb dX5_depot_58 rfl hl (by decide) rfl (fun ls hl => ?_)
      refine lv_iload_n hx hb dX5_depot_59 rfl (lv_at hl 0 rfl) ?_
      refine lv_bipush (v := 9) hx hb dX5_depot_60 (by decide) ?_
      refine lv_icmp_le (tgt := 75) hx hb dX5_depot_62 (by decide) (fun c_62 => ?_) (fun c_62 => ?_)
      · refine lv_aload_n hx hb dX5_depot_75 rfl (lv_at hl 1 rfl) ?_
        refine tr_get (ci := 5) (C := RX5) (T := TX5) (N := 2) hx hb hts hiX5 hown hK hZ rfl 0 (by decide) f10 (v := .ref (A 0)) rfl dX5_depot_76 ?_
        refine tr_get (ci := 1) (C := RX1) (T := TX1) (N := 6) hx hb hts hiX1 hown hK hL.c0 rfl 1 (by decide) f58 (v := .ref (A 2)) rfl dX5_depot_79 ?_
        refine tr_get (ci := 3) (C := RX3) (T := TX3) (N := 2) hx hb hts hiX3 hown hK hL.c2 rfl 1 (by decide) f120 (v := .ref (A 20)) rfl dX5_depot_82 ?_
        refine lv_iload_n hx hb dX5_depot_85 rfl (lv_at hl 2 rfl) ?_
        refine lv_iload_n hx hb dX5_depot_86 rfl (lv_at hl 0 rfl) ?_
        refine tr_wv (va_runV (As := [.int po, .int ((aMax 0 (lAt v 8 po)) + nn)]) (rest := []) ⟨hx, hb, hml, hown, hts⟩ (c_lset l D cI A hd.1.1 v 8 (by decide) po ((aMax 0 (lAt v 8 po)) + nn)) (cwV 2 hts gX5_depot_X2_set rfl rfl rfl (by decide +kernel) ⟨Nat.le_of_ble_eq_true rfl, Nat.le_of_ble_eq_true rfl⟩) (tr_preV hK (hL.robj 8 (by decide)) rfl hL) rfl rfl hl.1 rfl (lv_room (Nat.le_of_ble_eq_true rfl)) dX5_depot_87 ⟨Nat.zero_le _, Nat.zero_le _⟩) hS (fun _ h => Or.inl h) (fun H locs hL hz hk hS => ?_)
        replace hO := ln_keepO hd.1 hO hk
        replace hZ := rb_keep1 hd hZ hk
        clear hk hz
        refine lv_iload_n hx hb dX5_depot_90 rfl (lv_at hl 0 rfl) ?_
        refine vx_ret (W.widen (k := 1) (n := 6) (Nat.zero_le _) (Nat.zero_le _) ?_)
        exact W.iret hx hb hr (fun t h1 h2 => ⟨(by rw [xX5_depot, if_pos c_5, if_pos c_25, if_pos c_62]), hS.endr (by rw [rX5_depot, if_pos c_5, if_pos c_25, if_pos c_62]) (by rw [fX5_depot, if_pos c_5, if_pos c_25, if_pos c_62]; exact ⟨hZ, hL, hO⟩) t h1 h2⟩) hS.2.2 dX5_depot_91
      · obtain ⟨sa, hsa⟩ := hXK.1 (129, "there would be more than 9") (by decide +kernel)
        exact vx_throwS (cls := "java/lang/IllegalStateException") (names := ["java/lang/RuntimeException", "java/lang/Exception"]) (ik := 40) (ic := 44) (A := fun _ => False) hx hb hst hown (by decide +kernel) (by decide +kernel) kx44 ix44 hsa ax44 (by decide +kernel) hXK.2.2.1 hXK.2.2.2 va_S.rf (by rw [hml]; exact hl.1) dX5_depot_65 dX5_depot_68 dX5_depot_69 dX5_depot_71 dX5_depot_74 (fun x h => (hnt x h).elim) (Nat.le_of_ble_eq_true rfl) (Nat.le_of_ble_eq_true rfl) (Nat.le_of_ble_eq_true rfl) (Nat.le_of_ble_eq_true rfl) hlocks (fun t _ h2 h3 => ⟨by rw [xX5_depot, if_pos c_5, if_pos c_25, if_neg c_62], h2, h3⟩) (fun _ h => by cases h) (Nat.le_of_ble_eq_true rfl) (Nat.le_of_ble_eq_true rfl)
    · obtain ⟨sa, hsa⟩ := hXK.1 (118, "spares is not 0 to 9") (by decide +kernel)
      exact vx_throwS (cls := "java/lang/IllegalArgumentException") (names := ["java/lang/RuntimeException", "java/lang/Exception"]) (ik := 23) (ic := 27) (A := fun _ => False) hx hb hst hown (by decide +kernel) (by decide +kernel) kx27 ix27 hsa ax27 (by decide +kernel) hXK.2.2.1 hXK.2.2.2 va_S.rf (by rw [hml]; exact hl.1) dX5_depot_28 dX5_depot_31 dX5_depot_32 dX5_depot_34 dX5_depot_37 (fun x h => (hnt x h).elim) (Nat.le_of_ble_eq_true rfl) (Nat.le_of_ble_eq_true rfl) (Nat.le_of_ble_eq_true rfl) (Nat.le_of_ble_eq_true rfl) hlocks (fun t _ h2 h3 => ⟨by rw [xX5_depot, if_pos c_5, if_neg c_25], h2, h3⟩) (fun _ h => by cases h) (Nat.le_of_ble_eq_true rfl) (Nat.le_of_ble_eq_true rfl)
  · obtain ⟨sa, hsa⟩ := hXK.1 (95, "there is no such pole") (by decide +kernel)
    exact vx_throwS (cls := "java/lang/IndexOutOfBoundsException") (names := ["java/lang/RuntimeException", "java/lang/Exception"]) (ik := 71) (ic := 75) (A := fun _ => False) hx hb hst hown (by decide +kernel) (by decide +kernel) kx75 ix75 hsa ax75 (by decide +kernel) hXK.2.2.1 hXK.2.2.2 va_S.rf (by rw [hml]; exact hl.1) dX5_depot_8 dX5_depot_11 dX5_depot_12 dX5_depot_14 dX5_depot_17 (fun x h => (hnt x h).elim) (Nat.le_of_ble_eq_true rfl) (Nat.le_of_ble_eq_true rfl) (Nat.le_of_ble_eq_true rfl) (Nat.le_of_ble_eq_true rfl) hlocks (fun t _ h2 h3 => ⟨by rw [xX5_depot, if_neg c_5], h2, h3⟩) (fun _ h => by cases h) (Nat.le_of_ble_eq_true rfl) (Nat.le_of_ble_eq_true rfl)
def fX5_come (v : LV) (u : LV) (po : Int32) (nn : Int32) : LV × LV :=
  (if (fX5_noPole v u po) = 0 then (if (fX5_outside nn 1 99) = 0 then (fX3_welcome v po nn, u) else (v, u)) else (v, u))
def xX5_come (v : LV) (u : LV) (po : Int32) (nn : Int32) : Option String :=
  (if (fX5_noPole v u po) = 0 then (if (fX5_outside nn 1 99) = 0 then none else some "java/lang/IllegalArgumentException") else some "java/lang/IndexOutOfBoundsException")
def rX5_come (v : LV) (u : LV) (po : Int32) (nn : Int32) : Int32 :=
  (if (fX5_noPole v u po) = 0 then (if (fX5_outside nn 1 99) = 0 then lAt (fX3_welcome v po nn) 7 po else 0) else 0)
set_option maxHeartbeats 4000000 in
set_option maxRecDepth 100000 in
theorem c_X5_come (l : Launch) (hst : l.stackTraces = false) (D : va_G) (cI : ClassId) (z0 : Nat) (A A2 : Nat → Nat) (hd : TDis z0 A A2) (v u : LV) (po : Int32) (nn : Int32)  : vx_Met l yX5_come wsX5_come ({ frames := 6, cells := 1, slots := 6, locals := 100 }) (tr_PcX D cI [.ref z0, .int po, .int nn] (TRB D cI z0 A A2 (v, u))) (tr_QX (xX5_come v u po nn) (some (.int (rX5_come v u po nn))) (TRB D cI z0 A A2 (fX5_come v u po nn)) (tOwn A A2)) (tr_XC (xX5_come v u po nn)) 1 6 (tOwn A A2) := by
  refine vx_ofW (cc := cX5_come) (maxL := 3) (ret := (some .int)) (by decide) rfl ?_
  intro p e s m args below meth c s₁ B hml hnt hv
  obtain ⟨rfl, ⟨⟨hZ, hL, hO⟩, hK⟩, hXK⟩ := hv
  have hx := B.exec
  have hb := B.bytes
  have hr := B.returns
  have hts := atoms_spec (ws := wsX5_come) B.pre
  have hown : s.vm.findClass RX5 = some m.cls := findClass_of_methodNamed B.named
  have hlocks := B.notSynchronized
  replace hL : LNE D cI A v s.heap := hL
  replace hO : LNE D cI A2 u s.heap := hO
  have hiX1 : ∀ w ∈ u_ws RX1 TX1 6, w ∈ wsX5_come := by decide +kernel
  have hiX3 : ∀ w ∈ u_ws RX3 TX3 2, w ∈ wsX5_come := by decide +kernel
  have hiX5 : ∀ w ∈ u_ws RX5 TX5 2, w ∈ wsX5_come := by decide +kernel
  have ax27 := vx_hat (L := (vx_atS RX5 27 "java/lang/IllegalArgumentException" ["java/lang/RuntimeException", "java/lang/Exception"])) (B := tr_bad) (fun w h => hts w ((by decide +kernel : ∀ w ∈ (vx_atS RX5 27 "java/lang/IllegalArgumentException" ["java/lang/RuntimeException", "java/lang/Exception"]).filter goodWord, w ∈ wsX5_come) w h)) (by decide +kernel) (fun w hw => va_tabs (tr_bad_t w hw) rfl (hXK.2.1 w hw))
  have ax75 := vx_hat (L := (vx_atS RX5 75 "java/lang/IndexOutOfBoundsException" ["java/lang/RuntimeException", "java/lang/Exception"])) (B := tr_bad) (fun w h => hts w ((by decide +kernel : ∀ w ∈ (vx_atS RX5 75 "java/lang/IndexOutOfBoundsException" ["java/lang/RuntimeException", "java/lang/Exception"]).filter goodWord, w ∈ wsX5_come) w h)) (by decide +kernel) (fun w hw => va_tabs (tr_bad_t w hw) rfl (hXK.2.1 w hw))
  have f10 := hts (.fieldLink RX5 10 "TramRibbon" "line" "LTramRibbon$Line;") (by decide +kernel)
  have f136 := hts (.fieldLink RX5 136 "TramRibbon$Stops" "waiting" "LTramRibbon$Row;") (by decide +kernel)
  have f58 := hts (.fieldLink RX5 58 "TramRibbon$Line" "stops" "LTramRibbon$Stops;") (by decide +kernel)
  have ix27 := hts (.initialized "java/lang/IllegalArgumentException") (by decide +kernel)
  have ix75 := hts (.initialized "java/lang/IndexOutOfBoundsException") (by decide +kernel)
  have kx27 := hts (.classLink RX5 23 "java/lang/IllegalArgumentException") (by decide +kernel)
  have kx75 := hts (.classLink RX5 71 "java/lang/IndexOutOfBoundsException") (by decide +kernel)
  have hl := lv_entry ([.ref z0, .int po, .int nn]) (n := 3) (Nat.le_of_ble_eq_true rfl)
  rw [lg_entry_eq]
  generalize (lg_sl ([.ref z0, .int po, .int nn]) ++ List.replicate (3 - (lg_sl ([.ref z0, .int po, .int nn])).length) Slot.unset).toArray = ls at hl ⊢
  replace hl : lv_has ls 3 [(0, .ref z0), (1, .int po), (2, .int nn)] := hl
  have hS : tr_S (tOwn A A2) s.heap s.heap [] := tr_S.rf
  refine lv_aload_n hx hb dX5_come_0 rfl (lv_at hl 0 rfl) ?_
  refine lv_iload_n hx hb dX5_come_1 rfl (lv_at hl 1 rfl) ?_
  refine tr_ri (va_runV (As := [.int po]) (rest := []) ⟨hx, hb, hml, hown, hts⟩ (c_X5_noPole l D cI z0 A A2 hd v u po) (cwV 1 hts gX5_come_X5_noPole rfl rfl rfl (by decide +kernel) ⟨Nat.le_of_ble_eq_true rfl, Nat.le_of_ble_eq_true rfl⟩) (tr_preV hK hZ rfl ⟨hZ, hL, hO⟩) rfl rfl hl.1 rfl (lv_room (Nat.le_of_ble_eq_true rfl)) dX5_come_2 ⟨Nat.zero_le _, Nat.zero_le _⟩) ?_
  refine lv_if_eq (tgt := 18) hx hb dX5_come_5 (by decide) (fun c_5 => ?_) (fun c_5 => ?_)
  · refine lv_iload_n hx hb dX5_come_18 rfl (lv_at hl 2 rfl) ?_
    refine lv_iconst (v := 1) hx hb dX5_come_19 (by decide) ?_
    refine lv_bipush (v := 99) hx hb dX5_come_20 (by decide) ?_
    refine tr_ri (va_runS (As := [.int nn, .int 1, .int 99]) (rest := []) ⟨hx, hb, hml, hown, hts⟩ (c_X5_outside l D cI nn 1 99) (va_cwS 3 hts gX5_come_X5_outside rfl rfl rfl (by decide +kernel) ⟨Nat.le_of_ble_eq_true rfl, Nat.le_of_ble_eq_true rfl⟩) (tr_preS hK trivial) rfl rfl hl.1 rfl (lv_room (Nat.le_of_ble_eq_true rfl)) dX5_come_22 ⟨Nat.zero_le _, Nat.zero_le _⟩) ?_
    refine lv_if_eq (tgt := 38) hx hb dX5_come_25 (by decide) (fun c_25 => ?_) (fun c_25 => ?_)
    · refine lv_aload_n hx hb dX5_come_38 rfl (lv_at hl 0 rfl) ?_
      refine tr_get (ci := 5) (C := RX5) (T := TX5) (N := 2) hx hb hts hiX5 hown hK hZ rfl 0 (by decide) f10 (v := .ref (A 0)) rfl dX5_come_39 ?_
      refine tr_get (ci := 1) (C := RX1) (T := TX1) (N := 6) hx hb hts hiX1 hown hK hL.c0 rfl 1 (by decide) f58 (v := .ref (A 2)) rfl dX5_come_42 ?_
      refine lv_iload_n hx hb dX5_come_45 rfl (lv_at hl 1 rfl) ?_
      refine lv_iload_n hx hb dX5_come_46 rfl (lv_at hl 2 rfl) ?_
      refine tr_wv (va_runV (As := [.int po, .int nn]) (rest := []) ⟨hx, hb, hml, hown, hts⟩ (c_X3_welcome l D cI A hd.1.1 v po nn) (cwV 2 hts gX5_come_X3_welcome rfl rfl rfl (by decide +kernel) ⟨Nat.le_of_ble_eq_true rfl, Nat.le_of_ble_eq_true rfl⟩) (tr_preV hK hL.c2 rfl hL) rfl rfl hl.1 rfl (lv_room (Nat.le_of_ble_eq_true rfl)) dX5_come_47 ⟨Nat.zero_le _, Nat.zero_le _⟩) hS (fun _ h => Or.inl h) (fun H locs hL hz hk hS => ?_)
      replace hO := ln_keepO hd.1 hO hk
      replace hZ := rb_keep1 hd hZ hk
      clear hk hz
      refine lv_aload_n hx hb dX5_come_50 rfl (lv_at hl 0 rfl) ?_
      refine tr_get (ci := 5) (C := RX5) (T := TX5) (N := 2) hx hb hts hiX5 hown hK hZ rfl 0 (by decide) f10 (v := .ref (A 0)) rfl dX5_come_51 ?_
      refine tr_get (ci := 1) (C := RX1) (T := TX1) (N := 6) hx hb hts hiX1 hown hK hL.c0 rfl 1 (by decide) f58 (v := .ref (A 2)) rfl dX5_come_54 ?_
      refine tr_get (ci := 3) (C := RX3) (T := TX3) (N := 2) hx hb hts hiX3 hown hK hL.c2 rfl 0 (by decide) f136 (v := .ref (A 18)) rfl dX5_come_57 ?_
      refine lv_iload_n hx hb dX5_come_60 rfl (lv_at hl 1 rfl) ?_
      refine tr_ri (va_runV (As := [.int po]) (rest := []) ⟨hx, hb, hml, hown, hts⟩ (c_lat l D cI A hd.1.1 (fX3_welcome v po nn) 7 (by decide) po) (cwV 1 hts gX5_come_X2_at rfl rfl rfl (by decide +kernel) ⟨Nat.le_of_ble_eq_true rfl, Nat.le_of_ble_eq_true rfl⟩) (tr_preV hK (hL.robj 7 (by decide)) rfl (hL.row 7 (by decide))) rfl rfl hl.1 rfl (lv_room (Nat.le_of_ble_eq_true rfl)) dX5_come_61 ⟨Nat.zero_le _, Nat.zero_le _⟩) ?_
      refine vx_ret (W.widen (k := 1) (n := 6) (Nat.zero_le _) (Nat.zero_le _) ?_)
      exact W.iret hx hb hr (fun t h1 h2 => ⟨(by rw [xX5_come, if_pos c_5, if_pos c_25]), hS.endr (by rw [rX5_come, if_pos c_5, if_pos c_25]) (by rw [fX5_come, if_pos c_5, if_pos c_25]; exact ⟨hZ, hL, hO⟩) t h1 h2⟩) hS.2.2 dX5_come_64
    · obtain ⟨sa, hsa⟩ := hXK.1 (131, "people is not 1 to 99") (by decide +kernel)
      exact vx_throwS (cls := "java/lang/IllegalArgumentException") (names := ["java/lang/RuntimeException", "java/lang/Exception"]) (ik := 23) (ic := 27) (A := fun _ => False) hx hb hst hown (by decide +kernel) (by decide +kernel) kx27 ix27 hsa ax27 (by decide +kernel) hXK.2.2.1 hXK.2.2.2 va_S.rf (by rw [hml]; exact hl.1) dX5_come_28 dX5_come_31 dX5_come_32 dX5_come_34 dX5_come_37 (fun x h => (hnt x h).elim) (Nat.le_of_ble_eq_true rfl) (Nat.le_of_ble_eq_true rfl) (Nat.le_of_ble_eq_true rfl) (Nat.le_of_ble_eq_true rfl) hlocks (fun t _ h2 h3 => ⟨by rw [xX5_come, if_pos c_5, if_neg c_25], h2, h3⟩) (fun _ h => by cases h) (Nat.le_of_ble_eq_true rfl) (Nat.le_of_ble_eq_true rfl)
  · obtain ⟨sa, hsa⟩ := hXK.1 (95, "there is no such pole") (by decide +kernel)
    exact vx_throwS (cls := "java/lang/IndexOutOfBoundsException") (names := ["java/lang/RuntimeException", "java/lang/Exception"]) (ik := 71) (ic := 75) (A := fun _ => False) hx hb hst hown (by decide +kernel) (by decide +kernel) kx75 ix75 hsa ax75 (by decide +kernel) hXK.2.2.1 hXK.2.2.2 va_S.rf (by rw [hml]; exact hl.1) dX5_come_8 dX5_come_11 dX5_come_12 dX5_come_14 dX5_come_17 (fun x h => (hnt x h).elim) (Nat.le_of_ble_eq_true rfl) (Nat.le_of_ble_eq_true rfl) (Nat.le_of_ble_eq_true rfl) (Nat.le_of_ble_eq_true rfl) hlocks (fun t _ h2 h3 => ⟨by rw [xX5_come, if_neg c_5], h2, h3⟩) (fun _ h => by cases h) (Nat.le_of_ble_eq_true rfl) (Nat.le_of_ble_eq_true rfl)
def fX5_put (v : LV) (u : LV) (po : Int32) (up : Int32) (wr : Int32) : LV × LV :=
  (if (fX5_noPole v u po) = 0 then (if (fX5_outside wr 0 99) = 0 then (if 6 ≤ (v.1 2) then (v, u) else (if (fX0_carsAt v po) < 2 then (fX0_enter v po up wr, u) else (v, u))) else (v, u)) else (v, u))
def xX5_put (v : LV) (u : LV) (po : Int32) (up : Int32) (wr : Int32) : Option String :=
  (if (fX5_noPole v u po) = 0 then (if (fX5_outside wr 0 99) = 0 then (if 6 ≤ (v.1 2) then some "java/lang/IllegalStateException" else (if (fX0_carsAt v po) < 2 then none else some "java/lang/IllegalStateException")) else some "java/lang/IllegalArgumentException") else some "java/lang/IndexOutOfBoundsException")
def rX5_put (v : LV) (u : LV) (po : Int32) (up : Int32) (wr : Int32) : Int32 :=
  (if (fX5_noPole v u po) = 0 then (if (fX5_outside wr 0 99) = 0 then (if 6 ≤ (v.1 2) then 0 else (if (fX0_carsAt v po) < 2 then rX0_enter v po up wr else 0)) else 0) else 0)
set_option maxHeartbeats 4000000 in
set_option maxRecDepth 100000 in
theorem c_X5_put (l : Launch) (hst : l.stackTraces = false) (D : va_G) (cI : ClassId) (z0 : Nat) (A A2 : Nat → Nat) (hd : TDis z0 A A2) (v u : LV) (po : Int32) (up : Int32) (wr : Int32)  : vx_Met l yX5_put wsX5_put ({ frames := 6, cells := 1, slots := 6, locals := 100 }) (tr_PcX D cI [.ref z0, .int po, .int up, .int wr] (TRB D cI z0 A A2 (v, u))) (tr_QX (xX5_put v u po up wr) (some (.int (rX5_put v u po up wr))) (TRB D cI z0 A A2 (fX5_put v u po up wr)) (tOwn A A2)) (tr_XC (xX5_put v u po up wr)) 1 6 (tOwn A A2) := by
  refine vx_ofW (cc := cX5_put) (maxL := 4) (ret := (some .int)) (by decide) rfl ?_
  intro p e s m args below meth c s₁ B hml hnt hv
  obtain ⟨rfl, ⟨⟨hZ, hL, hO⟩, hK⟩, hXK⟩ := hv
  have hx := B.exec
  have hb := B.bytes
  have hr := B.returns
  have hts := atoms_spec (ws := wsX5_put) B.pre
  have hown : s.vm.findClass RX5 = some m.cls := findClass_of_methodNamed B.named
  have hlocks := B.notSynchronized
  replace hL : LNE D cI A v s.heap := hL
  replace hO : LNE D cI A2 u s.heap := hO
  have hiX0 : ∀ w ∈ u_ws RX0 TX0 9, w ∈ wsX5_put := by decide +kernel
  have hiX1 : ∀ w ∈ u_ws RX1 TX1 6, w ∈ wsX5_put := by decide +kernel
  have hiX5 : ∀ w ∈ u_ws RX5 TX5 2, w ∈ wsX5_put := by decide +kernel
  have ax27 := vx_hat (L := (vx_atS RX5 27 "java/lang/IllegalArgumentException" ["java/lang/RuntimeException", "java/lang/Exception"])) (B := tr_bad) (fun w h => hts w ((by decide +kernel : ∀ w ∈ (vx_atS RX5 27 "java/lang/IllegalArgumentException" ["java/lang/RuntimeException", "java/lang/Exception"]).filter goodWord, w ∈ wsX5_put) w h)) (by decide +kernel) (fun w hw => va_tabs (tr_bad_t w hw) rfl (hXK.2.1 w hw))
  have ax44 := vx_hat (L := (vx_atS RX5 44 "java/lang/IllegalStateException" ["java/lang/RuntimeException", "java/lang/Exception"])) (B := tr_bad) (fun w h => hts w ((by decide +kernel : ∀ w ∈ (vx_atS RX5 44 "java/lang/IllegalStateException" ["java/lang/RuntimeException", "java/lang/Exception"]).filter goodWord, w ∈ wsX5_put) w h)) (by decide +kernel) (fun w hw => va_tabs (tr_bad_t w hw) rfl (hXK.2.1 w hw))
  have ax75 := vx_hat (L := (vx_atS RX5 75 "java/lang/IndexOutOfBoundsException" ["java/lang/RuntimeException", "java/lang/Exception"])) (B := tr_bad) (fun w h => hts w ((by decide +kernel : ∀ w ∈ (vx_atS RX5 75 "java/lang/IndexOutOfBoundsException" ["java/lang/RuntimeException", "java/lang/Exception"]).filter goodWord, w ∈ wsX5_put) w h)) (by decide +kernel) (fun w hw => va_tabs (tr_bad_t w hw) rfl (hXK.2.1 w hw))
  have f10 := hts (.fieldLink RX5 10 "TramRibbon" "line" "LTramRibbon$Line;") (by decide +kernel)
  have f30 := hts (.fieldLink RX5 30 "TramRibbon$Line" "fleet" "LTramRibbon$Fleet;") (by decide +kernel)
  have f34 := hts (.fieldLink RX5 34 "TramRibbon$Fleet" "size" "I") (by decide +kernel)
  have ix27 := hts (.initialized "java/lang/IllegalArgumentException") (by decide +kernel)
  have ix44 := hts (.initialized "java/lang/IllegalStateException") (by decide +kernel)
  have ix75 := hts (.initialized "java/lang/IndexOutOfBoundsException") (by decide +kernel)
  have kx27 := hts (.classLink RX5 23 "java/lang/IllegalArgumentException") (by decide +kernel)
  have kx44 := hts (.classLink RX5 40 "java/lang/IllegalStateException") (by decide +kernel)
  have kx75 := hts (.classLink RX5 71 "java/lang/IndexOutOfBoundsException") (by decide +kernel)
  have hl := lv_entry ([.ref z0, .int po, .int up, .int wr]) (n := 4) (Nat.le_of_ble_eq_true rfl)
  rw [lg_entry_eq]
  generalize (lg_sl ([.ref z0, .int po, .int up, .int wr]) ++ List.replicate (4 - (lg_sl ([.ref z0, .int po, .int up, .int wr])).length) Slot.unset).toArray = ls at hl ⊢
  replace hl : lv_has ls 4 [(0, .ref z0), (1, .int po), (2, .int up), (3, .int wr)] := hl
  have hS : tr_S (tOwn A A2) s.heap s.heap [] := tr_S.rf
  refine lv_aload_n hx hb dX5_put_0 rfl (lv_at hl 0 rfl) ?_
  refine lv_iload_n hx hb dX5_put_1 rfl (lv_at hl 1 rfl) ?_
  refine tr_ri (va_runV (As := [.int po]) (rest := []) ⟨hx, hb, hml, hown, hts⟩ (c_X5_noPole l D cI z0 A A2 hd v u po) (cwV 1 hts gX5_put_X5_noPole rfl rfl rfl (by decide +kernel) ⟨Nat.le_of_ble_eq_true rfl, Nat.le_of_ble_eq_true rfl⟩) (tr_preV hK hZ rfl ⟨hZ, hL, hO⟩) rfl rfl hl.1 rfl (lv_room (Nat.le_of_ble_eq_true rfl)) dX5_put_2 ⟨Nat.zero_le _, Nat.zero_le _⟩) ?_
  refine lv_if_eq (tgt := 18) hx hb dX5_put_5 (by decide) (fun c_5 => ?_) (fun c_5 => ?_)
  · refine lv_iload_n hx hb dX5_put_18 rfl (lv_at hl 3 rfl) ?_
    refine lv_iconst (v := 0) hx hb dX5_put_19 (by decide) ?_
    refine lv_bipush (v := 99) hx hb dX5_put_20 (by decide) ?_
    refine tr_ri (va_runS (As := [.int wr, .int 0, .int 99]) (rest := []) ⟨hx, hb, hml, hown, hts⟩ (c_X5_outside l D cI wr 0 99) (va_cwS 3 hts gX5_put_X5_outside rfl rfl rfl (by decide +kernel) ⟨Nat.le_of_ble_eq_true rfl, Nat.le_of_ble_eq_true rfl⟩) (tr_preS hK trivial) rfl rfl hl.1 rfl (lv_room (Nat.le_of_ble_eq_true rfl)) dX5_put_22 ⟨Nat.zero_le _, Nat.zero_le _⟩) ?_
    refine lv_if_eq (tgt := 38) hx hb dX5_put_25 (by decide) (fun c_25 => ?_) (fun c_25 => ?_)
    · refine lv_aload_n hx hb dX5_put_38 rfl (lv_at hl 0 rfl) ?_
      refine tr_get (ci := 5) (C := RX5) (T := TX5) (N := 2) hx hb hts hiX5 hown hK hZ rfl 0 (by decide) f10 (v := .ref (A 0)) rfl dX5_put_39 ?_
      refine tr_get (ci := 1) (C := RX1) (T := TX1) (N := 6) hx hb hts hiX1 hown hK hL.c0 rfl 2 (by decide) f30 (v := .ref (A 3)) rfl dX5_put_42 ?_
      refine tr_get (ci := 0) (C := RX0) (T := TX0) (N := 9) hx hb hts hiX0 hown hK hL.c3 rfl 0 (by decide) f34 (v := .int (v.1 2)) rfl dX5_put_45 ?_
      refine lv_bipush (v := 6) hx hb dX5_put_48 (by decide) ?_
      refine lv_icmp_ge (tgt := 68) hx hb dX5_put_50 (by decide) (fun c_50 => ?_) (fun c_50 => ?_)
      · obtain ⟨sa, hsa⟩ := hXK.1 (144, "there are 6, or 2 at this pole") (by decide +kernel)
        exact vx_throwS (cls := "java/lang/IllegalStateException") (names := ["java/lang/RuntimeException", "java/lang/Exception"]) (ik := 40) (ic := 44) (A := fun _ => False) hx hb hst hown (by decide +kernel) (by decide +kernel) kx44 ix44 hsa ax44 (by decide +kernel) hXK.2.2.1 hXK.2.2.2 va_S.rf (by rw [hml]; exact hl.1) dX5_put_68 dX5_put_71 dX5_put_72 dX5_put_74 dX5_put_77 (fun x h => (hnt x h).elim) (Nat.le_of_ble_eq_true rfl) (Nat.le_of_ble_eq_true rfl) (Nat.le_of_ble_eq_true rfl) (Nat.le_of_ble_eq_true rfl) hlocks (fun t _ h2 h3 => ⟨by rw [xX5_put, if_pos c_5, if_pos c_25, if_pos c_50], h2, h3⟩) (fun _ h => by cases h) (Nat.le_of_ble_eq_true rfl) (Nat.le_of_ble_eq_true rfl)
      · refine lv_aload_n hx hb dX5_put_53 rfl (lv_at hl 0 rfl) ?_
        refine tr_get (ci := 5) (C := RX5) (T := TX5) (N := 2) hx hb hts hiX5 hown hK hZ rfl 0 (by decide) f10 (v := .ref (A 0)) rfl dX5_put_54 ?_
        refine tr_get (ci := 1) (C := RX1) (T := TX1) (N := 6) hx hb hts hiX1 hown hK hL.c0 rfl 2 (by decide) f30 (v := .ref (A 3)) rfl dX5_put_57 ?_
        refine lv_iload_n hx hb dX5_put_60 rfl (lv_at hl 1 rfl) ?_
        refine tr_ri (va_runV (As := [.int po]) (rest := []) ⟨hx, hb, hml, hown, hts⟩ (c_X0_carsAt l D cI A hd.1.1 v po) (cwV 1 hts gX5_put_X0_carsAt rfl rfl rfl (by decide +kernel) ⟨Nat.le_of_ble_eq_true rfl, Nat.le_of_ble_eq_true rfl⟩) (tr_preV hK hL.c3 rfl hL) rfl rfl hl.1 rfl (lv_room (Nat.le_of_ble_eq_true rfl)) dX5_put_61 ⟨Nat.zero_le _, Nat.zero_le _⟩) ?_
        refine lv_iconst (v := 2) hx hb dX5_put_64 (by decide) ?_
        refine lv_icmp_lt (tgt := 78) hx hb dX5_put_65 (by decide) (fun c_65 => ?_) (fun c_65 => ?_)
        · refine lv_aload_n hx hb dX5_put_78 rfl (lv_at hl 0 rfl) ?_
          refine tr_get (ci := 5) (C := RX5) (T := TX5) (N := 2) hx hb hts hiX5 hown hK hZ rfl 0 (by decide) f10 (v := .ref (A 0)) rfl dX5_put_79 ?_
          refine tr_get (ci := 1) (C := RX1) (T := TX1) (N := 6) hx hb hts hiX1 hown hK hL.c0 rfl 2 (by decide) f30 (v := .ref (A 3)) rfl dX5_put_82 ?_
          refine lv_iload_n hx hb dX5_put_85 rfl (lv_at hl 1 rfl) ?_
          refine lv_iload_n hx hb dX5_put_86 rfl (lv_at hl 2 rfl) ?_
          refine lv_iload_n hx hb dX5_put_87 rfl (lv_at hl 3 rfl) ?_
          refine tr_wi (va_runV (As := [.int po, .int up, .int wr]) (rest := []) ⟨hx, hb, hml, hown, hts⟩ (c_X0_enter l D cI A hd.1.1 v po up wr) (cwV 3 hts gX5_put_X0_enter rfl rfl rfl (by decide +kernel) ⟨Nat.le_of_ble_eq_true rfl, Nat.le_of_ble_eq_true rfl⟩) (tr_preV hK hL.c3 rfl hL) rfl rfl hl.1 rfl (lv_room (Nat.le_of_ble_eq_true rfl)) dX5_put_88 ⟨Nat.zero_le _, Nat.zero_le _⟩) hS (fun _ h => Or.inl h) (fun H locs hL hz hk hS => ?_)
          replace hO := ln_keepO hd.1 hO hk
          replace hZ := rb_keep1 hd hZ hk
          clear hk hz
          refine vx_ret (W.widen (k := 1) (n := 6) (Nat.zero_le _) (Nat.zero_le _) ?_)
          exact W.iret hx hb hr (fun t h1 h2 => ⟨(by rw [xX5_put, if_pos c_5, if_pos c_25, if_neg c_50, if_pos c_65]), hS.endr (by rw [rX5_put, if_pos c_5, if_pos c_25, if_neg c_50, if_pos c_65]) (by rw [fX5_put, if_pos c_5, if_pos c_25, if_neg c_50, if_pos c_65]; exact ⟨hZ, hL, hO⟩) t h1 h2⟩) hS.2.2 dX5_put_91
        · obtain ⟨sa, hsa⟩ := hXK.1 (144, "there are 6, or 2 at this pole") (by decide +kernel)
          exact vx_throwS (cls := "java/lang/IllegalStateException") (names := ["java/lang/RuntimeException", "java/lang/Exception"]) (ik := 40) (ic := 44) (A := fun _ => False) hx hb hst hown (by decide +kernel) (by decide +kernel) kx44 ix44 hsa ax44 (by decide +kernel) hXK.2.2.1 hXK.2.2.2 va_S.rf (by rw [hml]; exact hl.1) dX5_put_68 dX5_put_71 dX5_put_72 dX5_put_74 dX5_put_77 (fun x h => (hnt x h).elim) (Nat.le_of_ble_eq_true rfl) (Nat.le_of_ble_eq_true rfl) (Nat.le_of_ble_eq_true rfl) (Nat.le_of_ble_eq_true rfl) hlocks (fun t _ h2 h3 => ⟨by rw [xX5_put, if_pos c_5, if_pos c_25, if_neg c_50, if_neg c_65], h2, h3⟩) (fun _ h => by cases h) (Nat.le_of_ble_eq_true rfl) (Nat.le_of_ble_eq_true rfl)
    · obtain ⟨sa, hsa⟩ := hXK.1 (139, "wear is not 0 to 99") (by decide +kernel)
      exact vx_throwS (cls := "java/lang/IllegalArgumentException") (names := ["java/lang/RuntimeException", "java/lang/Exception"]) (ik := 23) (ic := 27) (A := fun _ => False) hx hb hst hown (by decide +kernel) (by decide +kernel) kx27 ix27 hsa ax27 (by decide +kernel) hXK.2.2.1 hXK.2.2.2 va_S.rf (by rw [hml]; exact hl.1) dX5_put_28 dX5_put_31 dX5_put_32 dX5_put_34 dX5_put_37 (fun x h => (hnt x h).elim) (Nat.le_of_ble_eq_true rfl) (Nat.le_of_ble_eq_true rfl) (Nat.le_of_ble_eq_true rfl) (Nat.le_of_ble_eq_true rfl) hlocks (fun t _ h2 h3 => ⟨by rw [xX5_put, if_pos c_5, if_neg c_25], h2, h3⟩) (fun _ h => by cases h) (Nat.le_of_ble_eq_true rfl) (Nat.le_of_ble_eq_true rfl)
  · obtain ⟨sa, hsa⟩ := hXK.1 (95, "there is no such pole") (by decide +kernel)
    exact vx_throwS (cls := "java/lang/IndexOutOfBoundsException") (names := ["java/lang/RuntimeException", "java/lang/Exception"]) (ik := 71) (ic := 75) (A := fun _ => False) hx hb hst hown (by decide +kernel) (by decide +kernel) kx75 ix75 hsa ax75 (by decide +kernel) hXK.2.2.1 hXK.2.2.2 va_S.rf (by rw [hml]; exact hl.1) dX5_put_8 dX5_put_11 dX5_put_12 dX5_put_14 dX5_put_17 (fun x h => (hnt x h).elim) (Nat.le_of_ble_eq_true rfl) (Nat.le_of_ble_eq_true rfl) (Nat.le_of_ble_eq_true rfl) (Nat.le_of_ble_eq_true rfl) hlocks (fun t _ h2 h3 => ⟨by rw [xX5_put, if_neg c_5], h2, h3⟩) (fun _ h => by cases h) (Nat.le_of_ble_eq_true rfl) (Nat.le_of_ble_eq_true rfl)
def fX5_pole (v : LV) (u : LV) (po : Int32) (wh : Int32) : LV × LV :=
  (if (fX5_noPole v u po) = 0 then (if (fX5_outside wh 0 3) = 0 then (v, u) else (v, u)) else (v, u))
def xX5_pole (v : LV) (u : LV) (po : Int32) (wh : Int32) : Option String :=
  (if (fX5_noPole v u po) = 0 then (if (fX5_outside wh 0 3) = 0 then none else some "java/lang/IndexOutOfBoundsException") else some "java/lang/IndexOutOfBoundsException")
def rX5_pole (v : LV) (u : LV) (po : Int32) (wh : Int32) : Int32 :=
  (if (fX5_noPole v u po) = 0 then (if (fX5_outside wh 0 3) = 0 then fX1_poleFact v po wh else 0) else 0)
set_option maxHeartbeats 4000000 in
set_option maxRecDepth 100000 in
theorem c_X5_pole (l : Launch) (hst : l.stackTraces = false) (D : va_G) (cI : ClassId) (z0 : Nat) (A A2 : Nat → Nat) (hd : TDis z0 A A2) (v u : LV) (po : Int32) (wh : Int32)  : vx_Met l yX5_pole wsX5_pole ({ frames := 6, cells := 1, slots := 6, locals := 100 }) (tr_PcX D cI [.ref z0, .int po, .int wh] (TRB D cI z0 A A2 (v, u))) (tr_QX (xX5_pole v u po wh) (some (.int (rX5_pole v u po wh))) (TRB D cI z0 A A2 (fX5_pole v u po wh)) (tOwn A A2)) (tr_XC (xX5_pole v u po wh)) 1 6 (tOwn A A2) := by
  refine vx_ofW (cc := cX5_pole) (maxL := 3) (ret := (some .int)) (by decide) rfl ?_
  intro p e s m args below meth c s₁ B hml hnt hv
  obtain ⟨rfl, ⟨⟨hZ, hL, hO⟩, hK⟩, hXK⟩ := hv
  have hx := B.exec
  have hb := B.bytes
  have hr := B.returns
  have hts := atoms_spec (ws := wsX5_pole) B.pre
  have hown : s.vm.findClass RX5 = some m.cls := findClass_of_methodNamed B.named
  have hlocks := B.notSynchronized
  replace hL : LNE D cI A v s.heap := hL
  replace hO : LNE D cI A2 u s.heap := hO
  have hiX5 : ∀ w ∈ u_ws RX5 TX5 2, w ∈ wsX5_pole := by decide +kernel
  have ax75 := vx_hat (L := (vx_atS RX5 75 "java/lang/IndexOutOfBoundsException" ["java/lang/RuntimeException", "java/lang/Exception"])) (B := tr_bad) (fun w h => hts w ((by decide +kernel : ∀ w ∈ (vx_atS RX5 75 "java/lang/IndexOutOfBoundsException" ["java/lang/RuntimeException", "java/lang/Exception"]).filter goodWord, w ∈ wsX5_pole) w h)) (by decide +kernel) (fun w hw => va_tabs (tr_bad_t w hw) rfl (hXK.2.1 w hw))
  have f10 := hts (.fieldLink RX5 10 "TramRibbon" "line" "LTramRibbon$Line;") (by decide +kernel)
  have ix75 := hts (.initialized "java/lang/IndexOutOfBoundsException") (by decide +kernel)
  have kx75 := hts (.classLink RX5 71 "java/lang/IndexOutOfBoundsException") (by decide +kernel)
  have hl := lv_entry ([.ref z0, .int po, .int wh]) (n := 3) (Nat.le_of_ble_eq_true rfl)
  rw [lg_entry_eq]
  generalize (lg_sl ([.ref z0, .int po, .int wh]) ++ List.replicate (3 - (lg_sl ([.ref z0, .int po, .int wh])).length) Slot.unset).toArray = ls at hl ⊢
  replace hl : lv_has ls 3 [(0, .ref z0), (1, .int po), (2, .int wh)] := hl
  have hS : tr_S (tOwn A A2) s.heap s.heap [] := tr_S.rf
  refine lv_aload_n hx hb dX5_pole_0 rfl (lv_at hl 0 rfl) ?_
  refine lv_iload_n hx hb dX5_pole_1 rfl (lv_at hl 1 rfl) ?_
  refine tr_ri (va_runV (As := [.int po]) (rest := []) ⟨hx, hb, hml, hown, hts⟩ (c_X5_noPole l D cI z0 A A2 hd v u po) (cwV 1 hts gX5_pole_X5_noPole rfl rfl rfl (by decide +kernel) ⟨Nat.le_of_ble_eq_true rfl, Nat.le_of_ble_eq_true rfl⟩) (tr_preV hK hZ rfl ⟨hZ, hL, hO⟩) rfl rfl hl.1 rfl (lv_room (Nat.le_of_ble_eq_true rfl)) dX5_pole_2 ⟨Nat.zero_le _, Nat.zero_le _⟩) ?_
  refine lv_if_ne (tgt := 17) hx hb dX5_pole_5 (by decide) (fun c_5 => ?_) (fun c_5 => ?_)
  · obtain ⟨sa, hsa⟩ := hXK.1 (150, "there is no such pole, or what is not 0 to 3") (by decide +kernel)
    exact vx_throwS (cls := "java/lang/IndexOutOfBoundsException") (names := ["java/lang/RuntimeException", "java/lang/Exception"]) (ik := 71) (ic := 75) (A := fun _ => False) hx hb hst hown (by decide +kernel) (by decide +kernel) kx75 ix75 hsa ax75 (by decide +kernel) hXK.2.2.1 hXK.2.2.2 va_S.rf (by rw [hml]; exact hl.1) dX5_pole_17 dX5_pole_20 dX5_pole_21 dX5_pole_23 dX5_pole_26 (fun x h => (hnt x h).elim) (Nat.le_of_ble_eq_true rfl) (Nat.le_of_ble_eq_true rfl) (Nat.le_of_ble_eq_true rfl) (Nat.le_of_ble_eq_true rfl) hlocks (fun t _ h2 h3 => ⟨by rw [xX5_pole, if_neg c_5], h2, h3⟩) (fun _ h => by cases h) (Nat.le_of_ble_eq_true rfl) (Nat.le_of_ble_eq_true rfl)
  · refine lv_iload_n hx hb dX5_pole_8 rfl (lv_at hl 2 rfl) ?_
    refine lv_iconst (v := 0) hx hb dX5_pole_9 (by decide) ?_
    refine lv_iconst (v := 3) hx hb dX5_pole_10 (by decide) ?_
    refine tr_ri (va_runS (As := [.int wh, .int 0, .int 3]) (rest := []) ⟨hx, hb, hml, hown, hts⟩ (c_X5_outside l D cI wh 0 3) (va_cwS 3 hts gX5_pole_X5_outside rfl rfl rfl (by decide +kernel) ⟨Nat.le_of_ble_eq_true rfl, Nat.le_of_ble_eq_true rfl⟩) (tr_preS hK trivial) rfl rfl hl.1 rfl (lv_room (Nat.le_of_ble_eq_true rfl)) dX5_pole_11 ⟨Nat.zero_le _, Nat.zero_le _⟩) ?_
    refine lv_if_eq (tgt := 27) hx hb dX5_pole_14 (by decide) (fun c_14 => ?_) (fun c_14 => ?_)
    · refine lv_aload_n hx hb dX5_pole_27 rfl (lv_at hl 0 rfl) ?_
      refine tr_get (ci := 5) (C := RX5) (T := TX5) (N := 2) hx hb hts hiX5 hown hK hZ rfl 0 (by decide) f10 (v := .ref (A 0)) rfl dX5_pole_28 ?_
      refine lv_iload_n hx hb dX5_pole_31 rfl (lv_at hl 1 rfl) ?_
      refine lv_iload_n hx hb dX5_pole_32 rfl (lv_at hl 2 rfl) ?_
      refine tr_ri (va_runV (As := [.int po, .int wh]) (rest := []) ⟨hx, hb, hml, hown, hts⟩ (c_X1_poleFact l D cI A hd.1.1 v po wh) (cwV 2 hts gX5_pole_X1_poleFact rfl rfl rfl (by decide +kernel) ⟨Nat.le_of_ble_eq_true rfl, Nat.le_of_ble_eq_true rfl⟩) (tr_preV hK hL.c0 rfl hL) rfl rfl hl.1 rfl (lv_room (Nat.le_of_ble_eq_true rfl)) dX5_pole_33 ⟨Nat.zero_le _, Nat.zero_le _⟩) ?_
      refine vx_ret (W.widen (k := 1) (n := 6) (Nat.zero_le _) (Nat.zero_le _) ?_)
      exact W.iret hx hb hr (fun t h1 h2 => ⟨(by rw [xX5_pole, if_pos c_5, if_pos c_14]), hS.endr (by rw [rX5_pole, if_pos c_5, if_pos c_14]) (by rw [fX5_pole, if_pos c_5, if_pos c_14]; exact ⟨hZ, hL, hO⟩) t h1 h2⟩) hS.2.2 dX5_pole_36
    · obtain ⟨sa, hsa⟩ := hXK.1 (150, "there is no such pole, or what is not 0 to 3") (by decide +kernel)
      exact vx_throwS (cls := "java/lang/IndexOutOfBoundsException") (names := ["java/lang/RuntimeException", "java/lang/Exception"]) (ik := 71) (ic := 75) (A := fun _ => False) hx hb hst hown (by decide +kernel) (by decide +kernel) kx75 ix75 hsa ax75 (by decide +kernel) hXK.2.2.1 hXK.2.2.2 va_S.rf (by rw [hml]; exact hl.1) dX5_pole_17 dX5_pole_20 dX5_pole_21 dX5_pole_23 dX5_pole_26 (fun x h => (hnt x h).elim) (Nat.le_of_ble_eq_true rfl) (Nat.le_of_ble_eq_true rfl) (Nat.le_of_ble_eq_true rfl) (Nat.le_of_ble_eq_true rfl) hlocks (fun t _ h2 h3 => ⟨by rw [xX5_pole, if_pos c_5, if_neg c_14], h2, h3⟩) (fun _ h => by cases h) (Nat.le_of_ble_eq_true rfl) (Nat.le_of_ble_eq_true rfl)
def fX5_sectionOf (v : LV) (u : LV) (sp : Int32) : LV × LV :=
  (if (fX5_noSpan v u sp) = 0 then (v, u) else (v, u))
def xX5_sectionOf (v : LV) (u : LV) (sp : Int32) : Option String :=
  (if (fX5_noSpan v u sp) = 0 then none else some "java/lang/IndexOutOfBoundsException")
def rX5_sectionOf (v : LV) (u : LV) (sp : Int32) : Int32 :=
  (if (fX5_noSpan v u sp) = 0 then lAt v 1 sp else 0)
set_option maxHeartbeats 4000000 in
set_option maxRecDepth 100000 in
theorem c_X5_sectionOf (l : Launch) (hst : l.stackTraces = false) (D : va_G) (cI : ClassId) (z0 : Nat) (A A2 : Nat → Nat) (hd : TDis z0 A A2) (v u : LV) (sp : Int32)  : vx_Met l yX5_sectionOf wsX5_sectionOf ({ frames := 6, cells := 1, slots := 6, locals := 100 }) (tr_PcX D cI [.ref z0, .int sp] (TRB D cI z0 A A2 (v, u))) (tr_QX (xX5_sectionOf v u sp) (some (.int (rX5_sectionOf v u sp))) (TRB D cI z0 A A2 (fX5_sectionOf v u sp)) (tOwn A A2)) (tr_XC (xX5_sectionOf v u sp)) 1 6 (tOwn A A2) := by
  refine vx_ofW (cc := cX5_sectionOf) (maxL := 2) (ret := (some .int)) (by decide) rfl ?_
  intro p e s m args below meth c s₁ B hml hnt hv
  obtain ⟨rfl, ⟨⟨hZ, hL, hO⟩, hK⟩, hXK⟩ := hv
  have hx := B.exec
  have hb := B.bytes
  have hr := B.returns
  have hts := atoms_spec (ws := wsX5_sectionOf) B.pre
  have hown : s.vm.findClass RX5 = some m.cls := findClass_of_methodNamed B.named
  have hlocks := B.notSynchronized
  replace hL : LNE D cI A v s.heap := hL
  replace hO : LNE D cI A2 u s.heap := hO
  have hiX1 : ∀ w ∈ u_ws RX1 TX1 6, w ∈ wsX5_sectionOf := by decide +kernel
  have hiX4 : ∀ w ∈ u_ws RX4 TX4 9, w ∈ wsX5_sectionOf := by decide +kernel
  have hiX5 : ∀ w ∈ u_ws RX5 TX5 2, w ∈ wsX5_sectionOf := by decide +kernel
  have ax75 := vx_hat (L := (vx_atS RX5 75 "java/lang/IndexOutOfBoundsException" ["java/lang/RuntimeException", "java/lang/Exception"])) (B := tr_bad) (fun w h => hts w ((by decide +kernel : ∀ w ∈ (vx_atS RX5 75 "java/lang/IndexOutOfBoundsException" ["java/lang/RuntimeException", "java/lang/Exception"]).filter goodWord, w ∈ wsX5_sectionOf) w h)) (by decide +kernel) (fun w hw => va_tabs (tr_bad_t w hw) rfl (hXK.2.1 w hw))
  have f10 := hts (.fieldLink RX5 10 "TramRibbon" "line" "LTramRibbon$Line;") (by decide +kernel)
  have f155 := hts (.fieldLink RX5 155 "TramRibbon$Wire" "sectionAt" "LTramRibbon$Row;") (by decide +kernel)
  have f45 := hts (.fieldLink RX5 45 "TramRibbon$Line" "wire" "LTramRibbon$Wire;") (by decide +kernel)
  have ix75 := hts (.initialized "java/lang/IndexOutOfBoundsException") (by decide +kernel)
  have kx75 := hts (.classLink RX5 71 "java/lang/IndexOutOfBoundsException") (by decide +kernel)
  have hl := lv_entry ([.ref z0, .int sp]) (n := 2) (Nat.le_of_ble_eq_true rfl)
  rw [lg_entry_eq]
  generalize (lg_sl ([.ref z0, .int sp]) ++ List.replicate (2 - (lg_sl ([.ref z0, .int sp])).length) Slot.unset).toArray = ls at hl ⊢
  replace hl : lv_has ls 2 [(0, .ref z0), (1, .int sp)] := hl
  have hS : tr_S (tOwn A A2) s.heap s.heap [] := tr_S.rf
  refine lv_aload_n hx hb dX5_sectionOf_0 rfl (lv_at hl 0 rfl) ?_
  refine lv_iload_n hx hb dX5_sectionOf_1 rfl (lv_at hl 1 rfl) ?_
  refine tr_ri (va_runV (As := [.int sp]) (rest := []) ⟨hx, hb, hml, hown, hts⟩ (c_X5_noSpan l D cI z0 A A2 hd v u sp) (cwV 1 hts gX5_sectionOf_X5_noSpan rfl rfl rfl (by decide +kernel) ⟨Nat.le_of_ble_eq_true rfl, Nat.le_of_ble_eq_true rfl⟩) (tr_preV hK hZ rfl ⟨hZ, hL, hO⟩) rfl rfl hl.1 rfl (lv_room (Nat.le_of_ble_eq_true rfl)) dX5_sectionOf_2 ⟨Nat.zero_le _, Nat.zero_le _⟩) ?_
  refine lv_if_eq (tgt := 18) hx hb dX5_sectionOf_5 (by decide) (fun c_5 => ?_) (fun c_5 => ?_)
  · refine lv_aload_n hx hb dX5_sectionOf_18 rfl (lv_at hl 0 rfl) ?_
    refine tr_get (ci := 5) (C := RX5) (T := TX5) (N := 2) hx hb hts hiX5 hown hK hZ rfl 0 (by decide) f10 (v := .ref (A 0)) rfl dX5_sectionOf_19 ?_
    refine tr_get (ci := 1) (C := RX1) (T := TX1) (N := 6) hx hb hts hiX1 hown hK hL.c0 rfl 0 (by decide) f45 (v := .ref (A 1)) rfl dX5_sectionOf_22 ?_
    refine tr_get (ci := 4) (C := RX4) (T := TX4) (N := 9) hx hb hts hiX4 hown hK hL.c1 rfl 3 (by decide) f155 (v := .ref (A 6)) rfl dX5_sectionOf_25 ?_
    refine lv_iload_n hx hb dX5_sectionOf_28 rfl (lv_at hl 1 rfl) ?_
    refine tr_ri (va_runV (As := [.int sp]) (rest := []) ⟨hx, hb, hml, hown, hts⟩ (c_lat l D cI A hd.1.1 v 1 (by decide) sp) (cwV 1 hts gX5_sectionOf_X2_at rfl rfl rfl (by decide +kernel) ⟨Nat.le_of_ble_eq_true rfl, Nat.le_of_ble_eq_true rfl⟩) (tr_preV hK (hL.robj 1 (by decide)) rfl (hL.row 1 (by decide))) rfl rfl hl.1 rfl (lv_room (Nat.le_of_ble_eq_true rfl)) dX5_sectionOf_29 ⟨Nat.zero_le _, Nat.zero_le _⟩) ?_
    refine vx_ret (W.widen (k := 1) (n := 6) (Nat.zero_le _) (Nat.zero_le _) ?_)
    exact W.iret hx hb hr (fun t h1 h2 => ⟨(by rw [xX5_sectionOf, if_pos c_5]), hS.endr (by rw [rX5_sectionOf, if_pos c_5]) (by rw [fX5_sectionOf, if_pos c_5]; exact ⟨hZ, hL, hO⟩) t h1 h2⟩) hS.2.2 dX5_sectionOf_32
  · obtain ⟨sa, hsa⟩ := hXK.1 (73, "there is no such span") (by decide +kernel)
    exact vx_throwS (cls := "java/lang/IndexOutOfBoundsException") (names := ["java/lang/RuntimeException", "java/lang/Exception"]) (ik := 71) (ic := 75) (A := fun _ => False) hx hb hst hown (by decide +kernel) (by decide +kernel) kx75 ix75 hsa ax75 (by decide +kernel) hXK.2.2.1 hXK.2.2.2 va_S.rf (by rw [hml]; exact hl.1) dX5_sectionOf_8 dX5_sectionOf_11 dX5_sectionOf_12 dX5_sectionOf_14 dX5_sectionOf_17 (fun x h => (hnt x h).elim) (Nat.le_of_ble_eq_true rfl) (Nat.le_of_ble_eq_true rfl) (Nat.le_of_ble_eq_true rfl) (Nat.le_of_ble_eq_true rfl) hlocks (fun t _ h2 h3 => ⟨by rw [xX5_sectionOf, if_neg c_5], h2, h3⟩) (fun _ h => by cases h) (Nat.le_of_ble_eq_true rfl) (Nat.le_of_ble_eq_true rfl)
def fX5_section (v : LV) (u : LV) (q : Int32) (wh : Int32) : LV × LV :=
  (if (fX5_noSection v u q) = 0 then (if (fX5_outside wh 0 5) = 0 then (v, u) else (v, u)) else (v, u))
def xX5_section (v : LV) (u : LV) (q : Int32) (wh : Int32) : Option String :=
  (if (fX5_noSection v u q) = 0 then (if (fX5_outside wh 0 5) = 0 then none else some "java/lang/IndexOutOfBoundsException") else some "java/lang/IndexOutOfBoundsException")
def rX5_section (v : LV) (u : LV) (q : Int32) (wh : Int32) : Int32 :=
  (if (fX5_noSection v u q) = 0 then (if (fX5_outside wh 0 5) = 0 then fX1_sectionFact v q wh else 0) else 0)
set_option maxHeartbeats 4000000 in
set_option maxRecDepth 100000 in
theorem c_X5_section (l : Launch) (hst : l.stackTraces = false) (D : va_G) (cI : ClassId) (z0 : Nat) (A A2 : Nat → Nat) (hd : TDis z0 A A2) (v u : LV) (q : Int32) (wh : Int32)  : vx_Met l yX5_section wsX5_section ({ frames := 6, cells := 1, slots := 6, locals := 113 }) (tr_PcX D cI [.ref z0, .int q, .int wh] (TRB D cI z0 A A2 (v, u))) (tr_QX (xX5_section v u q wh) (some (.int (rX5_section v u q wh))) (TRB D cI z0 A A2 (fX5_section v u q wh)) (tOwn A A2)) (tr_XC (xX5_section v u q wh)) 1 6 (tOwn A A2) := by
  refine vx_ofW (cc := cX5_section) (maxL := 3) (ret := (some .int)) (by decide) rfl ?_
  intro p e s m args below meth c s₁ B hml hnt hv
  obtain ⟨rfl, ⟨⟨hZ, hL, hO⟩, hK⟩, hXK⟩ := hv
  have hx := B.exec
  have hb := B.bytes
  have hr := B.returns
  have hts := atoms_spec (ws := wsX5_section) B.pre
  have hown : s.vm.findClass RX5 = some m.cls := findClass_of_methodNamed B.named
  have hlocks := B.notSynchronized
  replace hL : LNE D cI A v s.heap := hL
  replace hO : LNE D cI A2 u s.heap := hO
  have hiX5 : ∀ w ∈ u_ws RX5 TX5 2, w ∈ wsX5_section := by decide +kernel
  have ax75 := vx_hat (L := (vx_atS RX5 75 "java/lang/IndexOutOfBoundsException" ["java/lang/RuntimeException", "java/lang/Exception"])) (B := tr_bad) (fun w h => hts w ((by decide +kernel : ∀ w ∈ (vx_atS RX5 75 "java/lang/IndexOutOfBoundsException" ["java/lang/RuntimeException", "java/lang/Exception"]).filter goodWord, w ∈ wsX5_section) w h)) (by decide +kernel) (fun w hw => va_tabs (tr_bad_t w hw) rfl (hXK.2.1 w hw))
  have f10 := hts (.fieldLink RX5 10 "TramRibbon" "line" "LTramRibbon$Line;") (by decide +kernel)
  have ix75 := hts (.initialized "java/lang/IndexOutOfBoundsException") (by decide +kernel)
  have kx75 := hts (.classLink RX5 71 "java/lang/IndexOutOfBoundsException") (by decide +kernel)
  have hl := lv_entry ([.ref z0, .int q, .int wh]) (n := 3) (Nat.le_of_ble_eq_true rfl)
  rw [lg_entry_eq]
  generalize (lg_sl ([.ref z0, .int q, .int wh]) ++ List.replicate (3 - (lg_sl ([.ref z0, .int q, .int wh])).length) Slot.unset).toArray = ls at hl ⊢
  replace hl : lv_has ls 3 [(0, .ref z0), (1, .int q), (2, .int wh)] := hl
  have hS : tr_S (tOwn A A2) s.heap s.heap [] := tr_S.rf
  refine lv_aload_n hx hb dX5_section_0 rfl (lv_at hl 0 rfl) ?_
  refine lv_iload_n hx hb dX5_section_1 rfl (lv_at hl 1 rfl) ?_
  refine tr_ri (va_runV (As := [.int q]) (rest := []) ⟨hx, hb, hml, hown, hts⟩ (c_X5_noSection l D cI z0 A A2 hd v u q) (cwV 1 hts gX5_section_X5_noSection rfl rfl rfl (by decide +kernel) ⟨Nat.le_of_ble_eq_true rfl, Nat.le_of_ble_eq_true rfl⟩) (tr_preV hK hZ rfl ⟨hZ, hL, hO⟩) rfl rfl hl.1 rfl (lv_room (Nat.le_of_ble_eq_true rfl)) dX5_section_2 ⟨Nat.zero_le _, Nat.zero_le _⟩) ?_
  refine lv_if_ne (tgt := 17) hx hb dX5_section_5 (by decide) (fun c_5 => ?_) (fun c_5 => ?_)
  · obtain ⟨sa, hsa⟩ := hXK.1 (158, "there is no such section, or what is not 0 to 5") (by decide +kernel)
    exact vx_throwS (cls := "java/lang/IndexOutOfBoundsException") (names := ["java/lang/RuntimeException", "java/lang/Exception"]) (ik := 71) (ic := 75) (A := fun _ => False) hx hb hst hown (by decide +kernel) (by decide +kernel) kx75 ix75 hsa ax75 (by decide +kernel) hXK.2.2.1 hXK.2.2.2 va_S.rf (by rw [hml]; exact hl.1) dX5_section_17 dX5_section_20 dX5_section_21 dX5_section_23 dX5_section_26 (fun x h => (hnt x h).elim) (Nat.le_of_ble_eq_true rfl) (Nat.le_of_ble_eq_true rfl) (Nat.le_of_ble_eq_true rfl) (Nat.le_of_ble_eq_true rfl) hlocks (fun t _ h2 h3 => ⟨by rw [xX5_section, if_neg c_5], h2, h3⟩) (fun _ h => by cases h) (Nat.le_of_ble_eq_true rfl) (Nat.le_of_ble_eq_true rfl)
  · refine lv_iload_n hx hb dX5_section_8 rfl (lv_at hl 2 rfl) ?_
    refine lv_iconst (v := 0) hx hb dX5_section_9 (by decide) ?_
    refine lv_iconst (v := 5) hx hb dX5_section_10 (by decide) ?_
    refine tr_ri (va_runS (As := [.int wh, .int 0, .int 5]) (rest := []) ⟨hx, hb, hml, hown, hts⟩ (c_X5_outside l D cI wh 0 5) (va_cwS 3 hts gX5_section_X5_outside rfl rfl rfl (by decide +kernel) ⟨Nat.le_of_ble_eq_true rfl, Nat.le_of_ble_eq_true rfl⟩) (tr_preS hK trivial) rfl rfl hl.1 rfl (lv_room (Nat.le_of_ble_eq_true rfl)) dX5_section_11 ⟨Nat.zero_le _, Nat.zero_le _⟩) ?_
    refine lv_if_eq (tgt := 27) hx hb dX5_section_14 (by decide) (fun c_14 => ?_) (fun c_14 => ?_)
    · refine lv_aload_n hx hb dX5_section_27 rfl (lv_at hl 0 rfl) ?_
      refine tr_get (ci := 5) (C := RX5) (T := TX5) (N := 2) hx hb hts hiX5 hown hK hZ rfl 0 (by decide) f10 (v := .ref (A 0)) rfl dX5_section_28 ?_
      refine lv_iload_n hx hb dX5_section_31 rfl (lv_at hl 1 rfl) ?_
      refine lv_iload_n hx hb dX5_section_32 rfl (lv_at hl 2 rfl) ?_
      refine tr_ri (va_runV (As := [.int q, .int wh]) (rest := []) ⟨hx, hb, hml, hown, hts⟩ (c_X1_sectionFact l D cI A hd.1.1 v q wh) (cwV 2 hts gX5_section_X1_sectionFact rfl rfl rfl (by decide +kernel) ⟨Nat.le_of_ble_eq_true rfl, Nat.le_of_ble_eq_true rfl⟩) (tr_preV hK hL.c0 rfl hL) rfl rfl hl.1 rfl (lv_room (Nat.le_of_ble_eq_true rfl)) dX5_section_33 ⟨Nat.zero_le _, Nat.zero_le _⟩) ?_
      refine vx_ret (W.widen (k := 1) (n := 6) (Nat.zero_le _) (Nat.zero_le _) ?_)
      exact W.iret hx hb hr (fun t h1 h2 => ⟨(by rw [xX5_section, if_pos c_5, if_pos c_14]), hS.endr (by rw [rX5_section, if_pos c_5, if_pos c_14]) (by rw [fX5_section, if_pos c_5, if_pos c_14]; exact ⟨hZ, hL, hO⟩) t h1 h2⟩) hS.2.2 dX5_section_36
    · obtain ⟨sa, hsa⟩ := hXK.1 (158, "there is no such section, or what is not 0 to 5") (by decide +kernel)
      exact vx_throwS (cls := "java/lang/IndexOutOfBoundsException") (names := ["java/lang/RuntimeException", "java/lang/Exception"]) (ik := 71) (ic := 75) (A := fun _ => False) hx hb hst hown (by decide +kernel) (by decide +kernel) kx75 ix75 hsa ax75 (by decide +kernel) hXK.2.2.1 hXK.2.2.2 va_S.rf (by rw [hml]; exact hl.1) dX5_section_17 dX5_section_20 dX5_section_21 dX5_section_23 dX5_section_26 (fun x h => (hnt x h).elim) (Nat.le_of_ble_eq_true rfl) (Nat.le_of_ble_eq_true rfl) (Nat.le_of_ble_eq_true rfl) (Nat.le_of_ble_eq_true rfl) hlocks (fun t _ h2 h3 => ⟨by rw [xX5_section, if_pos c_5, if_neg c_14], h2, h3⟩) (fun _ h => by cases h) (Nat.le_of_ble_eq_true rfl) (Nat.le_of_ble_eq_true rfl)
def fX5_car (v : LV) (u : LV) (cr : Int32) (wh : Int32) : LV × LV :=
  (if (fX5_outside cr 0 ((v.1 2) - 1)) = 0 then (if (fX5_outside wh 0 7) = 0 then (v, u) else (v, u)) else (v, u))
def xX5_car (v : LV) (u : LV) (cr : Int32) (wh : Int32) : Option String :=
  (if (fX5_outside cr 0 ((v.1 2) - 1)) = 0 then (if (fX5_outside wh 0 7) = 0 then none else some "java/lang/IndexOutOfBoundsException") else some "java/lang/IndexOutOfBoundsException")
def rX5_car (v : LV) (u : LV) (cr : Int32) (wh : Int32) : Int32 :=
  (if (fX5_outside cr 0 ((v.1 2) - 1)) = 0 then (if (fX5_outside wh 0 7) = 0 then fX1_carFact v cr wh else 0) else 0)
set_option maxHeartbeats 4000000 in
set_option maxRecDepth 100000 in
theorem c_X5_car (l : Launch) (hst : l.stackTraces = false) (D : va_G) (cI : ClassId) (z0 : Nat) (A A2 : Nat → Nat) (hd : TDis z0 A A2) (v u : LV) (cr : Int32) (wh : Int32)  : vx_Met l yX5_car wsX5_car ({ frames := 6, cells := 1, slots := 6, locals := 100 }) (tr_PcX D cI [.ref z0, .int cr, .int wh] (TRB D cI z0 A A2 (v, u))) (tr_QX (xX5_car v u cr wh) (some (.int (rX5_car v u cr wh))) (TRB D cI z0 A A2 (fX5_car v u cr wh)) (tOwn A A2)) (tr_XC (xX5_car v u cr wh)) 1 6 (tOwn A A2) := by
  refine vx_ofW (cc := cX5_car) (maxL := 3) (ret := (some .int)) (by decide) rfl ?_
  intro p e s m args below meth c s₁ B hml hnt hv
  obtain ⟨rfl, ⟨⟨hZ, hL, hO⟩, hK⟩, hXK⟩ := hv
  have hx := B.exec
  have hb := B.bytes
  have hr := B.returns
  have hts := atoms_spec (ws := wsX5_car) B.pre
  have hown : s.vm.findClass RX5 = some m.cls := findClass_of_methodNamed B.named
  have hlocks := B.notSynchronized
  replace hL : LNE D cI A v s.heap := hL
  replace hO : LNE D cI A2 u s.heap := hO
  have hiX0 : ∀ w ∈ u_ws RX0 TX0 9, w ∈ wsX5_car := by decide +kernel
  have hiX1 : ∀ w ∈ u_ws RX1 TX1 6, w ∈ wsX5_car := by decide +kernel
  have hiX5 : ∀ w ∈ u_ws RX5 TX5 2, w ∈ wsX5_car := by decide +kernel
  have ax75 := vx_hat (L := (vx_atS RX5 75 "java/lang/IndexOutOfBoundsException" ["java/lang/RuntimeException", "java/lang/Exception"])) (B := tr_bad) (fun w h => hts w ((by decide +kernel : ∀ w ∈ (vx_atS RX5 75 "java/lang/IndexOutOfBoundsException" ["java/lang/RuntimeException", "java/lang/Exception"]).filter goodWord, w ∈ wsX5_car) w h)) (by decide +kernel) (fun w hw => va_tabs (tr_bad_t w hw) rfl (hXK.2.1 w hw))
  have f10 := hts (.fieldLink RX5 10 "TramRibbon" "line" "LTramRibbon$Line;") (by decide +kernel)
  have f30 := hts (.fieldLink RX5 30 "TramRibbon$Line" "fleet" "LTramRibbon$Fleet;") (by decide +kernel)
  have f34 := hts (.fieldLink RX5 34 "TramRibbon$Fleet" "size" "I") (by decide +kernel)
  have ix75 := hts (.initialized "java/lang/IndexOutOfBoundsException") (by decide +kernel)
  have kx75 := hts (.classLink RX5 71 "java/lang/IndexOutOfBoundsException") (by decide +kernel)
  have hl := lv_entry ([.ref z0, .int cr, .int wh]) (n := 3) (Nat.le_of_ble_eq_true rfl)
  rw [lg_entry_eq]
  generalize (lg_sl ([.ref z0, .int cr, .int wh]) ++ List.replicate (3 - (lg_sl ([.ref z0, .int cr, .int wh])).length) Slot.unset).toArray = ls at hl ⊢
  replace hl : lv_has ls 3 [(0, .ref z0), (1, .int cr), (2, .int wh)] := hl
  have hS : tr_S (tOwn A A2) s.heap s.heap [] := tr_S.rf
  refine lv_iload_n hx hb dX5_car_0 rfl (lv_at hl 1 rfl) ?_
  refine lv_iconst (v := 0) hx hb dX5_car_1 (by decide) ?_
  refine lv_aload_n hx hb dX5_car_2 rfl (lv_at hl 0 rfl) ?_
  refine tr_get (ci := 5) (C := RX5) (T := TX5) (N := 2) hx hb hts hiX5 hown hK hZ rfl 0 (by decide) f10 (v := .ref (A 0)) rfl dX5_car_3 ?_
  refine tr_get (ci := 1) (C := RX1) (T := TX1) (N := 6) hx hb hts hiX1 hown hK hL.c0 rfl 2 (by decide) f30 (v := .ref (A 3)) rfl dX5_car_6 ?_
  refine tr_get (ci := 0) (C := RX0) (T := TX0) (N := 9) hx hb hts hiX0 hown hK hL.c3 rfl 0 (by decide) f34 (v := .int (v.1 2)) rfl dX5_car_9 ?_
  refine lv_iconst (v := 1) hx hb dX5_car_12 (by decide) ?_
  refine lv_isub hx hb dX5_car_13 ?_
  refine tr_ri (va_runS (As := [.int cr, .int 0, .int ((v.1 2) - 1)]) (rest := []) ⟨hx, hb, hml, hown, hts⟩ (c_X5_outside l D cI cr 0 ((v.1 2) - 1)) (va_cwS 3 hts gX5_car_X5_outside rfl rfl rfl (by decide +kernel) ⟨Nat.le_of_ble_eq_true rfl, Nat.le_of_ble_eq_true rfl⟩) (tr_preS hK trivial) rfl rfl hl.1 rfl (lv_room (Nat.le_of_ble_eq_true rfl)) dX5_car_14 ⟨Nat.zero_le _, Nat.zero_le _⟩) ?_
  refine lv_if_ne (tgt := 30) hx hb dX5_car_17 (by decide) (fun c_17 => ?_) (fun c_17 => ?_)
  · obtain ⟨sa, hsa⟩ := hXK.1 (163, "there is no such car, or what is not 0 to 7") (by decide +kernel)
    exact vx_throwS (cls := "java/lang/IndexOutOfBoundsException") (names := ["java/lang/RuntimeException", "java/lang/Exception"]) (ik := 71) (ic := 75) (A := fun _ => False) hx hb hst hown (by decide +kernel) (by decide +kernel) kx75 ix75 hsa ax75 (by decide +kernel) hXK.2.2.1 hXK.2.2.2 va_S.rf (by rw [hml]; exact hl.1) dX5_car_30 dX5_car_33 dX5_car_34 dX5_car_36 dX5_car_39 (fun x h => (hnt x h).elim) (Nat.le_of_ble_eq_true rfl) (Nat.le_of_ble_eq_true rfl) (Nat.le_of_ble_eq_true rfl) (Nat.le_of_ble_eq_true rfl) hlocks (fun t _ h2 h3 => ⟨by rw [xX5_car, if_neg c_17], h2, h3⟩) (fun _ h => by cases h) (Nat.le_of_ble_eq_true rfl) (Nat.le_of_ble_eq_true rfl)
  · refine lv_iload_n hx hb dX5_car_20 rfl (lv_at hl 2 rfl) ?_
    refine lv_iconst (v := 0) hx hb dX5_car_21 (by decide) ?_
    refine lv_bipush (v := 7) hx hb dX5_car_22 (by decide) ?_
    refine tr_ri (va_runS (As := [.int wh, .int 0, .int 7]) (rest := []) ⟨hx, hb, hml, hown, hts⟩ (c_X5_outside l D cI wh 0 7) (va_cwS 3 hts gX5_car_X5_outside rfl rfl rfl (by decide +kernel) ⟨Nat.le_of_ble_eq_true rfl, Nat.le_of_ble_eq_true rfl⟩) (tr_preS hK trivial) rfl rfl hl.1 rfl (lv_room (Nat.le_of_ble_eq_true rfl)) dX5_car_24 ⟨Nat.zero_le _, Nat.zero_le _⟩) ?_
    refine lv_if_eq (tgt := 40) hx hb dX5_car_27 (by decide) (fun c_27 => ?_) (fun c_27 => ?_)
    · refine lv_aload_n hx hb dX5_car_40 rfl (lv_at hl 0 rfl) ?_
      refine tr_get (ci := 5) (C := RX5) (T := TX5) (N := 2) hx hb hts hiX5 hown hK hZ rfl 0 (by decide) f10 (v := .ref (A 0)) rfl dX5_car_41 ?_
      refine lv_iload_n hx hb dX5_car_44 rfl (lv_at hl 1 rfl) ?_
      refine lv_iload_n hx hb dX5_car_45 rfl (lv_at hl 2 rfl) ?_
      refine tr_ri (va_runV (As := [.int cr, .int wh]) (rest := []) ⟨hx, hb, hml, hown, hts⟩ (c_X1_carFact l D cI A hd.1.1 v cr wh) (cwV 2 hts gX5_car_X1_carFact rfl rfl rfl (by decide +kernel) ⟨Nat.le_of_ble_eq_true rfl, Nat.le_of_ble_eq_true rfl⟩) (tr_preV hK hL.c0 rfl hL) rfl rfl hl.1 rfl (lv_room (Nat.le_of_ble_eq_true rfl)) dX5_car_46 ⟨Nat.zero_le _, Nat.zero_le _⟩) ?_
      refine vx_ret (W.widen (k := 1) (n := 6) (Nat.zero_le _) (Nat.zero_le _) ?_)
      exact W.iret hx hb hr (fun t h1 h2 => ⟨(by rw [xX5_car, if_pos c_17, if_pos c_27]), hS.endr (by rw [rX5_car, if_pos c_17, if_pos c_27]) (by rw [fX5_car, if_pos c_17, if_pos c_27]; exact ⟨hZ, hL, hO⟩) t h1 h2⟩) hS.2.2 dX5_car_49
    · obtain ⟨sa, hsa⟩ := hXK.1 (163, "there is no such car, or what is not 0 to 7") (by decide +kernel)
      exact vx_throwS (cls := "java/lang/IndexOutOfBoundsException") (names := ["java/lang/RuntimeException", "java/lang/Exception"]) (ik := 71) (ic := 75) (A := fun _ => False) hx hb hst hown (by decide +kernel) (by decide +kernel) kx75 ix75 hsa ax75 (by decide +kernel) hXK.2.2.1 hXK.2.2.2 va_S.rf (by rw [hml]; exact hl.1) dX5_car_30 dX5_car_33 dX5_car_34 dX5_car_36 dX5_car_39 (fun x h => (hnt x h).elim) (Nat.le_of_ble_eq_true rfl) (Nat.le_of_ble_eq_true rfl) (Nat.le_of_ble_eq_true rfl) (Nat.le_of_ble_eq_true rfl) hlocks (fun t _ h2 h3 => ⟨by rw [xX5_car, if_pos c_17, if_neg c_27], h2, h3⟩) (fun _ h => by cases h) (Nat.le_of_ble_eq_true rfl) (Nat.le_of_ble_eq_true rfl)
def fX5_pass (v : LV) (u : LV) (tk : Int32) : LV × LV :=
  (if (fX5_outside tk 1 200) = 0 then (fX1_run v tk, u) else (v, u))
def xX5_pass (v : LV) (u : LV) (tk : Int32) : Option String :=
  (if (fX5_outside tk 1 200) = 0 then none else some "java/lang/IllegalArgumentException")
def rX5_pass (v : LV) (u : LV) (tk : Int32) : Int32 :=
  (if (fX5_outside tk 1 200) = 0 then rX1_run v tk else 0)
set_option maxHeartbeats 4000000 in
set_option maxRecDepth 100000 in
theorem c_X5_pass (l : Launch) (hst : l.stackTraces = false) (D : va_G) (cI : ClassId) (z0 : Nat) (A A2 : Nat → Nat) (hd : TDis z0 A A2) (v u : LV) (tk : Int32)  : vx_Met l yX5_pass wsX5_pass ({ frames := 6, cells := 1, slots := 6, locals := 132 }) (tr_PcX D cI [.ref z0, .int tk] (TRB D cI z0 A A2 (v, u))) (tr_QX (xX5_pass v u tk) (some (.int (rX5_pass v u tk))) (TRB D cI z0 A A2 (fX5_pass v u tk)) (tOwn A A2)) (tr_XC (xX5_pass v u tk)) 1 6 (tOwn A A2) := by
  refine vx_ofW (cc := cX5_pass) (maxL := 2) (ret := (some .int)) (by decide) rfl ?_
  intro p e s m args below meth c s₁ B hml hnt hv
  obtain ⟨rfl, ⟨⟨hZ, hL, hO⟩, hK⟩, hXK⟩ := hv
  have hx := B.exec
  have hb := B.bytes
  have hr := B.returns
  have hts := atoms_spec (ws := wsX5_pass) B.pre
  have hown : s.vm.findClass RX5 = some m.cls := findClass_of_methodNamed B.named
  have hlocks := B.notSynchronized
  replace hL : LNE D cI A v s.heap := hL
  replace hO : LNE D cI A2 u s.heap := hO
  have hiX5 : ∀ w ∈ u_ws RX5 TX5 2, w ∈ wsX5_pass := by decide +kernel
  have ax27 := vx_hat (L := (vx_atS RX5 27 "java/lang/IllegalArgumentException" ["java/lang/RuntimeException", "java/lang/Exception"])) (B := tr_bad) (fun w h => hts w ((by decide +kernel : ∀ w ∈ (vx_atS RX5 27 "java/lang/IllegalArgumentException" ["java/lang/RuntimeException", "java/lang/Exception"]).filter goodWord, w ∈ wsX5_pass) w h)) (by decide +kernel) (fun w hw => va_tabs (tr_bad_t w hw) rfl (hXK.2.1 w hw))
  have f10 := hts (.fieldLink RX5 10 "TramRibbon" "line" "LTramRibbon$Line;") (by decide +kernel)
  have ix27 := hts (.initialized "java/lang/IllegalArgumentException") (by decide +kernel)
  have kx27 := hts (.classLink RX5 23 "java/lang/IllegalArgumentException") (by decide +kernel)
  have hl := lv_entry ([.ref z0, .int tk]) (n := 2) (Nat.le_of_ble_eq_true rfl)
  rw [lg_entry_eq]
  generalize (lg_sl ([.ref z0, .int tk]) ++ List.replicate (2 - (lg_sl ([.ref z0, .int tk])).length) Slot.unset).toArray = ls at hl ⊢
  replace hl : lv_has ls 2 [(0, .ref z0), (1, .int tk)] := hl
  have hS : tr_S (tOwn A A2) s.heap s.heap [] := tr_S.rf
  refine lv_iload_n hx hb dX5_pass_0 rfl (lv_at hl 1 rfl) ?_
  refine lv_iconst (v := 1) hx hb dX5_pass_1 (by decide) ?_
  refine lv_sipush (v := 200) hx hb dX5_pass_2 (by decide) ?_
  refine tr_ri (va_runS (As := [.int tk, .int 1, .int 200]) (rest := []) ⟨hx, hb, hml, hown, hts⟩ (c_X5_outside l D cI tk 1 200) (va_cwS 3 hts gX5_pass_X5_outside rfl rfl rfl (by decide +kernel) ⟨Nat.le_of_ble_eq_true rfl, Nat.le_of_ble_eq_true rfl⟩) (tr_preS hK trivial) rfl rfl hl.1 rfl (lv_room (Nat.le_of_ble_eq_true rfl)) dX5_pass_5 ⟨Nat.zero_le _, Nat.zero_le _⟩) ?_
  refine lv_if_eq (tgt := 21) hx hb dX5_pass_8 (by decide) (fun c_8 => ?_) (fun c_8 => ?_)
  · refine lv_aload_n hx hb dX5_pass_21 rfl (lv_at hl 0 rfl) ?_
    refine tr_get (ci := 5) (C := RX5) (T := TX5) (N := 2) hx hb hts hiX5 hown hK hZ rfl 0 (by decide) f10 (v := .ref (A 0)) rfl dX5_pass_22 ?_
    refine lv_iload_n hx hb dX5_pass_25 rfl (lv_at hl 1 rfl) ?_
    refine tr_wi (va_runV (As := [.int tk]) (rest := []) ⟨hx, hb, hml, hown, hts⟩ (c_X1_run l D cI A hd.1.1 v tk) (cwV 1 hts gX5_pass_X1_run rfl rfl rfl (by decide +kernel) ⟨Nat.le_of_ble_eq_true rfl, Nat.le_of_ble_eq_true rfl⟩) (tr_preV hK hL.c0 rfl hL) rfl rfl hl.1 rfl (lv_room (Nat.le_of_ble_eq_true rfl)) dX5_pass_26 ⟨Nat.zero_le _, Nat.zero_le _⟩) hS (fun _ h => Or.inl h) (fun H locs hL hz hk hS => ?_)
    replace hO := ln_keepO hd.1 hO hk
    replace hZ := rb_keep1 hd hZ hk
    clear hk hz
    refine vx_ret (W.widen (k := 1) (n := 6) (Nat.zero_le _) (Nat.zero_le _) ?_)
    exact W.iret hx hb hr (fun t h1 h2 => ⟨(by rw [xX5_pass, if_pos c_8]), hS.endr (by rw [rX5_pass, if_pos c_8]) (by rw [fX5_pass, if_pos c_8]; exact ⟨hZ, hL, hO⟩) t h1 h2⟩) hS.2.2 dX5_pass_29
  · obtain ⟨sa, hsa⟩ := hXK.1 (168, "ticks is not 1 to 200") (by decide +kernel)
    exact vx_throwS (cls := "java/lang/IllegalArgumentException") (names := ["java/lang/RuntimeException", "java/lang/Exception"]) (ik := 23) (ic := 27) (A := fun _ => False) hx hb hst hown (by decide +kernel) (by decide +kernel) kx27 ix27 hsa ax27 (by decide +kernel) hXK.2.2.1 hXK.2.2.2 va_S.rf (by rw [hml]; exact hl.1) dX5_pass_11 dX5_pass_14 dX5_pass_15 dX5_pass_17 dX5_pass_20 (fun x h => (hnt x h).elim) (Nat.le_of_ble_eq_true rfl) (Nat.le_of_ble_eq_true rfl) (Nat.le_of_ble_eq_true rfl) (Nat.le_of_ble_eq_true rfl) hlocks (fun t _ h2 h3 => ⟨by rw [xX5_pass, if_neg c_8], h2, h3⟩) (fun _ h => by cases h) (Nat.le_of_ble_eq_true rfl) (Nat.le_of_ble_eq_true rfl)
def fX5_count (v : LV) (u : LV) (wh : Int32) : LV × LV :=
  (if (fX5_outside wh 0 10) = 0 then (v, u) else (v, u))
def xX5_count (v : LV) (u : LV) (wh : Int32) : Option String :=
  (if (fX5_outside wh 0 10) = 0 then none else some "java/lang/IndexOutOfBoundsException")
def rX5_count (v : LV) (u : LV) (wh : Int32) : Int32 :=
  (if (fX5_outside wh 0 10) = 0 then fX1_total v wh else 0)
set_option maxHeartbeats 4000000 in
set_option maxRecDepth 100000 in
theorem c_X5_count (l : Launch) (hst : l.stackTraces = false) (D : va_G) (cI : ClassId) (z0 : Nat) (A A2 : Nat → Nat) (hd : TDis z0 A A2) (v u : LV) (wh : Int32)  : vx_Met l yX5_count wsX5_count ({ frames := 6, cells := 1, slots := 6, locals := 100 }) (tr_PcX D cI [.ref z0, .int wh] (TRB D cI z0 A A2 (v, u))) (tr_QX (xX5_count v u wh) (some (.int (rX5_count v u wh))) (TRB D cI z0 A A2 (fX5_count v u wh)) (tOwn A A2)) (tr_XC (xX5_count v u wh)) 1 6 (tOwn A A2) := by
  refine vx_ofW (cc := cX5_count) (maxL := 2) (ret := (some .int)) (by decide) rfl ?_
  intro p e s m args below meth c s₁ B hml hnt hv
  obtain ⟨rfl, ⟨⟨hZ, hL, hO⟩, hK⟩, hXK⟩ := hv
  have hx := B.exec
  have hb := B.bytes
  have hr := B.returns
  have hts := atoms_spec (ws := wsX5_count) B.pre
  have hown : s.vm.findClass RX5 = some m.cls := findClass_of_methodNamed B.named
  have hlocks := B.notSynchronized
  replace hL : LNE D cI A v s.heap := hL
  replace hO : LNE D cI A2 u s.heap := hO
  have hiX5 : ∀ w ∈ u_ws RX5 TX5 2, w ∈ wsX5_count := by decide +kernel
  have ax75 := vx_hat (L := (vx_atS RX5 75 "java/lang/IndexOutOfBoundsException" ["java/lang/RuntimeException", "java/lang/Exception"])) (B := tr_bad) (fun w h => hts w ((by decide +kernel : ∀ w ∈ (vx_atS RX5 75 "java/lang/IndexOutOfBoundsException" ["java/lang/RuntimeException", "java/lang/Exception"]).filter goodWord, w ∈ wsX5_count) w h)) (by decide +kernel) (fun w hw => va_tabs (tr_bad_t w hw) rfl (hXK.2.1 w hw))
  have f10 := hts (.fieldLink RX5 10 "TramRibbon" "line" "LTramRibbon$Line;") (by decide +kernel)
  have ix75 := hts (.initialized "java/lang/IndexOutOfBoundsException") (by decide +kernel)
  have kx75 := hts (.classLink RX5 71 "java/lang/IndexOutOfBoundsException") (by decide +kernel)
  have hl := lv_entry ([.ref z0, .int wh]) (n := 2) (Nat.le_of_ble_eq_true rfl)
  rw [lg_entry_eq]
  generalize (lg_sl ([.ref z0, .int wh]) ++ List.replicate (2 - (lg_sl ([.ref z0, .int wh])).length) Slot.unset).toArray = ls at hl ⊢
  replace hl : lv_has ls 2 [(0, .ref z0), (1, .int wh)] := hl
  have hS : tr_S (tOwn A A2) s.heap s.heap [] := tr_S.rf
  refine lv_iload_n hx hb dX5_count_0 rfl (lv_at hl 1 rfl) ?_
  refine lv_iconst (v := 0) hx hb dX5_count_1 (by decide) ?_
  refine lv_bipush (v := 10) hx hb dX5_count_2 (by decide) ?_
  refine tr_ri (va_runS (As := [.int wh, .int 0, .int 10]) (rest := []) ⟨hx, hb, hml, hown, hts⟩ (c_X5_outside l D cI wh 0 10) (va_cwS 3 hts gX5_count_X5_outside rfl rfl rfl (by decide +kernel) ⟨Nat.le_of_ble_eq_true rfl, Nat.le_of_ble_eq_true rfl⟩) (tr_preS hK trivial) rfl rfl hl.1 rfl (lv_room (Nat.le_of_ble_eq_true rfl)) dX5_count_4 ⟨Nat.zero_le _, Nat.zero_le _⟩) ?_
  refine lv_if_eq (tgt := 20) hx hb dX5_count_7 (by decide) (fun c_7 => ?_) (fun c_7 => ?_)
  · refine lv_aload_n hx hb dX5_count_20 rfl (lv_at hl 0 rfl) ?_
    refine tr_get (ci := 5) (C := RX5) (T := TX5) (N := 2) hx hb hts hiX5 hown hK hZ rfl 0 (by decide) f10 (v := .ref (A 0)) rfl dX5_count_21 ?_
    refine lv_iload_n hx hb dX5_count_24 rfl (lv_at hl 1 rfl) ?_
    refine tr_ri (va_runV (As := [.int wh]) (rest := []) ⟨hx, hb, hml, hown, hts⟩ (c_X1_total l D cI A hd.1.1 v wh) (cwV 1 hts gX5_count_X1_total rfl rfl rfl (by decide +kernel) ⟨Nat.le_of_ble_eq_true rfl, Nat.le_of_ble_eq_true rfl⟩) (tr_preV hK hL.c0 rfl hL) rfl rfl hl.1 rfl (lv_room (Nat.le_of_ble_eq_true rfl)) dX5_count_25 ⟨Nat.zero_le _, Nat.zero_le _⟩) ?_
    refine vx_ret (W.widen (k := 1) (n := 6) (Nat.zero_le _) (Nat.zero_le _) ?_)
    exact W.iret hx hb hr (fun t h1 h2 => ⟨(by rw [xX5_count, if_pos c_7]), hS.endr (by rw [rX5_count, if_pos c_7]) (by rw [fX5_count, if_pos c_7]; exact ⟨hZ, hL, hO⟩) t h1 h2⟩) hS.2.2 dX5_count_28
  · obtain ⟨sa, hsa⟩ := hXK.1 (173, "what is not 0 to 10") (by decide +kernel)
    exact vx_throwS (cls := "java/lang/IndexOutOfBoundsException") (names := ["java/lang/RuntimeException", "java/lang/Exception"]) (ik := 71) (ic := 75) (A := fun _ => False) hx hb hst hown (by decide +kernel) (by decide +kernel) kx75 ix75 hsa ax75 (by decide +kernel) hXK.2.2.1 hXK.2.2.2 va_S.rf (by rw [hml]; exact hl.1) dX5_count_10 dX5_count_13 dX5_count_14 dX5_count_16 dX5_count_19 (fun x h => (hnt x h).elim) (Nat.le_of_ble_eq_true rfl) (Nat.le_of_ble_eq_true rfl) (Nat.le_of_ble_eq_true rfl) (Nat.le_of_ble_eq_true rfl) hlocks (fun t _ h2 h3 => ⟨by rw [xX5_count, if_neg c_7], h2, h3⟩) (fun _ h => by cases h) (Nat.le_of_ble_eq_true rfl) (Nat.le_of_ble_eq_true rfl)
