/-! the ribbon: the mean -/
def fX5_mean (v : LV) (u : LV) : UInt64 :=
  (if (v.1 0) ≤ 0 then FP.dconst0 else FP.ddiv (FP.i2d (lSum v 7)) (FP.i2d (v.1 0)))
set_option maxHeartbeats 4000000 in
set_option maxRecDepth 100000 in
theorem c_X5_mean (l : Launch) (D : va_G) (cI : ClassId) (z0 : Nat) (A A2 : Nat → Nat) (hd : TDis z0 A A2) (v u : LV)   : Met l yX5_mean wsX5_mean ({ frames := 1, cells := 0, slots := 0, locals := 25 }) (tr_Pc D cI [.ref z0] (TRB D cI z0 A A2 (v, u))) (vp_Sd (fun r => r = fX5_mean v u)) 0 0 (fun _ => False) := by
  refine Met.ofW (cc := cX5_mean) (maxL := 2) (ret := (some .double)) (by decide) rfl ?_
  intro p e s m args below meth c s₁ B hml hv
  obtain ⟨rfl, ⟨hZ, hL, hO⟩, hK⟩ := hv
  have hx := B.exec
  have hb := B.bytes
  have hr := B.returns
  have hts := atoms_spec (ws := wsX5_mean) B.pre
  have hown : s.vm.findClass RX5 = some m.cls := findClass_of_methodNamed B.named
  have hlocks := B.notSynchronized
  replace hL : LNE D cI A v s.heap := hL
  replace hO : LNE D cI A2 u s.heap := hO
  have hiX1 : ∀ w ∈ u_ws RX1 TX1 6, w ∈ wsX5_mean := by decide +kernel
  have hiX3 : ∀ w ∈ u_ws RX3 TX3 2, w ∈ wsX5_mean := by decide +kernel
  have hiX4 : ∀ w ∈ u_ws RX4 TX4 9, w ∈ wsX5_mean := by decide +kernel
  have hiX5 : ∀ w ∈ u_ws RX5 TX5 2, w ∈ wsX5_mean := by decide +kernel
  have f10 := hts (.fieldLink RX5 10 "TramRibbon" "line" "LTramRibbon$Line;") (by decide +kernel)
  have f136 := hts (.fieldLink RX5 136 "TramRibbon$Stops" "waiting" "LTramRibbon$Row;") (by decide +kernel)
  have f45 := hts (.fieldLink RX5 45 "TramRibbon$Line" "wire" "LTramRibbon$Wire;") (by decide +kernel)
  have f49 := hts (.fieldLink RX5 49 "TramRibbon$Wire" "poles" "I") (by decide +kernel)
  have f58 := hts (.fieldLink RX5 58 "TramRibbon$Line" "stops" "LTramRibbon$Stops;") (by decide +kernel)
  have hl := lv_entry ([.ref z0]) (n := 2) (Nat.le_of_ble_eq_true rfl)
  rw [lg_entry_eq]
  generalize (lg_sl ([.ref z0]) ++ List.replicate (2 - (lg_sl ([.ref z0])).length) Slot.unset).toArray = ls at hl ⊢
  replace hl : lv_has ls 2 [(0, .ref z0)] := hl
  refine lv_aload_n hx hb dX5_mean_0 rfl (lv_at hl 0 rfl) ?_
  refine tr_get (ci := 5) (C := RX5) (T := TX5) (N := 2) hx hb hts hiX5 hown hK hZ rfl 0 (by decide) f10 (v := .ref (A 0)) rfl dX5_mean_1 ?_
  refine tr_get (ci := 1) (C := RX1) (T := TX1) (N := 6) hx hb hts hiX1 hown hK hL.c0 rfl 0 (by decide) f45 (v := .ref (A 1)) rfl dX5_mean_4 ?_
  refine tr_get (ci := 4) (C := RX4) (T := TX4) (N := 9) hx hb hts hiX4 hown hK hL.c1 rfl 0 (by decide) f49 (v := .int (v.1 0)) rfl dX5_mean_7 ?_
  refine lv_istore_n (lv' := [(1, .int (v.1 0)), (0, .ref z0)]) hx hb dX5_mean_10 rfl hl (by decide) rfl (fun ls hl => ?_)
  refine lv_iload_n hx hb dX5_mean_11 rfl (lv_at hl 0 rfl) ?_
  refine lv_if_le (tgt := 35) hx hb dX5_mean_12 (by decide) (fun c_12 => ?_) (fun c_12 => ?_)
  · refine lv_dconst0 hx hb dX5_mean_35 ?_
    exact W.dret hx hb hr (tr_endd (by rw [fX5_mean, if_pos c_12])) (fun _ h => by cases h) dX5_mean_36
  · refine lv_aload_n hx hb dX5_mean_15 rfl (lv_at hl 1 rfl) ?_
    refine tr_get (ci := 5) (C := RX5) (T := TX5) (N := 2) hx hb hts hiX5 hown hK hZ rfl 0 (by decide) f10 (v := .ref (A 0)) rfl dX5_mean_16 ?_
    refine tr_get (ci := 1) (C := RX1) (T := TX1) (N := 6) hx hb hts hiX1 hown hK hL.c0 rfl 1 (by decide) f58 (v := .ref (A 2)) rfl dX5_mean_19 ?_
    refine tr_get (ci := 3) (C := RX3) (T := TX3) (N := 2) hx hb hts hiX3 hown hK hL.c2 rfl 0 (by decide) f136 (v := .ref (A 18)) rfl dX5_mean_22 ?_
    refine tr_ri (va_runV (As := []) (rest := []) ⟨hx, hb, hml, hown, hts⟩ (c_lsum l D cI A hd.1.1 v 7 (by decide) ) (cwV 0 hts gX5_mean_X2_sum rfl rfl rfl (by decide +kernel) ⟨Nat.le_of_ble_eq_true rfl, Nat.le_of_ble_eq_true rfl⟩) (tr_preV hK (hL.robj 7 (by decide)) rfl (hL.row 7 (by decide))) rfl rfl hl.1 rfl (lv_room (Nat.le_of_ble_eq_true rfl)) dX5_mean_25 ⟨Nat.zero_le _, Nat.zero_le _⟩) ?_
    refine lv_i2d hx hb dX5_mean_28 ?_
    refine lv_iload_n hx hb dX5_mean_29 rfl (lv_at hl 0 rfl) ?_
    refine lv_i2d hx hb dX5_mean_30 ?_
    refine lv_ddiv hx hb dX5_mean_31 (tr_nn _ _ (fun e => c_12 (by rw [e]; decide))) ?_
    refine lv_goto (tgt := 36) hx hb dX5_mean_32 (by decide) ?_
    exact W.dret hx hb hr (tr_endd (by rw [fX5_mean, if_neg c_12])) (fun _ h => by cases h) dX5_mean_36
