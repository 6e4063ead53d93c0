/-! constructors: the Line -/
def lAd (a sz : Nat) : Nat → Nat := fun k => if k = 0 then a else if k = 1 then sz else if k = 2 then sz + 15 else if k = 3 then sz + 20 else if k < 18 then sz + (k - 3) else if k < 22 then sz + (k - 2) else sz + (k - 1)
theorem lAd_inj {a sz : Nat} (h : a < sz) : LInj (lAd a sz) := by
  intro i hi j hj e
  unfold lAd at e
  (repeat' split at e) <;> omega
theorem lAd_own {a sz : Nat} : ∀ q, lOwn (lAd a sz) q → iOwn a sz q := by
  intro q ⟨k, hk, e⟩
  unfold lAd at e
  unfold iOwn
  (repeat' split at e) <;> omega
def zLV : LV := (fun _ => 0, fun _ _ => 0)
def newLine : LV := fX3_clear (fX4_lay zLV 8)
set_option maxHeartbeats 8000000 in
set_option maxRecDepth 100000 in
theorem c_X1_init (l : Launch) (D : va_G) (cI : ClassId) (a sz : Nat) : Met l yX1_init wsX1_init ({ frames := 3, cells := 37, slots := 223, locals := 63 }) (tr_Pc D cI [.ref a] (fun H => H.size = sz ∧ va_at D vwCl (a, .inr (1, [.null, .null, .null, .int 0, .int 0, .int 0])) H)) (tr_Q none (LNE D cI (lAd a sz) newLine) (iOwn a sz)) 37 223 (iOwn a sz) := by
  refine Met.ofW (cc := cX1_init) (maxL := 1) (ret := none) (by decide) rfl ?_
  intro p e s m args below meth c s₁ B hml hv
  obtain ⟨rfl, ⟨hz0, hA⟩, hK⟩ := hv
  have hx := B.exec
  have hb := B.bytes
  have hr := B.returns
  have hts := atoms_spec (ws := wsX1_init) B.pre
  have hown : s.vm.findClass RX1 = some m.cls := findClass_of_methodNamed B.named
  have hname := (name_of_methodNamed B.named B.method).1
  have hlocks := B.notSynchronized
  have hasz : a < sz := by have := hA.lt; simp only at this; omega
  have hiX1 : ∀ w ∈ u_ws RX1 TX1 6, w ∈ wsX1_init := by decide +kernel
  have hiX4 : ∀ w ∈ u_ws RX4 TX4 9, w ∈ wsX1_init := by decide +kernel
  have hiX3 : ∀ w ∈ u_ws RX3 TX3 2, w ∈ wsX1_init := by decide +kernel
  have hiX0 : ∀ w ∈ u_ws RX0 TX0 9, w ∈ wsX1_init := by decide +kernel
  have clX0 := hts (.classLink RX1 25 RX0) (by decide +kernel)
  have clX3 := hts (.classLink RX1 18 RX3) (by decide +kernel)
  have clX4 := hts (.classLink RX1 9 RX4) (by decide +kernel)
  have f12 := hts (.fieldLink RX1 12 "TramRibbon$Line" "wire" "LTramRibbon$Wire;") (by decide +kernel)
  have f12g := hts (.fieldLink RX1 12 "TramRibbon$Line" "wire" "LTramRibbon$Wire;") (by decide +kernel)
  have f21 := hts (.fieldLink RX1 21 "TramRibbon$Line" "stops" "LTramRibbon$Stops;") (by decide +kernel)
  have f21g := hts (.fieldLink RX1 21 "TramRibbon$Line" "stops" "LTramRibbon$Stops;") (by decide +kernel)
  have f28 := hts (.fieldLink RX1 28 "TramRibbon$Line" "fleet" "LTramRibbon$Fleet;") (by decide +kernel)
  have iiX0 := hts (.initialized RX0) (by decide +kernel)
  have iiX3 := hts (.initialized RX3) (by decide +kernel)
  have iiX4 := hts (.initialized RX4) (by decide +kernel)
  have inX0 := hts (.instantiable RX0 9) (by decide +kernel)
  have inX3 := hts (.instantiable RX3 2) (by decide +kernel)
  have inX4 := hts (.instantiable RX4 9) (by decide +kernel)
  have miX0 := hts (.instanceMethod yX0_init) (by decide +kernel)
  have miX3 := hts (.instanceMethod yX3_init) (by decide +kernel)
  have miX4 := hts (.instanceMethod yX4_init) (by decide +kernel)
  have oC := hts (.code Lib.objectInit ⟨#[0xb1]⟩ 1 none) (by decide +kernel)
  have oI := hts (.instanceMethod Lib.objectInit) (by decide +kernel)
  have oL := hts (.methodLink RX1 3 Lib.objectInit) (by decide +kernel)
  have hl := lv_entry ([.ref a]) (n := 1) (Nat.le_of_ble_eq_true rfl)
  rw [lg_entry_eq]
  generalize (lg_sl ([.ref a]) ++ List.replicate (1 - (lg_sl ([.ref a])).length) Slot.unset).toArray = ls at hl ⊢
  replace hl : lv_has ls 1 [(0, .ref a)] := hl
  have hS : tr_S (iOwn a sz) s.heap s.heap [] := tr_S.rf
  have hE : MKD D sz [] s.heap := MKD.nil hz0
  generalize h1 : s.heap = H, h2 : ([] : List Loc) = locs
  replace hS : tr_S (iOwn a sz) s.heap H locs := by rw [← h1, ← h2]; exact hS
  rw [h1] at hA hE
  clear h1 h2
  refine lv_aload_n hx hb dX1_init_0 rfl (lv_at hl 0 rfl) ?_
  refine W.objInit hx hb hown oL oI oC rfl (by rw [hml]; exact hl.1) rfl dX1_init_1 (Nat.le_of_ble_eq_true rfl) (lv_room12 (h := Nat.le_of_ble_eq_true rfl) (lv_room (Nat.le_of_ble_eq_true rfl))) ?_
  refine lv_aload_n hx hb dX1_init_4 rfl (lv_at hl 0 rfl) ?_
  refine tr_newo (C := RX4) (T := TX4) (N := 9) (ci := 4) (fs := [.int 0, .int 0, .null, .null, .null, .null, .null, .null, .null]) hx hb hts hiX4 tyX4 tyX4_ok hown clX4 inX4 iiX4 hK hS rfl (by decide) (show 0 + 1 ≤ 37 by omega) (show 0 + 9 ≤ 223 by omega) dX1_init_5 (fun q H1 hq hO hz1 hk1 hS => ?_)
  have hz2 : H1.size = q + 1 := by rw [hz1, hq]
  have e0 : q = sz := hq.trans hE.1
  clear hq
  subst q
  replace hA := hA.kept (hk1 a hA.lt)
  refine lv_dup hx hb dX1_init_8 rfl ?_
  refine tr_wN (va_runIN (As := []) (rest := [.ref (sz), .ref a]) ⟨hx, hb, hml, hown, hts⟩ (c_X4_init l D cI (sz) (sz + 1)) ⟨va_cnB 0 hts gX1_init_X4_init_n11 rfl rfl rfl (hK.2 (.methodLinkNest RX1 11 yX4_init "TramRibbon") (by decide +kernel)) iiX4 (by decide +kernel) ⟨Nat.le_of_ble_eq_true rfl, Nat.le_of_ble_eq_true rfl⟩, rfl, miX4⟩ (tr_preS hK ⟨hz2, hO⟩) rfl rfl hl.1 rfl (lv_room (Nat.le_of_ble_eq_true rfl)) dX1_init_9 ⟨show 1 + 14 ≤ 37 by omega, show 9 + 113 ≤ 223 by omega⟩) hS (fun x (h : x = sz ∨ sz + 1 ≤ x) => Or.inr (by omega)) (fun x (h : x = sz ∨ sz + 1 ≤ x) => Or.inr (by omega)) (fun H locs hP hz3 hk3 hS => ?_)
  replace hA := hA.kept (hk3 a hA.lt (fun (h : a = sz ∨ sz + 1 ≤ a) => by omega))
  replace hE : MKD D sz [.inr (4, [.int 0, .int 0, .ref (sz + 1), .ref (sz + 3), .ref (sz + 5), .ref (sz + 7), .ref (sz + 9), .ref (sz + 11), .ref (sz + 13)]), .inr (2, [.ref (sz + 2)]), .inl (cI, 15, .inl (fun _ => 0)), .inr (2, [.ref (sz + 4)]), .inl (cI, 15, .inl (fun _ => 0)), .inr (2, [.ref (sz + 6)]), .inl (cI, 16, .inl (fun _ => 0)), .inr (2, [.ref (sz + 8)]), .inl (cI, 15, .inl (fun _ => 0)), .inr (2, [.ref (sz + 10)]), .inl (cI, 15, .inl (fun _ => 0)), .inr (2, [.ref (sz + 12)]), .inl (cI, 15, .inl (fun _ => 0)), .inr (2, [.ref (sz + 14)]), .inl (cI, 15, .inl (fun _ => 0))] H := hE.obj (q := sz) hz1 hk1 rfl (fun x h1 (h2 : ¬ x = sz) => hk3 x h1 (fun (h : x = sz ∨ sz + 1 ≤ x) => by omega)) hP.1 hP.2
  refine tr_putF (ci := 1) (C := RX1) (T := TX1) (N := 6) (ty := tyX1 0) (v := .ref (sz)) hx hb hts hiX1 tyX1 tyX1_ok nmX1 hown hK hS (Or.inl rfl) hA rfl 0 (by decide) f12 rfl hname rfl (tyX1_ok 0 (by decide)) rfl rfl (Nat.le_of_ble_eq_true rfl) dX1_init_12 (fun H locs hat hz4 hk4 hS => ?_)
  replace hA : va_at D vwCl (a, .inr (1, [.ref (sz), .null, .null, .int 0, .int 0, .int 0])) H := hat
  replace hE := hE.keep hasz hz4 hk4
  clear hat hz4 hk4 hP hz3 hk3 hO hz1 hk1 hz2
  refine lv_aload_n hx hb dX1_init_15 rfl (lv_at hl 0 rfl) ?_
  refine tr_newo (C := RX3) (T := TX3) (N := 2) (ci := 3) (fs := [.null, .null]) hx hb hts hiX3 tyX3 tyX3_ok hown clX3 inX3 iiX3 hK hS rfl (by decide) (show 15 + 1 ≤ 37 by omega) (show 122 + 2 ≤ 223 by omega) dX1_init_16 (fun q H1 hq hO hz1 hk1 hS => ?_)
  have hz2 : H1.size = q + 1 := by rw [hz1, hq]
  have e0 : q = sz + 15 := hq.trans hE.1
  clear hq
  subst q
  replace hA := hA.kept (hk1 a hA.lt)
  refine lv_dup hx hb dX1_init_19 rfl ?_
  refine tr_wN (va_runIN (As := []) (rest := [.ref (sz + 15), .ref a]) ⟨hx, hb, hml, hown, hts⟩ (c_X3_init l D cI (sz + 15) (sz + 15 + 1)) ⟨va_cnB 0 hts gX1_init_X3_init_n20 rfl rfl rfl (hK.2 (.methodLinkNest RX1 20 yX3_init "TramRibbon") (by decide +kernel)) iiX3 (by decide +kernel) ⟨Nat.le_of_ble_eq_true rfl, Nat.le_of_ble_eq_true rfl⟩, rfl, miX3⟩ (tr_preS hK ⟨hz2, hO⟩) rfl rfl hl.1 rfl (lv_room (Nat.le_of_ble_eq_true rfl)) dX1_init_20 ⟨show 16 + 4 ≤ 37 by omega, show 124 + 34 ≤ 223 by omega⟩) hS (fun x (h : x = sz + 15 ∨ sz + 15 + 1 ≤ x) => Or.inr (by omega)) (fun x (h : x = sz + 15 ∨ sz + 15 + 1 ≤ x) => Or.inr (by omega)) (fun H locs hP hz3 hk3 hS => ?_)
  replace hA := hA.kept (hk3 a hA.lt (fun (h : a = sz + 15 ∨ sz + 15 + 1 ≤ a) => by omega))
  replace hE : MKD D sz [.inr (4, [.int 0, .int 0, .ref (sz + 1), .ref (sz + 3), .ref (sz + 5), .ref (sz + 7), .ref (sz + 9), .ref (sz + 11), .ref (sz + 13)]), .inr (2, [.ref (sz + 2)]), .inl (cI, 15, .inl (fun _ => 0)), .inr (2, [.ref (sz + 4)]), .inl (cI, 15, .inl (fun _ => 0)), .inr (2, [.ref (sz + 6)]), .inl (cI, 16, .inl (fun _ => 0)), .inr (2, [.ref (sz + 8)]), .inl (cI, 15, .inl (fun _ => 0)), .inr (2, [.ref (sz + 10)]), .inl (cI, 15, .inl (fun _ => 0)), .inr (2, [.ref (sz + 12)]), .inl (cI, 15, .inl (fun _ => 0)), .inr (2, [.ref (sz + 14)]), .inl (cI, 15, .inl (fun _ => 0)), .inr (3, [.ref (sz + 16), .ref (sz + 18)]), .inr (2, [.ref (sz + 17)]), .inl (cI, 16, .inl (fun _ => 0)), .inr (2, [.ref (sz + 19)]), .inl (cI, 16, .inl (fun _ => 0))] H := hE.obj (q := sz + 15) hz1 hk1 rfl (fun x h1 (h2 : ¬ x = sz + 15) => hk3 x h1 (fun (h : x = sz + 15 ∨ sz + 15 + 1 ≤ x) => by omega)) hP.1 hP.2
  refine tr_putF (ci := 1) (C := RX1) (T := TX1) (N := 6) (ty := tyX1 1) (v := .ref (sz + 15)) hx hb hts hiX1 tyX1 tyX1_ok nmX1 hown hK hS (Or.inl rfl) hA rfl 1 (by decide) f21 rfl hname rfl (tyX1_ok 1 (by decide)) rfl rfl (Nat.le_of_ble_eq_true rfl) dX1_init_23 (fun H locs hat hz4 hk4 hS => ?_)
  replace hA : va_at D vwCl (a, .inr (1, [.ref (sz), .ref (sz + 15), .null, .int 0, .int 0, .int 0])) H := hat
  replace hE := hE.keep hasz hz4 hk4
  clear hat hz4 hk4 hP hz3 hk3 hO hz1 hk1 hz2
  refine lv_aload_n hx hb dX1_init_26 rfl (lv_at hl 0 rfl) ?_
  refine tr_newo (C := RX0) (T := TX0) (N := 9) (ci := 0) (fs := [.int 0, .null, .null, .null, .null, .null, .null, .null, .null]) hx hb hts hiX0 tyX0 tyX0_ok hown clX0 inX0 iiX0 hK hS rfl (by decide) (show 20 + 1 ≤ 37 by omega) (show 158 + 9 ≤ 223 by omega) dX1_init_27 (fun q H1 hq hO hz1 hk1 hS => ?_)
  have hz2 : H1.size = q + 1 := by rw [hz1, hq]
  have e0 : q = sz + 20 := hq.trans hE.1
  clear hq
  subst q
  replace hA := hA.kept (hk1 a hA.lt)
  refine lv_dup hx hb dX1_init_30 rfl ?_
  refine tr_wN (va_runIN (As := []) (rest := [.ref (sz + 20), .ref a]) ⟨hx, hb, hml, hown, hts⟩ (c_X0_init l D cI (sz + 20) (sz + 20 + 1)) ⟨va_cnB 0 hts gX1_init_X0_init_n27 rfl rfl rfl (hK.2 (.methodLinkNest RX1 27 yX0_init "TramRibbon") (by decide +kernel)) iiX0 (by decide +kernel) ⟨Nat.le_of_ble_eq_true rfl, Nat.le_of_ble_eq_true rfl⟩, rfl, miX0⟩ (tr_preS hK ⟨hz2, hO⟩) rfl rfl hl.1 rfl (lv_room (Nat.le_of_ble_eq_true rfl)) dX1_init_31 ⟨show 21 + 16 ≤ 37 by omega, show 167 + 56 ≤ 223 by omega⟩) hS (fun x (h : x = sz + 20 ∨ sz + 20 + 1 ≤ x) => Or.inr (by omega)) (fun x (h : x = sz + 20 ∨ sz + 20 + 1 ≤ x) => Or.inr (by omega)) (fun H locs hP hz3 hk3 hS => ?_)
  replace hA := hA.kept (hk3 a hA.lt (fun (h : a = sz + 20 ∨ sz + 20 + 1 ≤ a) => by omega))
  replace hE : MKD D sz [.inr (4, [.int 0, .int 0, .ref (sz + 1), .ref (sz + 3), .ref (sz + 5), .ref (sz + 7), .ref (sz + 9), .ref (sz + 11), .ref (sz + 13)]), .inr (2, [.ref (sz + 2)]), .inl (cI, 15, .inl (fun _ => 0)), .inr (2, [.ref (sz + 4)]), .inl (cI, 15, .inl (fun _ => 0)), .inr (2, [.ref (sz + 6)]), .inl (cI, 16, .inl (fun _ => 0)), .inr (2, [.ref (sz + 8)]), .inl (cI, 15, .inl (fun _ => 0)), .inr (2, [.ref (sz + 10)]), .inl (cI, 15, .inl (fun _ => 0)), .inr (2, [.ref (sz + 12)]), .inl (cI, 15, .inl (fun _ => 0)), .inr (2, [.ref (sz + 14)]), .inl (cI, 15, .inl (fun _ => 0)), .inr (3, [.ref (sz + 16), .ref (sz + 18)]), .inr (2, [.ref (sz + 17)]), .inl (cI, 16, .inl (fun _ => 0)), .inr (2, [.ref (sz + 19)]), .inl (cI, 16, .inl (fun _ => 0)), .inr (0, [.int 0, .ref (sz + 21), .ref (sz + 23), .ref (sz + 25), .ref (sz + 27), .ref (sz + 29), .ref (sz + 31), .ref (sz + 33), .ref (sz + 35)]), .inr (2, [.ref (sz + 22)]), .inl (cI, 6, .inl (fun _ => 0)), .inr (2, [.ref (sz + 24)]), .inl (cI, 6, .inl (fun _ => 0)), .inr (2, [.ref (sz + 26)]), .inl (cI, 6, .inl (fun _ => 0)), .inr (2, [.ref (sz + 28)]), .inl (cI, 6, .inl (fun _ => 0)), .inr (2, [.ref (sz + 30)]), .inl (cI, 6, .inl (fun _ => 0)), .inr (2, [.ref (sz + 32)]), .inl (cI, 6, .inl (fun _ => 0)), .inr (2, [.ref (sz + 34)]), .inl (cI, 6, .inl (fun _ => 0)), .inr (2, [.ref (sz + 36)]), .inl (cI, 6, .inl (fun _ => 0))] H := hE.obj (q := sz + 20) hz1 hk1 rfl (fun x h1 (h2 : ¬ x = sz + 20) => hk3 x h1 (fun (h : x = sz + 20 ∨ sz + 20 + 1 ≤ x) => by omega)) hP.1 hP.2
  refine tr_putF (ci := 1) (C := RX1) (T := TX1) (N := 6) (ty := tyX1 2) (v := .ref (sz + 20)) hx hb hts hiX1 tyX1 tyX1_ok nmX1 hown hK hS (Or.inl rfl) hA rfl 2 (by decide) f28 rfl hname rfl (tyX1_ok 2 (by decide)) rfl rfl (Nat.le_of_ble_eq_true rfl) dX1_init_34 (fun H locs hat hz4 hk4 hS => ?_)
  replace hA : va_at D vwCl (a, .inr (1, [.ref (sz), .ref (sz + 15), .ref (sz + 20), .int 0, .int 0, .int 0])) H := hat
  replace hE := hE.keep hasz hz4 hk4
  clear hat hz4 hk4 hP hz3 hk3 hO hz1 hk1 hz2
  have hL : LNE D cI (lAd a sz) zLV H := by
    intro k hk
    match k, hk with
    | 0, _ => exact hA
    | 1, _ => exact hE.2 0 _ rfl
    | 2, _ => exact hE.2 15 _ rfl
    | 3, _ => exact hE.2 20 _ rfl
    | 4, _ => exact hE.2 1 _ rfl
    | 5, _ => exact hE.2 2 _ rfl
    | 6, _ => exact hE.2 3 _ rfl
    | 7, _ => exact hE.2 4 _ rfl
    | 8, _ => exact hE.2 5 _ rfl
    | 9, _ => exact hE.2 6 _ rfl
    | 10, _ => exact hE.2 7 _ rfl
    | 11, _ => exact hE.2 8 _ rfl
    | 12, _ => exact hE.2 9 _ rfl
    | 13, _ => exact hE.2 10 _ rfl
    | 14, _ => exact hE.2 11 _ rfl
    | 15, _ => exact hE.2 12 _ rfl
    | 16, _ => exact hE.2 13 _ rfl
    | 17, _ => exact hE.2 14 _ rfl
    | 18, _ => exact hE.2 16 _ rfl
    | 19, _ => exact hE.2 17 _ rfl
    | 20, _ => exact hE.2 18 _ rfl
    | 21, _ => exact hE.2 19 _ rfl
    | 22, _ => exact hE.2 21 _ rfl
    | 23, _ => exact hE.2 22 _ rfl
    | 24, _ => exact hE.2 23 _ rfl
    | 25, _ => exact hE.2 24 _ rfl
    | 26, _ => exact hE.2 25 _ rfl
    | 27, _ => exact hE.2 26 _ rfl
    | 28, _ => exact hE.2 27 _ rfl
    | 29, _ => exact hE.2 28 _ rfl
    | 30, _ => exact hE.2 29 _ rfl
    | 31, _ => exact hE.2 30 _ rfl
    | 32, _ => exact hE.2 31 _ rfl
    | 33, _ => exact hE.2 32 _ rfl
    | 34, _ => exact hE.2 33 _ rfl
    | 35, _ => exact hE.2 34 _ rfl
    | 36, _ => exact hE.2 35 _ rfl
    | 37, _ => exact hE.2 36 _ rfl
    | k + 38, hk => exact absurd hk (by omega)
  have hinj : LInj (lAd a sz) := lAd_inj hasz
  clear hA hE
  refine lv_aload_n hx hb dX1_init_37 rfl (lv_at hl 0 rfl) ?_
  refine tr_get (ci := 1) (C := RX1) (T := TX1) (N := 6) hx hb hts hiX1 hown hK (a := a) hL.c0 rfl 0 (by decide) f12g (v := .ref (lAd a sz 1)) rfl dX1_init_38 ?_
  refine lv_bipush (v := 8) hx hb dX1_init_41 (by decide) ?_
  refine tr_wN (va_runV (As := [.int 8]) (rest := []) ⟨hx, hb, hml, hown, hts⟩ (c_X4_lay l D cI (lAd a sz) hinj zLV 8) (cwV 1 hts gX1_init_X4_lay rfl rfl rfl (by decide +kernel) ⟨Nat.le_of_ble_eq_true rfl, Nat.le_of_ble_eq_true rfl⟩) (tr_preV hK hL.c1 rfl hL) rfl rfl hl.1 rfl (lv_room (Nat.le_of_ble_eq_true rfl)) dX1_init_43 ⟨show 37 + 0 ≤ 37 by omega, show 223 + 0 ≤ 223 by omega⟩) hS lAd_own lAd_own (fun H locs hL _ _ hS => ?_)
  refine lv_aload_n hx hb dX1_init_46 rfl (lv_at hl 0 rfl) ?_
  refine tr_get (ci := 1) (C := RX1) (T := TX1) (N := 6) hx hb hts hiX1 hown hK (a := a) hL.c0 rfl 1 (by decide) f21g (v := .ref (lAd a sz 2)) rfl dX1_init_47 ?_
  refine tr_wN (va_runV (As := []) (rest := []) ⟨hx, hb, hml, hown, hts⟩ (c_X3_clear l D cI (lAd a sz) hinj (fX4_lay zLV 8)) (cwV 0 hts gX1_init_X3_clear rfl rfl rfl (by decide +kernel) ⟨Nat.le_of_ble_eq_true rfl, Nat.le_of_ble_eq_true rfl⟩) (tr_preV hK hL.c2 rfl hL) rfl rfl hl.1 rfl (lv_room (Nat.le_of_ble_eq_true rfl)) dX1_init_50 ⟨show 37 + 0 ≤ 37 by omega, show 223 + 0 ≤ 223 by omega⟩) hS lAd_own lAd_own (fun H locs hL _ _ hS => ?_)
  exact W.vret hx hb hr (hS.end hL) hS.2.2 dX1_init_53
