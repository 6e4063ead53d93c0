theorem mAd_own {a sz : Nat} (h : a < sz) : ∀ q, sOwn (mA (mAd a sz)) q → iOwn a sz q := by
  intro q ⟨k, h2, hk, e⟩
  rw [mA_lt hk] at e
  exact Or.inr (by rw [e]; exact (mAd_ge h k (by omega)).2 (by omega))
def zMV : LV := (fun k => if k = 1 then 8 else 0, fun _ _ => 0)
def zSV : LV := (fun k => if k = 3 then 1 else 0, fun _ _ => 0)
set_option maxHeartbeats 8000000 in
set_option maxRecDepth 100000 in
theorem c_X7_init (l : Launch) (D : va_G) (cI : ClassId) (a sz : Nat) : Met l yX7_init wsX7_init ({ frames := 2, cells := 31, slots := 342, locals := 42 }) (tr_Pc D cI [.ref a] (fun H => H.size = sz ∧ va_at D vwCl (a, .inr (7, [.int 0, .int 0, .int 0, .null, .null, .null])) H)) (tr_Q none (MPT D cI (mAd a sz) (zMV, fX6_renew zMV zSV, zSV)) (iOwn a sz)) 31 342 (iOwn a sz) := by
  refine Met.ofW (cc := cX7_init) (maxL := 1) (ret := none) (by decide) rfl ?_
  intro p e s m args below meth c s₁ B hml hv
  obtain ⟨rfl, ⟨hz0, hA⟩, hK⟩ := hv
  have hx := B.exec
  have hb := B.bytes
  have hr := B.returns
  have hts := atoms_spec (ws := wsX7_init) B.pre
  have hown : s.vm.findClass RX7 = some m.cls := findClass_of_methodNamed B.named
  have hname := (name_of_methodNamed B.named B.method).1
  have hlocks := B.notSynchronized
  have hasz : a < sz := by have := hA.lt; simp only at this; omega
  have hiX7 : ∀ w ∈ u_ws RX7 TX7 6, w ∈ wsX7_init := by decide +kernel
  have hiX6 : ∀ w ∈ u_ws RX6 TX6 19, w ∈ wsX7_init := by decide +kernel
  have clX6 := hts (.classLink RX7 17 RX6) (by decide +kernel)
  have f13 := hts (.fieldLink RX7 13 "TramRibbonModel" "slope" "[I") (by decide +kernel)
  have f22 := hts (.fieldLink RX7 22 "TramRibbonModel" "s" "LTramRibbonModel$State;") (by decide +kernel)
  have f26 := hts (.fieldLink RX7 26 "TramRibbonModel" "next" "LTramRibbonModel$State;") (by decide +kernel)
  have f7 := hts (.fieldLink RX7 7 "TramRibbonModel" "poles" "I") (by decide +kernel)
  have harr := hts (.arrayClass .int) (by decide +kernel)
  have iiX6 := hts (.initialized RX6) (by decide +kernel)
  have inX6 := hts (.instantiable RX6 19) (by decide +kernel)
  have miX6 := hts (.instanceMethod yX6_init) (by decide +kernel)
  have oC := hts (.code Lib.objectInit ⟨#[0xb1]⟩ 1 none) (by decide +kernel)
  have oI := hts (.instanceMethod Lib.objectInit) (by decide +kernel)
  have oL := hts (.methodLink RX7 1 Lib.objectInit) (by decide +kernel)
  have hl := lv_entry ([.ref a]) (n := 1) (Nat.le_of_ble_eq_true rfl)
  rw [lg_entry_eq]
  generalize (lg_sl ([.ref a]) ++ List.replicate (1 - (lg_sl ([.ref a])).length) Slot.unset).toArray = ls at hl ⊢
  replace hl : lv_has ls 1 [(0, .ref a)] := hl
  have hS : tr_S (iOwn a sz) s.heap s.heap [] := tr_S.rf
  have hE : MKD D sz [] s.heap := MKD.nil hz0
  generalize h1 : s.heap = H, h2 : ([] : List Loc) = locs
  replace hS : tr_S (iOwn a sz) s.heap H locs := by rw [← h1, ← h2]; exact hS
  rw [h1] at hA hE
  clear h1 h2
  refine lv_aload_n hx hb dX7_init_0 rfl (lv_at hl 0 rfl) ?_
  refine W.objInit hx hb hown oL oI oC rfl (by rw [hml]; exact hl.1) rfl dX7_init_1 (Nat.le_of_ble_eq_true rfl) (lv_room12 (h := Nat.le_of_ble_eq_true rfl) (lv_room (Nat.le_of_ble_eq_true rfl))) ?_
  refine lv_aload_n hx hb dX7_init_4 rfl (lv_at hl 0 rfl) ?_
  refine lv_bipush (v := 8) hx hb dX7_init_5 (by decide) ?_
  refine tr_put (ci := 7) (C := RX7) (T := TX7) (N := 6) (ty := .int) (v := .int 8) hx hb hts hiX7 tyX7 tyX7_ok nmX7 hown hK hS (Or.inl rfl) hA rfl 1 (by decide) f7 rfl (by decide +kernel) rfl rfl (Nat.le_of_ble_eq_true rfl) dX7_init_7 (fun H locs hat hz4 hk4 hS => ?_)
  replace hA : va_at D vwCl (a, .inr (7, [.int 0, .int 8, .int 0, .null, .null, .null])) H := hat
  replace hE := hE.keep hasz hz4 hk4
  clear hat hz4 hk4
  refine lv_aload_n hx hb dX7_init_10 rfl (lv_at hl 0 rfl) ?_
  refine lv_bipush (v := 16) hx hb dX7_init_11 (by decide) ?_
  refine tr_newa (n := 16) (N := 16) hx hb harr hK hS (by decide) rfl (Nat.le_of_ble_eq_true rfl) (show 0 + 1 ≤ 31 by omega) (show 0 + 16 ≤ 342 by omega) dX7_init_13 (fun q H1 hq hQ hz1 hk1 hS => ?_)
  have e0 : q = sz := hq.trans hE.1
  clear hq
  subst q
  replace hA := hA.kept (hk1 a hA.lt)
  replace hE : MKD D sz [.inl (cI, 16, .inl (fun _ => 0))] H1 := hE.arr (q := sz) hz1 hk1 rfl hQ
  clear hQ hz1 hk1
  refine tr_putF (ci := 7) (C := RX7) (T := TX7) (N := 6) (ty := tyX7 3) (v := .ref (sz)) hx hb hts hiX7 tyX7 tyX7_ok nmX7 hown hK hS (Or.inl rfl) hA rfl 3 (by decide) f13 rfl hname rfl (tyX7_ok 3 (by decide)) rfl rfl (Nat.le_of_ble_eq_true rfl) dX7_init_15 (fun H locs hat hz4 hk4 hS => ?_)
  replace hA : va_at D vwCl (a, .inr (7, [.int 0, .int 8, .int 0, .ref sz, .null, .null])) H := hat
  replace hE := hE.keep hasz hz4 hk4
  clear hat hz4 hk4
  refine lv_aload_n hx hb dX7_init_18 rfl (lv_at hl 0 rfl) ?_
  refine tr_newo (C := RX6) (T := TX6) (N := 19) (ci := 6) (fs := [.int 0, .int 0, .int 0, .int 0, .null, .null, .null, .null, .null, .null, .null, .null, .null, .null, .null, .null, .null, .null, .null]) hx hb hts hiX6 tyX6 tyX6_ok hown clX6 inX6 iiX6 hK hS rfl (by decide) (show 1 + 1 ≤ 31 by omega) (show 16 + 19 ≤ 342 by omega) dX7_init_19 (fun q H1 hq hO hz1 hk1 hS => ?_)
  have hz2 : H1.size = q + 1 := by rw [hz1, hq]
  have e0 : q = sz + 1 := hq.trans hE.1
  clear hq
  subst q
  replace hA := hA.kept (hk1 a hA.lt)
  refine lv_dup hx hb dX7_init_22 rfl ?_
  refine lv_aload_n hx hb dX7_init_23 rfl (lv_at hl 0 rfl) ?_
  refine tr_wN (va_runIN (As := [.ref a]) (rest := [.ref (sz + 1), .ref a]) ⟨hx, hb, hml, hown, hts⟩ (c_X6_init l D cI (sz + 1) a (sz + 1 + 1)) ⟨va_cnB 1 hts gX7_init_X6_init_n19 rfl rfl rfl (hK.2 (.methodLinkNest RX7 19 yX6_init "TramRibbonModel") (by decide +kernel)) iiX6 (by decide +kernel) ⟨Nat.le_of_ble_eq_true rfl, Nat.le_of_ble_eq_true rfl⟩, rfl, miX6⟩ (tr_preS hK ⟨hz2, hO⟩) rfl rfl hl.1 rfl (lv_room (Nat.le_of_ble_eq_true rfl)) dX7_init_24 ⟨show 2 + 14 ≤ 31 by omega, show 35 + 144 ≤ 342 by omega⟩) hS (fun x (h : x = sz + 1) => Or.inr (by omega)) (fun x (h : x = sz + 1) => Or.inr (by omega)) (fun H locs hP hz3 hk3 hS => ?_)
  replace hA := hA.kept (hk3 a hA.lt (fun (h : a = sz + 1) => by omega))
  replace hE : MKD D sz [.inl (cI, 16, .inl (fun _ => 0)), .inr (6, [.int 0, .int 0, .int 0, .int 1, .ref (sz + 2), .ref (sz + 3), .ref (sz + 4), .ref (sz + 5), .ref (sz + 6), .ref (sz + 7), .ref (sz + 8), .ref (sz + 9), .ref (sz + 10), .ref (sz + 11), .ref (sz + 12), .ref (sz + 13), .ref (sz + 14), .ref (sz + 15), .ref a]), .inl (cI, 16, .inl (fun _ => 0)), .inl (cI, 16, .inl (fun _ => 0)), .inl (cI, 16, .inl (fun _ => 0)), .inl (cI, 16, .inl (fun _ => 0)), .inl (cI, 16, .inl (fun _ => 0)), .inl (cI, 16, .inl (fun _ => 0)), .inl (cI, 6, .inl (fun _ => 0)), .inl (cI, 6, .inl (fun _ => 0)), .inl (cI, 6, .inl (fun _ => 0)), .inl (cI, 6, .inl (fun _ => 0)), .inl (cI, 6, .inl (fun _ => 0)), .inl (cI, 6, .inl (fun _ => 0)), .inl (cI, 6, .inl (fun _ => 0)), .inl (cI, 6, .inl (fun _ => 0))] H := hE.obj (q := sz + 1) hz1 hk1 rfl hk3 hP.1 hP.2
  clear hP hz3 hk3 hO hz1 hk1 hz2
  refine tr_putF (ci := 7) (C := RX7) (T := TX7) (N := 6) (ty := tyX7 4) (v := .ref (sz + 1)) hx hb hts hiX7 tyX7 tyX7_ok nmX7 hown hK hS (Or.inl rfl) hA rfl 4 (by decide) f22 rfl hname rfl (tyX7_ok 4 (by decide)) rfl rfl (Nat.le_of_ble_eq_true rfl) dX7_init_27 (fun H locs hat hz4 hk4 hS => ?_)
  replace hA : va_at D vwCl (a, .inr (7, [.int 0, .int 8, .int 0, .ref sz, .ref (sz + 1), .null])) H := hat
  replace hE := hE.keep hasz hz4 hk4
  clear hat hz4 hk4
  refine lv_aload_n hx hb dX7_init_30 rfl (lv_at hl 0 rfl) ?_
  refine tr_newo (C := RX6) (T := TX6) (N := 19) (ci := 6) (fs := [.int 0, .int 0, .int 0, .int 0, .null, .null, .null, .null, .null, .null, .null, .null, .null, .null, .null, .null, .null, .null, .null]) hx hb hts hiX6 tyX6 tyX6_ok hown clX6 inX6 iiX6 hK hS rfl (by decide) (show 16 + 1 ≤ 31 by omega) (show 179 + 19 ≤ 342 by omega) dX7_init_31 (fun q H1 hq hO hz1 hk1 hS => ?_)
  have hz2 : H1.size = q + 1 := by rw [hz1, hq]
  have e0 : q = sz + 16 := hq.trans hE.1
  clear hq
  subst q
  replace hA := hA.kept (hk1 a hA.lt)
  refine lv_dup hx hb dX7_init_34 rfl ?_
  refine lv_aload_n hx hb dX7_init_35 rfl (lv_at hl 0 rfl) ?_
  refine tr_wN (va_runIN (As := [.ref a]) (rest := [.ref (sz + 16), .ref a]) ⟨hx, hb, hml, hown, hts⟩ (c_X6_init l D cI (sz + 16) a (sz + 16 + 1)) ⟨va_cnB 1 hts gX7_init_X6_init_n19 rfl rfl rfl (hK.2 (.methodLinkNest RX7 19 yX6_init "TramRibbonModel") (by decide +kernel)) iiX6 (by decide +kernel) ⟨Nat.le_of_ble_eq_true rfl, Nat.le_of_ble_eq_true rfl⟩, rfl, miX6⟩ (tr_preS hK ⟨hz2, hO⟩) rfl rfl hl.1 rfl (lv_room (Nat.le_of_ble_eq_true rfl)) dX7_init_36 ⟨show 17 + 14 ≤ 31 by omega, show 198 + 144 ≤ 342 by omega⟩) hS (fun x (h : x = sz + 16) => Or.inr (by omega)) (fun x (h : x = sz + 16) => Or.inr (by omega)) (fun H locs hP hz3 hk3 hS => ?_)
  replace hA := hA.kept (hk3 a hA.lt (fun (h : a = sz + 16) => by omega))
  replace hE : MKD D sz [.inl (cI, 16, .inl (fun _ => 0)), .inr (6, [.int 0, .int 0, .int 0, .int 1, .ref (sz + 2), .ref (sz + 3), .ref (sz + 4), .ref (sz + 5), .ref (sz + 6), .ref (sz + 7), .ref (sz + 8), .ref (sz + 9), .ref (sz + 10), .ref (sz + 11), .ref (sz + 12), .ref (sz + 13), .ref (sz + 14), .ref (sz + 15), .ref a]), .inl (cI, 16, .inl (fun _ => 0)), .inl (cI, 16, .inl (fun _ => 0)), .inl (cI, 16, .inl (fun _ => 0)), .inl (cI, 16, .inl (fun _ => 0)), .inl (cI, 16, .inl (fun _ => 0)), .inl (cI, 16, .inl (fun _ => 0)), .inl (cI, 6, .inl (fun _ => 0)), .inl (cI, 6, .inl (fun _ => 0)), .inl (cI, 6, .inl (fun _ => 0)), .inl (cI, 6, .inl (fun _ => 0)), .inl (cI, 6, .inl (fun _ => 0)), .inl (cI, 6, .inl (fun _ => 0)), .inl (cI, 6, .inl (fun _ => 0)), .inl (cI, 6, .inl (fun _ => 0)), .inr (6, [.int 0, .int 0, .int 0, .int 1, .ref (sz + 17), .ref (sz + 18), .ref (sz + 19), .ref (sz + 20), .ref (sz + 21), .ref (sz + 22), .ref (sz + 23), .ref (sz + 24), .ref (sz + 25), .ref (sz + 26), .ref (sz + 27), .ref (sz + 28), .ref (sz + 29), .ref (sz + 30), .ref a]), .inl (cI, 16, .inl (fun _ => 0)), .inl (cI, 16, .inl (fun _ => 0)), .inl (cI, 16, .inl (fun _ => 0)), .inl (cI, 16, .inl (fun _ => 0)), .inl (cI, 16, .inl (fun _ => 0)), .inl (cI, 16, .inl (fun _ => 0)), .inl (cI, 6, .inl (fun _ => 0)), .inl (cI, 6, .inl (fun _ => 0)), .inl (cI, 6, .inl (fun _ => 0)), .inl (cI, 6, .inl (fun _ => 0)), .inl (cI, 6, .inl (fun _ => 0)), .inl (cI, 6, .inl (fun _ => 0)), .inl (cI, 6, .inl (fun _ => 0)), .inl (cI, 6, .inl (fun _ => 0))] H := hE.obj (q := sz + 16) hz1 hk1 rfl hk3 hP.1 hP.2
  clear hP hz3 hk3 hO hz1 hk1 hz2
  refine tr_putF (ci := 7) (C := RX7) (T := TX7) (N := 6) (ty := tyX7 5) (v := .ref (sz + 16)) hx hb hts hiX7 tyX7 tyX7_ok nmX7 hown hK hS (Or.inl rfl) hA rfl 5 (by decide) f26 rfl hname rfl (tyX7_ok 5 (by decide)) rfl rfl (Nat.le_of_ble_eq_true rfl) dX7_init_39 (fun H locs hat hz4 hk4 hS => ?_)
  replace hA : va_at D vwCl (a, .inr (7, [.int 0, .int 8, .int 0, .ref sz, .ref (sz + 1), .ref (sz + 16)])) H := hat
  replace hE := hE.keep hasz hz4 hk4
  clear hat hz4 hk4
  have hM : STA D cI (mA (mAd a sz)) zMV zSV H := by
    intro k hk
    match k, hk with
    | 0, _ => exact hA
    | 1, _ => exact hE.2 0 _ rfl
    | 2, _ => exact hE.2 1 _ rfl
    | 3, _ => exact hE.2 2 _ rfl
    | 4, _ => exact hE.2 3 _ rfl
    | 5, _ => exact hE.2 4 _ rfl
    | 6, _ => exact hE.2 5 _ rfl
    | 7, _ => exact hE.2 6 _ rfl
    | 8, _ => exact hE.2 7 _ rfl
    | 9, _ => exact hE.2 8 _ rfl
    | 10, _ => exact hE.2 9 _ rfl
    | 11, _ => exact hE.2 10 _ rfl
    | 12, _ => exact hE.2 11 _ rfl
    | 13, _ => exact hE.2 12 _ rfl
    | 14, _ => exact hE.2 13 _ rfl
    | 15, _ => exact hE.2 14 _ rfl
    | 16, _ => exact hE.2 15 _ rfl
    | k + 17, hk => exact absurd hk (by omega)
  have hN : STA D cI (nA (mAd a sz)) zMV zSV H := by
    intro k hk
    match k, hk with
    | 0, _ => exact hA
    | 1, _ => exact hE.2 0 _ rfl
    | 2, _ => exact hE.2 16 _ rfl
    | 3, _ => exact hE.2 17 _ rfl
    | 4, _ => exact hE.2 18 _ rfl
    | 5, _ => exact hE.2 19 _ rfl
    | 6, _ => exact hE.2 20 _ rfl
    | 7, _ => exact hE.2 21 _ rfl
    | 8, _ => exact hE.2 22 _ rfl
    | 9, _ => exact hE.2 23 _ rfl
    | 10, _ => exact hE.2 24 _ rfl
    | 11, _ => exact hE.2 25 _ rfl
    | 12, _ => exact hE.2 26 _ rfl
    | 13, _ => exact hE.2 27 _ rfl
    | 14, _ => exact hE.2 28 _ rfl
    | 15, _ => exact hE.2 29 _ rfl
    | 16, _ => exact hE.2 30 _ rfl
    | k + 17, hk => exact absurd hk (by omega)
  have hMi : MInj (mAd a sz) := mAd_inj hasz
  have hd := mn_dis hMi
  clear hA hE
  refine lv_aload_n hx hb dX7_init_42 rfl (lv_at hl 0 rfl) ?_
  refine tr_get (ci := 7) (C := RX7) (T := TX7) (N := 6) hx hb hts hiX7 hown hK (a := a) hM.c0 rfl 4 (by decide) f22 (v := .ref (mA (mAd a sz) 2)) rfl dX7_init_43 ?_
  refine tr_wN (va_runV (As := []) (rest := []) ⟨hx, hb, hml, hown, hts⟩ (c_X6_renew l D cI (mA (mAd a sz)) hd.1 zMV zSV) (cwV 0 hts gX7_init_X6_renew rfl rfl rfl (by decide +kernel) ⟨Nat.le_of_ble_eq_true rfl, Nat.le_of_ble_eq_true rfl⟩) (tr_preV hK hM.c2 rfl hM) rfl rfl hl.1 rfl (lv_room (Nat.le_of_ble_eq_true rfl)) dX7_init_46 ⟨show 31 + 0 ≤ 31 by omega, show 342 + 0 ≤ 342 by omega⟩) hS (mAd_own hasz) (mAd_own hasz) (fun H locs hM hz3 hk3 hS => ?_)
  replace hN := st_keepO hd hN hk3
  exact W.vret hx hb hr (hS.end ⟨hM, hN⟩) hS.2.2 dX7_init_49
