/-! constructors: the reference's State and Model -/
def mAd (a sz : Nat) : Nat → Nat := fun k => if k = 0 then a else sz + (k - 1)
theorem mAd_inj {a sz : Nat} (h : a < sz) : MInj (mAd a sz) := by
  intro i hi j hj e
  unfold mAd at e
  (repeat' split at e) <;> omega
theorem mAd_ge {a sz : Nat} (h : a < sz) : ∀ k, k < 32 → a ≤ mAd a sz k ∧ (k ≠ 0 → sz ≤ mAd a sz k) := by
  intro k hk
  unfold mAd
  split <;> omega
theorem MKD.arr {D : va_G} {sz : Nat} {E : List va_E} {H H1 : Heap} (h : MKD D sz E H) (z1 : H1.size = H.size + 1) (hk1 : ∀ x : Nat, x < H.size → H1[x]? = H[x]?) {q : Nat} (hq : q = sz + E.length) {e0 : va_E} (p1 : va_at D vwCl (q, e0) H1) : MKD D sz (E ++ [e0]) H1 := by
  refine ⟨by rw [z1, h.1, List.length_append]; rfl, fun k e hke => ?_⟩
  by_cases hlt : k < E.length
  · rw [List.getElem?_append_left hlt] at hke
    have h3 := h.2 k e hke
    exact h3.kept (hk1 _ h3.lt)
  · rw [List.getElem?_append_right (by omega)] at hke
    by_cases he : k = E.length
    · rw [he, Nat.sub_self] at hke
      cases hke
      rw [he, ← hq]
      exact p1
    · rw [show k - E.length = (k - E.length - 1) + 1 by omega, List.getElem?_cons_succ] at hke
      simp at hke
set_option maxHeartbeats 8000000 in
set_option maxRecDepth 100000 in
theorem c_X6_init (l : Launch) (D : va_G) (cI : ClassId) (a b sz : Nat) : Met l yX6_init wsX6_init ({ frames := 1, cells := 14, slots := 144, locals := 20 }) (tr_Pc D cI [.ref a, .ref b] (fun H => H.size = sz ∧ va_at D vwCl (a, .inr (6, [.int 0, .int 0, .int 0, .int 0, .null, .null, .null, .null, .null, .null, .null, .null, .null, .null, .null, .null, .null, .null, .null])) H)) (tr_Q none (fun H => va_at D vwCl (a, .inr (6, [.int 0, .int 0, .int 0, .int 1, .ref (sz), .ref (sz + 1), .ref (sz + 2), .ref (sz + 3), .ref (sz + 4), .ref (sz + 5), .ref (sz + 6), .ref (sz + 7), .ref (sz + 8), .ref (sz + 9), .ref (sz + 10), .ref (sz + 11), .ref (sz + 12), .ref (sz + 13), .ref b])) H ∧ MKD D sz [.inl (cI, 16, .inl (fun _ => 0)), .inl (cI, 16, .inl (fun _ => 0)), .inl (cI, 16, .inl (fun _ => 0)), .inl (cI, 16, .inl (fun _ => 0)), .inl (cI, 16, .inl (fun _ => 0)), .inl (cI, 16, .inl (fun _ => 0)), .inl (cI, 6, .inl (fun _ => 0)), .inl (cI, 6, .inl (fun _ => 0)), .inl (cI, 6, .inl (fun _ => 0)), .inl (cI, 6, .inl (fun _ => 0)), .inl (cI, 6, .inl (fun _ => 0)), .inl (cI, 6, .inl (fun _ => 0)), .inl (cI, 6, .inl (fun _ => 0)), .inl (cI, 6, .inl (fun _ => 0))] H) (fun q => q = a)) 14 144 (fun q => q = a) := by
  refine Met.ofW (cc := cX6_init) (maxL := 2) (ret := none) (by decide) rfl ?_
  intro p e s m args below meth c s₁ B hml hv
  obtain ⟨rfl, ⟨hz0, hA⟩, hK⟩ := hv
  have hx := B.exec
  have hb := B.bytes
  have hr := B.returns
  have hts := atoms_spec (ws := wsX6_init) B.pre
  have hown : s.vm.findClass RX6 = some m.cls := findClass_of_methodNamed B.named
  have hname := (name_of_methodNamed B.named B.method).1
  have hlocks := B.notSynchronized
  have hasz : a < sz := by have := hA.lt; simp only at this; omega
  have hiX6 : ∀ w ∈ u_ws RX6 TX6 19, w ∈ wsX6_init := by decide +kernel
  have f15 := hts (.fieldLink RX6 15 "TramRibbonModel$State" "sections" "I") (by decide +kernel)
  have f19 := hts (.fieldLink RX6 19 "TramRibbonModel$State" "wait" "[I") (by decide +kernel)
  have f23 := hts (.fieldLink RX6 23 "TramRibbonModel$State" "isCut" "[I") (by decide +kernel)
  have f26 := hts (.fieldLink RX6 26 "TramRibbonModel$State" "spares" "[I") (by decide +kernel)
  have f29 := hts (.fieldLink RX6 29 "TramRibbonModel$State" "bound" "[I") (by decide +kernel)
  have f3 := hts (.fieldLink RX6 3 "TramRibbonModel$State" "this$0" "LTramRibbonModel;") (by decide +kernel)
  have f32 := hts (.fieldLink RX6 32 "TramRibbonModel$State" "dead" "[I") (by decide +kernel)
  have f35 := hts (.fieldLink RX6 35 "TramRibbonModel$State" "times" "[I") (by decide +kernel)
  have f38 := hts (.fieldLink RX6 38 "TramRibbonModel$State" "at" "[I") (by decide +kernel)
  have f41 := hts (.fieldLink RX6 41 "TramRibbonModel$State" "way" "[I") (by decide +kernel)
  have f44 := hts (.fieldLink RX6 44 "TramRibbonModel$State" "riders" "[I") (by decide +kernel)
  have f47 := hts (.fieldLink RX6 47 "TramRibbonModel$State" "wear" "[I") (by decide +kernel)
  have f50 := hts (.fieldLink RX6 50 "TramRibbonModel$State" "broken" "[I") (by decide +kernel)
  have f53 := hts (.fieldLink RX6 53 "TramRibbonModel$State" "pushes" "[I") (by decide +kernel)
  have f56 := hts (.fieldLink RX6 56 "TramRibbonModel$State" "came" "[I") (by decide +kernel)
  have f59 := hts (.fieldLink RX6 59 "TramRibbonModel$State" "went" "[I") (by decide +kernel)
  have harr := hts (.arrayClass .int) (by decide +kernel)
  have oC := hts (.code Lib.objectInit ⟨#[0xb1]⟩ 1 none) (by decide +kernel)
  have oI := hts (.instanceMethod Lib.objectInit) (by decide +kernel)
  have oL := hts (.methodLink RX6 9 Lib.objectInit) (by decide +kernel)
  have hl := lv_entry ([.ref a, .ref b]) (n := 2) (Nat.le_of_ble_eq_true rfl)
  rw [lg_entry_eq]
  generalize (lg_sl ([.ref a, .ref b]) ++ List.replicate (2 - (lg_sl ([.ref a, .ref b])).length) Slot.unset).toArray = ls at hl ⊢
  replace hl : lv_has ls 2 [(0, .ref a), (1, .ref b)] := hl
  have hS : tr_S (fun q => q = a) s.heap s.heap [] := tr_S.rf
  have hE : MKD D sz [] s.heap := MKD.nil hz0
  generalize h1 : s.heap = H, h2 : ([] : List Loc) = locs
  replace hS : tr_S (fun q => q = a) s.heap H locs := by rw [← h1, ← h2]; exact hS
  rw [h1] at hA hE
  clear h1 h2
  refine lv_aload_n hx hb dX6_init_0 rfl (lv_at hl 0 rfl) ?_
  refine lv_aload_n hx hb dX6_init_1 rfl (lv_at hl 1 rfl) ?_
  refine tr_putF (ci := 6) (C := RX6) (T := TX6) (N := 19) (ty := tyX6 18) (v := .ref b) hx hb hts hiX6 tyX6 tyX6_ok nmX6 hown hK hS rfl hA rfl 18 (by decide) f3 rfl hname rfl (tyX6_ok 18 (by decide)) rfl rfl (Nat.le_of_ble_eq_true rfl) dX6_init_2 (fun H locs hat hz4 hk4 hS => ?_)
  replace hA : va_at D vwCl (a, .inr (6, [.int 0, .int 0, .int 0, .int 0, .null, .null, .null, .null, .null, .null, .null, .null, .null, .null, .null, .null, .null, .null, .ref b])) H := hat
  replace hE := hE.keep hasz hz4 hk4
  clear hat hz4 hk4
  refine lv_aload_n hx hb dX6_init_5 rfl (lv_at hl 0 rfl) ?_
  refine W.objInit hx hb hown oL oI oC rfl (by rw [hml]; exact hl.1) rfl dX6_init_6 (Nat.le_of_ble_eq_true rfl) (lv_room12 (h := Nat.le_of_ble_eq_true rfl) (lv_room (Nat.le_of_ble_eq_true rfl))) ?_
  refine lv_aload_n hx hb dX6_init_9 rfl (lv_at hl 0 rfl) ?_
  refine lv_iconst (v := 1) hx hb dX6_init_10 (by decide) ?_
  refine tr_put (ci := 6) (C := RX6) (T := TX6) (N := 19) (ty := .int) (v := .int 1) hx hb hts hiX6 tyX6 tyX6_ok nmX6 hown hK hS rfl hA rfl 3 (by decide) f15 rfl (by decide +kernel) rfl rfl (Nat.le_of_ble_eq_true rfl) dX6_init_11 (fun H locs hat hz4 hk4 hS => ?_)
  replace hA : va_at D vwCl (a, .inr (6, [.int 0, .int 0, .int 0, .int 1, .null, .null, .null, .null, .null, .null, .null, .null, .null, .null, .null, .null, .null, .null, .ref b])) H := hat
  replace hE := hE.keep hasz hz4 hk4
  clear hat hz4 hk4
  refine lv_aload_n hx hb dX6_init_14 rfl (lv_at hl 0 rfl) ?_
  refine lv_bipush (v := 16) hx hb dX6_init_15 (by decide) ?_
  refine tr_newa (n := 16) (N := 16) hx hb harr hK hS (by decide) rfl (Nat.le_of_ble_eq_true rfl) (show 0 + 1 ≤ 14 by omega) (show 0 + 16 ≤ 144 by omega) dX6_init_17 (fun q H1 hq hQ hz1 hk1 hS => ?_)
  have e0 : q = sz := hq.trans hE.1
  clear hq
  subst q
  replace hA := hA.kept (hk1 a hA.lt)
  replace hE : MKD D sz [.inl (cI, 16, .inl (fun _ => 0))] H1 := hE.arr (q := sz) hz1 hk1 rfl hQ
  clear hQ hz1 hk1
  refine tr_putF (ci := 6) (C := RX6) (T := TX6) (N := 19) (ty := tyX6 4) (v := .ref (sz)) hx hb hts hiX6 tyX6 tyX6_ok nmX6 hown hK hS rfl hA rfl 4 (by decide) f19 rfl hname rfl (tyX6_ok 4 (by decide)) rfl rfl (Nat.le_of_ble_eq_true rfl) dX6_init_19 (fun H locs hat hz4 hk4 hS => ?_)
  replace hA : va_at D vwCl (a, .inr (6, [.int 0, .int 0, .int 0, .int 1, .ref (sz), .null, .null, .null, .null, .null, .null, .null, .null, .null, .null, .null, .null, .null, .ref b])) H := hat
  replace hE := hE.keep hasz hz4 hk4
  clear hat hz4 hk4
  refine lv_aload_n hx hb dX6_init_22 rfl (lv_at hl 0 rfl) ?_
  refine lv_bipush (v := 16) hx hb dX6_init_23 (by decide) ?_
  refine tr_newa (n := 16) (N := 16) hx hb harr hK hS (by decide) rfl (Nat.le_of_ble_eq_true rfl) (show 1 + 1 ≤ 14 by omega) (show 16 + 16 ≤ 144 by omega) dX6_init_25 (fun q H1 hq hQ hz1 hk1 hS => ?_)
  have e0 : q = sz + 1 := hq.trans hE.1
  clear hq
  subst q
  replace hA := hA.kept (hk1 a hA.lt)
  replace hE : MKD D sz [.inl (cI, 16, .inl (fun _ => 0)), .inl (cI, 16, .inl (fun _ => 0))] H1 := hE.arr (q := sz + 1) hz1 hk1 rfl hQ
  clear hQ hz1 hk1
  refine tr_putF (ci := 6) (C := RX6) (T := TX6) (N := 19) (ty := tyX6 5) (v := .ref (sz + 1)) hx hb hts hiX6 tyX6 tyX6_ok nmX6 hown hK hS rfl hA rfl 5 (by decide) f23 rfl hname rfl (tyX6_ok 5 (by decide)) rfl rfl (Nat.le_of_ble_eq_true rfl) dX6_init_27 (fun H locs hat hz4 hk4 hS => ?_)
  replace hA : va_at D vwCl (a, .inr (6, [.int 0, .int 0, .int 0, .int 1, .ref (sz), .ref (sz + 1), .null, .null, .null, .null, .null, .null, .null, .null, .null, .null, .null, .null, .ref b])) H := hat
  replace hE := hE.keep hasz hz4 hk4
  clear hat hz4 hk4
  refine lv_aload_n hx hb dX6_init_30 rfl (lv_at hl 0 rfl) ?_
  refine lv_bipush (v := 16) hx hb dX6_init_31 (by decide) ?_
  refine tr_newa (n := 16) (N := 16) hx hb harr hK hS (by decide) rfl (Nat.le_of_ble_eq_true rfl) (show 2 + 1 ≤ 14 by omega) (show 32 + 16 ≤ 144 by omega) dX6_init_33 (fun q H1 hq hQ hz1 hk1 hS => ?_)
  have e0 : q = sz + 2 := hq.trans hE.1
  clear hq
  subst q
  replace hA := hA.kept (hk1 a hA.lt)
  replace hE : MKD D sz [.inl (cI, 16, .inl (fun _ => 0)), .inl (cI, 16, .inl (fun _ => 0)), .inl (cI, 16, .inl (fun _ => 0))] H1 := hE.arr (q := sz + 2) hz1 hk1 rfl hQ
  clear hQ hz1 hk1
  refine tr_putF (ci := 6) (C := RX6) (T := TX6) (N := 19) (ty := tyX6 6) (v := .ref (sz + 2)) hx hb hts hiX6 tyX6 tyX6_ok nmX6 hown hK hS rfl hA rfl 6 (by decide) f26 rfl hname rfl (tyX6_ok 6 (by decide)) rfl rfl (Nat.le_of_ble_eq_true rfl) dX6_init_35 (fun H locs hat hz4 hk4 hS => ?_)
  replace hA : va_at D vwCl (a, .inr (6, [.int 0, .int 0, .int 0, .int 1, .ref (sz), .ref (sz + 1), .ref (sz + 2), .null, .null, .null, .null, .null, .null, .null, .null, .null, .null, .null, .ref b])) H := hat
  replace hE := hE.keep hasz hz4 hk4
  clear hat hz4 hk4
  refine lv_aload_n hx hb dX6_init_38 rfl (lv_at hl 0 rfl) ?_
  refine lv_bipush (v := 16) hx hb dX6_init_39 (by decide) ?_
  refine tr_newa (n := 16) (N := 16) hx hb harr hK hS (by decide) rfl (Nat.le_of_ble_eq_true rfl) (show 3 + 1 ≤ 14 by omega) (show 48 + 16 ≤ 144 by omega) dX6_init_41 (fun q H1 hq hQ hz1 hk1 hS => ?_)
  have e0 : q = sz + 3 := hq.trans hE.1
  clear hq
  subst q
  replace hA := hA.kept (hk1 a hA.lt)
  replace hE : MKD D sz [.inl (cI, 16, .inl (fun _ => 0)), .inl (cI, 16, .inl (fun _ => 0)), .inl (cI, 16, .inl (fun _ => 0)), .inl (cI, 16, .inl (fun _ => 0))] H1 := hE.arr (q := sz + 3) hz1 hk1 rfl hQ
  clear hQ hz1 hk1
  refine tr_putF (ci := 6) (C := RX6) (T := TX6) (N := 19) (ty := tyX6 7) (v := .ref (sz + 3)) hx hb hts hiX6 tyX6 tyX6_ok nmX6 hown hK hS rfl hA rfl 7 (by decide) f29 rfl hname rfl (tyX6_ok 7 (by decide)) rfl rfl (Nat.le_of_ble_eq_true rfl) dX6_init_43 (fun H locs hat hz4 hk4 hS => ?_)
  replace hA : va_at D vwCl (a, .inr (6, [.int 0, .int 0, .int 0, .int 1, .ref (sz), .ref (sz + 1), .ref (sz + 2), .ref (sz + 3), .null, .null, .null, .null, .null, .null, .null, .null, .null, .null, .ref b])) H := hat
  replace hE := hE.keep hasz hz4 hk4
  clear hat hz4 hk4
  refine lv_aload_n hx hb dX6_init_46 rfl (lv_at hl 0 rfl) ?_
  refine lv_bipush (v := 16) hx hb dX6_init_47 (by decide) ?_
  refine tr_newa (n := 16) (N := 16) hx hb harr hK hS (by decide) rfl (Nat.le_of_ble_eq_true rfl) (show 4 + 1 ≤ 14 by omega) (show 64 + 16 ≤ 144 by omega) dX6_init_49 (fun q H1 hq hQ hz1 hk1 hS => ?_)
  have e0 : q = sz + 4 := hq.trans hE.1
  clear hq
  subst q
  replace hA := hA.kept (hk1 a hA.lt)
  replace hE : MKD D sz [.inl (cI, 16, .inl (fun _ => 0)), .inl (cI, 16, .inl (fun _ => 0)), .inl (cI, 16, .inl (fun _ => 0)), .inl (cI, 16, .inl (fun _ => 0)), .inl (cI, 16, .inl (fun _ => 0))] H1 := hE.arr (q := sz + 4) hz1 hk1 rfl hQ
  clear hQ hz1 hk1
  refine tr_putF (ci := 6) (C := RX6) (T := TX6) (N := 19) (ty := tyX6 8) (v := .ref (sz + 4)) hx hb hts hiX6 tyX6 tyX6_ok nmX6 hown hK hS rfl hA rfl 8 (by decide) f32 rfl hname rfl (tyX6_ok 8 (by decide)) rfl rfl (Nat.le_of_ble_eq_true rfl) dX6_init_51 (fun H locs hat hz4 hk4 hS => ?_)
  replace hA : va_at D vwCl (a, .inr (6, [.int 0, .int 0, .int 0, .int 1, .ref (sz), .ref (sz + 1), .ref (sz + 2), .ref (sz + 3), .ref (sz + 4), .null, .null, .null, .null, .null, .null, .null, .null, .null, .ref b])) H := hat
  replace hE := hE.keep hasz hz4 hk4
  clear hat hz4 hk4
  refine lv_aload_n hx hb dX6_init_54 rfl (lv_at hl 0 rfl) ?_
  refine lv_bipush (v := 16) hx hb dX6_init_55 (by decide) ?_
  refine tr_newa (n := 16) (N := 16) hx hb harr hK hS (by decide) rfl (Nat.le_of_ble_eq_true rfl) (show 5 + 1 ≤ 14 by omega) (show 80 + 16 ≤ 144 by omega) dX6_init_57 (fun q H1 hq hQ hz1 hk1 hS => ?_)
  have e0 : q = sz + 5 := hq.trans hE.1
  clear hq
  subst q
  replace hA := hA.kept (hk1 a hA.lt)
  replace hE : MKD D sz [.inl (cI, 16, .inl (fun _ => 0)), .inl (cI, 16, .inl (fun _ => 0)), .inl (cI, 16, .inl (fun _ => 0)), .inl (cI, 16, .inl (fun _ => 0)), .inl (cI, 16, .inl (fun _ => 0)), .inl (cI, 16, .inl (fun _ => 0))] H1 := hE.arr (q := sz + 5) hz1 hk1 rfl hQ
  clear hQ hz1 hk1
  refine tr_putF (ci := 6) (C := RX6) (T := TX6) (N := 19) (ty := tyX6 9) (v := .ref (sz + 5)) hx hb hts hiX6 tyX6 tyX6_ok nmX6 hown hK hS rfl hA rfl 9 (by decide) f35 rfl hname rfl (tyX6_ok 9 (by decide)) rfl rfl (Nat.le_of_ble_eq_true rfl) dX6_init_59 (fun H locs hat hz4 hk4 hS => ?_)
  replace hA : va_at D vwCl (a, .inr (6, [.int 0, .int 0, .int 0, .int 1, .ref (sz), .ref (sz + 1), .ref (sz + 2), .ref (sz + 3), .ref (sz + 4), .ref (sz + 5), .null, .null, .null, .null, .null, .null, .null, .null, .ref b])) H := hat
  replace hE := hE.keep hasz hz4 hk4
  clear hat hz4 hk4
  refine lv_aload_n hx hb dX6_init_62 rfl (lv_at hl 0 rfl) ?_
  refine lv_bipush (v := 6) hx hb dX6_init_63 (by decide) ?_
  refine tr_newa (n := 6) (N := 6) hx hb harr hK hS (by decide) rfl (Nat.le_of_ble_eq_true rfl) (show 6 + 1 ≤ 14 by omega) (show 96 + 6 ≤ 144 by omega) dX6_init_65 (fun q H1 hq hQ hz1 hk1 hS => ?_)
  have e0 : q = sz + 6 := hq.trans hE.1
  clear hq
  subst q
  replace hA := hA.kept (hk1 a hA.lt)
  replace hE : MKD D sz [.inl (cI, 16, .inl (fun _ => 0)), .inl (cI, 16, .inl (fun _ => 0)), .inl (cI, 16, .inl (fun _ => 0)), .inl (cI, 16, .inl (fun _ => 0)), .inl (cI, 16, .inl (fun _ => 0)), .inl (cI, 16, .inl (fun _ => 0)), .inl (cI, 6, .inl (fun _ => 0))] H1 := hE.arr (q := sz + 6) hz1 hk1 rfl hQ
  clear hQ hz1 hk1
  refine tr_putF (ci := 6) (C := RX6) (T := TX6) (N := 19) (ty := tyX6 10) (v := .ref (sz + 6)) hx hb hts hiX6 tyX6 tyX6_ok nmX6 hown hK hS rfl hA rfl 10 (by decide) f38 rfl hname rfl (tyX6_ok 10 (by decide)) rfl rfl (Nat.le_of_ble_eq_true rfl) dX6_init_67 (fun H locs hat hz4 hk4 hS => ?_)
  replace hA : va_at D vwCl (a, .inr (6, [.int 0, .int 0, .int 0, .int 1, .ref (sz), .ref (sz + 1), .ref (sz + 2), .ref (sz + 3), .ref (sz + 4), .ref (sz + 5), .ref (sz + 6), .null, .null, .null, .null, .null, .null, .null, .ref b])) H := hat
  replace hE := hE.keep hasz hz4 hk4
  clear hat hz4 hk4
  refine lv_aload_n hx hb dX6_init_70 rfl (lv_at hl 0 rfl) ?_
  refine lv_bipush (v := 6) hx hb dX6_init_71 (by decide) ?_
  refine tr_newa (n := 6) (N := 6) hx hb harr hK hS (by decide) rfl (Nat.le_of_ble_eq_true rfl) (show 7 + 1 ≤ 14 by omega) (show 102 + 6 ≤ 144 by omega) dX6_init_73 (fun q H1 hq hQ hz1 hk1 hS => ?_)
  have e0 : q = sz + 7 := hq.trans hE.1
  clear hq
  subst q
  replace hA := hA.kept (hk1 a hA.lt)
  replace hE : MKD D sz [.inl (cI, 16, .inl (fun _ => 0)), .inl (cI, 16, .inl (fun _ => 0)), .inl (cI, 16, .inl (fun _ => 0)), .inl (cI, 16, .inl (fun _ => 0)), .inl (cI, 16, .inl (fun _ => 0)), .inl (cI, 16, .inl (fun _ => 0)), .inl (cI, 6, .inl (fun _ => 0)), .inl (cI, 6, .inl (fun _ => 0))] H1 := hE.arr (q := sz + 7) hz1 hk1 rfl hQ
  clear hQ hz1 hk1
  refine tr_putF (ci := 6) (C := RX6) (T := TX6) (N := 19) (ty := tyX6 11) (v := .ref (sz + 7)) hx hb hts hiX6 tyX6 tyX6_ok nmX6 hown hK hS rfl hA rfl 11 (by decide) f41 rfl hname rfl (tyX6_ok 11 (by decide)) rfl rfl (Nat.le_of_ble_eq_true rfl) dX6_init_75 (fun H locs hat hz4 hk4 hS => ?_)
  replace hA : va_at D vwCl (a, .inr (6, [.int 0, .int 0, .int 0, .int 1, .ref (sz), .ref (sz + 1), .ref (sz + 2), .ref (sz + 3), .ref (sz + 4), .ref (sz + 5), .ref (sz + 6), .ref (sz + 7), .null, .null, .null, .null, .null, .null, .ref b])) H := hat
  replace hE := hE.keep hasz hz4 hk4
  clear hat hz4 hk4
  refine lv_aload_n hx hb dX6_init_78 rfl (lv_at hl 0 rfl) ?_
  refine lv_bipush (v := 6) hx hb dX6_init_79 (by decide) ?_
  refine tr_newa (n := 6) (N := 6) hx hb harr hK hS (by decide) rfl (Nat.le_of_ble_eq_true rfl) (show 8 + 1 ≤ 14 by omega) (show 108 + 6 ≤ 144 by omega) dX6_init_81 (fun q H1 hq hQ hz1 hk1 hS => ?_)
  have e0 : q = sz + 8 := hq.trans hE.1
  clear hq
  subst q
  replace hA := hA.kept (hk1 a hA.lt)
  replace hE : MKD D sz [.inl (cI, 16, .inl (fun _ => 0)), .inl (cI, 16, .inl (fun _ => 0)), .inl (cI, 16, .inl (fun _ => 0)), .inl (cI, 16, .inl (fun _ => 0)), .inl (cI, 16, .inl (fun _ => 0)), .inl (cI, 16, .inl (fun _ => 0)), .inl (cI, 6, .inl (fun _ => 0)), .inl (cI, 6, .inl (fun _ => 0)), .inl (cI, 6, .inl (fun _ => 0))] H1 := hE.arr (q := sz + 8) hz1 hk1 rfl hQ
  clear hQ hz1 hk1
  refine tr_putF (ci := 6) (C := RX6) (T := TX6) (N := 19) (ty := tyX6 12) (v := .ref (sz + 8)) hx hb hts hiX6 tyX6 tyX6_ok nmX6 hown hK hS rfl hA rfl 12 (by decide) f44 rfl hname rfl (tyX6_ok 12 (by decide)) rfl rfl (Nat.le_of_ble_eq_true rfl) dX6_init_83 (fun H locs hat hz4 hk4 hS => ?_)
  replace hA : va_at D vwCl (a, .inr (6, [.int 0, .int 0, .int 0, .int 1, .ref (sz), .ref (sz + 1), .ref (sz + 2), .ref (sz + 3), .ref (sz + 4), .ref (sz + 5), .ref (sz + 6), .ref (sz + 7), .ref (sz + 8), .null, .null, .null, .null, .null, .ref b])) H := hat
  replace hE := hE.keep hasz hz4 hk4
  clear hat hz4 hk4
  refine lv_aload_n hx hb dX6_init_86 rfl (lv_at hl 0 rfl) ?_
  refine lv_bipush (v := 6) hx hb dX6_init_87 (by decide) ?_
  refine tr_newa (n := 6) (N := 6) hx hb harr hK hS (by decide) rfl (Nat.le_of_ble_eq_true rfl) (show 9 + 1 ≤ 14 by omega) (show 114 + 6 ≤ 144 by omega) dX6_init_89 (fun q H1 hq hQ hz1 hk1 hS => ?_)
  have e0 : q = sz + 9 := hq.trans hE.1
  clear hq
  subst q
  replace hA := hA.kept (hk1 a hA.lt)
  replace hE : MKD D sz [.inl (cI, 16, .inl (fun _ => 0)), .inl (cI, 16, .inl (fun _ => 0)), .inl (cI, 16, .inl (fun _ => 0)), .inl (cI, 16, .inl (fun _ => 0)), .inl (cI, 16, .inl (fun _ => 0)), .inl (cI, 16, .inl (fun _ => 0)), .inl (cI, 6, .inl (fun _ => 0)), .inl (cI, 6, .inl (fun _ => 0)), .inl (cI, 6, .inl (fun _ => 0)), .inl (cI, 6, .inl (fun _ => 0))] H1 := hE.arr (q := sz + 9) hz1 hk1 rfl hQ
  clear hQ hz1 hk1
  refine tr_putF (ci := 6) (C := RX6) (T := TX6) (N := 19) (ty := tyX6 13) (v := .ref (sz + 9)) hx hb hts hiX6 tyX6 tyX6_ok nmX6 hown hK hS rfl hA rfl 13 (by decide) f47 rfl hname rfl (tyX6_ok 13 (by decide)) rfl rfl (Nat.le_of_ble_eq_true rfl) dX6_init_91 (fun H locs hat hz4 hk4 hS => ?_)
  replace hA : va_at D vwCl (a, .inr (6, [.int 0, .int 0, .int 0, .int 1, .ref (sz), .ref (sz + 1), .ref (sz + 2), .ref (sz + 3), .ref (sz + 4), .ref (sz + 5), .ref (sz + 6), .ref (sz + 7), .ref (sz + 8), .ref (sz + 9), .null, .null, .null, .null, .ref b])) H := hat
  replace hE := hE.keep hasz hz4 hk4
  clear hat hz4 hk4
  refine lv_aload_n hx hb dX6_init_94 rfl (lv_at hl 0 rfl) ?_
  refine lv_bipush (v := 6) hx hb dX6_init_95 (by decide) ?_
  refine tr_newa (n := 6) (N := 6) hx hb harr hK hS (by decide) rfl (Nat.le_of_ble_eq_true rfl) (show 10 + 1 ≤ 14 by omega) (show 120 + 6 ≤ 144 by omega) dX6_init_97 (fun q H1 hq hQ hz1 hk1 hS => ?_)
  have e0 : q = sz + 10 := hq.trans hE.1
  clear hq
  subst q
  replace hA := hA.kept (hk1 a hA.lt)
  replace hE : MKD D sz [.inl (cI, 16, .inl (fun _ => 0)), .inl (cI, 16, .inl (fun _ => 0)), .inl (cI, 16, .inl (fun _ => 0)), .inl (cI, 16, .inl (fun _ => 0)), .inl (cI, 16, .inl (fun _ => 0)), .inl (cI, 16, .inl (fun _ => 0)), .inl (cI, 6, .inl (fun _ => 0)), .inl (cI, 6, .inl (fun _ => 0)), .inl (cI, 6, .inl (fun _ => 0)), .inl (cI, 6, .inl (fun _ => 0)), .inl (cI, 6, .inl (fun _ => 0))] H1 := hE.arr (q := sz + 10) hz1 hk1 rfl hQ
  clear hQ hz1 hk1
  refine tr_putF (ci := 6) (C := RX6) (T := TX6) (N := 19) (ty := tyX6 14) (v := .ref (sz + 10)) hx hb hts hiX6 tyX6 tyX6_ok nmX6 hown hK hS rfl hA rfl 14 (by decide) f50 rfl hname rfl (tyX6_ok 14 (by decide)) rfl rfl (Nat.le_of_ble_eq_true rfl) dX6_init_99 (fun H locs hat hz4 hk4 hS => ?_)
  replace hA : va_at D vwCl (a, .inr (6, [.int 0, .int 0, .int 0, .int 1, .ref (sz), .ref (sz + 1), .ref (sz + 2), .ref (sz + 3), .ref (sz + 4), .ref (sz + 5), .ref (sz + 6), .ref (sz + 7), .ref (sz + 8), .ref (sz + 9), .ref (sz + 10), .null, .null, .null, .ref b])) H := hat
  replace hE := hE.keep hasz hz4 hk4
  clear hat hz4 hk4
  refine lv_aload_n hx hb dX6_init_102 rfl (lv_at hl 0 rfl) ?_
  refine lv_bipush (v := 6) hx hb dX6_init_103 (by decide) ?_
  refine tr_newa (n := 6) (N := 6) hx hb harr hK hS (by decide) rfl (Nat.le_of_ble_eq_true rfl) (show 11 + 1 ≤ 14 by omega) (show 126 + 6 ≤ 144 by omega) dX6_init_105 (fun q H1 hq hQ hz1 hk1 hS => ?_)
  have e0 : q = sz + 11 := hq.trans hE.1
  clear hq
  subst q
  replace hA := hA.kept (hk1 a hA.lt)
  replace hE : MKD D sz [.inl (cI, 16, .inl (fun _ => 0)), .inl (cI, 16, .inl (fun _ => 0)), .inl (cI, 16, .inl (fun _ => 0)), .inl (cI, 16, .inl (fun _ => 0)), .inl (cI, 16, .inl (fun _ => 0)), .inl (cI, 16, .inl (fun _ => 0)), .inl (cI, 6, .inl (fun _ => 0)), .inl (cI, 6, .inl (fun _ => 0)), .inl (cI, 6, .inl (fun _ => 0)), .inl (cI, 6, .inl (fun _ => 0)), .inl (cI, 6, .inl (fun _ => 0)), .inl (cI, 6, .inl (fun _ => 0))] H1 := hE.arr (q := sz + 11) hz1 hk1 rfl hQ
  clear hQ hz1 hk1
  refine tr_putF (ci := 6) (C := RX6) (T := TX6) (N := 19) (ty := tyX6 15) (v := .ref (sz + 11)) hx hb hts hiX6 tyX6 tyX6_ok nmX6 hown hK hS rfl hA rfl 15 (by decide) f53 rfl hname rfl (tyX6_ok 15 (by decide)) rfl rfl (Nat.le_of_ble_eq_true rfl) dX6_init_107 (fun H locs hat hz4 hk4 hS => ?_)
  replace hA : va_at D vwCl (a, .inr (6, [.int 0, .int 0, .int 0, .int 1, .ref (sz), .ref (sz + 1), .ref (sz + 2), .ref (sz + 3), .ref (sz + 4), .ref (sz + 5), .ref (sz + 6), .ref (sz + 7), .ref (sz + 8), .ref (sz + 9), .ref (sz + 10), .ref (sz + 11), .null, .null, .ref b])) H := hat
  replace hE := hE.keep hasz hz4 hk4
  clear hat hz4 hk4
  refine lv_aload_n hx hb dX6_init_110 rfl (lv_at hl 0 rfl) ?_
  refine lv_bipush (v := 6) hx hb dX6_init_111 (by decide) ?_
  refine tr_newa (n := 6) (N := 6) hx hb harr hK hS (by decide) rfl (Nat.le_of_ble_eq_true rfl) (show 12 + 1 ≤ 14 by omega) (show 132 + 6 ≤ 144 by omega) dX6_init_113 (fun q H1 hq hQ hz1 hk1 hS => ?_)
  have e0 : q = sz + 12 := hq.trans hE.1
  clear hq
  subst q
  replace hA := hA.kept (hk1 a hA.lt)
  replace hE : MKD D sz [.inl (cI, 16, .inl (fun _ => 0)), .inl (cI, 16, .inl (fun _ => 0)), .inl (cI, 16, .inl (fun _ => 0)), .inl (cI, 16, .inl (fun _ => 0)), .inl (cI, 16, .inl (fun _ => 0)), .inl (cI, 16, .inl (fun _ => 0)), .inl (cI, 6, .inl (fun _ => 0)), .inl (cI, 6, .inl (fun _ => 0)), .inl (cI, 6, .inl (fun _ => 0)), .inl (cI, 6, .inl (fun _ => 0)), .inl (cI, 6, .inl (fun _ => 0)), .inl (cI, 6, .inl (fun _ => 0)), .inl (cI, 6, .inl (fun _ => 0))] H1 := hE.arr (q := sz + 12) hz1 hk1 rfl hQ
  clear hQ hz1 hk1
  refine tr_putF (ci := 6) (C := RX6) (T := TX6) (N := 19) (ty := tyX6 16) (v := .ref (sz + 12)) hx hb hts hiX6 tyX6 tyX6_ok nmX6 hown hK hS rfl hA rfl 16 (by decide) f56 rfl hname rfl (tyX6_ok 16 (by decide)) rfl rfl (Nat.le_of_ble_eq_true rfl) dX6_init_115 (fun H locs hat hz4 hk4 hS => ?_)
  replace hA : va_at D vwCl (a, .inr (6, [.int 0, .int 0, .int 0, .int 1, .ref (sz), .ref (sz + 1), .ref (sz + 2), .ref (sz + 3), .ref (sz + 4), .ref (sz + 5), .ref (sz + 6), .ref (sz + 7), .ref (sz + 8), .ref (sz + 9), .ref (sz + 10), .ref (sz + 11), .ref (sz + 12), .null, .ref b])) H := hat
  replace hE := hE.keep hasz hz4 hk4
  clear hat hz4 hk4
  refine lv_aload_n hx hb dX6_init_118 rfl (lv_at hl 0 rfl) ?_
  refine lv_bipush (v := 6) hx hb dX6_init_119 (by decide) ?_
  refine tr_newa (n := 6) (N := 6) hx hb harr hK hS (by decide) rfl (Nat.le_of_ble_eq_true rfl) (show 13 + 1 ≤ 14 by omega) (show 138 + 6 ≤ 144 by omega) dX6_init_121 (fun q H1 hq hQ hz1 hk1 hS => ?_)
  have e0 : q = sz + 13 := hq.trans hE.1
  clear hq
  subst q
  replace hA := hA.kept (hk1 a hA.lt)
  replace hE : MKD D sz [.inl (cI, 16, .inl (fun _ => 0)), .inl (cI, 16, .inl (fun _ => 0)), .inl (cI, 16, .inl (fun _ => 0)), .inl (cI, 16, .inl (fun _ => 0)), .inl (cI, 16, .inl (fun _ => 0)), .inl (cI, 16, .inl (fun _ => 0)), .inl (cI, 6, .inl (fun _ => 0)), .inl (cI, 6, .inl (fun _ => 0)), .inl (cI, 6, .inl (fun _ => 0)), .inl (cI, 6, .inl (fun _ => 0)), .inl (cI, 6, .inl (fun _ => 0)), .inl (cI, 6, .inl (fun _ => 0)), .inl (cI, 6, .inl (fun _ => 0)), .inl (cI, 6, .inl (fun _ => 0))] H1 := hE.arr (q := sz + 13) hz1 hk1 rfl hQ
  clear hQ hz1 hk1
  refine tr_putF (ci := 6) (C := RX6) (T := TX6) (N := 19) (ty := tyX6 17) (v := .ref (sz + 13)) hx hb hts hiX6 tyX6 tyX6_ok nmX6 hown hK hS rfl hA rfl 17 (by decide) f59 rfl hname rfl (tyX6_ok 17 (by decide)) rfl rfl (Nat.le_of_ble_eq_true rfl) dX6_init_123 (fun H locs hat hz4 hk4 hS => ?_)
  replace hA : va_at D vwCl (a, .inr (6, [.int 0, .int 0, .int 0, .int 1, .ref (sz), .ref (sz + 1), .ref (sz + 2), .ref (sz + 3), .ref (sz + 4), .ref (sz + 5), .ref (sz + 6), .ref (sz + 7), .ref (sz + 8), .ref (sz + 9), .ref (sz + 10), .ref (sz + 11), .ref (sz + 12), .ref (sz + 13), .ref b])) H := hat
  replace hE := hE.keep hasz hz4 hk4
  clear hat hz4 hk4
  exact W.vret hx hb hr (hS.end ⟨hA, hE⟩) hS.2.2 dX6_init_126
