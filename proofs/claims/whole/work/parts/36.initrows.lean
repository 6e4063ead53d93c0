/-! constructors of what holds rows -/
theorem MKD.obj {D : va_G} {sz : Nat} {E E2 : List va_E} {H H1 H2 : Heap} (h : MKD D sz E H) (z1 : H1.size = H.size + 1) (hk1 : ∀ x : Nat, x < H.size → H1[x]? = H[x]?) {q : Nat} (hq : q = sz + E.length) (hk2 : ∀ x : Nat, x < H1.size → ¬ x = q → H2[x]? = H1[x]?) {e0 : va_E} (p1 : va_at D vwCl (q, e0) H2) (p2 : MKD D (q + 1) E2 H2) : MKD D sz (E ++ (e0 :: E2)) H2 := by
  have hs := h.1
  refine ⟨by rw [p2.1, List.length_append, List.length_cons, hq]; omega, fun k e hke => ?_⟩
  by_cases hlt : k < E.length
  · rw [List.getElem?_append_left hlt] at hke
    have h3 := h.2 k e hke
    have h4 : sz + k < H.size := h3.lt
    exact h3.kept ((hk2 _ (by show sz + k < H1.size; omega) (by show ¬ sz + k = q; omega)).trans (hk1 _ h4))
  · rw [List.getElem?_append_right (by omega)] at hke
    by_cases he : k = E.length
    · rw [he, Nat.sub_self] at hke
      cases hke
      rw [he, ← hq]
      exact p1
    · rw [show k - E.length = (k - E.length - 1) + 1 by omega, List.getElem?_cons_succ] at hke
      have h3 := p2.2 _ e hke
      rw [show q + 1 + (k - E.length - 1) = sz + k by omega] at h3
      exact h3
/-- an object at a, what it made from sz on -/
def iOwn (a sz : Nat) : Nat → Prop := fun q => q = a ∨ sz ≤ q
set_option maxHeartbeats 4000000 in
set_option maxRecDepth 100000 in
theorem c_X4_init (l : Launch) (D : va_G) (cI : ClassId) (a sz : Nat) : Met l yX4_init wsX4_init ({ frames := 2, cells := 14, slots := 113, locals := 42 }) (tr_Pc D cI [.ref a] (fun H => H.size = sz ∧ va_at D vwCl (a, .inr (4, [.int 0, .int 0, .null, .null, .null, .null, .null, .null, .null])) H)) (tr_Q none (fun H => va_at D vwCl (a, .inr (4, [.int 0, .int 0, .ref (sz), .ref (sz + 2), .ref (sz + 4), .ref (sz + 6), .ref (sz + 8), .ref (sz + 10), .ref (sz + 12)])) H ∧ MKD D sz [.inr (2, [.ref (sz + 1)]), .inl (cI, 15, .inl (fun _ => 0)), .inr (2, [.ref (sz + 3)]), .inl (cI, 15, .inl (fun _ => 0)), .inr (2, [.ref (sz + 5)]), .inl (cI, 16, .inl (fun _ => 0)), .inr (2, [.ref (sz + 7)]), .inl (cI, 15, .inl (fun _ => 0)), .inr (2, [.ref (sz + 9)]), .inl (cI, 15, .inl (fun _ => 0)), .inr (2, [.ref (sz + 11)]), .inl (cI, 15, .inl (fun _ => 0)), .inr (2, [.ref (sz + 13)]), .inl (cI, 15, .inl (fun _ => 0))] H) (iOwn a sz)) 14 113 (iOwn a sz) := by
  refine Met.ofW (cc := cX4_init) (maxL := 1) (ret := none) (by decide) rfl ?_
  intro p e s m args below meth c s₁ B hml hv
  obtain ⟨rfl, ⟨hz0, hA⟩, hK⟩ := hv
  have hx := B.exec
  have hb := B.bytes
  have hr := B.returns
  have hts := atoms_spec (ws := wsX4_init) B.pre
  have hown : s.vm.findClass RX4 = some m.cls := findClass_of_methodNamed B.named
  have hname := (name_of_methodNamed B.named B.method).1
  have hlocks := B.notSynchronized
  have hasz : a < sz := by have := hA.lt; simp only at this; omega
  have hiX4 : ∀ w ∈ u_ws RX4 TX4 9, w ∈ wsX4_init := by decide +kernel
  have hiX2 : ∀ w ∈ u_ws RX2 TX2 1, w ∈ wsX4_init := by decide +kernel
  have f14 := hts (.fieldLink RX4 14 "TramRibbon$Wire" "slope" "LTramRibbon$Row;") (by decide +kernel)
  have f20 := hts (.fieldLink RX4 20 "TramRibbon$Wire" "sectionAt" "LTramRibbon$Row;") (by decide +kernel)
  have f23 := hts (.fieldLink RX4 23 "TramRibbon$Wire" "insulator" "LTramRibbon$Row;") (by decide +kernel)
  have f26 := hts (.fieldLink RX4 26 "TramRibbon$Wire" "bound" "LTramRibbon$Row;") (by decide +kernel)
  have f29 := hts (.fieldLink RX4 29 "TramRibbon$Wire" "dead" "LTramRibbon$Row;") (by decide +kernel)
  have f32 := hts (.fieldLink RX4 32 "TramRibbon$Wire" "deaths" "LTramRibbon$Row;") (by decide +kernel)
  have f35 := hts (.fieldLink RX4 35 "TramRibbon$Wire" "drawn" "LTramRibbon$Row;") (by decide +kernel)
  have hcl := hts (.classLink RX4 9 RX2) (by decide +kernel)
  have hin := hts (.instantiable RX2 1) (by decide +kernel)
  have hini := hts (.initialized RX2) (by decide +kernel)
  have mI := hts (.instanceMethod yX2_init) (by decide +kernel)
  have mL := hts (.methodLink RX4 11 yX2_init) (by decide +kernel)
  have oC := hts (.code Lib.objectInit ⟨#[0xb1]⟩ 1 none) (by decide +kernel)
  have oI := hts (.instanceMethod Lib.objectInit) (by decide +kernel)
  have oL := hts (.methodLink RX4 3 Lib.objectInit) (by decide +kernel)
  have hl := lv_entry ([.ref a]) (n := 1) (Nat.le_of_ble_eq_true rfl)
  rw [lg_entry_eq]
  generalize (lg_sl ([.ref a]) ++ List.replicate (1 - (lg_sl ([.ref a])).length) Slot.unset).toArray = ls at hl ⊢
  replace hl : lv_has ls 1 [(0, .ref a)] := hl
  have hS : tr_S (iOwn a sz) s.heap s.heap [] := tr_S.rf
  have hE : MKD D sz [] s.heap := MKD.nil hz0
  generalize h1 : s.heap = H, h2 : ([] : List Loc) = locs
  replace hS : tr_S (iOwn a sz) s.heap H locs := by rw [← h1, ← h2]; exact hS
  rw [h1] at hA hE
  clear h1 h2
  refine lv_aload_n hx hb dX4_init_0 rfl (lv_at hl 0 rfl) ?_
  refine W.objInit hx hb hown oL oI oC rfl (by rw [hml]; exact hl.1) rfl dX4_init_1 (Nat.le_of_ble_eq_true rfl) (lv_room12 (h := Nat.le_of_ble_eq_true rfl) (lv_room (Nat.le_of_ble_eq_true rfl))) ?_
  refine lv_aload_n hx hb dX4_init_4 rfl (lv_at hl 0 rfl) ?_
  refine tr_newo (C := RX2) (T := TX2) (N := 1) (ci := 2) (fs := [.null]) hx hb hts hiX2 tyX2 tyX2_ok hown hcl hin hini hK hS rfl (by decide) (show 0 + 1 ≤ 14 by omega) (show 0 + 1 ≤ 113 by omega) dX4_init_5 (fun q H1 hq hO hz1 hk1 hS => ?_)
  have hz2 : H1.size = q + 1 := by rw [hz1, hq]
  have e0 : q = sz := hq.trans hE.1
  clear hq
  subst q
  replace hA := hA.kept (hk1 a hA.lt)
  refine lv_dup hx hb dX4_init_8 rfl ?_
  refine lv_bipush (v := nI 15) hx hb dX4_init_9 (by decide) ?_
  refine tr_wN (va_runI (As := [.int (nI 15)]) (rest := [.ref (sz), .ref a]) ⟨hx, hb, hml, hown, hts⟩ (c_X2_init l D cI (sz) (sz + 1) 15 (by decide)) (cwI 1 hts gX4_init_X2_init rfl rfl rfl hini mL mI rfl (by decide +kernel) ⟨Nat.le_of_ble_eq_true rfl, Nat.le_of_ble_eq_true rfl⟩) (tr_preS hK ⟨hz2, hO⟩) rfl rfl hl.1 rfl (lv_room (Nat.le_of_ble_eq_true rfl)) dX4_init_11 ⟨show 1 + 1 ≤ 14 by omega, show 1 + 15 ≤ 113 by omega⟩) hS (fun x (h : x = sz) => Or.inr (by omega)) (fun x (h : x = sz) => Or.inr (by omega)) (fun H locs hP hz3 hk3 hS => ?_)
  replace hA := hA.kept (hk3 a hA.lt (by omega))
  replace hE : MKD D sz [.inr (2, [.ref (sz + 1)]), .inl (cI, 15, .inl (fun _ => 0))] H := hE.obj hz1 hk1 rfl hk3 hP.1 hP.2
  refine tr_putF (ci := 4) (C := RX4) (T := TX4) (N := 9) (ty := tyX4 2) (v := .ref (sz)) hx hb hts hiX4 tyX4 tyX4_ok nmX4 hown hK hS (Or.inl rfl) hA rfl 2 (by decide) f14 rfl hname rfl (tyX4_ok 2 (by decide)) rfl rfl (Nat.le_of_ble_eq_true rfl) dX4_init_14 (fun H locs hat hz4 hk4 hS => ?_)
  replace hA : va_at D vwCl (a, .inr (4, [.int 0, .int 0, .ref (sz), .null, .null, .null, .null, .null, .null])) H := hat
  replace hE := hE.keep hasz hz4 hk4
  clear hat hz4 hk4 hP hz3 hk3 hO hz1 hk1 hz2
  refine lv_aload_n hx hb dX4_init_17 rfl (lv_at hl 0 rfl) ?_
  refine tr_newo (C := RX2) (T := TX2) (N := 1) (ci := 2) (fs := [.null]) hx hb hts hiX2 tyX2 tyX2_ok hown hcl hin hini hK hS rfl (by decide) (show 2 + 1 ≤ 14 by omega) (show 16 + 1 ≤ 113 by omega) dX4_init_18 (fun q H1 hq hO hz1 hk1 hS => ?_)
  have hz2 : H1.size = q + 1 := by rw [hz1, hq]
  have e0 : q = sz + 2 := hq.trans hE.1
  clear hq
  subst q
  replace hA := hA.kept (hk1 a hA.lt)
  refine lv_dup hx hb dX4_init_21 rfl ?_
  refine lv_bipush (v := nI 15) hx hb dX4_init_22 (by decide) ?_
  refine tr_wN (va_runI (As := [.int (nI 15)]) (rest := [.ref (sz + 2), .ref a]) ⟨hx, hb, hml, hown, hts⟩ (c_X2_init l D cI (sz + 2) (sz + 2 + 1) 15 (by decide)) (cwI 1 hts gX4_init_X2_init rfl rfl rfl hini mL mI rfl (by decide +kernel) ⟨Nat.le_of_ble_eq_true rfl, Nat.le_of_ble_eq_true rfl⟩) (tr_preS hK ⟨hz2, hO⟩) rfl rfl hl.1 rfl (lv_room (Nat.le_of_ble_eq_true rfl)) dX4_init_24 ⟨show 3 + 1 ≤ 14 by omega, show 17 + 15 ≤ 113 by omega⟩) hS (fun x (h : x = sz + 2) => Or.inr (by omega)) (fun x (h : x = sz + 2) => Or.inr (by omega)) (fun H locs hP hz3 hk3 hS => ?_)
  replace hA := hA.kept (hk3 a hA.lt (by omega))
  replace hE : MKD D sz [.inr (2, [.ref (sz + 1)]), .inl (cI, 15, .inl (fun _ => 0)), .inr (2, [.ref (sz + 3)]), .inl (cI, 15, .inl (fun _ => 0))] H := hE.obj hz1 hk1 rfl hk3 hP.1 hP.2
  refine tr_putF (ci := 4) (C := RX4) (T := TX4) (N := 9) (ty := tyX4 3) (v := .ref (sz + 2)) hx hb hts hiX4 tyX4 tyX4_ok nmX4 hown hK hS (Or.inl rfl) hA rfl 3 (by decide) f20 rfl hname rfl (tyX4_ok 3 (by decide)) rfl rfl (Nat.le_of_ble_eq_true rfl) dX4_init_27 (fun H locs hat hz4 hk4 hS => ?_)
  replace hA : va_at D vwCl (a, .inr (4, [.int 0, .int 0, .ref (sz), .ref (sz + 2), .null, .null, .null, .null, .null])) H := hat
  replace hE := hE.keep hasz hz4 hk4
  clear hat hz4 hk4 hP hz3 hk3 hO hz1 hk1 hz2
  refine lv_aload_n hx hb dX4_init_30 rfl (lv_at hl 0 rfl) ?_
  refine tr_newo (C := RX2) (T := TX2) (N := 1) (ci := 2) (fs := [.null]) hx hb hts hiX2 tyX2 tyX2_ok hown hcl hin hini hK hS rfl (by decide) (show 4 + 1 ≤ 14 by omega) (show 32 + 1 ≤ 113 by omega) dX4_init_31 (fun q H1 hq hO hz1 hk1 hS => ?_)
  have hz2 : H1.size = q + 1 := by rw [hz1, hq]
  have e0 : q = sz + 4 := hq.trans hE.1
  clear hq
  subst q
  replace hA := hA.kept (hk1 a hA.lt)
  refine lv_dup hx hb dX4_init_34 rfl ?_
  refine lv_bipush (v := nI 16) hx hb dX4_init_35 (by decide) ?_
  refine tr_wN (va_runI (As := [.int (nI 16)]) (rest := [.ref (sz + 4), .ref a]) ⟨hx, hb, hml, hown, hts⟩ (c_X2_init l D cI (sz + 4) (sz + 4 + 1) 16 (by decide)) (cwI 1 hts gX4_init_X2_init rfl rfl rfl hini mL mI rfl (by decide +kernel) ⟨Nat.le_of_ble_eq_true rfl, Nat.le_of_ble_eq_true rfl⟩) (tr_preS hK ⟨hz2, hO⟩) rfl rfl hl.1 rfl (lv_room (Nat.le_of_ble_eq_true rfl)) dX4_init_37 ⟨show 5 + 1 ≤ 14 by omega, show 33 + 16 ≤ 113 by omega⟩) hS (fun x (h : x = sz + 4) => Or.inr (by omega)) (fun x (h : x = sz + 4) => Or.inr (by omega)) (fun H locs hP hz3 hk3 hS => ?_)
  replace hA := hA.kept (hk3 a hA.lt (by omega))
  replace hE : MKD D sz [.inr (2, [.ref (sz + 1)]), .inl (cI, 15, .inl (fun _ => 0)), .inr (2, [.ref (sz + 3)]), .inl (cI, 15, .inl (fun _ => 0)), .inr (2, [.ref (sz + 5)]), .inl (cI, 16, .inl (fun _ => 0))] H := hE.obj hz1 hk1 rfl hk3 hP.1 hP.2
  refine tr_putF (ci := 4) (C := RX4) (T := TX4) (N := 9) (ty := tyX4 4) (v := .ref (sz + 4)) hx hb hts hiX4 tyX4 tyX4_ok nmX4 hown hK hS (Or.inl rfl) hA rfl 4 (by decide) f23 rfl hname rfl (tyX4_ok 4 (by decide)) rfl rfl (Nat.le_of_ble_eq_true rfl) dX4_init_40 (fun H locs hat hz4 hk4 hS => ?_)
  replace hA : va_at D vwCl (a, .inr (4, [.int 0, .int 0, .ref (sz), .ref (sz + 2), .ref (sz + 4), .null, .null, .null, .null])) H := hat
  replace hE := hE.keep hasz hz4 hk4
  clear hat hz4 hk4 hP hz3 hk3 hO hz1 hk1 hz2
  refine lv_aload_n hx hb dX4_init_43 rfl (lv_at hl 0 rfl) ?_
  refine tr_newo (C := RX2) (T := TX2) (N := 1) (ci := 2) (fs := [.null]) hx hb hts hiX2 tyX2 tyX2_ok hown hcl hin hini hK hS rfl (by decide) (show 6 + 1 ≤ 14 by omega) (show 49 + 1 ≤ 113 by omega) dX4_init_44 (fun q H1 hq hO hz1 hk1 hS => ?_)
  have hz2 : H1.size = q + 1 := by rw [hz1, hq]
  have e0 : q = sz + 6 := hq.trans hE.1
  clear hq
  subst q
  replace hA := hA.kept (hk1 a hA.lt)
  refine lv_dup hx hb dX4_init_47 rfl ?_
  refine lv_bipush (v := nI 15) hx hb dX4_init_48 (by decide) ?_
  refine tr_wN (va_runI (As := [.int (nI 15)]) (rest := [.ref (sz + 6), .ref a]) ⟨hx, hb, hml, hown, hts⟩ (c_X2_init l D cI (sz + 6) (sz + 6 + 1) 15 (by decide)) (cwI 1 hts gX4_init_X2_init rfl rfl rfl hini mL mI rfl (by decide +kernel) ⟨Nat.le_of_ble_eq_true rfl, Nat.le_of_ble_eq_true rfl⟩) (tr_preS hK ⟨hz2, hO⟩) rfl rfl hl.1 rfl (lv_room (Nat.le_of_ble_eq_true rfl)) dX4_init_50 ⟨show 7 + 1 ≤ 14 by omega, show 50 + 15 ≤ 113 by omega⟩) hS (fun x (h : x = sz + 6) => Or.inr (by omega)) (fun x (h : x = sz + 6) => Or.inr (by omega)) (fun H locs hP hz3 hk3 hS => ?_)
  replace hA := hA.kept (hk3 a hA.lt (by omega))
  replace hE : MKD D sz [.inr (2, [.ref (sz + 1)]), .inl (cI, 15, .inl (fun _ => 0)), .inr (2, [.ref (sz + 3)]), .inl (cI, 15, .inl (fun _ => 0)), .inr (2, [.ref (sz + 5)]), .inl (cI, 16, .inl (fun _ => 0)), .inr (2, [.ref (sz + 7)]), .inl (cI, 15, .inl (fun _ => 0))] H := hE.obj hz1 hk1 rfl hk3 hP.1 hP.2
  refine tr_putF (ci := 4) (C := RX4) (T := TX4) (N := 9) (ty := tyX4 5) (v := .ref (sz + 6)) hx hb hts hiX4 tyX4 tyX4_ok nmX4 hown hK hS (Or.inl rfl) hA rfl 5 (by decide) f26 rfl hname rfl (tyX4_ok 5 (by decide)) rfl rfl (Nat.le_of_ble_eq_true rfl) dX4_init_53 (fun H locs hat hz4 hk4 hS => ?_)
  replace hA : va_at D vwCl (a, .inr (4, [.int 0, .int 0, .ref (sz), .ref (sz + 2), .ref (sz + 4), .ref (sz + 6), .null, .null, .null])) H := hat
  replace hE := hE.keep hasz hz4 hk4
  clear hat hz4 hk4 hP hz3 hk3 hO hz1 hk1 hz2
  refine lv_aload_n hx hb dX4_init_56 rfl (lv_at hl 0 rfl) ?_
  refine tr_newo (C := RX2) (T := TX2) (N := 1) (ci := 2) (fs := [.null]) hx hb hts hiX2 tyX2 tyX2_ok hown hcl hin hini hK hS rfl (by decide) (show 8 + 1 ≤ 14 by omega) (show 65 + 1 ≤ 113 by omega) dX4_init_57 (fun q H1 hq hO hz1 hk1 hS => ?_)
  have hz2 : H1.size = q + 1 := by rw [hz1, hq]
  have e0 : q = sz + 8 := hq.trans hE.1
  clear hq
  subst q
  replace hA := hA.kept (hk1 a hA.lt)
  refine lv_dup hx hb dX4_init_60 rfl ?_
  refine lv_bipush (v := nI 15) hx hb dX4_init_61 (by decide) ?_
  refine tr_wN (va_runI (As := [.int (nI 15)]) (rest := [.ref (sz + 8), .ref a]) ⟨hx, hb, hml, hown, hts⟩ (c_X2_init l D cI (sz + 8) (sz + 8 + 1) 15 (by decide)) (cwI 1 hts gX4_init_X2_init rfl rfl rfl hini mL mI rfl (by decide +kernel) ⟨Nat.le_of_ble_eq_true rfl, Nat.le_of_ble_eq_true rfl⟩) (tr_preS hK ⟨hz2, hO⟩) rfl rfl hl.1 rfl (lv_room (Nat.le_of_ble_eq_true rfl)) dX4_init_63 ⟨show 9 + 1 ≤ 14 by omega, show 66 + 15 ≤ 113 by omega⟩) hS (fun x (h : x = sz + 8) => Or.inr (by omega)) (fun x (h : x = sz + 8) => Or.inr (by omega)) (fun H locs hP hz3 hk3 hS => ?_)
  replace hA := hA.kept (hk3 a hA.lt (by omega))
  replace hE : MKD D sz [.inr (2, [.ref (sz + 1)]), .inl (cI, 15, .inl (fun _ => 0)), .inr (2, [.ref (sz + 3)]), .inl (cI, 15, .inl (fun _ => 0)), .inr (2, [.ref (sz + 5)]), .inl (cI, 16, .inl (fun _ => 0)), .inr (2, [.ref (sz + 7)]), .inl (cI, 15, .inl (fun _ => 0)), .inr (2, [.ref (sz + 9)]), .inl (cI, 15, .inl (fun _ => 0))] H := hE.obj hz1 hk1 rfl hk3 hP.1 hP.2
  refine tr_putF (ci := 4) (C := RX4) (T := TX4) (N := 9) (ty := tyX4 6) (v := .ref (sz + 8)) hx hb hts hiX4 tyX4 tyX4_ok nmX4 hown hK hS (Or.inl rfl) hA rfl 6 (by decide) f29 rfl hname rfl (tyX4_ok 6 (by decide)) rfl rfl (Nat.le_of_ble_eq_true rfl) dX4_init_66 (fun H locs hat hz4 hk4 hS => ?_)
  replace hA : va_at D vwCl (a, .inr (4, [.int 0, .int 0, .ref (sz), .ref (sz + 2), .ref (sz + 4), .ref (sz + 6), .ref (sz + 8), .null, .null])) H := hat
  replace hE := hE.keep hasz hz4 hk4
  clear hat hz4 hk4 hP hz3 hk3 hO hz1 hk1 hz2
  refine lv_aload_n hx hb dX4_init_69 rfl (lv_at hl 0 rfl) ?_
  refine tr_newo (C := RX2) (T := TX2) (N := 1) (ci := 2) (fs := [.null]) hx hb hts hiX2 tyX2 tyX2_ok hown hcl hin hini hK hS rfl (by decide) (show 10 + 1 ≤ 14 by omega) (show 81 + 1 ≤ 113 by omega) dX4_init_70 (fun q H1 hq hO hz1 hk1 hS => ?_)
  have hz2 : H1.size = q + 1 := by rw [hz1, hq]
  have e0 : q = sz + 10 := hq.trans hE.1
  clear hq
  subst q
  replace hA := hA.kept (hk1 a hA.lt)
  refine lv_dup hx hb dX4_init_73 rfl ?_
  refine lv_bipush (v := nI 15) hx hb dX4_init_74 (by decide) ?_
  refine tr_wN (va_runI (As := [.int (nI 15)]) (rest := [.ref (sz + 10), .ref a]) ⟨hx, hb, hml, hown, hts⟩ (c_X2_init l D cI (sz + 10) (sz + 10 + 1) 15 (by decide)) (cwI 1 hts gX4_init_X2_init rfl rfl rfl hini mL mI rfl (by decide +kernel) ⟨Nat.le_of_ble_eq_true rfl, Nat.le_of_ble_eq_true rfl⟩) (tr_preS hK ⟨hz2, hO⟩) rfl rfl hl.1 rfl (lv_room (Nat.le_of_ble_eq_true rfl)) dX4_init_76 ⟨show 11 + 1 ≤ 14 by omega, show 82 + 15 ≤ 113 by omega⟩) hS (fun x (h : x = sz + 10) => Or.inr (by omega)) (fun x (h : x = sz + 10) => Or.inr (by omega)) (fun H locs hP hz3 hk3 hS => ?_)
  replace hA := hA.kept (hk3 a hA.lt (by omega))
  replace hE : MKD D sz [.inr (2, [.ref (sz + 1)]), .inl (cI, 15, .inl (fun _ => 0)), .inr (2, [.ref (sz + 3)]), .inl (cI, 15, .inl (fun _ => 0)), .inr (2, [.ref (sz + 5)]), .inl (cI, 16, .inl (fun _ => 0)), .inr (2, [.ref (sz + 7)]), .inl (cI, 15, .inl (fun _ => 0)), .inr (2, [.ref (sz + 9)]), .inl (cI, 15, .inl (fun _ => 0)), .inr (2, [.ref (sz + 11)]), .inl (cI, 15, .inl (fun _ => 0))] H := hE.obj hz1 hk1 rfl hk3 hP.1 hP.2
  refine tr_putF (ci := 4) (C := RX4) (T := TX4) (N := 9) (ty := tyX4 7) (v := .ref (sz + 10)) hx hb hts hiX4 tyX4 tyX4_ok nmX4 hown hK hS (Or.inl rfl) hA rfl 7 (by decide) f32 rfl hname rfl (tyX4_ok 7 (by decide)) rfl rfl (Nat.le_of_ble_eq_true rfl) dX4_init_79 (fun H locs hat hz4 hk4 hS => ?_)
  replace hA : va_at D vwCl (a, .inr (4, [.int 0, .int 0, .ref (sz), .ref (sz + 2), .ref (sz + 4), .ref (sz + 6), .ref (sz + 8), .ref (sz + 10), .null])) H := hat
  replace hE := hE.keep hasz hz4 hk4
  clear hat hz4 hk4 hP hz3 hk3 hO hz1 hk1 hz2
  refine lv_aload_n hx hb dX4_init_82 rfl (lv_at hl 0 rfl) ?_
  refine tr_newo (C := RX2) (T := TX2) (N := 1) (ci := 2) (fs := [.null]) hx hb hts hiX2 tyX2 tyX2_ok hown hcl hin hini hK hS rfl (by decide) (show 12 + 1 ≤ 14 by omega) (show 97 + 1 ≤ 113 by omega) dX4_init_83 (fun q H1 hq hO hz1 hk1 hS => ?_)
  have hz2 : H1.size = q + 1 := by rw [hz1, hq]
  have e0 : q = sz + 12 := hq.trans hE.1
  clear hq
  subst q
  replace hA := hA.kept (hk1 a hA.lt)
  refine lv_dup hx hb dX4_init_86 rfl ?_
  refine lv_bipush (v := nI 15) hx hb dX4_init_87 (by decide) ?_
  refine tr_wN (va_runI (As := [.int (nI 15)]) (rest := [.ref (sz + 12), .ref a]) ⟨hx, hb, hml, hown, hts⟩ (c_X2_init l D cI (sz + 12) (sz + 12 + 1) 15 (by decide)) (cwI 1 hts gX4_init_X2_init rfl rfl rfl hini mL mI rfl (by decide +kernel) ⟨Nat.le_of_ble_eq_true rfl, Nat.le_of_ble_eq_true rfl⟩) (tr_preS hK ⟨hz2, hO⟩) rfl rfl hl.1 rfl (lv_room (Nat.le_of_ble_eq_true rfl)) dX4_init_89 ⟨show 13 + 1 ≤ 14 by omega, show 98 + 15 ≤ 113 by omega⟩) hS (fun x (h : x = sz + 12) => Or.inr (by omega)) (fun x (h : x = sz + 12) => Or.inr (by omega)) (fun H locs hP hz3 hk3 hS => ?_)
  replace hA := hA.kept (hk3 a hA.lt (by omega))
  replace hE : MKD D sz [.inr (2, [.ref (sz + 1)]), .inl (cI, 15, .inl (fun _ => 0)), .inr (2, [.ref (sz + 3)]), .inl (cI, 15, .inl (fun _ => 0)), .inr (2, [.ref (sz + 5)]), .inl (cI, 16, .inl (fun _ => 0)), .inr (2, [.ref (sz + 7)]), .inl (cI, 15, .inl (fun _ => 0)), .inr (2, [.ref (sz + 9)]), .inl (cI, 15, .inl (fun _ => 0)), .inr (2, [.ref (sz + 11)]), .inl (cI, 15, .inl (fun _ => 0)), .inr (2, [.ref (sz + 13)]), .inl (cI, 15, .inl (fun _ => 0))] H := hE.obj hz1 hk1 rfl hk3 hP.1 hP.2
  refine tr_putF (ci := 4) (C := RX4) (T := TX4) (N := 9) (ty := tyX4 8) (v := .ref (sz + 12)) hx hb hts hiX4 tyX4 tyX4_ok nmX4 hown hK hS (Or.inl rfl) hA rfl 8 (by decide) f35 rfl hname rfl (tyX4_ok 8 (by decide)) rfl rfl (Nat.le_of_ble_eq_true rfl) dX4_init_92 (fun H locs hat hz4 hk4 hS => ?_)
  replace hA : va_at D vwCl (a, .inr (4, [.int 0, .int 0, .ref (sz), .ref (sz + 2), .ref (sz + 4), .ref (sz + 6), .ref (sz + 8), .ref (sz + 10), .ref (sz + 12)])) H := hat
  replace hE := hE.keep hasz hz4 hk4
  clear hat hz4 hk4 hP hz3 hk3 hO hz1 hk1 hz2
  exact W.vret hx hb hr (hS.end ⟨hA, hE⟩) hS.2.2 dX4_init_95
set_option maxHeartbeats 4000000 in
set_option maxRecDepth 100000 in
theorem c_X3_init (l : Launch) (D : va_G) (cI : ClassId) (a sz : Nat) : Met l yX3_init wsX3_init ({ frames := 2, cells := 4, slots := 34, locals := 42 }) (tr_Pc D cI [.ref a] (fun H => H.size = sz ∧ va_at D vwCl (a, .inr (3, [.null, .null])) H)) (tr_Q none (fun H => va_at D vwCl (a, .inr (3, [.ref (sz), .ref (sz + 2)])) H ∧ MKD D sz [.inr (2, [.ref (sz + 1)]), .inl (cI, 16, .inl (fun _ => 0)), .inr (2, [.ref (sz + 3)]), .inl (cI, 16, .inl (fun _ => 0))] H) (iOwn a sz)) 4 34 (iOwn a sz) := by
  refine Met.ofW (cc := cX3_init) (maxL := 1) (ret := none) (by decide) rfl ?_
  intro p e s m args below meth c s₁ B hml hv
  obtain ⟨rfl, ⟨hz0, hA⟩, hK⟩ := hv
  have hx := B.exec
  have hb := B.bytes
  have hr := B.returns
  have hts := atoms_spec (ws := wsX3_init) B.pre
  have hown : s.vm.findClass RX3 = some m.cls := findClass_of_methodNamed B.named
  have hname := (name_of_methodNamed B.named B.method).1
  have hlocks := B.notSynchronized
  have hasz : a < sz := by have := hA.lt; simp only at this; omega
  have hiX3 : ∀ w ∈ u_ws RX3 TX3 2, w ∈ wsX3_init := by decide +kernel
  have hiX2 : ∀ w ∈ u_ws RX2 TX2 1, w ∈ wsX3_init := by decide +kernel
  have f14 := hts (.fieldLink RX3 14 "TramRibbon$Stops" "waiting" "LTramRibbon$Row;") (by decide +kernel)
  have f20 := hts (.fieldLink RX3 20 "TramRibbon$Stops" "spares" "LTramRibbon$Row;") (by decide +kernel)
  have hcl := hts (.classLink RX3 9 RX2) (by decide +kernel)
  have hin := hts (.instantiable RX2 1) (by decide +kernel)
  have hini := hts (.initialized RX2) (by decide +kernel)
  have mI := hts (.instanceMethod yX2_init) (by decide +kernel)
  have mL := hts (.methodLink RX3 11 yX2_init) (by decide +kernel)
  have oC := hts (.code Lib.objectInit ⟨#[0xb1]⟩ 1 none) (by decide +kernel)
  have oI := hts (.instanceMethod Lib.objectInit) (by decide +kernel)
  have oL := hts (.methodLink RX3 3 Lib.objectInit) (by decide +kernel)
  have hl := lv_entry ([.ref a]) (n := 1) (Nat.le_of_ble_eq_true rfl)
  rw [lg_entry_eq]
  generalize (lg_sl ([.ref a]) ++ List.replicate (1 - (lg_sl ([.ref a])).length) Slot.unset).toArray = ls at hl ⊢
  replace hl : lv_has ls 1 [(0, .ref a)] := hl
  have hS : tr_S (iOwn a sz) s.heap s.heap [] := tr_S.rf
  have hE : MKD D sz [] s.heap := MKD.nil hz0
  generalize h1 : s.heap = H, h2 : ([] : List Loc) = locs
  replace hS : tr_S (iOwn a sz) s.heap H locs := by rw [← h1, ← h2]; exact hS
  rw [h1] at hA hE
  clear h1 h2
  refine lv_aload_n hx hb dX3_init_0 rfl (lv_at hl 0 rfl) ?_
  refine W.objInit hx hb hown oL oI oC rfl (by rw [hml]; exact hl.1) rfl dX3_init_1 (Nat.le_of_ble_eq_true rfl) (lv_room12 (h := Nat.le_of_ble_eq_true rfl) (lv_room (Nat.le_of_ble_eq_true rfl))) ?_
  refine lv_aload_n hx hb dX3_init_4 rfl (lv_at hl 0 rfl) ?_
  refine tr_newo (C := RX2) (T := TX2) (N := 1) (ci := 2) (fs := [.null]) hx hb hts hiX2 tyX2 tyX2_ok hown hcl hin hini hK hS rfl (by decide) (show 0 + 1 ≤ 4 by omega) (show 0 + 1 ≤ 34 by omega) dX3_init_5 (fun q H1 hq hO hz1 hk1 hS => ?_)
  have hz2 : H1.size = q + 1 := by rw [hz1, hq]
  have e0 : q = sz := hq.trans hE.1
  clear hq
  subst q
  replace hA := hA.kept (hk1 a hA.lt)
  refine lv_dup hx hb dX3_init_8 rfl ?_
  refine lv_bipush (v := nI 16) hx hb dX3_init_9 (by decide) ?_
  refine tr_wN (va_runI (As := [.int (nI 16)]) (rest := [.ref (sz), .ref a]) ⟨hx, hb, hml, hown, hts⟩ (c_X2_init l D cI (sz) (sz + 1) 16 (by decide)) (cwI 1 hts gX3_init_X2_init rfl rfl rfl hini mL mI rfl (by decide +kernel) ⟨Nat.le_of_ble_eq_true rfl, Nat.le_of_ble_eq_true rfl⟩) (tr_preS hK ⟨hz2, hO⟩) rfl rfl hl.1 rfl (lv_room (Nat.le_of_ble_eq_true rfl)) dX3_init_11 ⟨show 1 + 1 ≤ 4 by omega, show 1 + 16 ≤ 34 by omega⟩) hS (fun x (h : x = sz) => Or.inr (by omega)) (fun x (h : x = sz) => Or.inr (by omega)) (fun H locs hP hz3 hk3 hS => ?_)
  replace hA := hA.kept (hk3 a hA.lt (by omega))
  replace hE : MKD D sz [.inr (2, [.ref (sz + 1)]), .inl (cI, 16, .inl (fun _ => 0))] H := hE.obj hz1 hk1 rfl hk3 hP.1 hP.2
  refine tr_putF (ci := 3) (C := RX3) (T := TX3) (N := 2) (ty := tyX3 0) (v := .ref (sz)) hx hb hts hiX3 tyX3 tyX3_ok nmX3 hown hK hS (Or.inl rfl) hA rfl 0 (by decide) f14 rfl hname rfl (tyX3_ok 0 (by decide)) rfl rfl (Nat.le_of_ble_eq_true rfl) dX3_init_14 (fun H locs hat hz4 hk4 hS => ?_)
  replace hA : va_at D vwCl (a, .inr (3, [.ref (sz), .null])) H := hat
  replace hE := hE.keep hasz hz4 hk4
  clear hat hz4 hk4 hP hz3 hk3 hO hz1 hk1 hz2
  refine lv_aload_n hx hb dX3_init_17 rfl (lv_at hl 0 rfl) ?_
  refine tr_newo (C := RX2) (T := TX2) (N := 1) (ci := 2) (fs := [.null]) hx hb hts hiX2 tyX2 tyX2_ok hown hcl hin hini hK hS rfl (by decide) (show 2 + 1 ≤ 4 by omega) (show 17 + 1 ≤ 34 by omega) dX3_init_18 (fun q H1 hq hO hz1 hk1 hS => ?_)
  have hz2 : H1.size = q + 1 := by rw [hz1, hq]
  have e0 : q = sz + 2 := hq.trans hE.1
  clear hq
  subst q
  replace hA := hA.kept (hk1 a hA.lt)
  refine lv_dup hx hb dX3_init_21 rfl ?_
  refine lv_bipush (v := nI 16) hx hb dX3_init_22 (by decide) ?_
  refine tr_wN (va_runI (As := [.int (nI 16)]) (rest := [.ref (sz + 2), .ref a]) ⟨hx, hb, hml, hown, hts⟩ (c_X2_init l D cI (sz + 2) (sz + 2 + 1) 16 (by decide)) (cwI 1 hts gX3_init_X2_init rfl rfl rfl hini mL mI rfl (by decide +kernel) ⟨Nat.le_of_ble_eq_true rfl, Nat.le_of_ble_eq_true rfl⟩) (tr_preS hK ⟨hz2, hO⟩) rfl rfl hl.1 rfl (lv_room (Nat.le_of_ble_eq_true rfl)) dX3_init_24 ⟨show 3 + 1 ≤ 4 by omega, show 18 + 16 ≤ 34 by omega⟩) hS (fun x (h : x = sz + 2) => Or.inr (by omega)) (fun x (h : x = sz + 2) => Or.inr (by omega)) (fun H locs hP hz3 hk3 hS => ?_)
  replace hA := hA.kept (hk3 a hA.lt (by omega))
  replace hE : MKD D sz [.inr (2, [.ref (sz + 1)]), .inl (cI, 16, .inl (fun _ => 0)), .inr (2, [.ref (sz + 3)]), .inl (cI, 16, .inl (fun _ => 0))] H := hE.obj hz1 hk1 rfl hk3 hP.1 hP.2
  refine tr_putF (ci := 3) (C := RX3) (T := TX3) (N := 2) (ty := tyX3 1) (v := .ref (sz + 2)) hx hb hts hiX3 tyX3 tyX3_ok nmX3 hown hK hS (Or.inl rfl) hA rfl 1 (by decide) f20 rfl hname rfl (tyX3_ok 1 (by decide)) rfl rfl (Nat.le_of_ble_eq_true rfl) dX3_init_27 (fun H locs hat hz4 hk4 hS => ?_)
  replace hA : va_at D vwCl (a, .inr (3, [.ref (sz), .ref (sz + 2)])) H := hat
  replace hE := hE.keep hasz hz4 hk4
  clear hat hz4 hk4 hP hz3 hk3 hO hz1 hk1 hz2
  exact W.vret hx hb hr (hS.end ⟨hA, hE⟩) hS.2.2 dX3_init_30
set_option maxHeartbeats 4000000 in
set_option maxRecDepth 100000 in
theorem c_X0_init (l : Launch) (D : va_G) (cI : ClassId) (a sz : Nat) : Met l yX0_init wsX0_init ({ frames := 2, cells := 16, slots := 56, locals := 42 }) (tr_Pc D cI [.ref a] (fun H => H.size = sz ∧ va_at D vwCl (a, .inr (0, [.int 0, .null, .null, .null, .null, .null, .null, .null, .null])) H)) (tr_Q none (fun H => va_at D vwCl (a, .inr (0, [.int 0, .ref (sz), .ref (sz + 2), .ref (sz + 4), .ref (sz + 6), .ref (sz + 8), .ref (sz + 10), .ref (sz + 12), .ref (sz + 14)])) H ∧ MKD D sz [.inr (2, [.ref (sz + 1)]), .inl (cI, 6, .inl (fun _ => 0)), .inr (2, [.ref (sz + 3)]), .inl (cI, 6, .inl (fun _ => 0)), .inr (2, [.ref (sz + 5)]), .inl (cI, 6, .inl (fun _ => 0)), .inr (2, [.ref (sz + 7)]), .inl (cI, 6, .inl (fun _ => 0)), .inr (2, [.ref (sz + 9)]), .inl (cI, 6, .inl (fun _ => 0)), .inr (2, [.ref (sz + 11)]), .inl (cI, 6, .inl (fun _ => 0)), .inr (2, [.ref (sz + 13)]), .inl (cI, 6, .inl (fun _ => 0)), .inr (2, [.ref (sz + 15)]), .inl (cI, 6, .inl (fun _ => 0))] H) (iOwn a sz)) 16 56 (iOwn a sz) := by
  refine Met.ofW (cc := cX0_init) (maxL := 1) (ret := none) (by decide) rfl ?_
  intro p e s m args below meth c s₁ B hml hv
  obtain ⟨rfl, ⟨hz0, hA⟩, hK⟩ := hv
  have hx := B.exec
  have hb := B.bytes
  have hr := B.returns
  have hts := atoms_spec (ws := wsX0_init) B.pre
  have hown : s.vm.findClass RX0 = some m.cls := findClass_of_methodNamed B.named
  have hname := (name_of_methodNamed B.named B.method).1
  have hlocks := B.notSynchronized
  have hasz : a < sz := by have := hA.lt; simp only at this; omega
  have hiX0 : ∀ w ∈ u_ws RX0 TX0 9, w ∈ wsX0_init := by decide +kernel
  have hiX2 : ∀ w ∈ u_ws RX2 TX2 1, w ∈ wsX0_init := by decide +kernel
  have f14 := hts (.fieldLink RX0 14 "TramRibbon$Fleet" "place" "LTramRibbon$Row;") (by decide +kernel)
  have f20 := hts (.fieldLink RX0 20 "TramRibbon$Fleet" "up" "LTramRibbon$Row;") (by decide +kernel)
  have f23 := hts (.fieldLink RX0 23 "TramRibbon$Fleet" "riders" "LTramRibbon$Row;") (by decide +kernel)
  have f26 := hts (.fieldLink RX0 26 "TramRibbon$Fleet" "wear" "LTramRibbon$Row;") (by decide +kernel)
  have f29 := hts (.fieldLink RX0 29 "TramRibbon$Fleet" "broken" "LTramRibbon$Row;") (by decide +kernel)
  have f32 := hts (.fieldLink RX0 32 "TramRibbon$Fleet" "pushed" "LTramRibbon$Row;") (by decide +kernel)
  have f35 := hts (.fieldLink RX0 35 "TramRibbon$Fleet" "arrivals" "LTramRibbon$Row;") (by decide +kernel)
  have f38 := hts (.fieldLink RX0 38 "TramRibbon$Fleet" "went" "LTramRibbon$Row;") (by decide +kernel)
  have hcl := hts (.classLink RX0 9 RX2) (by decide +kernel)
  have hin := hts (.instantiable RX2 1) (by decide +kernel)
  have hini := hts (.initialized RX2) (by decide +kernel)
  have mI := hts (.instanceMethod yX2_init) (by decide +kernel)
  have mL := hts (.methodLink RX0 11 yX2_init) (by decide +kernel)
  have oC := hts (.code Lib.objectInit ⟨#[0xb1]⟩ 1 none) (by decide +kernel)
  have oI := hts (.instanceMethod Lib.objectInit) (by decide +kernel)
  have oL := hts (.methodLink RX0 3 Lib.objectInit) (by decide +kernel)
  have hl := lv_entry ([.ref a]) (n := 1) (Nat.le_of_ble_eq_true rfl)
  rw [lg_entry_eq]
  generalize (lg_sl ([.ref a]) ++ List.replicate (1 - (lg_sl ([.ref a])).length) Slot.unset).toArray = ls at hl ⊢
  replace hl : lv_has ls 1 [(0, .ref a)] := hl
  have hS : tr_S (iOwn a sz) s.heap s.heap [] := tr_S.rf
  have hE : MKD D sz [] s.heap := MKD.nil hz0
  generalize h1 : s.heap = H, h2 : ([] : List Loc) = locs
  replace hS : tr_S (iOwn a sz) s.heap H locs := by rw [← h1, ← h2]; exact hS
  rw [h1] at hA hE
  clear h1 h2
  refine lv_aload_n hx hb dX0_init_0 rfl (lv_at hl 0 rfl) ?_
  refine W.objInit hx hb hown oL oI oC rfl (by rw [hml]; exact hl.1) rfl dX0_init_1 (Nat.le_of_ble_eq_true rfl) (lv_room12 (h := Nat.le_of_ble_eq_true rfl) (lv_room (Nat.le_of_ble_eq_true rfl))) ?_
  refine lv_aload_n hx hb dX0_init_4 rfl (lv_at hl 0 rfl) ?_
  refine tr_newo (C := RX2) (T := TX2) (N := 1) (ci := 2) (fs := [.null]) hx hb hts hiX2 tyX2 tyX2_ok hown hcl hin hini hK hS rfl (by decide) (show 0 + 1 ≤ 16 by omega) (show 0 + 1 ≤ 56 by omega) dX0_init_5 (fun q H1 hq hO hz1 hk1 hS => ?_)
  have hz2 : H1.size = q + 1 := by rw [hz1, hq]
  have e0 : q = sz := hq.trans hE.1
  clear hq
  subst q
  replace hA := hA.kept (hk1 a hA.lt)
  refine lv_dup hx hb dX0_init_8 rfl ?_
  refine lv_bipush (v := nI 6) hx hb dX0_init_9 (by decide) ?_
  refine tr_wN (va_runI (As := [.int (nI 6)]) (rest := [.ref (sz), .ref a]) ⟨hx, hb, hml, hown, hts⟩ (c_X2_init l D cI (sz) (sz + 1) 6 (by decide)) (cwI 1 hts gX0_init_X2_init rfl rfl rfl hini mL mI rfl (by decide +kernel) ⟨Nat.le_of_ble_eq_true rfl, Nat.le_of_ble_eq_true rfl⟩) (tr_preS hK ⟨hz2, hO⟩) rfl rfl hl.1 rfl (lv_room (Nat.le_of_ble_eq_true rfl)) dX0_init_11 ⟨show 1 + 1 ≤ 16 by omega, show 1 + 6 ≤ 56 by omega⟩) hS (fun x (h : x = sz) => Or.inr (by omega)) (fun x (h : x = sz) => Or.inr (by omega)) (fun H locs hP hz3 hk3 hS => ?_)
  replace hA := hA.kept (hk3 a hA.lt (by omega))
  replace hE : MKD D sz [.inr (2, [.ref (sz + 1)]), .inl (cI, 6, .inl (fun _ => 0))] H := hE.obj hz1 hk1 rfl hk3 hP.1 hP.2
  refine tr_putF (ci := 0) (C := RX0) (T := TX0) (N := 9) (ty := tyX0 1) (v := .ref (sz)) hx hb hts hiX0 tyX0 tyX0_ok nmX0 hown hK hS (Or.inl rfl) hA rfl 1 (by decide) f14 rfl hname rfl (tyX0_ok 1 (by decide)) rfl rfl (Nat.le_of_ble_eq_true rfl) dX0_init_14 (fun H locs hat hz4 hk4 hS => ?_)
  replace hA : va_at D vwCl (a, .inr (0, [.int 0, .ref (sz), .null, .null, .null, .null, .null, .null, .null])) H := hat
  replace hE := hE.keep hasz hz4 hk4
  clear hat hz4 hk4 hP hz3 hk3 hO hz1 hk1 hz2
  refine lv_aload_n hx hb dX0_init_17 rfl (lv_at hl 0 rfl) ?_
  refine tr_newo (C := RX2) (T := TX2) (N := 1) (ci := 2) (fs := [.null]) hx hb hts hiX2 tyX2 tyX2_ok hown hcl hin hini hK hS rfl (by decide) (show 2 + 1 ≤ 16 by omega) (show 7 + 1 ≤ 56 by omega) dX0_init_18 (fun q H1 hq hO hz1 hk1 hS => ?_)
  have hz2 : H1.size = q + 1 := by rw [hz1, hq]
  have e0 : q = sz + 2 := hq.trans hE.1
  clear hq
  subst q
  replace hA := hA.kept (hk1 a hA.lt)
  refine lv_dup hx hb dX0_init_21 rfl ?_
  refine lv_bipush (v := nI 6) hx hb dX0_init_22 (by decide) ?_
  refine tr_wN (va_runI (As := [.int (nI 6)]) (rest := [.ref (sz + 2), .ref a]) ⟨hx, hb, hml, hown, hts⟩ (c_X2_init l D cI (sz + 2) (sz + 2 + 1) 6 (by decide)) (cwI 1 hts gX0_init_X2_init rfl rfl rfl hini mL mI rfl (by decide +kernel) ⟨Nat.le_of_ble_eq_true rfl, Nat.le_of_ble_eq_true rfl⟩) (tr_preS hK ⟨hz2, hO⟩) rfl rfl hl.1 rfl (lv_room (Nat.le_of_ble_eq_true rfl)) dX0_init_24 ⟨show 3 + 1 ≤ 16 by omega, show 8 + 6 ≤ 56 by omega⟩) hS (fun x (h : x = sz + 2) => Or.inr (by omega)) (fun x (h : x = sz + 2) => Or.inr (by omega)) (fun H locs hP hz3 hk3 hS => ?_)
  replace hA := hA.kept (hk3 a hA.lt (by omega))
  replace hE : MKD D sz [.inr (2, [.ref (sz + 1)]), .inl (cI, 6, .inl (fun _ => 0)), .inr (2, [.ref (sz + 3)]), .inl (cI, 6, .inl (fun _ => 0))] H := hE.obj hz1 hk1 rfl hk3 hP.1 hP.2
  refine tr_putF (ci := 0) (C := RX0) (T := TX0) (N := 9) (ty := tyX0 2) (v := .ref (sz + 2)) hx hb hts hiX0 tyX0 tyX0_ok nmX0 hown hK hS (Or.inl rfl) hA rfl 2 (by decide) f20 rfl hname rfl (tyX0_ok 2 (by decide)) rfl rfl (Nat.le_of_ble_eq_true rfl) dX0_init_27 (fun H locs hat hz4 hk4 hS => ?_)
  replace hA : va_at D vwCl (a, .inr (0, [.int 0, .ref (sz), .ref (sz + 2), .null, .null, .null, .null, .null, .null])) H := hat
  replace hE := hE.keep hasz hz4 hk4
  clear hat hz4 hk4 hP hz3 hk3 hO hz1 hk1 hz2
  refine lv_aload_n hx hb dX0_init_30 rfl (lv_at hl 0 rfl) ?_
  refine tr_newo (C := RX2) (T := TX2) (N := 1) (ci := 2) (fs := [.null]) hx hb hts hiX2 tyX2 tyX2_ok hown hcl hin hini hK hS rfl (by decide) (show 4 + 1 ≤ 16 by omega) (show 14 + 1 ≤ 56 by omega) dX0_init_31 (fun q H1 hq hO hz1 hk1 hS => ?_)
  have hz2 : H1.size = q + 1 := by rw [hz1, hq]
  have e0 : q = sz + 4 := hq.trans hE.1
  clear hq
  subst q
  replace hA := hA.kept (hk1 a hA.lt)
  refine lv_dup hx hb dX0_init_34 rfl ?_
  refine lv_bipush (v := nI 6) hx hb dX0_init_35 (by decide) ?_
  refine tr_wN (va_runI (As := [.int (nI 6)]) (rest := [.ref (sz + 4), .ref a]) ⟨hx, hb, hml, hown, hts⟩ (c_X2_init l D cI (sz + 4) (sz + 4 + 1) 6 (by decide)) (cwI 1 hts gX0_init_X2_init rfl rfl rfl hini mL mI rfl (by decide +kernel) ⟨Nat.le_of_ble_eq_true rfl, Nat.le_of_ble_eq_true rfl⟩) (tr_preS hK ⟨hz2, hO⟩) rfl rfl hl.1 rfl (lv_room (Nat.le_of_ble_eq_true rfl)) dX0_init_37 ⟨show 5 + 1 ≤ 16 by omega, show 15 + 6 ≤ 56 by omega⟩) hS (fun x (h : x = sz + 4) => Or.inr (by omega)) (fun x (h : x = sz + 4) => Or.inr (by omega)) (fun H locs hP hz3 hk3 hS => ?_)
  replace hA := hA.kept (hk3 a hA.lt (by omega))
  replace hE : MKD D sz [.inr (2, [.ref (sz + 1)]), .inl (cI, 6, .inl (fun _ => 0)), .inr (2, [.ref (sz + 3)]), .inl (cI, 6, .inl (fun _ => 0)), .inr (2, [.ref (sz + 5)]), .inl (cI, 6, .inl (fun _ => 0))] H := hE.obj hz1 hk1 rfl hk3 hP.1 hP.2
  refine tr_putF (ci := 0) (C := RX0) (T := TX0) (N := 9) (ty := tyX0 3) (v := .ref (sz + 4)) hx hb hts hiX0 tyX0 tyX0_ok nmX0 hown hK hS (Or.inl rfl) hA rfl 3 (by decide) f23 rfl hname rfl (tyX0_ok 3 (by decide)) rfl rfl (Nat.le_of_ble_eq_true rfl) dX0_init_40 (fun H locs hat hz4 hk4 hS => ?_)
  replace hA : va_at D vwCl (a, .inr (0, [.int 0, .ref (sz), .ref (sz + 2), .ref (sz + 4), .null, .null, .null, .null, .null])) H := hat
  replace hE := hE.keep hasz hz4 hk4
  clear hat hz4 hk4 hP hz3 hk3 hO hz1 hk1 hz2
  refine lv_aload_n hx hb dX0_init_43 rfl (lv_at hl 0 rfl) ?_
  refine tr_newo (C := RX2) (T := TX2) (N := 1) (ci := 2) (fs := [.null]) hx hb hts hiX2 tyX2 tyX2_ok hown hcl hin hini hK hS rfl (by decide) (show 6 + 1 ≤ 16 by omega) (show 21 + 1 ≤ 56 by omega) dX0_init_44 (fun q H1 hq hO hz1 hk1 hS => ?_)
  have hz2 : H1.size = q + 1 := by rw [hz1, hq]
  have e0 : q = sz + 6 := hq.trans hE.1
  clear hq
  subst q
  replace hA := hA.kept (hk1 a hA.lt)
  refine lv_dup hx hb dX0_init_47 rfl ?_
  refine lv_bipush (v := nI 6) hx hb dX0_init_48 (by decide) ?_
  refine tr_wN (va_runI (As := [.int (nI 6)]) (rest := [.ref (sz + 6), .ref a]) ⟨hx, hb, hml, hown, hts⟩ (c_X2_init l D cI (sz + 6) (sz + 6 + 1) 6 (by decide)) (cwI 1 hts gX0_init_X2_init rfl rfl rfl hini mL mI rfl (by decide +kernel) ⟨Nat.le_of_ble_eq_true rfl, Nat.le_of_ble_eq_true rfl⟩) (tr_preS hK ⟨hz2, hO⟩) rfl rfl hl.1 rfl (lv_room (Nat.le_of_ble_eq_true rfl)) dX0_init_50 ⟨show 7 + 1 ≤ 16 by omega, show 22 + 6 ≤ 56 by omega⟩) hS (fun x (h : x = sz + 6) => Or.inr (by omega)) (fun x (h : x = sz + 6) => Or.inr (by omega)) (fun H locs hP hz3 hk3 hS => ?_)
  replace hA := hA.kept (hk3 a hA.lt (by omega))
  replace hE : MKD D sz [.inr (2, [.ref (sz + 1)]), .inl (cI, 6, .inl (fun _ => 0)), .inr (2, [.ref (sz + 3)]), .inl (cI, 6, .inl (fun _ => 0)), .inr (2, [.ref (sz + 5)]), .inl (cI, 6, .inl (fun _ => 0)), .inr (2, [.ref (sz + 7)]), .inl (cI, 6, .inl (fun _ => 0))] H := hE.obj hz1 hk1 rfl hk3 hP.1 hP.2
  refine tr_putF (ci := 0) (C := RX0) (T := TX0) (N := 9) (ty := tyX0 4) (v := .ref (sz + 6)) hx hb hts hiX0 tyX0 tyX0_ok nmX0 hown hK hS (Or.inl rfl) hA rfl 4 (by decide) f26 rfl hname rfl (tyX0_ok 4 (by decide)) rfl rfl (Nat.le_of_ble_eq_true rfl) dX0_init_53 (fun H locs hat hz4 hk4 hS => ?_)
  replace hA : va_at D vwCl (a, .inr (0, [.int 0, .ref (sz), .ref (sz + 2), .ref (sz + 4), .ref (sz + 6), .null, .null, .null, .null])) H := hat
  replace hE := hE.keep hasz hz4 hk4
  clear hat hz4 hk4 hP hz3 hk3 hO hz1 hk1 hz2
  refine lv_aload_n hx hb dX0_init_56 rfl (lv_at hl 0 rfl) ?_
  refine tr_newo (C := RX2) (T := TX2) (N := 1) (ci := 2) (fs := [.null]) hx hb hts hiX2 tyX2 tyX2_ok hown hcl hin hini hK hS rfl (by decide) (show 8 + 1 ≤ 16 by omega) (show 28 + 1 ≤ 56 by omega) dX0_init_57 (fun q H1 hq hO hz1 hk1 hS => ?_)
  have hz2 : H1.size = q + 1 := by rw [hz1, hq]
  have e0 : q = sz + 8 := hq.trans hE.1
  clear hq
  subst q
  replace hA := hA.kept (hk1 a hA.lt)
  refine lv_dup hx hb dX0_init_60 rfl ?_
  refine lv_bipush (v := nI 6) hx hb dX0_init_61 (by decide) ?_
  refine tr_wN (va_runI (As := [.int (nI 6)]) (rest := [.ref (sz + 8), .ref a]) ⟨hx, hb, hml, hown, hts⟩ (c_X2_init l D cI (sz + 8) (sz + 8 + 1) 6 (by decide)) (cwI 1 hts gX0_init_X2_init rfl rfl rfl hini mL mI rfl (by decide +kernel) ⟨Nat.le_of_ble_eq_true rfl, Nat.le_of_ble_eq_true rfl⟩) (tr_preS hK ⟨hz2, hO⟩) rfl rfl hl.1 rfl (lv_room (Nat.le_of_ble_eq_true rfl)) dX0_init_63 ⟨show 9 + 1 ≤ 16 by omega, show 29 + 6 ≤ 56 by omega⟩) hS (fun x (h : x = sz + 8) => Or.inr (by omega)) (fun x (h : x = sz + 8) => Or.inr (by omega)) (fun H locs hP hz3 hk3 hS => ?_)
  replace hA := hA.kept (hk3 a hA.lt (by omega))
  replace hE : MKD D sz [.inr (2, [.ref (sz + 1)]), .inl (cI, 6, .inl (fun _ => 0)), .inr (2, [.ref (sz + 3)]), .inl (cI, 6, .inl (fun _ => 0)), .inr (2, [.ref (sz + 5)]), .inl (cI, 6, .inl (fun _ => 0)), .inr (2, [.ref (sz + 7)]), .inl (cI, 6, .inl (fun _ => 0)), .inr (2, [.ref (sz + 9)]), .inl (cI, 6, .inl (fun _ => 0))] H := hE.obj hz1 hk1 rfl hk3 hP.1 hP.2
  refine tr_putF (ci := 0) (C := RX0) (T := TX0) (N := 9) (ty := tyX0 5) (v := .ref (sz + 8)) hx hb hts hiX0 tyX0 tyX0_ok nmX0 hown hK hS (Or.inl rfl) hA rfl 5 (by decide) f29 rfl hname rfl (tyX0_ok 5 (by decide)) rfl rfl (Nat.le_of_ble_eq_true rfl) dX0_init_66 (fun H locs hat hz4 hk4 hS => ?_)
  replace hA : va_at D vwCl (a, .inr (0, [.int 0, .ref (sz), .ref (sz + 2), .ref (sz + 4), .ref (sz + 6), .ref (sz + 8), .null, .null, .null])) H := hat
  replace hE := hE.keep hasz hz4 hk4
  clear hat hz4 hk4 hP hz3 hk3 hO hz1 hk1 hz2
  refine lv_aload_n hx hb dX0_init_69 rfl (lv_at hl 0 rfl) ?_
  refine tr_newo (C := RX2) (T := TX2) (N := 1) (ci := 2) (fs := [.null]) hx hb hts hiX2 tyX2 tyX2_ok hown hcl hin hini hK hS rfl (by decide) (show 10 + 1 ≤ 16 by omega) (show 35 + 1 ≤ 56 by omega) dX0_init_70 (fun q H1 hq hO hz1 hk1 hS => ?_)
  have hz2 : H1.size = q + 1 := by rw [hz1, hq]
  have e0 : q = sz + 10 := hq.trans hE.1
  clear hq
  subst q
  replace hA := hA.kept (hk1 a hA.lt)
  refine lv_dup hx hb dX0_init_73 rfl ?_
  refine lv_bipush (v := nI 6) hx hb dX0_init_74 (by decide) ?_
  refine tr_wN (va_runI (As := [.int (nI 6)]) (rest := [.ref (sz + 10), .ref a]) ⟨hx, hb, hml, hown, hts⟩ (c_X2_init l D cI (sz + 10) (sz + 10 + 1) 6 (by decide)) (cwI 1 hts gX0_init_X2_init rfl rfl rfl hini mL mI rfl (by decide +kernel) ⟨Nat.le_of_ble_eq_true rfl, Nat.le_of_ble_eq_true rfl⟩) (tr_preS hK ⟨hz2, hO⟩) rfl rfl hl.1 rfl (lv_room (Nat.le_of_ble_eq_true rfl)) dX0_init_76 ⟨show 11 + 1 ≤ 16 by omega, show 36 + 6 ≤ 56 by omega⟩) hS (fun x (h : x = sz + 10) => Or.inr (by omega)) (fun x (h : x = sz + 10) => Or.inr (by omega)) (fun H locs hP hz3 hk3 hS => ?_)
  replace hA := hA.kept (hk3 a hA.lt (by omega))
  replace hE : MKD D sz [.inr (2, [.ref (sz + 1)]), .inl (cI, 6, .inl (fun _ => 0)), .inr (2, [.ref (sz + 3)]), .inl (cI, 6, .inl (fun _ => 0)), .inr (2, [.ref (sz + 5)]), .inl (cI, 6, .inl (fun _ => 0)), .inr (2, [.ref (sz + 7)]), .inl (cI, 6, .inl (fun _ => 0)), .inr (2, [.ref (sz + 9)]), .inl (cI, 6, .inl (fun _ => 0)), .inr (2, [.ref (sz + 11)]), .inl (cI, 6, .inl (fun _ => 0))] H := hE.obj hz1 hk1 rfl hk3 hP.1 hP.2
  refine tr_putF (ci := 0) (C := RX0) (T := TX0) (N := 9) (ty := tyX0 6) (v := .ref (sz + 10)) hx hb hts hiX0 tyX0 tyX0_ok nmX0 hown hK hS (Or.inl rfl) hA rfl 6 (by decide) f32 rfl hname rfl (tyX0_ok 6 (by decide)) rfl rfl (Nat.le_of_ble_eq_true rfl) dX0_init_79 (fun H locs hat hz4 hk4 hS => ?_)
  replace hA : va_at D vwCl (a, .inr (0, [.int 0, .ref (sz), .ref (sz + 2), .ref (sz + 4), .ref (sz + 6), .ref (sz + 8), .ref (sz + 10), .null, .null])) H := hat
  replace hE := hE.keep hasz hz4 hk4
  clear hat hz4 hk4 hP hz3 hk3 hO hz1 hk1 hz2
  refine lv_aload_n hx hb dX0_init_82 rfl (lv_at hl 0 rfl) ?_
  refine tr_newo (C := RX2) (T := TX2) (N := 1) (ci := 2) (fs := [.null]) hx hb hts hiX2 tyX2 tyX2_ok hown hcl hin hini hK hS rfl (by decide) (show 12 + 1 ≤ 16 by omega) (show 42 + 1 ≤ 56 by omega) dX0_init_83 (fun q H1 hq hO hz1 hk1 hS => ?_)
  have hz2 : H1.size = q + 1 := by rw [hz1, hq]
  have e0 : q = sz + 12 := hq.trans hE.1
  clear hq
  subst q
  replace hA := hA.kept (hk1 a hA.lt)
  refine lv_dup hx hb dX0_init_86 rfl ?_
  refine lv_bipush (v := nI 6) hx hb dX0_init_87 (by decide) ?_
  refine tr_wN (va_runI (As := [.int (nI 6)]) (rest := [.ref (sz + 12), .ref a]) ⟨hx, hb, hml, hown, hts⟩ (c_X2_init l D cI (sz + 12) (sz + 12 + 1) 6 (by decide)) (cwI 1 hts gX0_init_X2_init rfl rfl rfl hini mL mI rfl (by decide +kernel) ⟨Nat.le_of_ble_eq_true rfl, Nat.le_of_ble_eq_true rfl⟩) (tr_preS hK ⟨hz2, hO⟩) rfl rfl hl.1 rfl (lv_room (Nat.le_of_ble_eq_true rfl)) dX0_init_89 ⟨show 13 + 1 ≤ 16 by omega, show 43 + 6 ≤ 56 by omega⟩) hS (fun x (h : x = sz + 12) => Or.inr (by omega)) (fun x (h : x = sz + 12) => Or.inr (by omega)) (fun H locs hP hz3 hk3 hS => ?_)
  replace hA := hA.kept (hk3 a hA.lt (by omega))
  replace hE : MKD D sz [.inr (2, [.ref (sz + 1)]), .inl (cI, 6, .inl (fun _ => 0)), .inr (2, [.ref (sz + 3)]), .inl (cI, 6, .inl (fun _ => 0)), .inr (2, [.ref (sz + 5)]), .inl (cI, 6, .inl (fun _ => 0)), .inr (2, [.ref (sz + 7)]), .inl (cI, 6, .inl (fun _ => 0)), .inr (2, [.ref (sz + 9)]), .inl (cI, 6, .inl (fun _ => 0)), .inr (2, [.ref (sz + 11)]), .inl (cI, 6, .inl (fun _ => 0)), .inr (2, [.ref (sz + 13)]), .inl (cI, 6, .inl (fun _ => 0))] H := hE.obj hz1 hk1 rfl hk3 hP.1 hP.2
  refine tr_putF (ci := 0) (C := RX0) (T := TX0) (N := 9) (ty := tyX0 7) (v := .ref (sz + 12)) hx hb hts hiX0 tyX0 tyX0_ok nmX0 hown hK hS (Or.inl rfl) hA rfl 7 (by decide) f35 rfl hname rfl (tyX0_ok 7 (by decide)) rfl rfl (Nat.le_of_ble_eq_true rfl) dX0_init_92 (fun H locs hat hz4 hk4 hS => ?_)
  replace hA : va_at D vwCl (a, .inr (0, [.int 0, .ref (sz), .ref (sz + 2), .ref (sz + 4), .ref (sz + 6), .ref (sz + 8), .ref (sz + 10), .ref (sz + 12), .null])) H := hat
  replace hE := hE.keep hasz hz4 hk4
  clear hat hz4 hk4 hP hz3 hk3 hO hz1 hk1 hz2
  refine lv_aload_n hx hb dX0_init_95 rfl (lv_at hl 0 rfl) ?_
  refine tr_newo (C := RX2) (T := TX2) (N := 1) (ci := 2) (fs := [.null]) hx hb hts hiX2 tyX2 tyX2_ok hown hcl hin hini hK hS rfl (by decide) (show 14 + 1 ≤ 16 by omega) (show 49 + 1 ≤ 56 by omega) dX0_init_96 (fun q H1 hq hO hz1 hk1 hS => ?_)
  have hz2 : H1.size = q + 1 := by rw [hz1, hq]
  have e0 : q = sz + 14 := hq.trans hE.1
  clear hq
  subst q
  replace hA := hA.kept (hk1 a hA.lt)
  refine lv_dup hx hb dX0_init_99 rfl ?_
  refine lv_bipush (v := nI 6) hx hb dX0_init_100 (by decide) ?_
  refine tr_wN (va_runI (As := [.int (nI 6)]) (rest := [.ref (sz + 14), .ref a]) ⟨hx, hb, hml, hown, hts⟩ (c_X2_init l D cI (sz + 14) (sz + 14 + 1) 6 (by decide)) (cwI 1 hts gX0_init_X2_init rfl rfl rfl hini mL mI rfl (by decide +kernel) ⟨Nat.le_of_ble_eq_true rfl, Nat.le_of_ble_eq_true rfl⟩) (tr_preS hK ⟨hz2, hO⟩) rfl rfl hl.1 rfl (lv_room (Nat.le_of_ble_eq_true rfl)) dX0_init_102 ⟨show 15 + 1 ≤ 16 by omega, show 50 + 6 ≤ 56 by omega⟩) hS (fun x (h : x = sz + 14) => Or.inr (by omega)) (fun x (h : x = sz + 14) => Or.inr (by omega)) (fun H locs hP hz3 hk3 hS => ?_)
  replace hA := hA.kept (hk3 a hA.lt (by omega))
  replace hE : MKD D sz [.inr (2, [.ref (sz + 1)]), .inl (cI, 6, .inl (fun _ => 0)), .inr (2, [.ref (sz + 3)]), .inl (cI, 6, .inl (fun _ => 0)), .inr (2, [.ref (sz + 5)]), .inl (cI, 6, .inl (fun _ => 0)), .inr (2, [.ref (sz + 7)]), .inl (cI, 6, .inl (fun _ => 0)), .inr (2, [.ref (sz + 9)]), .inl (cI, 6, .inl (fun _ => 0)), .inr (2, [.ref (sz + 11)]), .inl (cI, 6, .inl (fun _ => 0)), .inr (2, [.ref (sz + 13)]), .inl (cI, 6, .inl (fun _ => 0)), .inr (2, [.ref (sz + 15)]), .inl (cI, 6, .inl (fun _ => 0))] H := hE.obj hz1 hk1 rfl hk3 hP.1 hP.2
  refine tr_putF (ci := 0) (C := RX0) (T := TX0) (N := 9) (ty := tyX0 8) (v := .ref (sz + 14)) hx hb hts hiX0 tyX0 tyX0_ok nmX0 hown hK hS (Or.inl rfl) hA rfl 8 (by decide) f38 rfl hname rfl (tyX0_ok 8 (by decide)) rfl rfl (Nat.le_of_ble_eq_true rfl) dX0_init_105 (fun H locs hat hz4 hk4 hS => ?_)
  replace hA : va_at D vwCl (a, .inr (0, [.int 0, .ref (sz), .ref (sz + 2), .ref (sz + 4), .ref (sz + 6), .ref (sz + 8), .ref (sz + 10), .ref (sz + 12), .ref (sz + 14)])) H := hat
  replace hE := hE.keep hasz hz4 hk4
  clear hat hz4 hk4 hP hz3 hk3 hO hz1 hk1 hz2
  exact W.vret hx hb hr (hS.end ⟨hA, hE⟩) hS.2.2 dX0_init_108
