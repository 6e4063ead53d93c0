/-! constructors: the ribbon -/
theorem lAd_ge {a sz lo : Nat} (h1 : lo ≤ a) (h2 : lo ≤ sz) : ∀ k, k < 38 → lo ≤ lAd a sz k := by
  intro k hk
  unfold lAd
  (repeat' split) <;> omega
theorem LNE.keepO {D : va_G} {cI : ClassId} {A : Nat → Nat} {v : LV} {H H1 : Heap} {o1 : Nat → Prop} (h : LNE D cI A v H) (hk : ∀ q : Nat, q < H.size → ¬ o1 q → H1[q]? = H[q]?) (ho : ∀ k, k < 38 → ¬ o1 (A k)) : LNE D cI A v H1 := fun k hk38 => (h k hk38).kept (hk _ (h k hk38).lt (ho k hk38))
theorem LNE.lt {D : va_G} {cI : ClassId} {A : Nat → Nat} {v : LV} {H : Heap} (h : LNE D cI A v H) : ∀ k, k < 38 → A k < H.size := fun k hk => (h k hk).lt
set_option maxHeartbeats 8000000 in
set_option maxRecDepth 100000 in
theorem c_X5_init (l : Launch) (D : va_G) (cI : ClassId) (a sz : Nat) : Met l yX5_init wsX5_init ({ frames := 4, cells := 76, slots := 458, locals := 84 }) (tr_Pc D cI [.ref a] (fun H => H.size = sz ∧ va_at D vwCl (a, .inr (5, [.null, .null])) H)) (tr_Q none (fun H => ∃ A A2 : Nat → Nat, TDis a A A2 ∧ TRB D cI a A A2 (newLine, newLine) H ∧ ∀ k, k < 38 → sz ≤ A k ∧ sz ≤ A2 k) (iOwn a sz)) 76 458 (iOwn a sz) := by
  refine Met.ofW (cc := cX5_init) (maxL := 1) (ret := none) (by decide) rfl ?_
  intro p e s m args below meth c s₁ B hml hv
  obtain ⟨rfl, ⟨hz0, hA⟩, hK⟩ := hv
  have hx := B.exec
  have hb := B.bytes
  have hr := B.returns
  have hts := atoms_spec (ws := wsX5_init) B.pre
  have hown : s.vm.findClass RX5 = some m.cls := findClass_of_methodNamed B.named
  have hname := (name_of_methodNamed B.named B.method).1
  have hlocks := B.notSynchronized
  have hasz : a < sz := by have := hA.lt; simp only at this; omega
  have hiX5 : ∀ w ∈ u_ws RX5 TX5 2, w ∈ wsX5_init := by decide +kernel
  have hiX1 : ∀ w ∈ u_ws RX1 TX1 6, w ∈ wsX5_init := by decide +kernel
  have clX1 := hts (.classLink RX5 7 RX1) (by decide +kernel)
  have f10 := hts (.fieldLink RX5 10 "TramRibbon" "line" "LTramRibbon$Line;") (by decide +kernel)
  have f16 := hts (.fieldLink RX5 16 "TramRibbon" "trial" "LTramRibbon$Line;") (by decide +kernel)
  have iiX1 := hts (.initialized RX1) (by decide +kernel)
  have inX1 := hts (.instantiable RX1 6) (by decide +kernel)
  have mL := hts (.methodLink RX5 9 yX1_init) (by decide +kernel)
  have miX1 := hts (.instanceMethod yX1_init) (by decide +kernel)
  have oC := hts (.code Lib.objectInit ⟨#[0xb1]⟩ 1 none) (by decide +kernel)
  have oI := hts (.instanceMethod Lib.objectInit) (by decide +kernel)
  have oL := hts (.methodLink RX5 1 Lib.objectInit) (by decide +kernel)
  have hl := lv_entry ([.ref a]) (n := 1) (Nat.le_of_ble_eq_true rfl)
  rw [lg_entry_eq]
  generalize (lg_sl ([.ref a]) ++ List.replicate (1 - (lg_sl ([.ref a])).length) Slot.unset).toArray = ls at hl ⊢
  replace hl : lv_has ls 1 [(0, .ref a)] := hl
  have hS : tr_S (iOwn a sz) s.heap s.heap [] := tr_S.rf
  generalize h1 : s.heap = H, h2 : ([] : List Loc) = locs
  replace hS : tr_S (iOwn a sz) s.heap H locs := by rw [← h1, ← h2]; exact hS
  rw [h1] at hA hz0
  clear h1 h2
  refine lv_aload_n hx hb dX5_init_0 rfl (lv_at hl 0 rfl) ?_
  refine W.objInit hx hb hown oL oI oC rfl (by rw [hml]; exact hl.1) rfl dX5_init_1 (Nat.le_of_ble_eq_true rfl) (lv_room12 (h := Nat.le_of_ble_eq_true rfl) (lv_room (Nat.le_of_ble_eq_true rfl))) ?_
  refine lv_aload_n hx hb dX5_init_4 rfl (lv_at hl 0 rfl) ?_
  refine tr_newo (C := RX1) (T := TX1) (N := 6) (ci := 1) (fs := [.null, .null, .null, .int 0, .int 0, .int 0]) hx hb hts hiX1 tyX1 tyX1_ok hown clX1 inX1 iiX1 hK hS rfl (by decide) (show 0 + 1 ≤ 76 by omega) (show 0 + 6 ≤ 458 by omega) dX5_init_5 (fun q H1 hq hO hz1 hk1 hS => ?_)
  have hz2 : H1.size = q + 1 := by rw [hz1, hq]
  have e0 : q = sz := hq.trans hz0
  clear hq
  subst q
  replace hA := hA.kept (hk1 a hA.lt)
  refine lv_dup hx hb dX5_init_8 rfl ?_
  refine tr_wN (va_runI (As := []) (rest := [.ref sz, .ref a]) ⟨hx, hb, hml, hown, hts⟩ (c_X1_init l D cI sz (sz + 1)) (cwI 0 hts gX5_init_X1_init rfl rfl rfl iiX1 mL miX1 rfl (by decide +kernel) ⟨Nat.le_of_ble_eq_true rfl, Nat.le_of_ble_eq_true rfl⟩) (tr_preS hK ⟨hz2, hO⟩) rfl rfl hl.1 rfl (lv_room (Nat.le_of_ble_eq_true rfl)) dX5_init_9 ⟨show 1 + 37 ≤ 76 by omega, show 6 + 223 ≤ 458 by omega⟩) hS (fun x (h : x = sz ∨ sz + 1 ≤ x) => Or.inr (by omega)) (fun x (h : x = sz ∨ sz + 1 ≤ x) => Or.inr (by omega)) (fun H locs hP hz3 hk3 hS => ?_)
  replace hA := hA.kept (hk3 a hA.lt (fun (h : a = sz ∨ sz + 1 ≤ a) => by omega))
  refine tr_putF (ci := 5) (C := RX5) (T := TX5) (N := 2) (ty := tyX5 0) (v := .ref sz) hx hb hts hiX5 tyX5 tyX5_ok nmX5 hown hK hS (Or.inl rfl) hA rfl 0 (by decide) f10 rfl hname rfl (tyX5_ok 0 (by decide)) rfl rfl (Nat.le_of_ble_eq_true rfl) dX5_init_12 (fun H locs hat hz4 hk4 hS => ?_)
  replace hA : va_at D vwCl (a, .inr (5, [.ref sz, .null])) H := hat
  have hge := lAd_ge (a := sz) (sz := sz + 1) (lo := sz) (Nat.le_refl _) (by omega)
  have hL : LNE D cI (lAd sz (sz + 1)) newLine H := hP.keepO (o1 := fun x => x = a) (fun x _ h => hk4 x h) (fun k hk h => by have := hge k hk; omega)
  have hzz : sz ≤ H.size := Nat.le_trans (Nat.le_of_lt (hL 0 (by decide)).lt) (Nat.le_refl _)
  clear hat hz4 hk4 hP hz3 hk3 hO hz1 hk1 hz2
  refine lv_aload_n hx hb dX5_init_15 rfl (lv_at hl 0 rfl) ?_
  refine tr_newo (C := RX1) (T := TX1) (N := 6) (ci := 1) (fs := [.null, .null, .null, .int 0, .int 0, .int 0]) hx hb hts hiX1 tyX1 tyX1_ok hown clX1 inX1 iiX1 hK hS rfl (by decide) (show 38 + 1 ≤ 76 by omega) (show 229 + 6 ≤ 458 by omega) dX5_init_16 (fun q H1 hq hO hz1 hk1 hS => ?_)
  have hz2 : H1.size = q + 1 := by rw [hz1, hq]
  have hqz : sz ≤ q := by rw [hq]; exact hzz
  have hlt := hL.lt
  rw [← hq] at hlt
  replace hA := hA.kept (hk1 a hA.lt)
  replace hL := hL.keepO (o1 := fun _ => False) (fun x h _ => hk1 x h) (fun _ _ h => h)
  refine lv_dup hx hb dX5_init_19 rfl ?_
  refine tr_wN (va_runI (As := []) (rest := [.ref q, .ref a]) ⟨hx, hb, hml, hown, hts⟩ (c_X1_init l D cI q (q + 1)) (cwI 0 hts gX5_init_X1_init rfl rfl rfl iiX1 mL miX1 rfl (by decide +kernel) ⟨Nat.le_of_ble_eq_true rfl, Nat.le_of_ble_eq_true rfl⟩) (tr_preS hK ⟨hz2, hO⟩) rfl rfl hl.1 rfl (lv_room (Nat.le_of_ble_eq_true rfl)) dX5_init_20 ⟨show 39 + 37 ≤ 76 by omega, show 235 + 223 ≤ 458 by omega⟩) hS (fun x (h : x = q ∨ q + 1 ≤ x) => Or.inr (by omega)) (fun x (h : x = q ∨ q + 1 ≤ x) => Or.inr (by omega)) (fun H locs hP hz3 hk3 hS => ?_)
  replace hA := hA.kept (hk3 a hA.lt (fun (h : a = q ∨ q + 1 ≤ a) => by omega))
  replace hL := hL.keepO hk3 (fun k hk (h : lAd sz (sz + 1) k = q ∨ q + 1 ≤ lAd sz (sz + 1) k) => by have := hlt k hk; omega)
  refine tr_putF (ci := 5) (C := RX5) (T := TX5) (N := 2) (ty := tyX5 1) (v := .ref q) hx hb hts hiX5 tyX5 tyX5_ok nmX5 hown hK hS (Or.inl rfl) hA rfl 1 (by decide) f16 rfl hname rfl (tyX5_ok 1 (by decide)) rfl rfl (Nat.le_of_ble_eq_true rfl) dX5_init_23 (fun H locs hat hz4 hk4 hS => ?_)
  replace hA : va_at D vwCl (a, .inr (5, [.ref sz, .ref q])) H := hat
  have hge2 := lAd_ge (a := q) (sz := q + 1) (lo := q) (Nat.le_refl _) (by omega)
  replace hL := hL.keepO (o1 := fun x => x = a) (fun x _ h => hk4 x h) (fun k hk h => by have := hge k hk; omega)
  have hL2 : LNE D cI (lAd q (q + 1)) newLine H := hP.keepO (o1 := fun x => x = a) (fun x _ h => hk4 x h) (fun k hk h => by have := hge2 k hk; omega)
  have hd : TDis a (lAd sz (sz + 1)) (lAd q (q + 1)) := ⟨⟨lAd_inj (by omega), lAd_inj (by omega), fun i hi j hj e => by have h1 := hlt i hi; have h2 := hge2 j hj; omega⟩, fun k hk e => by have := hge k hk; omega, fun k hk e => by have := hge2 k hk; omega⟩
  exact W.vret hx hb hr (hS.end ⟨_, _, hd, ⟨hA, hL, hL2⟩, fun k hk => ⟨hge k hk, Nat.le_trans hqz (hge2 k hk)⟩⟩) hS.2.2 dX5_init_26
