/-! THE MODEL: 32 cells: 0 itself, 1 its slopes, 2 .. 16 s, 17 .. 31 next -/
def mA (M : Nat → Nat) : Nat → Nat := fun k => if k < 17 then M k else if k = 17 then M 2 else M 17
def nA (M : Nat → Nat) : Nat → Nat := fun k => if k < 2 then M k else if k < 17 then M (k + 15) else if k = 17 then M 2 else M 17
def MInj (M : Nat → Nat) : Prop := ∀ i, i < 32 → ∀ j, j < 32 → M i = M j → i = j
def mOwn (M : Nat → Nat) : Nat → Prop := fun q => ∃ k, k < 32 ∧ q = M k
theorem mA_lt {M : Nat → Nat} {k : Nat} (h : k < 17) : mA M k = M k := if_pos h
theorem nA_lt {M : Nat → Nat} {k : Nat} (h2 : 2 ≤ k) (h : k < 17) : nA M k = M (k + 15) := by
  unfold nA
  rw [if_neg (by omega), if_pos h]
theorem nA_0 {M : Nat → Nat} {k : Nat} (h : k < 2) : nA M k = M k := if_pos h
theorem mn_dis {M : Nat → Nat} (h : MInj M) : SDis (mA M) (nA M) := by
  refine ⟨fun i hi j hj e => ?_, fun i hi j hj e => ?_, rfl, rfl, fun i hi j h2 hj e => ?_⟩
  · rw [mA_lt hi, mA_lt hj] at e; exact h _ (by omega) _ (by omega) e
  · by_cases h1 : i < 2
    · by_cases h3 : j < 2
      · rw [nA_0 h1, nA_0 h3] at e; exact h _ (by omega) _ (by omega) e
      · rw [nA_0 h1, nA_lt (by omega) hj] at e; have := h _ (by omega) _ (by omega) e; omega
    · by_cases h3 : j < 2
      · rw [nA_lt (by omega) hi, nA_0 h3] at e; have := h _ (by omega) _ (by omega) e; omega
      · rw [nA_lt (by omega) hi, nA_lt (by omega) hj] at e; have := h _ (by omega) _ (by omega) e; omega
  · by_cases h1 : i < 2
    · rw [nA_0 h1, mA_lt hj] at e; have := h _ (by omega) _ (by omega) e; omega
    · rw [nA_lt (by omega) hi, mA_lt hj] at e; have := h _ (by omega) _ (by omega) e; omega
theorem nm_dis {M : Nat → Nat} (h : MInj M) : SDis (nA M) (mA M) := by
  obtain ⟨h1, h2, -, -, h3⟩ := mn_dis h
  refine ⟨h2, h1, rfl, rfl, fun i hi j hj2 hj e => ?_⟩
  by_cases h4 : 2 ≤ i
  · exact h3 j hj i h4 hi e.symm
  · have e0 : mA M i = nA M i := by
      rw [mA_lt hi, nA_0 (by omega)]
    rw [e0] at e
    have := h2 _ hi _ hj e
    omega
theorem mOwn_s {M : Nat → Nat} : ∀ q, sOwn (mA M) q → mOwn M q := fun _ ⟨k, _, h3, e⟩ => ⟨k, by omega, by rw [e, mA_lt h3]⟩
theorem mOwn_n {M : Nat → Nat} : ∀ q, sOwn (nA M) q → mOwn M q := fun _ ⟨k, h2, h3, e⟩ => ⟨k + 15, by omega, by rw [e, nA_lt h2 h3]⟩
theorem mOwn_b {M : Nat → Nat} : ∀ q, bOwn (nA M) (mA M) q → mOwn M q := fun q h => h.elim (mOwn_n q) (mOwn_s q)
theorem mOwn_k {M : Nat → Nat} {k : Nat} (h : k < 32) : mOwn M (M k) := ⟨k, h, rfl⟩
theorem st_keepO {D : va_G} {cI : ClassId} {C C2 : Nat → Nat} {mv ov : LV} {H H1 : Heap} (hd : SDis C C2) (hO : STA D cI C2 mv ov H) (hk : ∀ q : Nat, q < H.size → ¬ sOwn C q → H1[q]? = H[q]?) : STA D cI C2 mv ov H1 := fun k hk17 => (hO k hk17).kept (hk _ (hO k hk17).lt (fun ⟨j, h2, hj, e⟩ => hd.2.2.2.2 k hk17 j h2 hj e))
theorem STA.setM {D : va_G} {cI : ClassId} {C : Nat → Nat} {mv sv : LV} {H H1 : Heap} (hC : SInj C) (h : STA D cI C mv sv H) (i : Nat) {x : Int32} {e : va_E} {a : Nat} (h1 : va_at D vwCl (a, e) H1) (ha : a = C 0) (he : e = sE cI C (lSc mv i x) sv 0) (hk : ∀ q : Nat, q ≠ a → H1[q]? = H[q]?) : STA D cI C (lSc mv i x) sv H1 := by
  subst ha
  intro k hk17
  by_cases e1 : k = 0
  · subst e1
    rw [← he]
    exact h1
  · have e2 : sE cI C (lSc mv i x) sv k = sE cI C mv sv k := by
      match k, e1 with
      | 0, e1 => exact absurd rfl e1
      | 1, _ => rfl
      | 2, _ => rfl
      | k + 3, _ => rfl
    rw [e2]
    exact (h k hk17).kept (hk _ (fun q => e1 (hC _ hk17 _ (by omega) q)))
theorem STA.setSl {D : va_G} {cI : ClassId} {C : Nat → Nat} {mv sv : LV} {H H1 : Heap} (hC : SInj C) (h : STA D cI C mv sv H) {i x : Int32} {a : Nat} (h1 : va_at D vwCl (a, .inl (cI, 16, .inl (upd (mv.2 0) i.toNatClampNeg x))) H1) (ha : a = C 1) (hk : ∀ q : Nat, q ≠ a → H1[q]? = H[q]?) : STA D cI C (aSet mv 0 i x) sv H1 := by
  subst ha
  intro k hk17
  by_cases e1 : k = 1
  · subst e1
    exact h1
  · have e2 : sE cI C (aSet mv 0 i x) sv k = sE cI C mv sv k := by
      match k, e1 with
      | 0, _ => rfl
      | 1, e1 => exact absurd rfl e1
      | 2, _ => rfl
      | k + 3, _ => rfl
    rw [e2]
    exact (h k hk17).kept (hk _ (fun q => e1 (hC _ hk17 _ (by omega) q)))
/-- the Model holds these numbers -/
def MPT (D : va_G) (cI : ClassId) (M : Nat → Nat) (t : LV × LV × LV) (H : Heap) : Prop := STA D cI (mA M) t.1 t.2.1 H ∧ STA D cI (nA M) t.1 t.2.2 H
/-- a tick is safe: the reference's own indices are in their rows -/
def TSafe (mv sv : LV) : Prop := pOK sv ∧ cOK (fX6_turn mv sv) ∧ pOK (fX6_turn mv sv) ∧ ((fX6_turn mv sv).1 3).toInt ≤ 16 ∧ ∀ x : Int32, vp_in x 6 → vp_in (aAt (kX6_pass_83 mv (fX6_turn mv sv)) 6 x) 16
def tickM (mv : LV) (_ : Nat) (sv : LV) : LV := fX6_pass mv (fX6_turn mv sv)
def fX7_thrown (mv : LV) (sv : LV) (nv : LV) : LV × LV × LV :=
  (mv, sv, nv)
def rX7_thrown (mv : LV) (sv : LV) (nv : LV) : Int32 :=
  mv.1 0
set_option maxHeartbeats 4000000 in
set_option maxRecDepth 100000 in
theorem c_X7_thrown (l : Launch) (D : va_G) (cI : ClassId) (M : Nat → Nat) (hMi : MInj M) (mv sv nv : LV)   : Met l yX7_thrown wsX7_thrown ({ frames := 0, cells := 0, slots := 0, locals := 0 }) (tr_Pc D cI [.ref ((mA M) 0)] (MPT D cI M (mv, sv, nv))) (tr_Q (some (.int (rX7_thrown mv sv nv))) (MPT D cI M (fX7_thrown mv sv nv)) (mOwn M)) 0 0 (mOwn M) := by
  refine Met.ofW (cc := cX7_thrown) (maxL := 1) (ret := (some .int)) (by decide) rfl ?_
  intro p e s m args below meth c s₁ B hml hv
  obtain ⟨rfl, ⟨hM, hN⟩, hK⟩ := hv
  have hx := B.exec
  have hb := B.bytes
  have hr := B.returns
  have hts := atoms_spec (ws := wsX7_thrown) B.pre
  have hown : s.vm.findClass RX7 = some m.cls := findClass_of_methodNamed B.named
  have hlocks := B.notSynchronized
  have hd := mn_dis hMi
  have hds := nm_dis hMi
  replace hM : STA D cI (mA M) mv sv s.heap := hM
  replace hN : STA D cI (nA M) mv nv s.heap := hN
  have hiX7 : ∀ w ∈ u_ws RX7 TX7 6, w ∈ wsX7_thrown := by decide +kernel
  have f32 := hts (.fieldLink RX7 32 "TramRibbonModel" "thrown" "I") (by decide +kernel)
  have hl := lv_entry ([.ref ((mA M) 0)]) (n := 1) (Nat.le_of_ble_eq_true rfl)
  rw [lg_entry_eq]
  generalize (lg_sl ([.ref ((mA M) 0)]) ++ List.replicate (1 - (lg_sl ([.ref ((mA M) 0)])).length) Slot.unset).toArray = ls at hl ⊢
  replace hl : lv_has ls 1 [(0, .ref ((mA M) 0))] := hl
  have hS : tr_S (mOwn M) s.heap s.heap [] := tr_S.rf
  generalize h1 : s.heap = H, h2 : ([] : List Loc) = locs
  replace hS : tr_S (mOwn M) s.heap H locs := by rw [← h1, ← h2]; exact hS
  rw [h1] at hM hN
  clear h1 h2
  refine lv_aload_n hx hb dX7_thrown_0 rfl (lv_at hl 0 rfl) ?_
  refine tr_get (ci := 7) (C := RX7) (T := TX7) (N := 6) hx hb hts hiX7 hown hK hM.c0 rfl 0 (by decide) f32 (v := .int (mv.1 0)) rfl dX7_thrown_1 ?_
  exact W.iret hx hb hr (hS.endr (by rw [rX7_thrown]) (by rw [fX7_thrown]; exact ⟨hM, hN⟩)) hS.2.2 dX7_thrown_4
def fX7_no (mv : LV) (sv : LV) (nv : LV) (k : Int32) : LV × LV × LV :=
  (lSc mv 0 k, sv, nv)
set_option maxHeartbeats 4000000 in
set_option maxRecDepth 100000 in
theorem c_X7_no (l : Launch) (D : va_G) (cI : ClassId) (M : Nat → Nat) (hMi : MInj M) (mv sv nv : LV) (k : Int32)  : Met l yX7_no wsX7_no ({ frames := 0, cells := 0, slots := 0, locals := 0 }) (tr_Pc D cI [.ref ((mA M) 0), .int k] (MPT D cI M (mv, sv, nv))) (tr_Q (some (.int 0)) (MPT D cI M (fX7_no mv sv nv k)) (mOwn M)) 0 0 (mOwn M) := by
  refine Met.ofW (cc := cX7_no) (maxL := 2) (ret := (some .int)) (by decide) rfl ?_
  intro p e s m args below meth c s₁ B hml hv
  obtain ⟨rfl, ⟨hM, hN⟩, hK⟩ := hv
  have hx := B.exec
  have hb := B.bytes
  have hr := B.returns
  have hts := atoms_spec (ws := wsX7_no) B.pre
  have hown : s.vm.findClass RX7 = some m.cls := findClass_of_methodNamed B.named
  have hlocks := B.notSynchronized
  have hd := mn_dis hMi
  have hds := nm_dis hMi
  replace hM : STA D cI (mA M) mv sv s.heap := hM
  replace hN : STA D cI (nA M) mv nv s.heap := hN
  have hiX7 : ∀ w ∈ u_ws RX7 TX7 6, w ∈ wsX7_no := by decide +kernel
  have f32 := hts (.fieldLink RX7 32 "TramRibbonModel" "thrown" "I") (by decide +kernel)
  have hl := lv_entry ([.ref ((mA M) 0), .int k]) (n := 2) (Nat.le_of_ble_eq_true rfl)
  rw [lg_entry_eq]
  generalize (lg_sl ([.ref ((mA M) 0), .int k]) ++ List.replicate (2 - (lg_sl ([.ref ((mA M) 0), .int k])).length) Slot.unset).toArray = ls at hl ⊢
  replace hl : lv_has ls 2 [(0, .ref ((mA M) 0)), (1, .int k)] := hl
  have hS : tr_S (mOwn M) s.heap s.heap [] := tr_S.rf
  generalize h1 : s.heap = H, h2 : ([] : List Loc) = locs
  replace hS : tr_S (mOwn M) s.heap H locs := by rw [← h1, ← h2]; exact hS
  rw [h1] at hM hN
  clear h1 h2
  refine lv_aload_n hx hb dX7_no_0 rfl (lv_at hl 0 rfl) ?_
  refine lv_iload_n hx hb dX7_no_1 rfl (lv_at hl 1 rfl) ?_
  refine tr_put (ci := 7) (C := RX7) (T := TX7) (N := 6) (ty := .int) (v := .int k) hx hb hts hiX7 tyX7 tyX7_ok nmX7 hown hK hS (mOwn_k (k := 0) (by decide)) hM.c0 rfl 0 (by decide) f32 rfl (by decide +kernel) rfl rfl (Nat.le_of_ble_eq_true rfl) dX7_no_2 (fun H locs hat hz hk hS => ?_)
  have hM : STA D cI (mA M) (lSc mv 0 k) sv H := hM.setM hd.1 0 hat rfl rfl hk
  have hN : STA D cI (nA M) (lSc mv 0 k) nv H := hN.setM hd.2.1 0 hat rfl rfl hk
  clear hat hz hk
  refine lv_iconst (v := 0) hx hb dX7_no_5 (by decide) ?_
  exact W.iret hx hb hr (hS.end (by rw [fX7_no]; exact ⟨hM, hN⟩)) hS.2.2 dX7_no_6
def fX7_isIn (x : Int32) (lo : Int32) (hi : Int32) : Int32 :=
  (if x < lo then 0 else (if hi < x then 0 else 1))
set_option maxHeartbeats 4000000 in
set_option maxRecDepth 100000 in
theorem c_X7_isIn (l : Launch) (D : va_G) (cI : ClassId) (x lo hi : Int32)  : Met l yX7_isIn wsX7_isIn ({ frames := 0, cells := 0, slots := 0, locals := 0 }) (tr_Pc D cI [.int x, .int lo, .int hi] (fun _ => True)) (vp_Si (fun r => r = fX7_isIn x lo hi)) 0 0 (fun _ => False) := by
  refine Met.ofW (cc := cX7_isIn) (maxL := 3) (ret := (some .boolean)) (by decide) rfl ?_
  intro p e s m args below meth c s₁ B hml hv
  obtain ⟨rfl, -, hK⟩ := hv
  have hx := B.exec
  have hb := B.bytes
  have hr := B.returns
  have hts := atoms_spec (ws := wsX7_isIn) B.pre
  have hown : s.vm.findClass RX7 = some m.cls := findClass_of_methodNamed B.named
  have hlocks := B.notSynchronized
  have hl := lv_entry ([.int x, .int lo, .int hi]) (n := 3) (Nat.le_of_ble_eq_true rfl)
  rw [lg_entry_eq]
  generalize (lg_sl ([.int x, .int lo, .int hi]) ++ List.replicate (3 - (lg_sl ([.int x, .int lo, .int hi])).length) Slot.unset).toArray = ls at hl ⊢
  replace hl : lv_has ls 3 [(0, .int x), (1, .int lo), (2, .int hi)] := hl
  refine lv_iload_n hx hb dX7_isIn_0 rfl (lv_at hl 0 rfl) ?_
  refine lv_iload_n hx hb dX7_isIn_1 rfl (lv_at hl 1 rfl) ?_
  refine lv_icmp_lt (tgt := 14) hx hb dX7_isIn_2 (by decide) (fun c_2 => ?_) (fun c_2 => ?_)
  · refine lv_iconst (v := 0) hx hb dX7_isIn_14 (by decide) ?_
    exact W.zret (ty := .boolean) hx hb hr rfl (tr_endi (by rw [fX7_isIn, if_pos c_2])) (fun _ h => by cases h) dX7_isIn_15
  · refine lv_iload_n hx hb dX7_isIn_5 rfl (lv_at hl 0 rfl) ?_
    refine lv_iload_n hx hb dX7_isIn_6 rfl (lv_at hl 2 rfl) ?_
    refine lv_icmp_gt (tgt := 14) hx hb dX7_isIn_7 (by decide) (fun c_7 => ?_) (fun c_7 => ?_)
    · refine lv_iconst (v := 0) hx hb dX7_isIn_14 (by decide) ?_
      exact W.zret (ty := .boolean) hx hb hr rfl (tr_endi (by rw [fX7_isIn, if_neg c_2, if_pos c_7])) (fun _ h => by cases h) dX7_isIn_15
    · refine lv_iconst (v := 1) hx hb dX7_isIn_10 (by decide) ?_
      refine lv_goto (tgt := 15) hx hb dX7_isIn_11 (by decide) ?_
      exact W.zret (ty := .boolean) hx hb hr rfl (tr_endi (by rw [fX7_isIn, if_neg c_2, if_neg c_7])) (fun _ h => by cases h) dX7_isIn_15
def fX7_isPole (mv : LV) (sv : LV) (nv : LV) (k : Int32) : Int32 :=
  fX7_isIn k 0 ((mv.1 1) - 1)
set_option maxHeartbeats 4000000 in
set_option maxRecDepth 100000 in
theorem c_X7_isPole (l : Launch) (D : va_G) (cI : ClassId) (M : Nat → Nat) (hMi : MInj M) (mv sv nv : LV) (k : Int32)  : Met l yX7_isPole wsX7_isPole ({ frames := 1, cells := 0, slots := 0, locals := 22 }) (tr_Pc D cI [.ref ((mA M) 0), .int k] (MPT D cI M (mv, sv, nv))) (vp_Si (fun r => r = fX7_isPole mv sv nv k)) 0 0 (fun _ => False) := by
  refine Met.ofW (cc := cX7_isPole) (maxL := 2) (ret := (some .boolean)) (by decide) rfl ?_
  intro p e s m args below meth c s₁ B hml hv
  obtain ⟨rfl, ⟨hM, hN⟩, hK⟩ := hv
  have hx := B.exec
  have hb := B.bytes
  have hr := B.returns
  have hts := atoms_spec (ws := wsX7_isPole) B.pre
  have hown : s.vm.findClass RX7 = some m.cls := findClass_of_methodNamed B.named
  have hlocks := B.notSynchronized
  have hd := mn_dis hMi
  have hds := nm_dis hMi
  replace hM : STA D cI (mA M) mv sv s.heap := hM
  replace hN : STA D cI (nA M) mv nv s.heap := hN
  have hiX7 : ∀ w ∈ u_ws RX7 TX7 6, w ∈ wsX7_isPole := by decide +kernel
  have f7 := hts (.fieldLink RX7 7 "TramRibbonModel" "poles" "I") (by decide +kernel)
  have hl := lv_entry ([.ref ((mA M) 0), .int k]) (n := 2) (Nat.le_of_ble_eq_true rfl)
  rw [lg_entry_eq]
  generalize (lg_sl ([.ref ((mA M) 0), .int k]) ++ List.replicate (2 - (lg_sl ([.ref ((mA M) 0), .int k])).length) Slot.unset).toArray = ls at hl ⊢
  replace hl : lv_has ls 2 [(0, .ref ((mA M) 0)), (1, .int k)] := hl
  refine lv_iload_n hx hb dX7_isPole_0 rfl (lv_at hl 1 rfl) ?_
  refine lv_iconst (v := 0) hx hb dX7_isPole_1 (by decide) ?_
  refine lv_aload_n hx hb dX7_isPole_2 rfl (lv_at hl 0 rfl) ?_
  refine tr_get (ci := 7) (C := RX7) (T := TX7) (N := 6) hx hb hts hiX7 hown hK hM.c0 rfl 1 (by decide) f7 (v := .int (mv.1 1)) rfl dX7_isPole_3 ?_
  refine lv_iconst (v := 1) hx hb dX7_isPole_6 (by decide) ?_
  refine lv_isub hx hb dX7_isPole_7 ?_
  refine tr_ri (va_runS (As := [.int k, .int 0, .int ((mv.1 1) - 1)]) (rest := []) ⟨hx, hb, hml, hown, hts⟩ (c_X7_isIn l D cI k 0 ((mv.1 1) - 1)) (va_cwS 3 hts gX7_isPole_X7_isIn rfl rfl rfl (by decide +kernel) ⟨Nat.le_of_ble_eq_true rfl, Nat.le_of_ble_eq_true rfl⟩) (tr_preS hK trivial) rfl rfl hl.1 rfl (lv_room (Nat.le_of_ble_eq_true rfl)) dX7_isPole_8 ⟨Nat.zero_le _, Nat.zero_le _⟩) ?_
  exact W.zret (ty := .boolean) hx hb hr (by unfold fX7_isIn; (repeat' split) <;> rfl) (tr_endi (by rw [fX7_isPole])) (fun _ h => by cases h) dX7_isPole_11
def fX7_isSpan (mv : LV) (sv : LV) (nv : LV) (k : Int32) : Int32 :=
  fX7_isIn k 0 ((mv.1 1) - 2)
set_option maxHeartbeats 4000000 in
set_option maxRecDepth 100000 in
theorem c_X7_isSpan (l : Launch) (D : va_G) (cI : ClassId) (M : Nat → Nat) (hMi : MInj M) (mv sv nv : LV) (k : Int32)  : Met l yX7_isSpan wsX7_isSpan ({ frames := 1, cells := 0, slots := 0, locals := 22 }) (tr_Pc D cI [.ref ((mA M) 0), .int k] (MPT D cI M (mv, sv, nv))) (vp_Si (fun r => r = fX7_isSpan mv sv nv k)) 0 0 (fun _ => False) := by
  refine Met.ofW (cc := cX7_isSpan) (maxL := 2) (ret := (some .boolean)) (by decide) rfl ?_
  intro p e s m args below meth c s₁ B hml hv
  obtain ⟨rfl, ⟨hM, hN⟩, hK⟩ := hv
  have hx := B.exec
  have hb := B.bytes
  have hr := B.returns
  have hts := atoms_spec (ws := wsX7_isSpan) B.pre
  have hown : s.vm.findClass RX7 = some m.cls := findClass_of_methodNamed B.named
  have hlocks := B.notSynchronized
  have hd := mn_dis hMi
  have hds := nm_dis hMi
  replace hM : STA D cI (mA M) mv sv s.heap := hM
  replace hN : STA D cI (nA M) mv nv s.heap := hN
  have hiX7 : ∀ w ∈ u_ws RX7 TX7 6, w ∈ wsX7_isSpan := by decide +kernel
  have f7 := hts (.fieldLink RX7 7 "TramRibbonModel" "poles" "I") (by decide +kernel)
  have hl := lv_entry ([.ref ((mA M) 0), .int k]) (n := 2) (Nat.le_of_ble_eq_true rfl)
  rw [lg_entry_eq]
  generalize (lg_sl ([.ref ((mA M) 0), .int k]) ++ List.replicate (2 - (lg_sl ([.ref ((mA M) 0), .int k])).length) Slot.unset).toArray = ls at hl ⊢
  replace hl : lv_has ls 2 [(0, .ref ((mA M) 0)), (1, .int k)] := hl
  refine lv_iload_n hx hb dX7_isSpan_0 rfl (lv_at hl 1 rfl) ?_
  refine lv_iconst (v := 0) hx hb dX7_isSpan_1 (by decide) ?_
  refine lv_aload_n hx hb dX7_isSpan_2 rfl (lv_at hl 0 rfl) ?_
  refine tr_get (ci := 7) (C := RX7) (T := TX7) (N := 6) hx hb hts hiX7 hown hK hM.c0 rfl 1 (by decide) f7 (v := .int (mv.1 1)) rfl dX7_isSpan_3 ?_
  refine lv_iconst (v := 2) hx hb dX7_isSpan_6 (by decide) ?_
  refine lv_isub hx hb dX7_isSpan_7 ?_
  refine tr_ri (va_runS (As := [.int k, .int 0, .int ((mv.1 1) - 2)]) (rest := []) ⟨hx, hb, hml, hown, hts⟩ (c_X7_isIn l D cI k 0 ((mv.1 1) - 2)) (va_cwS 3 hts gX7_isSpan_X7_isIn rfl rfl rfl (by decide +kernel) ⟨Nat.le_of_ble_eq_true rfl, Nat.le_of_ble_eq_true rfl⟩) (tr_preS hK trivial) rfl rfl hl.1 rfl (lv_room (Nat.le_of_ble_eq_true rfl)) dX7_isSpan_8 ⟨Nat.zero_le _, Nat.zero_le _⟩) ?_
  exact W.zret (ty := .boolean) hx hb hr (by unfold fX7_isIn; (repeat' split) <;> rfl) (tr_endi (by rw [fX7_isSpan])) (fun _ h => by cases h) dX7_isSpan_11
def fX7_isSection (mv : LV) (sv : LV) (nv : LV) (k : Int32) : Int32 :=
  fX7_isIn k 0 ((sv.1 3) - 1)
set_option maxHeartbeats 4000000 in
set_option maxRecDepth 100000 in
theorem c_X7_isSection (l : Launch) (D : va_G) (cI : ClassId) (M : Nat → Nat) (hMi : MInj M) (mv sv nv : LV) (k : Int32)  : Met l yX7_isSection wsX7_isSection ({ frames := 1, cells := 0, slots := 0, locals := 22 }) (tr_Pc D cI [.ref ((mA M) 0), .int k] (MPT D cI M (mv, sv, nv))) (vp_Si (fun r => r = fX7_isSection mv sv nv k)) 0 0 (fun _ => False) := by
  refine Met.ofW (cc := cX7_isSection) (maxL := 2) (ret := (some .boolean)) (by decide) rfl ?_
  intro p e s m args below meth c s₁ B hml hv
  obtain ⟨rfl, ⟨hM, hN⟩, hK⟩ := hv
  have hx := B.exec
  have hb := B.bytes
  have hr := B.returns
  have hts := atoms_spec (ws := wsX7_isSection) B.pre
  have hown : s.vm.findClass RX7 = some m.cls := findClass_of_methodNamed B.named
  have hlocks := B.notSynchronized
  have hd := mn_dis hMi
  have hds := nm_dis hMi
  replace hM : STA D cI (mA M) mv sv s.heap := hM
  replace hN : STA D cI (nA M) mv nv s.heap := hN
  have hiX6 : ∀ w ∈ u_ws RX6 TX6 19, w ∈ wsX7_isSection := by decide +kernel
  have hiX7 : ∀ w ∈ u_ws RX7 TX7 6, w ∈ wsX7_isSection := by decide +kernel
  have f22 := hts (.fieldLink RX7 22 "TramRibbonModel" "s" "LTramRibbonModel$State;") (by decide +kernel)
  have hl := lv_entry ([.ref ((mA M) 0), .int k]) (n := 2) (Nat.le_of_ble_eq_true rfl)
  rw [lg_entry_eq]
  generalize (lg_sl ([.ref ((mA M) 0), .int k]) ++ List.replicate (2 - (lg_sl ([.ref ((mA M) 0), .int k])).length) Slot.unset).toArray = ls at hl ⊢
  replace hl : lv_has ls 2 [(0, .ref ((mA M) 0)), (1, .int k)] := hl
  refine lv_iload_n hx hb dX7_isSection_0 rfl (lv_at hl 1 rfl) ?_
  refine lv_iconst (v := 0) hx hb dX7_isSection_1 (by decide) ?_
  refine lv_aload_n hx hb dX7_isSection_2 rfl (lv_at hl 0 rfl) ?_
  refine tr_get (ci := 7) (C := RX7) (T := TX7) (N := 6) hx hb hts hiX7 hown hK hM.c0 rfl 4 (by decide) f22 (v := .ref ((mA M) 2)) rfl dX7_isSection_3 ?_
  refine tr_getN (host := "TramRibbonModel") (ci := 6) (C := RX6) (T := TX6) (N := 19) hx hb hts hiX6 hown hK hM.c2 rfl 3 (by decide) (by decide +kernel) (v := .int (sv.1 3)) rfl dX7_isSection_6 ?_
  refine lv_iconst (v := 1) hx hb dX7_isSection_9 (by decide) ?_
  refine lv_isub hx hb dX7_isSection_10 ?_
  refine tr_ri (va_runS (As := [.int k, .int 0, .int ((sv.1 3) - 1)]) (rest := []) ⟨hx, hb, hml, hown, hts⟩ (c_X7_isIn l D cI k 0 ((sv.1 3) - 1)) (va_cwS 3 hts gX7_isSection_X7_isIn rfl rfl rfl (by decide +kernel) ⟨Nat.le_of_ble_eq_true rfl, Nat.le_of_ble_eq_true rfl⟩) (tr_preS hK trivial) rfl rfl hl.1 rfl (lv_room (Nat.le_of_ble_eq_true rfl)) dX7_isSection_11 ⟨Nat.zero_le _, Nat.zero_le _⟩) ?_
  exact W.zret (ty := .boolean) hx hb hr (by unfold fX7_isIn; (repeat' split) <;> rfl) (tr_endi (by rw [fX7_isSection])) (fun _ h => by cases h) dX7_isSection_14
theorem isIn_in {x lo hi : Int32} (h : ¬ fX7_isIn x lo hi = 0) : lo.toInt ≤ x.toInt ∧ x.toInt ≤ hi.toInt := by
  unfold fX7_isIn at h
  by_cases h1 : x < lo
  · rw [if_pos h1] at h; exact absurd rfl h
  · rw [if_neg h1] at h
    by_cases h2 : hi < x
    · rw [if_pos h2] at h; exact absurd rfl h
    · have h3 := mt Int32.lt_iff_toInt_lt.mpr h1
      have h4 := mt Int32.lt_iff_toInt_lt.mpr h2
      omega
theorem poles_1 {mv : LV} (hm : mOK mv) : ((mv.1 1) - 1).toInt = (mv.1 1).toInt - 1 := by
  rw [Int32.toInt_sub, show (1 : Int32).toInt = 1 from rfl]
  have := hm.1
  exact Int.bmod_eq_of_le (by omega) (by omega)
theorem poles_2 {mv : LV} (hm : mOK mv) : ((mv.1 1) - 2).toInt = (mv.1 1).toInt - 2 := by
  rw [Int32.toInt_sub, show (2 : Int32).toInt = 2 from rfl]
  have := hm.1
  exact Int.bmod_eq_of_le (by omega) (by omega)
theorem isPole_in {mv sv nv : LV} {k : Int32} (hm : mOK mv) (h : ¬ fX7_isPole mv sv nv k = 0) : vp_in k 16 := by
  have h1 := isIn_in (show ¬ fX7_isIn k 0 ((mv.1 1) - 1) = 0 from h)
  rw [poles_1 hm, show (0 : Int32).toInt = 0 from rfl] at h1
  have := hm.1
  exact tr_vi h1.1 (by omega)
theorem isSpan_in {mv sv nv : LV} {k : Int32} (hm : mOK mv) (h : ¬ fX7_isSpan mv sv nv k = 0) : vp_in k 16 := by
  have h1 := isIn_in (show ¬ fX7_isIn k 0 ((mv.1 1) - 2) = 0 from h)
  rw [poles_2 hm, show (0 : Int32).toInt = 0 from rfl] at h1
  have := hm.1
  exact tr_vi h1.1 (by omega)
/-- how many sections -/
def nOK (sv : LV) : Prop := 1 ≤ (sv.1 3).toInt ∧ (sv.1 3).toInt ≤ 15
theorem isSection_in {mv sv nv : LV} {k : Int32} (hn : nOK sv) (h : ¬ fX7_isSection mv sv nv k = 0) : vp_in k 16 := by
  have h1 := isIn_in (show ¬ fX7_isIn k 0 ((sv.1 3) - 1) = 0 from h)
  have e : ((sv.1 3) - 1).toInt = (sv.1 3).toInt - 1 := by
    rw [Int32.toInt_sub, show (1 : Int32).toInt = 1 from rfl]
    have := hn
    unfold nOK at this
    exact Int.bmod_eq_of_le (by omega) (by omega)
  rw [e, show (0 : Int32).toInt = 0 from rfl] at h1
  unfold nOK at hn
  exact tr_vi h1.1 (by omega)
def bX7_build_53 (mv : LV) (sv : LV) (nv : LV) (po : Int32) (i : Nat) (a : LV) : LV :=
  aSet a 0 (nI i) 0
def fX7_build (mv : LV) (sv : LV) (nv : LV) (po : Int32) : LV × LV × LV :=
  (if (fX7_isIn po 3 16) = 0 then (lSc (lSc mv 0 0) 0 1, sv, nv) else (if (mv.1 2) ≤ 0 then (itI 16 (bX7_build_53 mv sv nv po) (lSc (lSc mv 0 0) 1 po), fX6_renew (lSc (lSc mv 0 0) 1 po) sv, nv) else (lSc (lSc mv 0 0) 0 2, sv, nv)))
def rX7_build (mv : LV) (sv : LV) (nv : LV) (po : Int32) : Int32 :=
  (if (fX7_isIn po 3 16) = 0 then 0 else (if (mv.1 2) ≤ 0 then mv.1 1 else 0))
set_option maxHeartbeats 4000000 in
set_option maxRecDepth 100000 in
theorem c_X7_build (l : Launch) (D : va_G) (cI : ClassId) (M : Nat → Nat) (hMi : MInj M) (mv sv nv : LV) (po : Int32)  : Met l yX7_build wsX7_build ({ frames := 1, cells := 0, slots := 0, locals := 22 }) (tr_Pc D cI [.ref ((mA M) 0), .int po] (MPT D cI M (mv, sv, nv))) (tr_Q (some (.int (rX7_build mv sv nv po))) (MPT D cI M (fX7_build mv sv nv po)) (mOwn M)) 0 0 (mOwn M) := by
  refine Met.ofW (cc := cX7_build) (maxL := 4) (ret := (some .int)) (by decide) rfl ?_
  intro p e s m args below meth c s₁ B hml hv
  obtain ⟨rfl, ⟨hM, hN⟩, hK⟩ := hv
  have hx := B.exec
  have hb := B.bytes
  have hr := B.returns
  have hts := atoms_spec (ws := wsX7_build) B.pre
  have hown : s.vm.findClass RX7 = some m.cls := findClass_of_methodNamed B.named
  have hlocks := B.notSynchronized
  have hd := mn_dis hMi
  have hds := nm_dis hMi
  replace hM : STA D cI (mA M) mv sv s.heap := hM
  replace hN : STA D cI (nA M) mv nv s.heap := hN
  have hiX7 : ∀ w ∈ u_ws RX7 TX7 6, w ∈ wsX7_build := by decide +kernel
  have f13 := hts (.fieldLink RX7 13 "TramRibbonModel" "slope" "[I") (by decide +kernel)
  have f22 := hts (.fieldLink RX7 22 "TramRibbonModel" "s" "LTramRibbonModel$State;") (by decide +kernel)
  have f32 := hts (.fieldLink RX7 32 "TramRibbonModel" "thrown" "I") (by decide +kernel)
  have f46 := hts (.fieldLink RX7 46 "TramRibbonModel" "cars" "I") (by decide +kernel)
  have f7 := hts (.fieldLink RX7 7 "TramRibbonModel" "poles" "I") (by decide +kernel)
  have hl := lv_entry ([.ref ((mA M) 0), .int po]) (n := 4) (Nat.le_of_ble_eq_true rfl)
  rw [lg_entry_eq]
  generalize (lg_sl ([.ref ((mA M) 0), .int po]) ++ List.replicate (4 - (lg_sl ([.ref ((mA M) 0), .int po])).length) Slot.unset).toArray = ls at hl ⊢
  replace hl : lv_has ls 4 [(0, .ref ((mA M) 0)), (1, .int po)] := hl
  have hS : tr_S (mOwn M) s.heap s.heap [] := tr_S.rf
  generalize h1 : s.heap = H, h2 : ([] : List Loc) = locs
  replace hS : tr_S (mOwn M) s.heap H locs := by rw [← h1, ← h2]; exact hS
  rw [h1] at hM hN
  clear h1 h2
  refine lv_aload_n hx hb dX7_build_0 rfl (lv_at hl 0 rfl) ?_
  refine lv_iconst (v := 0) hx hb dX7_build_1 (by decide) ?_
  refine tr_put (ci := 7) (C := RX7) (T := TX7) (N := 6) (ty := .int) (v := .int 0) hx hb hts hiX7 tyX7 tyX7_ok nmX7 hown hK hS (mOwn_k (k := 0) (by decide)) hM.c0 rfl 0 (by decide) f32 rfl (by decide +kernel) rfl rfl (Nat.le_of_ble_eq_true rfl) dX7_build_2 (fun H locs hat hz hk hS => ?_)
  have hM : STA D cI (mA M) (lSc mv 0 0) sv H := hM.setM hd.1 0 hat rfl rfl hk
  have hN : STA D cI (nA M) (lSc mv 0 0) nv H := hN.setM hd.2.1 0 hat rfl rfl hk
  clear hat hz hk
  refine lv_iload_n hx hb dX7_build_5 rfl (lv_at hl 1 rfl) ?_
  refine lv_iconst (v := 3) hx hb dX7_build_6 (by decide) ?_
  refine lv_bipush (v := 16) hx hb dX7_build_7 (by decide) ?_
  refine tr_ri (va_runS (As := [.int po, .int 3, .int 16]) (rest := []) ⟨hx, hb, hml, hown, hts⟩ (c_X7_isIn l D cI po 3 16) (va_cwS 3 hts gX7_build_X7_isIn rfl rfl rfl (by decide +kernel) ⟨Nat.le_of_ble_eq_true rfl, Nat.le_of_ble_eq_true rfl⟩) (tr_preS hK trivial) rfl rfl hl.1 rfl (lv_room (Nat.le_of_ble_eq_true rfl)) dX7_build_9 ⟨Nat.zero_le _, Nat.zero_le _⟩) ?_
  refine lv_if_ne (tgt := 21) hx hb dX7_build_12 (by decide) (fun c_12 => ?_) (fun c_12 => ?_)
  · refine lv_aload_n hx hb dX7_build_21 rfl (lv_at hl 0 rfl) ?_
    refine tr_get (ci := 7) (C := RX7) (T := TX7) (N := 6) hx hb hts hiX7 hown hK hM.c0 rfl 2 (by decide) f46 (v := .int (mv.1 2)) rfl dX7_build_22 ?_
    refine lv_if_le (tgt := 34) hx hb dX7_build_25 (by decide) (fun c_25 => ?_) (fun c_25 => ?_)
    · refine lv_aload_n hx hb dX7_build_34 rfl (lv_at hl 0 rfl) ?_
      refine tr_get (ci := 7) (C := RX7) (T := TX7) (N := 6) hx hb hts hiX7 hown hK hM.c0 rfl 1 (by decide) f7 (v := .int (mv.1 1)) rfl dX7_build_35 ?_
      refine lv_istore_n (lv' := [(2, .int (mv.1 1)), (0, .ref ((mA M) 0)), (1, .int po)]) hx hb dX7_build_38 rfl hl (by decide) rfl (fun ls hl => ?_)
      refine lv_aload_n hx hb dX7_build_39 rfl (lv_at hl 1 rfl) ?_
      refine lv_iload_n hx hb dX7_build_40 rfl (lv_at hl 2 rfl) ?_
      refine tr_put (ci := 7) (C := RX7) (T := TX7) (N := 6) (ty := .int) (v := .int po) hx hb hts hiX7 tyX7 tyX7_ok nmX7 hown hK hS (mOwn_k (k := 0) (by decide)) hM.c0 rfl 1 (by decide) f7 rfl (by decide +kernel) rfl rfl (Nat.le_of_ble_eq_true rfl) dX7_build_41 (fun H locs hat hz hk hS => ?_)
      have hM : STA D cI (mA M) (lSc (lSc mv 0 0) 1 po) sv H := hM.setM hd.1 1 hat rfl rfl hk
      have hN : STA D cI (nA M) (lSc (lSc mv 0 0) 1 po) nv H := hN.setM hd.2.1 1 hat rfl rfl hk
      clear hat hz hk
      refine lv_aload_n hx hb dX7_build_44 rfl (lv_at hl 1 rfl) ?_
      refine tr_get (ci := 7) (C := RX7) (T := TX7) (N := 6) hx hb hts hiX7 hown hK hM.c0 rfl 4 (by decide) f22 (v := .ref ((mA M) 2)) rfl dX7_build_45 ?_
      refine tr_wv (va_runV (As := []) (rest := []) ⟨hx, hb, hml, hown, hts⟩ (c_X6_renew l D cI (mA M) hd.1 (lSc (lSc mv 0 0) 1 po) sv  ) (cwV 0 hts gX7_build_X6_renew rfl rfl rfl (by decide +kernel) ⟨Nat.le_of_ble_eq_true rfl, Nat.le_of_ble_eq_true rfl⟩) (tr_preV hK hM.c2 rfl hM) rfl rfl hl.1 rfl (lv_room (Nat.le_of_ble_eq_true rfl)) dX7_build_48 ⟨Nat.zero_le _, Nat.zero_le _⟩) hS mOwn_s (fun H locs hM hz hk hS => ?_)
      replace hN := st_keepO hd hN hk
      clear hk hz
      refine lv_iconst (v := 0) hx hb dX7_build_51 (by decide) ?_
      refine lv_istore_n (lv' := [(3, .int 0), (2, .int (mv.1 1)), (0, .ref ((mA M) 0)), (1, .int po)]) hx hb dX7_build_52 rfl hl (by decide) rfl (fun ls hl => ?_)
      have hinv := And.intro (show STA D cI (mA M) (lSc (lSc mv 0 0) 1 po) (fX6_renew (lSc (lSc mv 0 0) 1 po) sv) H ∧ STA D cI (nA M) (lSc (lSc mv 0 0) 1 po) nv H ∧ tr_S (mOwn M) s.heap H locs from ⟨hM, hN, hS⟩) hl
      clear hM hN hS hl
      revert hinv; revert ls; revert locs; revert H
      refine tr_forw (fun i H locs ls => (STA D cI (mA M) (itI i (bX7_build_53 mv sv nv po) (lSc (lSc mv 0 0) 1 po)) (fX6_renew (lSc (lSc mv 0 0) 1 po) sv) H ∧ STA D cI (nA M) (itI i (bX7_build_53 mv sv nv po) (lSc (lSc mv 0 0) 1 po)) nv H ∧ tr_S (mOwn M) s.heap H locs) ∧ lv_has ls 4 [(0, .ref ((mA M) 0)), (1, .int po), (2, .int (mv.1 1)), (3, .int (nI i))]) (16) (fun H locs ls hinv => ?_) ?_
      · obtain ⟨⟨hM, hN, hS⟩, hl⟩ := hinv
        exact ⟨⟨by rw [itI_0]; exact hM, by rw [itI_0]; exact hN, hS⟩, lv_sub hl [2, 3, 1, 0] rfl⟩
      intro i H locs ls hi hinv ih
      obtain ⟨⟨hM, hN, hS⟩, hl⟩ := hinv
      refine lv_iload_n hx hb dX7_build_53 rfl (lv_at hl 3 rfl) ?_
      refine lv_bipush (v := 16) hx hb dX7_build_54 (by decide) ?_
      refine lv_icmp_ge (tgt := 72) hx hb dX7_build_56 (by decide) (fun c_56 => ?_) (fun c_56 => ?_)
      · have hN : i = 16 := tr_over rfl hi c_56
        subst hN
        refine lv_iload_n hx hb dX7_build_72 rfl (lv_at hl 2 rfl) ?_
        exact W.iret hx hb hr (hS.endr (by rw [rX7_build, if_neg c_12, if_pos c_25]) (by rw [fX7_build, if_neg c_12, if_pos c_25]; exact ⟨hM, hN⟩)) hS.2.2 dX7_build_73
      · have hlt : i < 16 := tr_on rfl hi c_56
        refine lv_aload_n hx hb dX7_build_59 rfl (lv_at hl 0 rfl) ?_
        refine tr_get (ci := 7) (C := RX7) (T := TX7) (N := 6) hx hb hts hiX7 hown hK hM.c0 rfl 3 (by decide) f13 (v := .ref ((mA M) 1)) rfl dX7_build_60 ?_
        refine lv_iload_n hx hb dX7_build_63 rfl (lv_at hl 3 rfl) ?_
        refine lv_iconst (v := 0) hx hb dX7_build_64 (by decide) ?_
        refine tr_iast hx hb hK hS (mOwn_k (k := 1) (by decide)) hM.c1 (tr_vp hlt (by decide)) dX7_build_65 (fun H locs hat hz hk hS => ?_)
        have hM : STA D cI (mA M) (aSet (itI i (bX7_build_53 mv sv nv po) (lSc (lSc mv 0 0) 1 po)) 0 (nI i) 0) (fX6_renew (lSc (lSc mv 0 0) 1 po) sv) H := hM.setSl hd.1 hat rfl hk
        have hN : STA D cI (nA M) (aSet (itI i (bX7_build_53 mv sv nv po) (lSc (lSc mv 0 0) 1 po)) 0 (nI i) 0) nv H := hN.setSl hd.2.1 hat rfl hk
        clear hat hz hk
        refine lv_iinc (v := nI (i + 1)) (lv' := [(3, .int (nI (i + 1))), (0, .ref ((mA M) 0)), (1, .int po), (2, .int (mv.1 1))]) hx hb dX7_build_66 hl (k := 3) rfl (tr_inc _) (by decide) rfl (fun ls hl => ?_)
        refine lv_goto (tgt := 53) hx hb dX7_build_69 (by decide) ?_
        have e9 : itI (i + 1) (bX7_build_53 mv sv nv po) (lSc (lSc mv 0 0) 1 po) = aSet (itI i (bX7_build_53 mv sv nv po) (lSc (lSc mv 0 0) 1 po)) 0 (nI i) 0 := by rw [itI_s, bX7_build_53]
        exact ih H locs ls hlt ⟨⟨by rw [e9]; exact hM, by rw [e9]; exact hN, hS⟩, lv_sub hl [1, 2, 3, 0] rfl⟩
    · refine lv_aload_n hx hb dX7_build_28 rfl (lv_at hl 0 rfl) ?_
      refine lv_iconst (v := 2) hx hb dX7_build_29 (by decide) ?_
      refine tr_ci (va_runV (As := [.int 2]) (rest := []) ⟨hx, hb, hml, hown, hts⟩ (c_X7_no l D cI M hMi (lSc mv 0 0) sv nv 2 ) (cwV 1 hts gX7_build_X7_no rfl rfl rfl (by decide +kernel) ⟨Nat.le_of_ble_eq_true rfl, Nat.le_of_ble_eq_true rfl⟩) (tr_preV hK hM.c0 rfl ⟨hM, hN⟩) rfl rfl hl.1 rfl (lv_room (Nat.le_of_ble_eq_true rfl)) dX7_build_30 ⟨Nat.zero_le _, Nat.zero_le _⟩) hS (fun _ h => h) (fun H locs h9 hS => ?_)
      have hM : STA D cI (mA M) (lSc (lSc mv 0 0) 0 2) sv H := h9.1
      have hN : STA D cI (nA M) (lSc (lSc mv 0 0) 0 2) nv H := h9.2
      clear h9
      exact W.iret hx hb hr (hS.endr (by rw [rX7_build, if_neg c_12, if_neg c_25]) (by rw [fX7_build, if_neg c_12, if_neg c_25]; exact ⟨hM, hN⟩)) hS.2.2 dX7_build_33
  · refine lv_aload_n hx hb dX7_build_15 rfl (lv_at hl 0 rfl) ?_
    refine lv_iconst (v := 1) hx hb dX7_build_16 (by decide) ?_
    refine tr_ci (va_runV (As := [.int 1]) (rest := []) ⟨hx, hb, hml, hown, hts⟩ (c_X7_no l D cI M hMi (lSc mv 0 0) sv nv 1 ) (cwV 1 hts gX7_build_X7_no rfl rfl rfl (by decide +kernel) ⟨Nat.le_of_ble_eq_true rfl, Nat.le_of_ble_eq_true rfl⟩) (tr_preV hK hM.c0 rfl ⟨hM, hN⟩) rfl rfl hl.1 rfl (lv_room (Nat.le_of_ble_eq_true rfl)) dX7_build_17 ⟨Nat.zero_le _, Nat.zero_le _⟩) hS (fun _ h => h) (fun H locs h9 hS => ?_)
    have hM : STA D cI (mA M) (lSc (lSc mv 0 0) 0 1) sv H := h9.1
    have hN : STA D cI (nA M) (lSc (lSc mv 0 0) 0 1) nv H := h9.2
    clear h9
    exact W.iret hx hb hr (hS.endr (by rw [rX7_build, if_pos c_12]) (by rw [fX7_build, if_pos c_12]; exact ⟨hM, hN⟩)) hS.2.2 dX7_build_20
def fX7_setSlope (mv : LV) (sv : LV) (nv : LV) (sp : Int32) (sl : Int32) : LV × LV × LV :=
  (if (fX7_isSpan (lSc mv 0 0) sv nv sp) = 0 then (lSc (lSc mv 0 0) 0 1, sv, nv) else (if (fX7_isIn sl (-3) 3) = 0 then (lSc (lSc mv 0 0) 0 2, sv, nv) else (aSet (lSc mv 0 0) 0 sp sl, sv, nv)))
def rX7_setSlope (mv : LV) (sv : LV) (nv : LV) (sp : Int32) (sl : Int32) : Int32 :=
  (if (fX7_isSpan (lSc mv 0 0) sv nv sp) = 0 then 0 else (if (fX7_isIn sl (-3) 3) = 0 then 0 else aAt (lSc mv 0 0) 0 sp))
set_option maxHeartbeats 4000000 in
set_option maxRecDepth 100000 in
theorem c_X7_setSlope (l : Launch) (D : va_G) (cI : ClassId) (M : Nat → Nat) (hMi : MInj M) (mv sv nv : LV) (sp : Int32) (sl : Int32) (hm : mOK mv) : Met l yX7_setSlope wsX7_setSlope ({ frames := 2, cells := 0, slots := 0, locals := 43 }) (tr_Pc D cI [.ref ((mA M) 0), .int sp, .int sl] (MPT D cI M (mv, sv, nv))) (tr_Q (some (.int (rX7_setSlope mv sv nv sp sl))) (MPT D cI M (fX7_setSlope mv sv nv sp sl)) (mOwn M)) 0 0 (mOwn M) := by
  refine Met.ofW (cc := cX7_setSlope) (maxL := 4) (ret := (some .int)) (by decide) rfl ?_
  intro p e s m args below meth c s₁ B hml hv
  obtain ⟨rfl, ⟨hM, hN⟩, hK⟩ := hv
  have hx := B.exec
  have hb := B.bytes
  have hr := B.returns
  have hts := atoms_spec (ws := wsX7_setSlope) B.pre
  have hown : s.vm.findClass RX7 = some m.cls := findClass_of_methodNamed B.named
  have hlocks := B.notSynchronized
  have hd := mn_dis hMi
  have hds := nm_dis hMi
  replace hM : STA D cI (mA M) mv sv s.heap := hM
  replace hN : STA D cI (nA M) mv nv s.heap := hN
  have hiX7 : ∀ w ∈ u_ws RX7 TX7 6, w ∈ wsX7_setSlope := by decide +kernel
  have f13 := hts (.fieldLink RX7 13 "TramRibbonModel" "slope" "[I") (by decide +kernel)
  have f32 := hts (.fieldLink RX7 32 "TramRibbonModel" "thrown" "I") (by decide +kernel)
  have hl := lv_entry ([.ref ((mA M) 0), .int sp, .int sl]) (n := 4) (Nat.le_of_ble_eq_true rfl)
  rw [lg_entry_eq]
  generalize (lg_sl ([.ref ((mA M) 0), .int sp, .int sl]) ++ List.replicate (4 - (lg_sl ([.ref ((mA M) 0), .int sp, .int sl])).length) Slot.unset).toArray = ls at hl ⊢
  replace hl : lv_has ls 4 [(0, .ref ((mA M) 0)), (1, .int sp), (2, .int sl)] := hl
  have hS : tr_S (mOwn M) s.heap s.heap [] := tr_S.rf
  generalize h1 : s.heap = H, h2 : ([] : List Loc) = locs
  replace hS : tr_S (mOwn M) s.heap H locs := by rw [← h1, ← h2]; exact hS
  rw [h1] at hM hN
  clear h1 h2
  refine lv_aload_n hx hb dX7_setSlope_0 rfl (lv_at hl 0 rfl) ?_
  refine lv_iconst (v := 0) hx hb dX7_setSlope_1 (by decide) ?_
  refine tr_put (ci := 7) (C := RX7) (T := TX7) (N := 6) (ty := .int) (v := .int 0) hx hb hts hiX7 tyX7 tyX7_ok nmX7 hown hK hS (mOwn_k (k := 0) (by decide)) hM.c0 rfl 0 (by decide) f32 rfl (by decide +kernel) rfl rfl (Nat.le_of_ble_eq_true rfl) dX7_setSlope_2 (fun H locs hat hz hk hS => ?_)
  have hM : STA D cI (mA M) (lSc mv 0 0) sv H := hM.setM hd.1 0 hat rfl rfl hk
  have hN : STA D cI (nA M) (lSc mv 0 0) nv H := hN.setM hd.2.1 0 hat rfl rfl hk
  clear hat hz hk
  refine lv_aload_n hx hb dX7_setSlope_5 rfl (lv_at hl 0 rfl) ?_
  refine lv_iload_n hx hb dX7_setSlope_6 rfl (lv_at hl 1 rfl) ?_
  refine tr_ri (va_runV (As := [.int sp]) (rest := []) ⟨hx, hb, hml, hown, hts⟩ (c_X7_isSpan l D cI M hMi (lSc mv 0 0) sv nv sp ) (cwV 1 hts gX7_setSlope_X7_isSpan rfl rfl rfl (by decide +kernel) ⟨Nat.le_of_ble_eq_true rfl, Nat.le_of_ble_eq_true rfl⟩) (tr_preV hK hM.c0 rfl ⟨hM, hN⟩) rfl rfl hl.1 rfl (lv_room (Nat.le_of_ble_eq_true rfl)) dX7_setSlope_7 ⟨Nat.zero_le _, Nat.zero_le _⟩) ?_
  refine lv_if_ne (tgt := 19) hx hb dX7_setSlope_10 (by decide) (fun c_10 => ?_) (fun c_10 => ?_)
  · refine lv_iload_n hx hb dX7_setSlope_19 rfl (lv_at hl 2 rfl) ?_
    refine lv_bipush (v := -3) hx hb dX7_setSlope_20 (by decide) ?_
    refine lv_iconst (v := 3) hx hb dX7_setSlope_22 (by decide) ?_
    refine tr_ri (va_runS (As := [.int sl, .int (-3), .int 3]) (rest := []) ⟨hx, hb, hml, hown, hts⟩ (c_X7_isIn l D cI sl (-3) 3) (va_cwS 3 hts gX7_setSlope_X7_isIn rfl rfl rfl (by decide +kernel) ⟨Nat.le_of_ble_eq_true rfl, Nat.le_of_ble_eq_true rfl⟩) (tr_preS hK trivial) rfl rfl hl.1 rfl (lv_room (Nat.le_of_ble_eq_true rfl)) dX7_setSlope_23 ⟨Nat.zero_le _, Nat.zero_le _⟩) ?_
    refine lv_if_ne (tgt := 35) hx hb dX7_setSlope_26 (by decide) (fun c_26 => ?_) (fun c_26 => ?_)
    · refine lv_aload_n hx hb dX7_setSlope_35 rfl (lv_at hl 0 rfl) ?_
      refine tr_get (ci := 7) (C := RX7) (T := TX7) (N := 6) hx hb hts hiX7 hown hK hM.c0 rfl 3 (by decide) f13 (v := .ref ((mA M) 1)) rfl dX7_setSlope_36 ?_
      refine lv_iload_n hx hb dX7_setSlope_39 rfl (lv_at hl 1 rfl) ?_
      refine tr_mald hx hb hK hM (isSpan_in (mv := lSc mv 0 0) (sv := sv) (nv := nv) hm c_10) dX7_setSlope_40 ?_
      refine lv_istore_n (lv' := [(3, .int (aAt (lSc mv 0 0) 0 sp)), (0, .ref ((mA M) 0)), (1, .int sp), (2, .int sl)]) hx hb dX7_setSlope_41 rfl hl (by decide) rfl (fun ls hl => ?_)
      refine lv_aload_n hx hb dX7_setSlope_42 rfl (lv_at hl 1 rfl) ?_
      refine tr_get (ci := 7) (C := RX7) (T := TX7) (N := 6) hx hb hts hiX7 hown hK hM.c0 rfl 3 (by decide) f13 (v := .ref ((mA M) 1)) rfl dX7_setSlope_43 ?_
      refine lv_iload_n hx hb dX7_setSlope_46 rfl (lv_at hl 2 rfl) ?_
      refine lv_iload_n hx hb dX7_setSlope_47 rfl (lv_at hl 3 rfl) ?_
      refine tr_iast hx hb hK hS (mOwn_k (k := 1) (by decide)) hM.c1 (isSpan_in (mv := lSc mv 0 0) (sv := sv) (nv := nv) hm c_10) dX7_setSlope_48 (fun H locs hat hz hk hS => ?_)
      have hM : STA D cI (mA M) (aSet (lSc mv 0 0) 0 sp sl) sv H := hM.setSl hd.1 hat rfl hk
      have hN : STA D cI (nA M) (aSet (lSc mv 0 0) 0 sp sl) nv H := hN.setSl hd.2.1 hat rfl hk
      clear hat hz hk
      refine lv_iload_n hx hb dX7_setSlope_49 rfl (lv_at hl 0 rfl) ?_
      exact W.iret hx hb hr (hS.endr (by rw [rX7_setSlope, if_neg c_10, if_neg c_26]) (by rw [fX7_setSlope, if_neg c_10, if_neg c_26]; exact ⟨hM, hN⟩)) hS.2.2 dX7_setSlope_50
    · refine lv_aload_n hx hb dX7_setSlope_29 rfl (lv_at hl 0 rfl) ?_
      refine lv_iconst (v := 2) hx hb dX7_setSlope_30 (by decide) ?_
      refine tr_ci (va_runV (As := [.int 2]) (rest := []) ⟨hx, hb, hml, hown, hts⟩ (c_X7_no l D cI M hMi (lSc mv 0 0) sv nv 2 ) (cwV 1 hts gX7_setSlope_X7_no rfl rfl rfl (by decide +kernel) ⟨Nat.le_of_ble_eq_true rfl, Nat.le_of_ble_eq_true rfl⟩) (tr_preV hK hM.c0 rfl ⟨hM, hN⟩) rfl rfl hl.1 rfl (lv_room (Nat.le_of_ble_eq_true rfl)) dX7_setSlope_31 ⟨Nat.zero_le _, Nat.zero_le _⟩) hS (fun _ h => h) (fun H locs h9 hS => ?_)
      have hM : STA D cI (mA M) (lSc (lSc mv 0 0) 0 2) sv H := h9.1
      have hN : STA D cI (nA M) (lSc (lSc mv 0 0) 0 2) nv H := h9.2
      clear h9
      exact W.iret hx hb hr (hS.endr (by rw [rX7_setSlope, if_neg c_10, if_pos c_26]) (by rw [fX7_setSlope, if_neg c_10, if_pos c_26]; exact ⟨hM, hN⟩)) hS.2.2 dX7_setSlope_34
  · refine lv_aload_n hx hb dX7_setSlope_13 rfl (lv_at hl 0 rfl) ?_
    refine lv_iconst (v := 1) hx hb dX7_setSlope_14 (by decide) ?_
    refine tr_ci (va_runV (As := [.int 1]) (rest := []) ⟨hx, hb, hml, hown, hts⟩ (c_X7_no l D cI M hMi (lSc mv 0 0) sv nv 1 ) (cwV 1 hts gX7_setSlope_X7_no rfl rfl rfl (by decide +kernel) ⟨Nat.le_of_ble_eq_true rfl, Nat.le_of_ble_eq_true rfl⟩) (tr_preV hK hM.c0 rfl ⟨hM, hN⟩) rfl rfl hl.1 rfl (lv_room (Nat.le_of_ble_eq_true rfl)) dX7_setSlope_15 ⟨Nat.zero_le _, Nat.zero_le _⟩) hS (fun _ h => h) (fun H locs h9 hS => ?_)
    have hM : STA D cI (mA M) (lSc (lSc mv 0 0) 0 1) sv H := h9.1
    have hN : STA D cI (nA M) (lSc (lSc mv 0 0) 0 1) nv H := h9.2
    clear h9
    exact W.iret hx hb hr (hS.endr (by rw [rX7_setSlope, if_pos c_10]) (by rw [fX7_setSlope, if_pos c_10]; exact ⟨hM, hN⟩)) hS.2.2 dX7_setSlope_18
theorem canCut_ix {mv : LV} {po : Int32} (hm : mOK mv) (h1 : ¬ po ≤ 0) (h2 : ¬ ((mv.1 1) - 1) ≤ po) : vp_in po 16 := by
  have h3 := mt Int32.le_iff_toInt_le.mpr h1
  have h4 := mt Int32.le_iff_toInt_le.mpr h2
  rw [poles_1 hm] at h4
  rw [show (0 : Int32).toInt = 0 from rfl] at h3
  have := hm.1
  exact tr_vi (by omega) (by omega)
theorem cars_vp {mv : LV} (hm : mOK mv) (h : ¬ mv.1 2 = 6) : vp_in (mv.1 2) 6 := by
  have h6 : (mv.1 2).toInt ≠ 6 := fun e => h (Int32.toInt_inj.mp (e.trans (rfl : (6 : Int) = (6 : Int32).toInt)))
  have := hm.2
  exact tr_vi (by omega) (by omega)
def fX7_canCut (mv : LV) (sv : LV) (nv : LV) (po : Int32) : Int32 :=
  (if po ≤ 0 then 0 else (if ((mv.1 1) - 1) ≤ po then 0 else (if (aAt sv 1 po) = 0 then 1 else 0)))
set_option maxHeartbeats 4000000 in
set_option maxRecDepth 100000 in
theorem c_X7_canCut (l : Launch) (D : va_G) (cI : ClassId) (M : Nat → Nat) (hMi : MInj M) (mv sv nv : LV) (po : Int32) (hm : mOK mv) : Met l yX7_canCut wsX7_canCut ({ frames := 0, cells := 0, slots := 0, locals := 0 }) (tr_Pc D cI [.ref ((mA M) 0), .int po] (MPT D cI M (mv, sv, nv))) (vp_Si (fun r => r = fX7_canCut mv sv nv po)) 0 0 (fun _ => False) := by
  refine Met.ofW (cc := cX7_canCut) (maxL := 2) (ret := (some .boolean)) (by decide) rfl ?_
  intro p e s m args below meth c s₁ B hml hv
  obtain ⟨rfl, ⟨hM, hN⟩, hK⟩ := hv
  have hx := B.exec
  have hb := B.bytes
  have hr := B.returns
  have hts := atoms_spec (ws := wsX7_canCut) B.pre
  have hown : s.vm.findClass RX7 = some m.cls := findClass_of_methodNamed B.named
  have hlocks := B.notSynchronized
  have hd := mn_dis hMi
  have hds := nm_dis hMi
  replace hM : STA D cI (mA M) mv sv s.heap := hM
  replace hN : STA D cI (nA M) mv nv s.heap := hN
  have hiX6 : ∀ w ∈ u_ws RX6 TX6 19, w ∈ wsX7_canCut := by decide +kernel
  have hiX7 : ∀ w ∈ u_ws RX7 TX7 6, w ∈ wsX7_canCut := by decide +kernel
  have f22 := hts (.fieldLink RX7 22 "TramRibbonModel" "s" "LTramRibbonModel$State;") (by decide +kernel)
  have f7 := hts (.fieldLink RX7 7 "TramRibbonModel" "poles" "I") (by decide +kernel)
  have hl := lv_entry ([.ref ((mA M) 0), .int po]) (n := 2) (Nat.le_of_ble_eq_true rfl)
  rw [lg_entry_eq]
  generalize (lg_sl ([.ref ((mA M) 0), .int po]) ++ List.replicate (2 - (lg_sl ([.ref ((mA M) 0), .int po])).length) Slot.unset).toArray = ls at hl ⊢
  replace hl : lv_has ls 2 [(0, .ref ((mA M) 0)), (1, .int po)] := hl
  refine lv_iload_n hx hb dX7_canCut_0 rfl (lv_at hl 1 rfl) ?_
  refine lv_if_le (tgt := 30) hx hb dX7_canCut_1 (by decide) (fun c_1 => ?_) (fun c_1 => ?_)
  · refine lv_iconst (v := 0) hx hb dX7_canCut_30 (by decide) ?_
    exact W.zret (ty := .boolean) hx hb hr rfl (tr_endi (by rw [fX7_canCut, if_pos c_1])) (fun _ h => by cases h) dX7_canCut_31
  · refine lv_iload_n hx hb dX7_canCut_4 rfl (lv_at hl 1 rfl) ?_
    refine lv_aload_n hx hb dX7_canCut_5 rfl (lv_at hl 0 rfl) ?_
    refine tr_get (ci := 7) (C := RX7) (T := TX7) (N := 6) hx hb hts hiX7 hown hK hM.c0 rfl 1 (by decide) f7 (v := .int (mv.1 1)) rfl dX7_canCut_6 ?_
    refine lv_iconst (v := 1) hx hb dX7_canCut_9 (by decide) ?_
    refine lv_isub hx hb dX7_canCut_10 ?_
    refine lv_icmp_ge (tgt := 30) hx hb dX7_canCut_11 (by decide) (fun c_11 => ?_) (fun c_11 => ?_)
    · refine lv_iconst (v := 0) hx hb dX7_canCut_30 (by decide) ?_
      exact W.zret (ty := .boolean) hx hb hr rfl (tr_endi (by rw [fX7_canCut, if_neg c_1, if_pos c_11])) (fun _ h => by cases h) dX7_canCut_31
    · refine lv_aload_n hx hb dX7_canCut_14 rfl (lv_at hl 0 rfl) ?_
      refine tr_get (ci := 7) (C := RX7) (T := TX7) (N := 6) hx hb hts hiX7 hown hK hM.c0 rfl 4 (by decide) f22 (v := .ref ((mA M) 2)) rfl dX7_canCut_15 ?_
      refine tr_getN (host := "TramRibbonModel") (ci := 6) (C := RX6) (T := TX6) (N := 19) hx hb hts hiX6 hown hK hM.c2 rfl 5 (by decide) (by decide +kernel) (v := .ref ((mA M) 4)) rfl dX7_canCut_18 ?_
      refine lv_iload_n hx hb dX7_canCut_21 rfl (lv_at hl 1 rfl) ?_
      refine tr_sald (sv := sv) hx hb hK 1 (hM.arr 1 (by decide)) (canCut_ix hm c_1 c_11) dX7_canCut_22 ?_
      refine lv_if_ne (tgt := 30) hx hb dX7_canCut_23 (by decide) (fun c_23 => ?_) (fun c_23 => ?_)
      · refine lv_iconst (v := 0) hx hb dX7_canCut_30 (by decide) ?_
        exact W.zret (ty := .boolean) hx hb hr rfl (tr_endi (by rw [fX7_canCut, if_neg c_1, if_neg c_11, if_neg c_23])) (fun _ h => by cases h) dX7_canCut_31
      · refine lv_iconst (v := 1) hx hb dX7_canCut_26 (by decide) ?_
        refine lv_goto (tgt := 31) hx hb dX7_canCut_27 (by decide) ?_
        exact W.zret (ty := .boolean) hx hb hr rfl (tr_endi (by rw [fX7_canCut, if_neg c_1, if_neg c_11, if_pos c_23])) (fun _ h => by cases h) dX7_canCut_31
def fX7_cut (mv : LV) (sv : LV) (nv : LV) (po : Int32) : LV × LV × LV :=
  (if (fX7_isPole (lSc mv 0 0) sv nv po) = 0 then (lSc (lSc mv 0 0) 0 1, sv, nv) else (if (fX7_canCut (lSc mv 0 0) sv nv po) = 0 then (lSc (lSc mv 0 0) 0 2, sv, nv) else (lSc mv 0 0, fX6_cut (lSc mv 0 0) sv po, nv)))
def rX7_cut (mv : LV) (sv : LV) (nv : LV) (po : Int32) : Int32 :=
  (if (fX7_isPole (lSc mv 0 0) sv nv po) = 0 then 0 else (if (fX7_canCut (lSc mv 0 0) sv nv po) = 0 then 0 else (fX6_cut (lSc mv 0 0) sv po).1 3))
set_option maxHeartbeats 4000000 in
set_option maxRecDepth 100000 in
theorem c_X7_cut (l : Launch) (D : va_G) (cI : ClassId) (M : Nat → Nat) (hMi : MInj M) (mv sv nv : LV) (po : Int32) (hm : mOK mv) (hcut : cOK sv) (hn : nOK sv) (hq : ∀ (mv : LV) (k : Int32), ¬ fX7_canCut mv sv nv k = 0 → (fX6_sectionOf mv sv k).toInt < (sv.1 3).toInt) : Met l yX7_cut wsX7_cut ({ frames := 2, cells := 0, slots := 0, locals := 46 }) (tr_Pc D cI [.ref ((mA M) 0), .int po] (MPT D cI M (mv, sv, nv))) (tr_Q (some (.int (rX7_cut mv sv nv po))) (MPT D cI M (fX7_cut mv sv nv po)) (mOwn M)) 0 0 (mOwn M) := by
  refine Met.ofW (cc := cX7_cut) (maxL := 2) (ret := (some .int)) (by decide) rfl ?_
  intro p e s m args below meth c s₁ B hml hv
  obtain ⟨rfl, ⟨hM, hN⟩, hK⟩ := hv
  have hx := B.exec
  have hb := B.bytes
  have hr := B.returns
  have hts := atoms_spec (ws := wsX7_cut) B.pre
  have hown : s.vm.findClass RX7 = some m.cls := findClass_of_methodNamed B.named
  have hlocks := B.notSynchronized
  have hd := mn_dis hMi
  have hds := nm_dis hMi
  replace hM : STA D cI (mA M) mv sv s.heap := hM
  replace hN : STA D cI (nA M) mv nv s.heap := hN
  have hiX6 : ∀ w ∈ u_ws RX6 TX6 19, w ∈ wsX7_cut := by decide +kernel
  have hiX7 : ∀ w ∈ u_ws RX7 TX7 6, w ∈ wsX7_cut := by decide +kernel
  have f22 := hts (.fieldLink RX7 22 "TramRibbonModel" "s" "LTramRibbonModel$State;") (by decide +kernel)
  have f32 := hts (.fieldLink RX7 32 "TramRibbonModel" "thrown" "I") (by decide +kernel)
  have hl := lv_entry ([.ref ((mA M) 0), .int po]) (n := 2) (Nat.le_of_ble_eq_true rfl)
  rw [lg_entry_eq]
  generalize (lg_sl ([.ref ((mA M) 0), .int po]) ++ List.replicate (2 - (lg_sl ([.ref ((mA M) 0), .int po])).length) Slot.unset).toArray = ls at hl ⊢
  replace hl : lv_has ls 2 [(0, .ref ((mA M) 0)), (1, .int po)] := hl
  have hS : tr_S (mOwn M) s.heap s.heap [] := tr_S.rf
  generalize h1 : s.heap = H, h2 : ([] : List Loc) = locs
  replace hS : tr_S (mOwn M) s.heap H locs := by rw [← h1, ← h2]; exact hS
  rw [h1] at hM hN
  clear h1 h2
  refine lv_aload_n hx hb dX7_cut_0 rfl (lv_at hl 0 rfl) ?_
  refine lv_iconst (v := 0) hx hb dX7_cut_1 (by decide) ?_
  refine tr_put (ci := 7) (C := RX7) (T := TX7) (N := 6) (ty := .int) (v := .int 0) hx hb hts hiX7 tyX7 tyX7_ok nmX7 hown hK hS (mOwn_k (k := 0) (by decide)) hM.c0 rfl 0 (by decide) f32 rfl (by decide +kernel) rfl rfl (Nat.le_of_ble_eq_true rfl) dX7_cut_2 (fun H locs hat hz hk hS => ?_)
  have hM : STA D cI (mA M) (lSc mv 0 0) sv H := hM.setM hd.1 0 hat rfl rfl hk
  have hN : STA D cI (nA M) (lSc mv 0 0) nv H := hN.setM hd.2.1 0 hat rfl rfl hk
  clear hat hz hk
  refine lv_aload_n hx hb dX7_cut_5 rfl (lv_at hl 0 rfl) ?_
  refine lv_iload_n hx hb dX7_cut_6 rfl (lv_at hl 1 rfl) ?_
  refine tr_ri (va_runV (As := [.int po]) (rest := []) ⟨hx, hb, hml, hown, hts⟩ (c_X7_isPole l D cI M hMi (lSc mv 0 0) sv nv po ) (cwV 1 hts gX7_cut_X7_isPole rfl rfl rfl (by decide +kernel) ⟨Nat.le_of_ble_eq_true rfl, Nat.le_of_ble_eq_true rfl⟩) (tr_preV hK hM.c0 rfl ⟨hM, hN⟩) rfl rfl hl.1 rfl (lv_room (Nat.le_of_ble_eq_true rfl)) dX7_cut_7 ⟨Nat.zero_le _, Nat.zero_le _⟩) ?_
  refine lv_if_ne (tgt := 19) hx hb dX7_cut_10 (by decide) (fun c_10 => ?_) (fun c_10 => ?_)
  · refine lv_aload_n hx hb dX7_cut_19 rfl (lv_at hl 0 rfl) ?_
    refine lv_iload_n hx hb dX7_cut_20 rfl (lv_at hl 1 rfl) ?_
    refine tr_ri (va_runV (As := [.int po]) (rest := []) ⟨hx, hb, hml, hown, hts⟩ (c_X7_canCut l D cI M hMi (lSc mv 0 0) sv nv po hm) (cwV 1 hts gX7_cut_X7_canCut rfl rfl rfl (by decide +kernel) ⟨Nat.le_of_ble_eq_true rfl, Nat.le_of_ble_eq_true rfl⟩) (tr_preV hK hM.c0 rfl ⟨hM, hN⟩) rfl rfl hl.1 rfl (lv_room (Nat.le_of_ble_eq_true rfl)) dX7_cut_21 ⟨Nat.zero_le _, Nat.zero_le _⟩) ?_
    refine lv_if_ne (tgt := 33) hx hb dX7_cut_24 (by decide) (fun c_24 => ?_) (fun c_24 => ?_)
    · refine lv_aload_n hx hb dX7_cut_33 rfl (lv_at hl 0 rfl) ?_
      refine tr_get (ci := 7) (C := RX7) (T := TX7) (N := 6) hx hb hts hiX7 hown hK hM.c0 rfl 4 (by decide) f22 (v := .ref ((mA M) 2)) rfl dX7_cut_34 ?_
      refine lv_iload_n hx hb dX7_cut_37 rfl (lv_at hl 1 rfl) ?_
      refine tr_wv (va_runV (As := [.int po]) (rest := []) ⟨hx, hb, hml, hown, hts⟩ (c_X6_cut l D cI (mA M) hd.1 (lSc mv 0 0) sv po hcut (isPole_in (mv := lSc mv 0 0) (sv := sv) (nv := nv) hm c_10) hn.2 (hq _ _ c_24)) (cwV 1 hts gX7_cut_X6_cut rfl rfl rfl (by decide +kernel) ⟨Nat.le_of_ble_eq_true rfl, Nat.le_of_ble_eq_true rfl⟩) (tr_preV hK hM.c2 rfl hM) rfl rfl hl.1 rfl (lv_room (Nat.le_of_ble_eq_true rfl)) dX7_cut_38 ⟨Nat.zero_le _, Nat.zero_le _⟩) hS mOwn_s (fun H locs hM hz hk hS => ?_)
      replace hN := st_keepO hd hN hk
      clear hk hz
      refine lv_aload_n hx hb dX7_cut_41 rfl (lv_at hl 0 rfl) ?_
      refine tr_get (ci := 7) (C := RX7) (T := TX7) (N := 6) hx hb hts hiX7 hown hK hM.c0 rfl 4 (by decide) f22 (v := .ref ((mA M) 2)) rfl dX7_cut_42 ?_
      refine tr_getN (host := "TramRibbonModel") (ci := 6) (C := RX6) (T := TX6) (N := 19) hx hb hts hiX6 hown hK hM.c2 rfl 3 (by decide) (by decide +kernel) (v := .int ((fX6_cut (lSc mv 0 0) sv po).1 3)) rfl dX7_cut_45 ?_
      exact W.iret hx hb hr (hS.endr (by rw [rX7_cut, if_neg c_10, if_neg c_24]) (by rw [fX7_cut, if_neg c_10, if_neg c_24]; exact ⟨hM, hN⟩)) hS.2.2 dX7_cut_48
    · refine lv_aload_n hx hb dX7_cut_27 rfl (lv_at hl 0 rfl) ?_
      refine lv_iconst (v := 2) hx hb dX7_cut_28 (by decide) ?_
      refine tr_ci (va_runV (As := [.int 2]) (rest := []) ⟨hx, hb, hml, hown, hts⟩ (c_X7_no l D cI M hMi (lSc mv 0 0) sv nv 2 ) (cwV 1 hts gX7_cut_X7_no rfl rfl rfl (by decide +kernel) ⟨Nat.le_of_ble_eq_true rfl, Nat.le_of_ble_eq_true rfl⟩) (tr_preV hK hM.c0 rfl ⟨hM, hN⟩) rfl rfl hl.1 rfl (lv_room (Nat.le_of_ble_eq_true rfl)) dX7_cut_29 ⟨Nat.zero_le _, Nat.zero_le _⟩) hS (fun _ h => h) (fun H locs h9 hS => ?_)
      have hM : STA D cI (mA M) (lSc (lSc mv 0 0) 0 2) sv H := h9.1
      have hN : STA D cI (nA M) (lSc (lSc mv 0 0) 0 2) nv H := h9.2
      clear h9
      exact W.iret hx hb hr (hS.endr (by rw [rX7_cut, if_neg c_10, if_pos c_24]) (by rw [fX7_cut, if_neg c_10, if_pos c_24]; exact ⟨hM, hN⟩)) hS.2.2 dX7_cut_32
  · refine lv_aload_n hx hb dX7_cut_13 rfl (lv_at hl 0 rfl) ?_
    refine lv_iconst (v := 1) hx hb dX7_cut_14 (by decide) ?_
    refine tr_ci (va_runV (As := [.int 1]) (rest := []) ⟨hx, hb, hml, hown, hts⟩ (c_X7_no l D cI M hMi (lSc mv 0 0) sv nv 1 ) (cwV 1 hts gX7_cut_X7_no rfl rfl rfl (by decide +kernel) ⟨Nat.le_of_ble_eq_true rfl, Nat.le_of_ble_eq_true rfl⟩) (tr_preV hK hM.c0 rfl ⟨hM, hN⟩) rfl rfl hl.1 rfl (lv_room (Nat.le_of_ble_eq_true rfl)) dX7_cut_15 ⟨Nat.zero_le _, Nat.zero_le _⟩) hS (fun _ h => h) (fun H locs h9 hS => ?_)
    have hM : STA D cI (mA M) (lSc (lSc mv 0 0) 0 1) sv H := h9.1
    have hN : STA D cI (nA M) (lSc (lSc mv 0 0) 0 1) nv H := h9.2
    clear h9
    exact W.iret hx hb hr (hS.endr (by rw [rX7_cut, if_pos c_10]) (by rw [fX7_cut, if_pos c_10]; exact ⟨hM, hN⟩)) hS.2.2 dX7_cut_18
def fX7_setBound (mv : LV) (sv : LV) (nv : LV) (q : Int32) (bo : Int32) : LV × LV × LV :=
  (if (fX7_isSection (lSc mv 0 0) sv nv q) = 0 then (lSc (lSc mv 0 0) 0 1, sv, nv) else (if (fX7_isIn bo 1 60) = 0 then (lSc (lSc mv 0 0) 0 2, sv, nv) else (lSc mv 0 0, aSet sv 3 q bo, nv)))
def rX7_setBound (mv : LV) (sv : LV) (nv : LV) (q : Int32) (bo : Int32) : Int32 :=
  (if (fX7_isSection (lSc mv 0 0) sv nv q) = 0 then 0 else (if (fX7_isIn bo 1 60) = 0 then 0 else aAt sv 3 q))
set_option maxHeartbeats 4000000 in
set_option maxRecDepth 100000 in
theorem c_X7_setBound (l : Launch) (D : va_G) (cI : ClassId) (M : Nat → Nat) (hMi : MInj M) (mv sv nv : LV) (q : Int32) (bo : Int32) (hm : mOK mv) (hn : nOK sv) : Met l yX7_setBound wsX7_setBound ({ frames := 2, cells := 0, slots := 0, locals := 43 }) (tr_Pc D cI [.ref ((mA M) 0), .int q, .int bo] (MPT D cI M (mv, sv, nv))) (tr_Q (some (.int (rX7_setBound mv sv nv q bo))) (MPT D cI M (fX7_setBound mv sv nv q bo)) (mOwn M)) 0 0 (mOwn M) := by
  refine Met.ofW (cc := cX7_setBound) (maxL := 4) (ret := (some .int)) (by decide) rfl ?_
  intro p e s m args below meth c s₁ B hml hv
  obtain ⟨rfl, ⟨hM, hN⟩, hK⟩ := hv
  have hx := B.exec
  have hb := B.bytes
  have hr := B.returns
  have hts := atoms_spec (ws := wsX7_setBound) B.pre
  have hown : s.vm.findClass RX7 = some m.cls := findClass_of_methodNamed B.named
  have hlocks := B.notSynchronized
  have hd := mn_dis hMi
  have hds := nm_dis hMi
  replace hM : STA D cI (mA M) mv sv s.heap := hM
  replace hN : STA D cI (nA M) mv nv s.heap := hN
  have hiX6 : ∀ w ∈ u_ws RX6 TX6 19, w ∈ wsX7_setBound := by decide +kernel
  have hiX7 : ∀ w ∈ u_ws RX7 TX7 6, w ∈ wsX7_setBound := by decide +kernel
  have f22 := hts (.fieldLink RX7 22 "TramRibbonModel" "s" "LTramRibbonModel$State;") (by decide +kernel)
  have f32 := hts (.fieldLink RX7 32 "TramRibbonModel" "thrown" "I") (by decide +kernel)
  have hl := lv_entry ([.ref ((mA M) 0), .int q, .int bo]) (n := 4) (Nat.le_of_ble_eq_true rfl)
  rw [lg_entry_eq]
  generalize (lg_sl ([.ref ((mA M) 0), .int q, .int bo]) ++ List.replicate (4 - (lg_sl ([.ref ((mA M) 0), .int q, .int bo])).length) Slot.unset).toArray = ls at hl ⊢
  replace hl : lv_has ls 4 [(0, .ref ((mA M) 0)), (1, .int q), (2, .int bo)] := hl
  have hS : tr_S (mOwn M) s.heap s.heap [] := tr_S.rf
  generalize h1 : s.heap = H, h2 : ([] : List Loc) = locs
  replace hS : tr_S (mOwn M) s.heap H locs := by rw [← h1, ← h2]; exact hS
  rw [h1] at hM hN
  clear h1 h2
  refine lv_aload_n hx hb dX7_setBound_0 rfl (lv_at hl 0 rfl) ?_
  refine lv_iconst (v := 0) hx hb dX7_setBound_1 (by decide) ?_
  refine tr_put (ci := 7) (C := RX7) (T := TX7) (N := 6) (ty := .int) (v := .int 0) hx hb hts hiX7 tyX7 tyX7_ok nmX7 hown hK hS (mOwn_k (k := 0) (by decide)) hM.c0 rfl 0 (by decide) f32 rfl (by decide +kernel) rfl rfl (Nat.le_of_ble_eq_true rfl) dX7_setBound_2 (fun H locs hat hz hk hS => ?_)
  have hM : STA D cI (mA M) (lSc mv 0 0) sv H := hM.setM hd.1 0 hat rfl rfl hk
  have hN : STA D cI (nA M) (lSc mv 0 0) nv H := hN.setM hd.2.1 0 hat rfl rfl hk
  clear hat hz hk
  refine lv_aload_n hx hb dX7_setBound_5 rfl (lv_at hl 0 rfl) ?_
  refine lv_iload_n hx hb dX7_setBound_6 rfl (lv_at hl 1 rfl) ?_
  refine tr_ri (va_runV (As := [.int q]) (rest := []) ⟨hx, hb, hml, hown, hts⟩ (c_X7_isSection l D cI M hMi (lSc mv 0 0) sv nv q ) (cwV 1 hts gX7_setBound_X7_isSection rfl rfl rfl (by decide +kernel) ⟨Nat.le_of_ble_eq_true rfl, Nat.le_of_ble_eq_true rfl⟩) (tr_preV hK hM.c0 rfl ⟨hM, hN⟩) rfl rfl hl.1 rfl (lv_room (Nat.le_of_ble_eq_true rfl)) dX7_setBound_7 ⟨Nat.zero_le _, Nat.zero_le _⟩) ?_
  refine lv_if_ne (tgt := 19) hx hb dX7_setBound_10 (by decide) (fun c_10 => ?_) (fun c_10 => ?_)
  · refine lv_iload_n hx hb dX7_setBound_19 rfl (lv_at hl 2 rfl) ?_
    refine lv_iconst (v := 1) hx hb dX7_setBound_20 (by decide) ?_
    refine lv_bipush (v := 60) hx hb dX7_setBound_21 (by decide) ?_
    refine tr_ri (va_runS (As := [.int bo, .int 1, .int 60]) (rest := []) ⟨hx, hb, hml, hown, hts⟩ (c_X7_isIn l D cI bo 1 60) (va_cwS 3 hts gX7_setBound_X7_isIn rfl rfl rfl (by decide +kernel) ⟨Nat.le_of_ble_eq_true rfl, Nat.le_of_ble_eq_true rfl⟩) (tr_preS hK trivial) rfl rfl hl.1 rfl (lv_room (Nat.le_of_ble_eq_true rfl)) dX7_setBound_23 ⟨Nat.zero_le _, Nat.zero_le _⟩) ?_
    refine lv_if_ne (tgt := 35) hx hb dX7_setBound_26 (by decide) (fun c_26 => ?_) (fun c_26 => ?_)
    · refine lv_aload_n hx hb dX7_setBound_35 rfl (lv_at hl 0 rfl) ?_
      refine tr_get (ci := 7) (C := RX7) (T := TX7) (N := 6) hx hb hts hiX7 hown hK hM.c0 rfl 4 (by decide) f22 (v := .ref ((mA M) 2)) rfl dX7_setBound_36 ?_
      refine tr_getN (host := "TramRibbonModel") (ci := 6) (C := RX6) (T := TX6) (N := 19) hx hb hts hiX6 hown hK hM.c2 rfl 7 (by decide) (by decide +kernel) (v := .ref ((mA M) 6)) rfl dX7_setBound_39 ?_
      refine lv_iload_n hx hb dX7_setBound_42 rfl (lv_at hl 1 rfl) ?_
      refine tr_sald (sv := sv) hx hb hK 3 (hM.arr 3 (by decide)) (isSection_in (mv := lSc mv 0 0) (sv := sv) (nv := nv) hn c_10) dX7_setBound_43 ?_
      refine lv_istore_n (lv' := [(3, .int (aAt sv 3 q)), (0, .ref ((mA M) 0)), (1, .int q), (2, .int bo)]) hx hb dX7_setBound_44 rfl hl (by decide) rfl (fun ls hl => ?_)
      refine lv_aload_n hx hb dX7_setBound_45 rfl (lv_at hl 1 rfl) ?_
      refine tr_get (ci := 7) (C := RX7) (T := TX7) (N := 6) hx hb hts hiX7 hown hK hM.c0 rfl 4 (by decide) f22 (v := .ref ((mA M) 2)) rfl dX7_setBound_46 ?_
      refine tr_getN (host := "TramRibbonModel") (ci := 6) (C := RX6) (T := TX6) (N := 19) hx hb hts hiX6 hown hK hM.c2 rfl 7 (by decide) (by decide +kernel) (v := .ref ((mA M) 6)) rfl dX7_setBound_49 ?_
      refine lv_iload_n hx hb dX7_setBound_52 rfl (lv_at hl 2 rfl) ?_
      refine lv_iload_n hx hb dX7_setBound_53 rfl (lv_at hl 3 rfl) ?_
      refine tr_sast hx hb hK hS hd.1 hM mOwn_s 3 (by decide) (isSection_in (mv := lSc mv 0 0) (sv := sv) (nv := nv) hn c_10) dX7_setBound_54 (fun H locs hM hk hS => ?_)
      replace hN := st_keep hd hN 6 (by decide) (by decide) hk
      clear hk
      refine lv_iload_n hx hb dX7_setBound_55 rfl (lv_at hl 0 rfl) ?_
      exact W.iret hx hb hr (hS.endr (by rw [rX7_setBound, if_neg c_10, if_neg c_26]) (by rw [fX7_setBound, if_neg c_10, if_neg c_26]; exact ⟨hM, hN⟩)) hS.2.2 dX7_setBound_56
    · refine lv_aload_n hx hb dX7_setBound_29 rfl (lv_at hl 0 rfl) ?_
      refine lv_iconst (v := 2) hx hb dX7_setBound_30 (by decide) ?_
      refine tr_ci (va_runV (As := [.int 2]) (rest := []) ⟨hx, hb, hml, hown, hts⟩ (c_X7_no l D cI M hMi (lSc mv 0 0) sv nv 2 ) (cwV 1 hts gX7_setBound_X7_no rfl rfl rfl (by decide +kernel) ⟨Nat.le_of_ble_eq_true rfl, Nat.le_of_ble_eq_true rfl⟩) (tr_preV hK hM.c0 rfl ⟨hM, hN⟩) rfl rfl hl.1 rfl (lv_room (Nat.le_of_ble_eq_true rfl)) dX7_setBound_31 ⟨Nat.zero_le _, Nat.zero_le _⟩) hS (fun _ h => h) (fun H locs h9 hS => ?_)
      have hM : STA D cI (mA M) (lSc (lSc mv 0 0) 0 2) sv H := h9.1
      have hN : STA D cI (nA M) (lSc (lSc mv 0 0) 0 2) nv H := h9.2
      clear h9
      exact W.iret hx hb hr (hS.endr (by rw [rX7_setBound, if_neg c_10, if_pos c_26]) (by rw [fX7_setBound, if_neg c_10, if_pos c_26]; exact ⟨hM, hN⟩)) hS.2.2 dX7_setBound_34
  · refine lv_aload_n hx hb dX7_setBound_13 rfl (lv_at hl 0 rfl) ?_
    refine lv_iconst (v := 1) hx hb dX7_setBound_14 (by decide) ?_
    refine tr_ci (va_runV (As := [.int 1]) (rest := []) ⟨hx, hb, hml, hown, hts⟩ (c_X7_no l D cI M hMi (lSc mv 0 0) sv nv 1 ) (cwV 1 hts gX7_setBound_X7_no rfl rfl rfl (by decide +kernel) ⟨Nat.le_of_ble_eq_true rfl, Nat.le_of_ble_eq_true rfl⟩) (tr_preV hK hM.c0 rfl ⟨hM, hN⟩) rfl rfl hl.1 rfl (lv_room (Nat.le_of_ble_eq_true rfl)) dX7_setBound_15 ⟨Nat.zero_le _, Nat.zero_le _⟩) hS (fun _ h => h) (fun H locs h9 hS => ?_)
    have hM : STA D cI (mA M) (lSc (lSc mv 0 0) 0 1) sv H := h9.1
    have hN : STA D cI (nA M) (lSc (lSc mv 0 0) 0 1) nv H := h9.2
    clear h9
    exact W.iret hx hb hr (hS.endr (by rw [rX7_setBound, if_pos c_10]) (by rw [fX7_setBound, if_pos c_10]; exact ⟨hM, hN⟩)) hS.2.2 dX7_setBound_18
def fX7_depot (mv : LV) (sv : LV) (nv : LV) (po : Int32) (nn : Int32) : LV × LV × LV :=
  (if (fX7_isPole (lSc mv 0 0) sv nv po) = 0 then (lSc (lSc mv 0 0) 0 1, sv, nv) else (if (fX7_isIn nn 0 9) = 0 then (lSc (lSc mv 0 0) 0 2, sv, nv) else (if ((aMax 0 (aAt sv 2 po)) + nn) ≤ 9 then (lSc mv 0 0, aSet sv 2 po ((aMax 0 (aAt sv 2 po)) + nn), nv) else (lSc (lSc mv 0 0) 0 3, sv, nv))))
def rX7_depot (mv : LV) (sv : LV) (nv : LV) (po : Int32) (nn : Int32) : Int32 :=
  (if (fX7_isPole (lSc mv 0 0) sv nv po) = 0 then 0 else (if (fX7_isIn nn 0 9) = 0 then 0 else (if ((aMax 0 (aAt sv 2 po)) + nn) ≤ 9 then (aMax 0 (aAt sv 2 po)) + nn else 0)))
set_option maxHeartbeats 4000000 in
set_option maxRecDepth 100000 in
theorem c_X7_depot (l : Launch) (D : va_G) (cI : ClassId) (M : Nat → Nat) (hMi : MInj M) (mv sv nv : LV) (po : Int32) (nn : Int32) (hm : mOK mv) : Met l yX7_depot wsX7_depot ({ frames := 2, cells := 0, slots := 0, locals := 43 }) (tr_Pc D cI [.ref ((mA M) 0), .int po, .int nn] (MPT D cI M (mv, sv, nv))) (tr_Q (some (.int (rX7_depot mv sv nv po nn))) (MPT D cI M (fX7_depot mv sv nv po nn)) (mOwn M)) 0 0 (mOwn M) := by
  refine Met.ofW (cc := cX7_depot) (maxL := 4) (ret := (some .int)) (by decide) rfl ?_
  intro p e s m args below meth c s₁ B hml hv
  obtain ⟨rfl, ⟨hM, hN⟩, hK⟩ := hv
  have hx := B.exec
  have hb := B.bytes
  have hr := B.returns
  have hts := atoms_spec (ws := wsX7_depot) B.pre
  have hown : s.vm.findClass RX7 = some m.cls := findClass_of_methodNamed B.named
  have hlocks := B.notSynchronized
  have hd := mn_dis hMi
  have hds := nm_dis hMi
  replace hM : STA D cI (mA M) mv sv s.heap := hM
  replace hN : STA D cI (nA M) mv nv s.heap := hN
  have hiX6 : ∀ w ∈ u_ws RX6 TX6 19, w ∈ wsX7_depot := by decide +kernel
  have hiX7 : ∀ w ∈ u_ws RX7 TX7 6, w ∈ wsX7_depot := by decide +kernel
  have f22 := hts (.fieldLink RX7 22 "TramRibbonModel" "s" "LTramRibbonModel$State;") (by decide +kernel)
  have f32 := hts (.fieldLink RX7 32 "TramRibbonModel" "thrown" "I") (by decide +kernel)
  have mC_max := hts (.code Lib.Math.max.name Lib.Math.max.code 2 (some .int)) (by decide +kernel)
  have mI := hts (.initialized "java/lang/Math") (by decide +kernel)
  have mL75 := hts (.methodLink RX7 75 Lib.Math.max.name) (by decide +kernel)
  have mS_max := hts (.static Lib.Math.max.name) (by decide +kernel)
  have hl := lv_entry ([.ref ((mA M) 0), .int po, .int nn]) (n := 4) (Nat.le_of_ble_eq_true rfl)
  rw [lg_entry_eq]
  generalize (lg_sl ([.ref ((mA M) 0), .int po, .int nn]) ++ List.replicate (4 - (lg_sl ([.ref ((mA M) 0), .int po, .int nn])).length) Slot.unset).toArray = ls at hl ⊢
  replace hl : lv_has ls 4 [(0, .ref ((mA M) 0)), (1, .int po), (2, .int nn)] := hl
  have hS : tr_S (mOwn M) s.heap s.heap [] := tr_S.rf
  generalize h1 : s.heap = H, h2 : ([] : List Loc) = locs
  replace hS : tr_S (mOwn M) s.heap H locs := by rw [← h1, ← h2]; exact hS
  rw [h1] at hM hN
  clear h1 h2
  refine lv_aload_n hx hb dX7_depot_0 rfl (lv_at hl 0 rfl) ?_
  refine lv_iconst (v := 0) hx hb dX7_depot_1 (by decide) ?_
  refine tr_put (ci := 7) (C := RX7) (T := TX7) (N := 6) (ty := .int) (v := .int 0) hx hb hts hiX7 tyX7 tyX7_ok nmX7 hown hK hS (mOwn_k (k := 0) (by decide)) hM.c0 rfl 0 (by decide) f32 rfl (by decide +kernel) rfl rfl (Nat.le_of_ble_eq_true rfl) dX7_depot_2 (fun H locs hat hz hk hS => ?_)
  have hM : STA D cI (mA M) (lSc mv 0 0) sv H := hM.setM hd.1 0 hat rfl rfl hk
  have hN : STA D cI (nA M) (lSc mv 0 0) nv H := hN.setM hd.2.1 0 hat rfl rfl hk
  clear hat hz hk
  refine lv_aload_n hx hb dX7_depot_5 rfl (lv_at hl 0 rfl) ?_
  refine lv_iload_n hx hb dX7_depot_6 rfl (lv_at hl 1 rfl) ?_
  refine tr_ri (va_runV (As := [.int po]) (rest := []) ⟨hx, hb, hml, hown, hts⟩ (c_X7_isPole l D cI M hMi (lSc mv 0 0) sv nv po ) (cwV 1 hts gX7_depot_X7_isPole rfl rfl rfl (by decide +kernel) ⟨Nat.le_of_ble_eq_true rfl, Nat.le_of_ble_eq_true rfl⟩) (tr_preV hK hM.c0 rfl ⟨hM, hN⟩) rfl rfl hl.1 rfl (lv_room (Nat.le_of_ble_eq_true rfl)) dX7_depot_7 ⟨Nat.zero_le _, Nat.zero_le _⟩) ?_
  refine lv_if_ne (tgt := 19) hx hb dX7_depot_10 (by decide) (fun c_10 => ?_) (fun c_10 => ?_)
  · refine lv_iload_n hx hb dX7_depot_19 rfl (lv_at hl 2 rfl) ?_
    refine lv_iconst (v := 0) hx hb dX7_depot_20 (by decide) ?_
    refine lv_bipush (v := 9) hx hb dX7_depot_21 (by decide) ?_
    refine tr_ri (va_runS (As := [.int nn, .int 0, .int 9]) (rest := []) ⟨hx, hb, hml, hown, hts⟩ (c_X7_isIn l D cI nn 0 9) (va_cwS 3 hts gX7_depot_X7_isIn rfl rfl rfl (by decide +kernel) ⟨Nat.le_of_ble_eq_true rfl, Nat.le_of_ble_eq_true rfl⟩) (tr_preS hK trivial) rfl rfl hl.1 rfl (lv_room (Nat.le_of_ble_eq_true rfl)) dX7_depot_23 ⟨Nat.zero_le _, Nat.zero_le _⟩) ?_
    refine lv_if_ne (tgt := 35) hx hb dX7_depot_26 (by decide) (fun c_26 => ?_) (fun c_26 => ?_)
    · refine lv_iconst (v := 0) hx hb dX7_depot_35 (by decide) ?_
      refine lv_aload_n hx hb dX7_depot_36 rfl (lv_at hl 0 rfl) ?_
      refine tr_get (ci := 7) (C := RX7) (T := TX7) (N := 6) hx hb hts hiX7 hown hK hM.c0 rfl 4 (by decide) f22 (v := .ref ((mA M) 2)) rfl dX7_depot_37 ?_
      refine tr_getN (host := "TramRibbonModel") (ci := 6) (C := RX6) (T := TX6) (N := 19) hx hb hts hiX6 hown hK hM.c2 rfl 6 (by decide) (by decide +kernel) (v := .ref ((mA M) 5)) rfl dX7_depot_40 ?_
      refine lv_iload_n hx hb dX7_depot_43 rfl (lv_at hl 1 rfl) ?_
      refine tr_sald (sv := sv) hx hb hK 2 (hM.arr 2 (by decide)) (isPole_in (mv := lSc mv 0 0) (sv := sv) (nv := nv) hm c_10) dX7_depot_44 ?_
      refine tr_max hx hb (by rw [hml]; exact hl.1.symm) hown mL75 mS_max mI mC_max (Nat.le_of_ble_eq_true rfl) (Nat.le_of_ble_eq_true rfl) (Nat.zero_le _) (Nat.zero_le _) dX7_depot_45 ?_
      refine lv_iload_n hx hb dX7_depot_48 rfl (lv_at hl 2 rfl) ?_
      refine lv_iadd hx hb dX7_depot_49 ?_
      refine lv_istore_n (lv' := [(3, .int ((aMax 0 (aAt sv 2 po)) + nn)), (0, .ref ((mA M) 0)), (1, .int po), (2, .int nn)]) hx hb dX7_depot_50 rfl hl (by decide) rfl (fun ls hl => ?_)
      refine lv_iload_n hx hb dX7_depot_51 rfl (lv_at hl 0 rfl) ?_
      refine lv_bipush (v := 9) hx hb dX7_depot_52 (by decide) ?_
      refine lv_icmp_le (tgt := 63) hx hb dX7_depot_54 (by decide) (fun c_54 => ?_) (fun c_54 => ?_)
      · refine lv_aload_n hx hb dX7_depot_63 rfl (lv_at hl 1 rfl) ?_
        refine tr_get (ci := 7) (C := RX7) (T := TX7) (N := 6) hx hb hts hiX7 hown hK hM.c0 rfl 4 (by decide) f22 (v := .ref ((mA M) 2)) rfl dX7_depot_64 ?_
        refine tr_getN (host := "TramRibbonModel") (ci := 6) (C := RX6) (T := TX6) (N := 19) hx hb hts hiX6 hown hK hM.c2 rfl 6 (by decide) (by decide +kernel) (v := .ref ((mA M) 5)) rfl dX7_depot_67 ?_
        refine lv_iload_n hx hb dX7_depot_70 rfl (lv_at hl 2 rfl) ?_
        refine lv_iload_n hx hb dX7_depot_71 rfl (lv_at hl 0 rfl) ?_
        refine tr_sast hx hb hK hS hd.1 hM mOwn_s 2 (by decide) (isPole_in (mv := lSc mv 0 0) (sv := sv) (nv := nv) hm c_10) dX7_depot_72 (fun H locs hM hk hS => ?_)
        replace hN := st_keep hd hN 5 (by decide) (by decide) hk
        clear hk
        refine lv_iload_n hx hb dX7_depot_73 rfl (lv_at hl 0 rfl) ?_
        exact W.iret hx hb hr (hS.endr (by rw [rX7_depot, if_neg c_10, if_neg c_26, if_pos c_54]) (by rw [fX7_depot, if_neg c_10, if_neg c_26, if_pos c_54]; exact ⟨hM, hN⟩)) hS.2.2 dX7_depot_74
      · refine lv_aload_n hx hb dX7_depot_57 rfl (lv_at hl 1 rfl) ?_
        refine lv_iconst (v := 3) hx hb dX7_depot_58 (by decide) ?_
        refine tr_ci (va_runV (As := [.int 3]) (rest := []) ⟨hx, hb, hml, hown, hts⟩ (c_X7_no l D cI M hMi (lSc mv 0 0) sv nv 3 ) (cwV 1 hts gX7_depot_X7_no rfl rfl rfl (by decide +kernel) ⟨Nat.le_of_ble_eq_true rfl, Nat.le_of_ble_eq_true rfl⟩) (tr_preV hK hM.c0 rfl ⟨hM, hN⟩) rfl rfl hl.1 rfl (lv_room (Nat.le_of_ble_eq_true rfl)) dX7_depot_59 ⟨Nat.zero_le _, Nat.zero_le _⟩) hS (fun _ h => h) (fun H locs h9 hS => ?_)
        have hM : STA D cI (mA M) (lSc (lSc mv 0 0) 0 3) sv H := h9.1
        have hN : STA D cI (nA M) (lSc (lSc mv 0 0) 0 3) nv H := h9.2
        clear h9
        exact W.iret hx hb hr (hS.endr (by rw [rX7_depot, if_neg c_10, if_neg c_26, if_neg c_54]) (by rw [fX7_depot, if_neg c_10, if_neg c_26, if_neg c_54]; exact ⟨hM, hN⟩)) hS.2.2 dX7_depot_62
    · refine lv_aload_n hx hb dX7_depot_29 rfl (lv_at hl 0 rfl) ?_
      refine lv_iconst (v := 2) hx hb dX7_depot_30 (by decide) ?_
      refine tr_ci (va_runV (As := [.int 2]) (rest := []) ⟨hx, hb, hml, hown, hts⟩ (c_X7_no l D cI M hMi (lSc mv 0 0) sv nv 2 ) (cwV 1 hts gX7_depot_X7_no rfl rfl rfl (by decide +kernel) ⟨Nat.le_of_ble_eq_true rfl, Nat.le_of_ble_eq_true rfl⟩) (tr_preV hK hM.c0 rfl ⟨hM, hN⟩) rfl rfl hl.1 rfl (lv_room (Nat.le_of_ble_eq_true rfl)) dX7_depot_31 ⟨Nat.zero_le _, Nat.zero_le _⟩) hS (fun _ h => h) (fun H locs h9 hS => ?_)
      have hM : STA D cI (mA M) (lSc (lSc mv 0 0) 0 2) sv H := h9.1
      have hN : STA D cI (nA M) (lSc (lSc mv 0 0) 0 2) nv H := h9.2
      clear h9
      exact W.iret hx hb hr (hS.endr (by rw [rX7_depot, if_neg c_10, if_pos c_26]) (by rw [fX7_depot, if_neg c_10, if_pos c_26]; exact ⟨hM, hN⟩)) hS.2.2 dX7_depot_34
  · refine lv_aload_n hx hb dX7_depot_13 rfl (lv_at hl 0 rfl) ?_
    refine lv_iconst (v := 1) hx hb dX7_depot_14 (by decide) ?_
    refine tr_ci (va_runV (As := [.int 1]) (rest := []) ⟨hx, hb, hml, hown, hts⟩ (c_X7_no l D cI M hMi (lSc mv 0 0) sv nv 1 ) (cwV 1 hts gX7_depot_X7_no rfl rfl rfl (by decide +kernel) ⟨Nat.le_of_ble_eq_true rfl, Nat.le_of_ble_eq_true rfl⟩) (tr_preV hK hM.c0 rfl ⟨hM, hN⟩) rfl rfl hl.1 rfl (lv_room (Nat.le_of_ble_eq_true rfl)) dX7_depot_15 ⟨Nat.zero_le _, Nat.zero_le _⟩) hS (fun _ h => h) (fun H locs h9 hS => ?_)
    have hM : STA D cI (mA M) (lSc (lSc mv 0 0) 0 1) sv H := h9.1
    have hN : STA D cI (nA M) (lSc (lSc mv 0 0) 0 1) nv H := h9.2
    clear h9
    exact W.iret hx hb hr (hS.endr (by rw [rX7_depot, if_pos c_10]) (by rw [fX7_depot, if_pos c_10]; exact ⟨hM, hN⟩)) hS.2.2 dX7_depot_18
def fX7_come (mv : LV) (sv : LV) (nv : LV) (po : Int32) (nn : Int32) : LV × LV × LV :=
  (if (fX7_isPole (lSc mv 0 0) sv nv po) = 0 then (lSc (lSc mv 0 0) 0 1, sv, nv) else (if (fX7_isIn nn 1 99) = 0 then (lSc (lSc mv 0 0) 0 2, sv, nv) else (lSc mv 0 0, aSet sv 0 po (aMin 99 ((aAt sv 0 po) + nn)), nv)))
def rX7_come (mv : LV) (sv : LV) (nv : LV) (po : Int32) (nn : Int32) : Int32 :=
  (if (fX7_isPole (lSc mv 0 0) sv nv po) = 0 then 0 else (if (fX7_isIn nn 1 99) = 0 then 0 else aMin 99 ((aAt sv 0 po) + nn)))
set_option maxHeartbeats 4000000 in
set_option maxRecDepth 100000 in
theorem c_X7_come (l : Launch) (D : va_G) (cI : ClassId) (M : Nat → Nat) (hMi : MInj M) (mv sv nv : LV) (po : Int32) (nn : Int32) (hm : mOK mv) : Met l yX7_come wsX7_come ({ frames := 2, cells := 0, slots := 0, locals := 43 }) (tr_Pc D cI [.ref ((mA M) 0), .int po, .int nn] (MPT D cI M (mv, sv, nv))) (tr_Q (some (.int (rX7_come mv sv nv po nn))) (MPT D cI M (fX7_come mv sv nv po nn)) (mOwn M)) 0 0 (mOwn M) := by
  refine Met.ofW (cc := cX7_come) (maxL := 3) (ret := (some .int)) (by decide) rfl ?_
  intro p e s m args below meth c s₁ B hml hv
  obtain ⟨rfl, ⟨hM, hN⟩, hK⟩ := hv
  have hx := B.exec
  have hb := B.bytes
  have hr := B.returns
  have hts := atoms_spec (ws := wsX7_come) B.pre
  have hown : s.vm.findClass RX7 = some m.cls := findClass_of_methodNamed B.named
  have hlocks := B.notSynchronized
  have hd := mn_dis hMi
  have hds := nm_dis hMi
  replace hM : STA D cI (mA M) mv sv s.heap := hM
  replace hN : STA D cI (nA M) mv nv s.heap := hN
  have hiX6 : ∀ w ∈ u_ws RX6 TX6 19, w ∈ wsX7_come := by decide +kernel
  have hiX7 : ∀ w ∈ u_ws RX7 TX7 6, w ∈ wsX7_come := by decide +kernel
  have f22 := hts (.fieldLink RX7 22 "TramRibbonModel" "s" "LTramRibbonModel$State;") (by decide +kernel)
  have f32 := hts (.fieldLink RX7 32 "TramRibbonModel" "thrown" "I") (by decide +kernel)
  have mC_min := hts (.code Lib.Math.min.name Lib.Math.min.code 2 (some .int)) (by decide +kernel)
  have mI := hts (.initialized "java/lang/Math") (by decide +kernel)
  have mL84 := hts (.methodLink RX7 84 Lib.Math.min.name) (by decide +kernel)
  have mS_min := hts (.static Lib.Math.min.name) (by decide +kernel)
  have hl := lv_entry ([.ref ((mA M) 0), .int po, .int nn]) (n := 3) (Nat.le_of_ble_eq_true rfl)
  rw [lg_entry_eq]
  generalize (lg_sl ([.ref ((mA M) 0), .int po, .int nn]) ++ List.replicate (3 - (lg_sl ([.ref ((mA M) 0), .int po, .int nn])).length) Slot.unset).toArray = ls at hl ⊢
  replace hl : lv_has ls 3 [(0, .ref ((mA M) 0)), (1, .int po), (2, .int nn)] := hl
  have hS : tr_S (mOwn M) s.heap s.heap [] := tr_S.rf
  generalize h1 : s.heap = H, h2 : ([] : List Loc) = locs
  replace hS : tr_S (mOwn M) s.heap H locs := by rw [← h1, ← h2]; exact hS
  rw [h1] at hM hN
  clear h1 h2
  refine lv_aload_n hx hb dX7_come_0 rfl (lv_at hl 0 rfl) ?_
  refine lv_iconst (v := 0) hx hb dX7_come_1 (by decide) ?_
  refine tr_put (ci := 7) (C := RX7) (T := TX7) (N := 6) (ty := .int) (v := .int 0) hx hb hts hiX7 tyX7 tyX7_ok nmX7 hown hK hS (mOwn_k (k := 0) (by decide)) hM.c0 rfl 0 (by decide) f32 rfl (by decide +kernel) rfl rfl (Nat.le_of_ble_eq_true rfl) dX7_come_2 (fun H locs hat hz hk hS => ?_)
  have hM : STA D cI (mA M) (lSc mv 0 0) sv H := hM.setM hd.1 0 hat rfl rfl hk
  have hN : STA D cI (nA M) (lSc mv 0 0) nv H := hN.setM hd.2.1 0 hat rfl rfl hk
  clear hat hz hk
  refine lv_aload_n hx hb dX7_come_5 rfl (lv_at hl 0 rfl) ?_
  refine lv_iload_n hx hb dX7_come_6 rfl (lv_at hl 1 rfl) ?_
  refine tr_ri (va_runV (As := [.int po]) (rest := []) ⟨hx, hb, hml, hown, hts⟩ (c_X7_isPole l D cI M hMi (lSc mv 0 0) sv nv po ) (cwV 1 hts gX7_come_X7_isPole rfl rfl rfl (by decide +kernel) ⟨Nat.le_of_ble_eq_true rfl, Nat.le_of_ble_eq_true rfl⟩) (tr_preV hK hM.c0 rfl ⟨hM, hN⟩) rfl rfl hl.1 rfl (lv_room (Nat.le_of_ble_eq_true rfl)) dX7_come_7 ⟨Nat.zero_le _, Nat.zero_le _⟩) ?_
  refine lv_if_ne (tgt := 19) hx hb dX7_come_10 (by decide) (fun c_10 => ?_) (fun c_10 => ?_)
  · refine lv_iload_n hx hb dX7_come_19 rfl (lv_at hl 2 rfl) ?_
    refine lv_iconst (v := 1) hx hb dX7_come_20 (by decide) ?_
    refine lv_bipush (v := 99) hx hb dX7_come_21 (by decide) ?_
    refine tr_ri (va_runS (As := [.int nn, .int 1, .int 99]) (rest := []) ⟨hx, hb, hml, hown, hts⟩ (c_X7_isIn l D cI nn 1 99) (va_cwS 3 hts gX7_come_X7_isIn rfl rfl rfl (by decide +kernel) ⟨Nat.le_of_ble_eq_true rfl, Nat.le_of_ble_eq_true rfl⟩) (tr_preS hK trivial) rfl rfl hl.1 rfl (lv_room (Nat.le_of_ble_eq_true rfl)) dX7_come_23 ⟨Nat.zero_le _, Nat.zero_le _⟩) ?_
    refine lv_if_ne (tgt := 35) hx hb dX7_come_26 (by decide) (fun c_26 => ?_) (fun c_26 => ?_)
    · refine lv_aload_n hx hb dX7_come_35 rfl (lv_at hl 0 rfl) ?_
      refine tr_get (ci := 7) (C := RX7) (T := TX7) (N := 6) hx hb hts hiX7 hown hK hM.c0 rfl 4 (by decide) f22 (v := .ref ((mA M) 2)) rfl dX7_come_36 ?_
      refine tr_getN (host := "TramRibbonModel") (ci := 6) (C := RX6) (T := TX6) (N := 19) hx hb hts hiX6 hown hK hM.c2 rfl 4 (by decide) (by decide +kernel) (v := .ref ((mA M) 3)) rfl dX7_come_39 ?_
      refine lv_iload_n hx hb dX7_come_42 rfl (lv_at hl 1 rfl) ?_
      refine lv_bipush (v := 99) hx hb dX7_come_43 (by decide) ?_
      refine lv_aload_n hx hb dX7_come_45 rfl (lv_at hl 0 rfl) ?_
      refine tr_get (ci := 7) (C := RX7) (T := TX7) (N := 6) hx hb hts hiX7 hown hK hM.c0 rfl 4 (by decide) f22 (v := .ref ((mA M) 2)) rfl dX7_come_46 ?_
      refine tr_getN (host := "TramRibbonModel") (ci := 6) (C := RX6) (T := TX6) (N := 19) hx hb hts hiX6 hown hK hM.c2 rfl 4 (by decide) (by decide +kernel) (v := .ref ((mA M) 3)) rfl dX7_come_49 ?_
      refine lv_iload_n hx hb dX7_come_52 rfl (lv_at hl 1 rfl) ?_
      refine tr_sald (sv := sv) hx hb hK 0 (hM.arr 0 (by decide)) (isPole_in (mv := lSc mv 0 0) (sv := sv) (nv := nv) hm c_10) dX7_come_53 ?_
      refine lv_iload_n hx hb dX7_come_54 rfl (lv_at hl 2 rfl) ?_
      refine lv_iadd hx hb dX7_come_55 ?_
      refine tr_min hx hb (by rw [hml]; exact hl.1.symm) hown mL84 mS_min mI mC_min (Nat.le_of_ble_eq_true rfl) (Nat.le_of_ble_eq_true rfl) (Nat.zero_le _) (Nat.zero_le _) dX7_come_56 ?_
      refine tr_sast hx hb hK hS hd.1 hM mOwn_s 0 (by decide) (isPole_in (mv := lSc mv 0 0) (sv := sv) (nv := nv) hm c_10) dX7_come_59 (fun H locs hM hk hS => ?_)
      replace hN := st_keep hd hN 3 (by decide) (by decide) hk
      clear hk
      refine lv_aload_n hx hb dX7_come_60 rfl (lv_at hl 0 rfl) ?_
      refine tr_get (ci := 7) (C := RX7) (T := TX7) (N := 6) hx hb hts hiX7 hown hK hM.c0 rfl 4 (by decide) f22 (v := .ref ((mA M) 2)) rfl dX7_come_61 ?_
      refine tr_getN (host := "TramRibbonModel") (ci := 6) (C := RX6) (T := TX6) (N := 19) hx hb hts hiX6 hown hK hM.c2 rfl 4 (by decide) (by decide +kernel) (v := .ref ((mA M) 3)) rfl dX7_come_64 ?_
      refine lv_iload_n hx hb dX7_come_67 rfl (lv_at hl 1 rfl) ?_
      refine tr_sald (sv := aSet sv 0 po (aMin 99 ((aAt sv 0 po) + nn))) hx hb hK 0 (hM.arr 0 (by decide)) (isPole_in (mv := lSc mv 0 0) (sv := sv) (nv := nv) hm c_10) dX7_come_68 ?_
      rw [aAt_same (v := sv) (r := 0) (i := po) (x := aMin 99 ((aAt sv 0 po) + nn))]
      exact W.iret hx hb hr (hS.endr (by rw [rX7_come, if_neg c_10, if_neg c_26]) (by rw [fX7_come, if_neg c_10, if_neg c_26]; exact ⟨hM, hN⟩)) hS.2.2 dX7_come_69
    · refine lv_aload_n hx hb dX7_come_29 rfl (lv_at hl 0 rfl) ?_
      refine lv_iconst (v := 2) hx hb dX7_come_30 (by decide) ?_
      refine tr_ci (va_runV (As := [.int 2]) (rest := []) ⟨hx, hb, hml, hown, hts⟩ (c_X7_no l D cI M hMi (lSc mv 0 0) sv nv 2 ) (cwV 1 hts gX7_come_X7_no rfl rfl rfl (by decide +kernel) ⟨Nat.le_of_ble_eq_true rfl, Nat.le_of_ble_eq_true rfl⟩) (tr_preV hK hM.c0 rfl ⟨hM, hN⟩) rfl rfl hl.1 rfl (lv_room (Nat.le_of_ble_eq_true rfl)) dX7_come_31 ⟨Nat.zero_le _, Nat.zero_le _⟩) hS (fun _ h => h) (fun H locs h9 hS => ?_)
      have hM : STA D cI (mA M) (lSc (lSc mv 0 0) 0 2) sv H := h9.1
      have hN : STA D cI (nA M) (lSc (lSc mv 0 0) 0 2) nv H := h9.2
      clear h9
      exact W.iret hx hb hr (hS.endr (by rw [rX7_come, if_neg c_10, if_pos c_26]) (by rw [fX7_come, if_neg c_10, if_pos c_26]; exact ⟨hM, hN⟩)) hS.2.2 dX7_come_34
  · refine lv_aload_n hx hb dX7_come_13 rfl (lv_at hl 0 rfl) ?_
    refine lv_iconst (v := 1) hx hb dX7_come_14 (by decide) ?_
    refine tr_ci (va_runV (As := [.int 1]) (rest := []) ⟨hx, hb, hml, hown, hts⟩ (c_X7_no l D cI M hMi (lSc mv 0 0) sv nv 1 ) (cwV 1 hts gX7_come_X7_no rfl rfl rfl (by decide +kernel) ⟨Nat.le_of_ble_eq_true rfl, Nat.le_of_ble_eq_true rfl⟩) (tr_preV hK hM.c0 rfl ⟨hM, hN⟩) rfl rfl hl.1 rfl (lv_room (Nat.le_of_ble_eq_true rfl)) dX7_come_15 ⟨Nat.zero_le _, Nat.zero_le _⟩) hS (fun _ h => h) (fun H locs h9 hS => ?_)
    have hM : STA D cI (mA M) (lSc (lSc mv 0 0) 0 1) sv H := h9.1
    have hN : STA D cI (nA M) (lSc (lSc mv 0 0) 0 1) nv H := h9.2
    clear h9
    exact W.iret hx hb hr (hS.endr (by rw [rX7_come, if_pos c_10]) (by rw [fX7_come, if_pos c_10]; exact ⟨hM, hN⟩)) hS.2.2 dX7_come_18
def fX7_put (mv : LV) (sv : LV) (nv : LV) (po : Int32) (up : Int32) (wr : Int32) : LV × LV × LV :=
  (if (fX7_isPole (lSc mv 0 0) sv nv po) = 0 then (lSc (lSc mv 0 0) 0 1, sv, nv) else (if (fX7_isIn wr 0 99) = 0 then (lSc (lSc mv 0 0) 0 2, sv, nv) else (if (mv.1 2) = 6 then (lSc (lSc mv 0 0) 0 3, sv, nv) else (if (fX6_carsAt (lSc mv 0 0) sv po) = 2 then (lSc (lSc mv 0 0) 0 3, sv, nv) else (if up = 0 then (lSc (lSc mv 0 0) 2 ((mv.1 2) + 1), aSet (aSet (aSet (aSet sv 6 (mv.1 2) po) 7 (mv.1 2) (-1)) 9 (mv.1 2) wr) 11 (mv.1 2) (-1), nv) else (lSc (lSc mv 0 0) 2 ((mv.1 2) + 1), aSet (aSet (aSet (aSet sv 6 (mv.1 2) po) 7 (mv.1 2) 1) 9 (mv.1 2) wr) 11 (mv.1 2) (-1), nv))))))
def rX7_put (mv : LV) (sv : LV) (nv : LV) (po : Int32) (up : Int32) (wr : Int32) : Int32 :=
  (if (fX7_isPole (lSc mv 0 0) sv nv po) = 0 then 0 else (if (fX7_isIn wr 0 99) = 0 then 0 else (if (mv.1 2) = 6 then 0 else (if (fX6_carsAt (lSc mv 0 0) sv po) = 2 then 0 else (if up = 0 then ((mv.1 2) + 1) - 1 else ((mv.1 2) + 1) - 1)))))
set_option maxHeartbeats 4000000 in
set_option maxRecDepth 100000 in
theorem c_X7_put (l : Launch) (D : va_G) (cI : ClassId) (M : Nat → Nat) (hMi : MInj M) (mv sv nv : LV) (po : Int32) (up : Int32) (wr : Int32) (hm : mOK mv) : Met l yX7_put wsX7_put ({ frames := 2, cells := 0, slots := 0, locals := 43 }) (tr_Pc D cI [.ref ((mA M) 0), .int po, .int up, .int wr] (MPT D cI M (mv, sv, nv))) (tr_Q (some (.int (rX7_put mv sv nv po up wr))) (MPT D cI M (fX7_put mv sv nv po up wr)) (mOwn M)) 0 0 (mOwn M) := by
  refine Met.ofW (cc := cX7_put) (maxL := 4) (ret := (some .int)) (by decide) rfl ?_
  intro p e s m args below meth c s₁ B hml hv
  obtain ⟨rfl, ⟨hM, hN⟩, hK⟩ := hv
  have hx := B.exec
  have hb := B.bytes
  have hr := B.returns
  have hts := atoms_spec (ws := wsX7_put) B.pre
  have hown : s.vm.findClass RX7 = some m.cls := findClass_of_methodNamed B.named
  have hlocks := B.notSynchronized
  have hd := mn_dis hMi
  have hds := nm_dis hMi
  replace hM : STA D cI (mA M) mv sv s.heap := hM
  replace hN : STA D cI (nA M) mv nv s.heap := hN
  have hiX6 : ∀ w ∈ u_ws RX6 TX6 19, w ∈ wsX7_put := by decide +kernel
  have hiX7 : ∀ w ∈ u_ws RX7 TX7 6, w ∈ wsX7_put := by decide +kernel
  have f22 := hts (.fieldLink RX7 22 "TramRibbonModel" "s" "LTramRibbonModel$State;") (by decide +kernel)
  have f32 := hts (.fieldLink RX7 32 "TramRibbonModel" "thrown" "I") (by decide +kernel)
  have f46 := hts (.fieldLink RX7 46 "TramRibbonModel" "cars" "I") (by decide +kernel)
  have hl := lv_entry ([.ref ((mA M) 0), .int po, .int up, .int wr]) (n := 4) (Nat.le_of_ble_eq_true rfl)
  rw [lg_entry_eq]
  generalize (lg_sl ([.ref ((mA M) 0), .int po, .int up, .int wr]) ++ List.replicate (4 - (lg_sl ([.ref ((mA M) 0), .int po, .int up, .int wr])).length) Slot.unset).toArray = ls at hl ⊢
  replace hl : lv_has ls 4 [(0, .ref ((mA M) 0)), (1, .int po), (2, .int up), (3, .int wr)] := hl
  have hS : tr_S (mOwn M) s.heap s.heap [] := tr_S.rf
  generalize h1 : s.heap = H, h2 : ([] : List Loc) = locs
  replace hS : tr_S (mOwn M) s.heap H locs := by rw [← h1, ← h2]; exact hS
  rw [h1] at hM hN
  clear h1 h2
  refine lv_aload_n hx hb dX7_put_0 rfl (lv_at hl 0 rfl) ?_
  refine lv_iconst (v := 0) hx hb dX7_put_1 (by decide) ?_
  refine tr_put (ci := 7) (C := RX7) (T := TX7) (N := 6) (ty := .int) (v := .int 0) hx hb hts hiX7 tyX7 tyX7_ok nmX7 hown hK hS (mOwn_k (k := 0) (by decide)) hM.c0 rfl 0 (by decide) f32 rfl (by decide +kernel) rfl rfl (Nat.le_of_ble_eq_true rfl) dX7_put_2 (fun H locs hat hz hk hS => ?_)
  have hM : STA D cI (mA M) (lSc mv 0 0) sv H := hM.setM hd.1 0 hat rfl rfl hk
  have hN : STA D cI (nA M) (lSc mv 0 0) nv H := hN.setM hd.2.1 0 hat rfl rfl hk
  clear hat hz hk
  refine lv_aload_n hx hb dX7_put_5 rfl (lv_at hl 0 rfl) ?_
  refine lv_iload_n hx hb dX7_put_6 rfl (lv_at hl 1 rfl) ?_
  refine tr_ri (va_runV (As := [.int po]) (rest := []) ⟨hx, hb, hml, hown, hts⟩ (c_X7_isPole l D cI M hMi (lSc mv 0 0) sv nv po ) (cwV 1 hts gX7_put_X7_isPole rfl rfl rfl (by decide +kernel) ⟨Nat.le_of_ble_eq_true rfl, Nat.le_of_ble_eq_true rfl⟩) (tr_preV hK hM.c0 rfl ⟨hM, hN⟩) rfl rfl hl.1 rfl (lv_room (Nat.le_of_ble_eq_true rfl)) dX7_put_7 ⟨Nat.zero_le _, Nat.zero_le _⟩) ?_
  refine lv_if_ne (tgt := 19) hx hb dX7_put_10 (by decide) (fun c_10 => ?_) (fun c_10 => ?_)
  · refine lv_iload_n hx hb dX7_put_19 rfl (lv_at hl 3 rfl) ?_
    refine lv_iconst (v := 0) hx hb dX7_put_20 (by decide) ?_
    refine lv_bipush (v := 99) hx hb dX7_put_21 (by decide) ?_
    refine tr_ri (va_runS (As := [.int wr, .int 0, .int 99]) (rest := []) ⟨hx, hb, hml, hown, hts⟩ (c_X7_isIn l D cI wr 0 99) (va_cwS 3 hts gX7_put_X7_isIn rfl rfl rfl (by decide +kernel) ⟨Nat.le_of_ble_eq_true rfl, Nat.le_of_ble_eq_true rfl⟩) (tr_preS hK trivial) rfl rfl hl.1 rfl (lv_room (Nat.le_of_ble_eq_true rfl)) dX7_put_23 ⟨Nat.zero_le _, Nat.zero_le _⟩) ?_
    refine lv_if_ne (tgt := 35) hx hb dX7_put_26 (by decide) (fun c_26 => ?_) (fun c_26 => ?_)
    · refine lv_aload_n hx hb dX7_put_35 rfl (lv_at hl 0 rfl) ?_
      refine tr_get (ci := 7) (C := RX7) (T := TX7) (N := 6) hx hb hts hiX7 hown hK hM.c0 rfl 2 (by decide) f46 (v := .int (mv.1 2)) rfl dX7_put_36 ?_
      refine lv_bipush (v := 6) hx hb dX7_put_39 (by decide) ?_
      refine lv_icmp_eq (tgt := 56) hx hb dX7_put_41 (by decide) (fun c_41 => ?_) (fun c_41 => ?_)
      · refine lv_aload_n hx hb dX7_put_56 rfl (lv_at hl 0 rfl) ?_
        refine lv_iconst (v := 3) hx hb dX7_put_57 (by decide) ?_
        refine tr_ci (va_runV (As := [.int 3]) (rest := []) ⟨hx, hb, hml, hown, hts⟩ (c_X7_no l D cI M hMi (lSc mv 0 0) sv nv 3 ) (cwV 1 hts gX7_put_X7_no rfl rfl rfl (by decide +kernel) ⟨Nat.le_of_ble_eq_true rfl, Nat.le_of_ble_eq_true rfl⟩) (tr_preV hK hM.c0 rfl ⟨hM, hN⟩) rfl rfl hl.1 rfl (lv_room (Nat.le_of_ble_eq_true rfl)) dX7_put_58 ⟨Nat.zero_le _, Nat.zero_le _⟩) hS (fun _ h => h) (fun H locs h9 hS => ?_)
        have hM : STA D cI (mA M) (lSc (lSc mv 0 0) 0 3) sv H := h9.1
        have hN : STA D cI (nA M) (lSc (lSc mv 0 0) 0 3) nv H := h9.2
        clear h9
        exact W.iret hx hb hr (hS.endr (by rw [rX7_put, if_neg c_10, if_neg c_26, if_pos c_41]) (by rw [fX7_put, if_neg c_10, if_neg c_26, if_pos c_41]; exact ⟨hM, hN⟩)) hS.2.2 dX7_put_61
      · refine lv_aload_n hx hb dX7_put_44 rfl (lv_at hl 0 rfl) ?_
        refine tr_get (ci := 7) (C := RX7) (T := TX7) (N := 6) hx hb hts hiX7 hown hK hM.c0 rfl 4 (by decide) f22 (v := .ref ((mA M) 2)) rfl dX7_put_45 ?_
        refine lv_iload_n hx hb dX7_put_48 rfl (lv_at hl 1 rfl) ?_
        refine tr_ri (va_runV (As := [.int po]) (rest := []) ⟨hx, hb, hml, hown, hts⟩ (c_X6_carsAt l D cI (mA M) hd.1 (lSc mv 0 0) sv po hm) (cwV 1 hts gX7_put_X6_carsAt rfl rfl rfl (by decide +kernel) ⟨Nat.le_of_ble_eq_true rfl, Nat.le_of_ble_eq_true rfl⟩) (tr_preV hK hM.c2 rfl hM) rfl rfl hl.1 rfl (lv_room (Nat.le_of_ble_eq_true rfl)) dX7_put_49 ⟨Nat.zero_le _, Nat.zero_le _⟩) ?_
        refine lv_iconst (v := 2) hx hb dX7_put_52 (by decide) ?_
        refine lv_icmp_ne (tgt := 62) hx hb dX7_put_53 (by decide) (fun c_53 => ?_) (fun c_53 => ?_)
        · refine lv_aload_n hx hb dX7_put_62 rfl (lv_at hl 0 rfl) ?_
          refine tr_get (ci := 7) (C := RX7) (T := TX7) (N := 6) hx hb hts hiX7 hown hK hM.c0 rfl 4 (by decide) f22 (v := .ref ((mA M) 2)) rfl dX7_put_63 ?_
          refine tr_getN (host := "TramRibbonModel") (ci := 6) (C := RX6) (T := TX6) (N := 19) hx hb hts hiX6 hown hK hM.c2 rfl 10 (by decide) (by decide +kernel) (v := .ref ((mA M) 9)) rfl dX7_put_66 ?_
          refine lv_aload_n hx hb dX7_put_69 rfl (lv_at hl 0 rfl) ?_
          refine tr_get (ci := 7) (C := RX7) (T := TX7) (N := 6) hx hb hts hiX7 hown hK hM.c0 rfl 2 (by decide) f46 (v := .int (mv.1 2)) rfl dX7_put_70 ?_
          refine lv_iload_n hx hb dX7_put_73 rfl (lv_at hl 1 rfl) ?_
          refine tr_sast hx hb hK hS hd.1 hM mOwn_s 6 (by decide) (cars_vp hm c_41) dX7_put_74 (fun H locs hM hk hS => ?_)
          replace hN := st_keep hd hN 9 (by decide) (by decide) hk
          clear hk
          refine lv_aload_n hx hb dX7_put_75 rfl (lv_at hl 0 rfl) ?_
          refine tr_get (ci := 7) (C := RX7) (T := TX7) (N := 6) hx hb hts hiX7 hown hK hM.c0 rfl 4 (by decide) f22 (v := .ref ((mA M) 2)) rfl dX7_put_76 ?_
          refine tr_getN (host := "TramRibbonModel") (ci := 6) (C := RX6) (T := TX6) (N := 19) hx hb hts hiX6 hown hK hM.c2 rfl 11 (by decide) (by decide +kernel) (v := .ref ((mA M) 10)) rfl dX7_put_79 ?_
          refine lv_aload_n hx hb dX7_put_82 rfl (lv_at hl 0 rfl) ?_
          refine tr_get (ci := 7) (C := RX7) (T := TX7) (N := 6) hx hb hts hiX7 hown hK hM.c0 rfl 2 (by decide) f46 (v := .int (mv.1 2)) rfl dX7_put_83 ?_
          refine lv_iload_n hx hb dX7_put_86 rfl (lv_at hl 2 rfl) ?_
          refine lv_if_eq (tgt := 94) hx hb dX7_put_87 (by decide) (fun c_87 => ?_) (fun c_87 => ?_)
          · refine lv_iconst (v := -1) hx hb dX7_put_94 (by decide) ?_
            refine tr_sast hx hb hK hS hd.1 hM mOwn_s 7 (by decide) (cars_vp hm c_41) dX7_put_95 (fun H locs hM hk hS => ?_)
            replace hN := st_keep hd hN 10 (by decide) (by decide) hk
            clear hk
            refine lv_aload_n hx hb dX7_put_96 rfl (lv_at hl 0 rfl) ?_
            refine tr_get (ci := 7) (C := RX7) (T := TX7) (N := 6) hx hb hts hiX7 hown hK hM.c0 rfl 4 (by decide) f22 (v := .ref ((mA M) 2)) rfl dX7_put_97 ?_
            refine tr_getN (host := "TramRibbonModel") (ci := 6) (C := RX6) (T := TX6) (N := 19) hx hb hts hiX6 hown hK hM.c2 rfl 13 (by decide) (by decide +kernel) (v := .ref ((mA M) 12)) rfl dX7_put_100 ?_
            refine lv_aload_n hx hb dX7_put_103 rfl (lv_at hl 0 rfl) ?_
            refine tr_get (ci := 7) (C := RX7) (T := TX7) (N := 6) hx hb hts hiX7 hown hK hM.c0 rfl 2 (by decide) f46 (v := .int (mv.1 2)) rfl dX7_put_104 ?_
            refine lv_iload_n hx hb dX7_put_107 rfl (lv_at hl 3 rfl) ?_
            refine tr_sast hx hb hK hS hd.1 hM mOwn_s 9 (by decide) (cars_vp hm c_41) dX7_put_108 (fun H locs hM hk hS => ?_)
            replace hN := st_keep hd hN 12 (by decide) (by decide) hk
            clear hk
            refine lv_aload_n hx hb dX7_put_109 rfl (lv_at hl 0 rfl) ?_
            refine tr_get (ci := 7) (C := RX7) (T := TX7) (N := 6) hx hb hts hiX7 hown hK hM.c0 rfl 4 (by decide) f22 (v := .ref ((mA M) 2)) rfl dX7_put_110 ?_
            refine tr_getN (host := "TramRibbonModel") (ci := 6) (C := RX6) (T := TX6) (N := 19) hx hb hts hiX6 hown hK hM.c2 rfl 15 (by decide) (by decide +kernel) (v := .ref ((mA M) 14)) rfl dX7_put_113 ?_
            refine lv_aload_n hx hb dX7_put_116 rfl (lv_at hl 0 rfl) ?_
            refine tr_get (ci := 7) (C := RX7) (T := TX7) (N := 6) hx hb hts hiX7 hown hK hM.c0 rfl 2 (by decide) f46 (v := .int (mv.1 2)) rfl dX7_put_117 ?_
            refine lv_iconst (v := -1) hx hb dX7_put_120 (by decide) ?_
            refine tr_sast hx hb hK hS hd.1 hM mOwn_s 11 (by decide) (cars_vp hm c_41) dX7_put_121 (fun H locs hM hk hS => ?_)
            replace hN := st_keep hd hN 14 (by decide) (by decide) hk
            clear hk
            refine lv_aload_n hx hb dX7_put_122 rfl (lv_at hl 0 rfl) ?_
            refine lv_dup hx hb dX7_put_123 rfl ?_
            refine tr_get (ci := 7) (C := RX7) (T := TX7) (N := 6) hx hb hts hiX7 hown hK hM.c0 rfl 2 (by decide) f46 (v := .int (mv.1 2)) rfl dX7_put_124 ?_
            refine lv_iconst (v := 1) hx hb dX7_put_127 (by decide) ?_
            refine lv_iadd hx hb dX7_put_128 ?_
            refine tr_put (ci := 7) (C := RX7) (T := TX7) (N := 6) (ty := .int) (v := .int ((mv.1 2) + 1)) hx hb hts hiX7 tyX7 tyX7_ok nmX7 hown hK hS (mOwn_k (k := 0) (by decide)) hM.c0 rfl 2 (by decide) f46 rfl (by decide +kernel) rfl rfl (Nat.le_of_ble_eq_true rfl) dX7_put_129 (fun H locs hat hz hk hS => ?_)
            have hM : STA D cI (mA M) (lSc (lSc mv 0 0) 2 ((mv.1 2) + 1)) (aSet (aSet (aSet (aSet sv 6 (mv.1 2) po) 7 (mv.1 2) (-1)) 9 (mv.1 2) wr) 11 (mv.1 2) (-1)) H := hM.setM hd.1 2 hat rfl rfl hk
            have hN : STA D cI (nA M) (lSc (lSc mv 0 0) 2 ((mv.1 2) + 1)) nv H := hN.setM hd.2.1 2 hat rfl rfl hk
            clear hat hz hk
            refine lv_aload_n hx hb dX7_put_132 rfl (lv_at hl 0 rfl) ?_
            refine tr_get (ci := 7) (C := RX7) (T := TX7) (N := 6) hx hb hts hiX7 hown hK hM.c0 rfl 2 (by decide) f46 (v := .int ((mv.1 2) + 1)) rfl dX7_put_133 ?_
            refine lv_iconst (v := 1) hx hb dX7_put_136 (by decide) ?_
            refine lv_isub hx hb dX7_put_137 ?_
            exact W.iret hx hb hr (hS.endr (by rw [rX7_put, if_neg c_10, if_neg c_26, if_neg c_41, if_neg c_53, if_pos c_87]) (by rw [fX7_put, if_neg c_10, if_neg c_26, if_neg c_41, if_neg c_53, if_pos c_87]; exact ⟨hM, hN⟩)) hS.2.2 dX7_put_138
          · refine lv_iconst (v := 1) hx hb dX7_put_90 (by decide) ?_
            refine lv_goto (tgt := 95) hx hb dX7_put_91 (by decide) ?_
            refine tr_sast hx hb hK hS hd.1 hM mOwn_s 7 (by decide) (cars_vp hm c_41) dX7_put_95 (fun H locs hM hk hS => ?_)
            replace hN := st_keep hd hN 10 (by decide) (by decide) hk
            clear hk
            refine lv_aload_n hx hb dX7_put_96 rfl (lv_at hl 0 rfl) ?_
            refine tr_get (ci := 7) (C := RX7) (T := TX7) (N := 6) hx hb hts hiX7 hown hK hM.c0 rfl 4 (by decide) f22 (v := .ref ((mA M) 2)) rfl dX7_put_97 ?_
            refine tr_getN (host := "TramRibbonModel") (ci := 6) (C := RX6) (T := TX6) (N := 19) hx hb hts hiX6 hown hK hM.c2 rfl 13 (by decide) (by decide +kernel) (v := .ref ((mA M) 12)) rfl dX7_put_100 ?_
            refine lv_aload_n hx hb dX7_put_103 rfl (lv_at hl 0 rfl) ?_
            refine tr_get (ci := 7) (C := RX7) (T := TX7) (N := 6) hx hb hts hiX7 hown hK hM.c0 rfl 2 (by decide) f46 (v := .int (mv.1 2)) rfl dX7_put_104 ?_
            refine lv_iload_n hx hb dX7_put_107 rfl (lv_at hl 3 rfl) ?_
            refine tr_sast hx hb hK hS hd.1 hM mOwn_s 9 (by decide) (cars_vp hm c_41) dX7_put_108 (fun H locs hM hk hS => ?_)
            replace hN := st_keep hd hN 12 (by decide) (by decide) hk
            clear hk
            refine lv_aload_n hx hb dX7_put_109 rfl (lv_at hl 0 rfl) ?_
            refine tr_get (ci := 7) (C := RX7) (T := TX7) (N := 6) hx hb hts hiX7 hown hK hM.c0 rfl 4 (by decide) f22 (v := .ref ((mA M) 2)) rfl dX7_put_110 ?_
            refine tr_getN (host := "TramRibbonModel") (ci := 6) (C := RX6) (T := TX6) (N := 19) hx hb hts hiX6 hown hK hM.c2 rfl 15 (by decide) (by decide +kernel) (v := .ref ((mA M) 14)) rfl dX7_put_113 ?_
            refine lv_aload_n hx hb dX7_put_116 rfl (lv_at hl 0 rfl) ?_
            refine tr_get (ci := 7) (C := RX7) (T := TX7) (N := 6) hx hb hts hiX7 hown hK hM.c0 rfl 2 (by decide) f46 (v := .int (mv.1 2)) rfl dX7_put_117 ?_
            refine lv_iconst (v := -1) hx hb dX7_put_120 (by decide) ?_
            refine tr_sast hx hb hK hS hd.1 hM mOwn_s 11 (by decide) (cars_vp hm c_41) dX7_put_121 (fun H locs hM hk hS => ?_)
            replace hN := st_keep hd hN 14 (by decide) (by decide) hk
            clear hk
            refine lv_aload_n hx hb dX7_put_122 rfl (lv_at hl 0 rfl) ?_
            refine lv_dup hx hb dX7_put_123 rfl ?_
            refine tr_get (ci := 7) (C := RX7) (T := TX7) (N := 6) hx hb hts hiX7 hown hK hM.c0 rfl 2 (by decide) f46 (v := .int (mv.1 2)) rfl dX7_put_124 ?_
            refine lv_iconst (v := 1) hx hb dX7_put_127 (by decide) ?_
            refine lv_iadd hx hb dX7_put_128 ?_
            refine tr_put (ci := 7) (C := RX7) (T := TX7) (N := 6) (ty := .int) (v := .int ((mv.1 2) + 1)) hx hb hts hiX7 tyX7 tyX7_ok nmX7 hown hK hS (mOwn_k (k := 0) (by decide)) hM.c0 rfl 2 (by decide) f46 rfl (by decide +kernel) rfl rfl (Nat.le_of_ble_eq_true rfl) dX7_put_129 (fun H locs hat hz hk hS => ?_)
            have hM : STA D cI (mA M) (lSc (lSc mv 0 0) 2 ((mv.1 2) + 1)) (aSet (aSet (aSet (aSet sv 6 (mv.1 2) po) 7 (mv.1 2) 1) 9 (mv.1 2) wr) 11 (mv.1 2) (-1)) H := hM.setM hd.1 2 hat rfl rfl hk
            have hN : STA D cI (nA M) (lSc (lSc mv 0 0) 2 ((mv.1 2) + 1)) nv H := hN.setM hd.2.1 2 hat rfl rfl hk
            clear hat hz hk
            refine lv_aload_n hx hb dX7_put_132 rfl (lv_at hl 0 rfl) ?_
            refine tr_get (ci := 7) (C := RX7) (T := TX7) (N := 6) hx hb hts hiX7 hown hK hM.c0 rfl 2 (by decide) f46 (v := .int ((mv.1 2) + 1)) rfl dX7_put_133 ?_
            refine lv_iconst (v := 1) hx hb dX7_put_136 (by decide) ?_
            refine lv_isub hx hb dX7_put_137 ?_
            exact W.iret hx hb hr (hS.endr (by rw [rX7_put, if_neg c_10, if_neg c_26, if_neg c_41, if_neg c_53, if_neg c_87]) (by rw [fX7_put, if_neg c_10, if_neg c_26, if_neg c_41, if_neg c_53, if_neg c_87]; exact ⟨hM, hN⟩)) hS.2.2 dX7_put_138
        · refine lv_aload_n hx hb dX7_put_56 rfl (lv_at hl 0 rfl) ?_
          refine lv_iconst (v := 3) hx hb dX7_put_57 (by decide) ?_
          refine tr_ci (va_runV (As := [.int 3]) (rest := []) ⟨hx, hb, hml, hown, hts⟩ (c_X7_no l D cI M hMi (lSc mv 0 0) sv nv 3 ) (cwV 1 hts gX7_put_X7_no rfl rfl rfl (by decide +kernel) ⟨Nat.le_of_ble_eq_true rfl, Nat.le_of_ble_eq_true rfl⟩) (tr_preV hK hM.c0 rfl ⟨hM, hN⟩) rfl rfl hl.1 rfl (lv_room (Nat.le_of_ble_eq_true rfl)) dX7_put_58 ⟨Nat.zero_le _, Nat.zero_le _⟩) hS (fun _ h => h) (fun H locs h9 hS => ?_)
          have hM : STA D cI (mA M) (lSc (lSc mv 0 0) 0 3) sv H := h9.1
          have hN : STA D cI (nA M) (lSc (lSc mv 0 0) 0 3) nv H := h9.2
          clear h9
          exact W.iret hx hb hr (hS.endr (by rw [rX7_put, if_neg c_10, if_neg c_26, if_neg c_41, if_pos c_53]) (by rw [fX7_put, if_neg c_10, if_neg c_26, if_neg c_41, if_pos c_53]; exact ⟨hM, hN⟩)) hS.2.2 dX7_put_61
    · refine lv_aload_n hx hb dX7_put_29 rfl (lv_at hl 0 rfl) ?_
      refine lv_iconst (v := 2) hx hb dX7_put_30 (by decide) ?_
      refine tr_ci (va_runV (As := [.int 2]) (rest := []) ⟨hx, hb, hml, hown, hts⟩ (c_X7_no l D cI M hMi (lSc mv 0 0) sv nv 2 ) (cwV 1 hts gX7_put_X7_no rfl rfl rfl (by decide +kernel) ⟨Nat.le_of_ble_eq_true rfl, Nat.le_of_ble_eq_true rfl⟩) (tr_preV hK hM.c0 rfl ⟨hM, hN⟩) rfl rfl hl.1 rfl (lv_room (Nat.le_of_ble_eq_true rfl)) dX7_put_31 ⟨Nat.zero_le _, Nat.zero_le _⟩) hS (fun _ h => h) (fun H locs h9 hS => ?_)
      have hM : STA D cI (mA M) (lSc (lSc mv 0 0) 0 2) sv H := h9.1
      have hN : STA D cI (nA M) (lSc (lSc mv 0 0) 0 2) nv H := h9.2
      clear h9
      exact W.iret hx hb hr (hS.endr (by rw [rX7_put, if_neg c_10, if_pos c_26]) (by rw [fX7_put, if_neg c_10, if_pos c_26]; exact ⟨hM, hN⟩)) hS.2.2 dX7_put_34
  · refine lv_aload_n hx hb dX7_put_13 rfl (lv_at hl 0 rfl) ?_
    refine lv_iconst (v := 1) hx hb dX7_put_14 (by decide) ?_
    refine tr_ci (va_runV (As := [.int 1]) (rest := []) ⟨hx, hb, hml, hown, hts⟩ (c_X7_no l D cI M hMi (lSc mv 0 0) sv nv 1 ) (cwV 1 hts gX7_put_X7_no rfl rfl rfl (by decide +kernel) ⟨Nat.le_of_ble_eq_true rfl, Nat.le_of_ble_eq_true rfl⟩) (tr_preV hK hM.c0 rfl ⟨hM, hN⟩) rfl rfl hl.1 rfl (lv_room (Nat.le_of_ble_eq_true rfl)) dX7_put_15 ⟨Nat.zero_le _, Nat.zero_le _⟩) hS (fun _ h => h) (fun H locs h9 hS => ?_)
    have hM : STA D cI (mA M) (lSc (lSc mv 0 0) 0 1) sv H := h9.1
    have hN : STA D cI (nA M) (lSc (lSc mv 0 0) 0 1) nv H := h9.2
    clear h9
    exact W.iret hx hb hr (hS.endr (by rw [rX7_put, if_pos c_10]) (by rw [fX7_put, if_pos c_10]; exact ⟨hM, hN⟩)) hS.2.2 dX7_put_18
def fX7_poleTold (mv : LV) (sv : LV) (nv : LV) (po : Int32) (wh : Int32) : Int32 :=
  (if wh = 0 then aAt sv 0 po else (if wh = 1 then fX6_carsAt mv sv po else (if wh = 2 then aAt sv 1 po else aAt sv 2 po)))
set_option maxHeartbeats 4000000 in
set_option maxRecDepth 100000 in
theorem c_X7_poleTold (l : Launch) (D : va_G) (cI : ClassId) (M : Nat → Nat) (hMi : MInj M) (mv sv nv : LV) (po : Int32) (wh : Int32) (hm : mOK mv) (hpo : vp_in po 16) : Met l yX7_poleTold wsX7_poleTold ({ frames := 1, cells := 0, slots := 0, locals := 23 }) (tr_Pc D cI [.ref ((mA M) 0), .int po, .int wh] (MPT D cI M (mv, sv, nv))) (vp_Si (fun r => r = fX7_poleTold mv sv nv po wh)) 0 0 (fun _ => False) := by
  refine Met.ofW (cc := cX7_poleTold) (maxL := 3) (ret := (some .int)) (by decide) rfl ?_
  intro p e s m args below meth c s₁ B hml hv
  obtain ⟨rfl, ⟨hM, hN⟩, hK⟩ := hv
  have hx := B.exec
  have hb := B.bytes
  have hr := B.returns
  have hts := atoms_spec (ws := wsX7_poleTold) B.pre
  have hown : s.vm.findClass RX7 = some m.cls := findClass_of_methodNamed B.named
  have hlocks := B.notSynchronized
  have hd := mn_dis hMi
  have hds := nm_dis hMi
  replace hM : STA D cI (mA M) mv sv s.heap := hM
  replace hN : STA D cI (nA M) mv nv s.heap := hN
  have hiX6 : ∀ w ∈ u_ws RX6 TX6 19, w ∈ wsX7_poleTold := by decide +kernel
  have hiX7 : ∀ w ∈ u_ws RX7 TX7 6, w ∈ wsX7_poleTold := by decide +kernel
  have f22 := hts (.fieldLink RX7 22 "TramRibbonModel" "s" "LTramRibbonModel$State;") (by decide +kernel)
  have hl := lv_entry ([.ref ((mA M) 0), .int po, .int wh]) (n := 3) (Nat.le_of_ble_eq_true rfl)
  rw [lg_entry_eq]
  generalize (lg_sl ([.ref ((mA M) 0), .int po, .int wh]) ++ List.replicate (3 - (lg_sl ([.ref ((mA M) 0), .int po, .int wh])).length) Slot.unset).toArray = ls at hl ⊢
  replace hl : lv_has ls 3 [(0, .ref ((mA M) 0)), (1, .int po), (2, .int wh)] := hl
  refine lv_iload_n hx hb dX7_poleTold_0 rfl (lv_at hl 2 rfl) ?_
  refine lv_if_ne (tgt := 16) hx hb dX7_poleTold_1 (by decide) (fun c_1 => ?_) (fun c_1 => ?_)
  · refine lv_iload_n hx hb dX7_poleTold_16 rfl (lv_at hl 2 rfl) ?_
    refine lv_iconst (v := 1) hx hb dX7_poleTold_17 (by decide) ?_
    refine lv_icmp_ne (tgt := 32) hx hb dX7_poleTold_18 (by decide) (fun c_18 => ?_) (fun c_18 => ?_)
    · refine lv_iload_n hx hb dX7_poleTold_32 rfl (lv_at hl 2 rfl) ?_
      refine lv_iconst (v := 2) hx hb dX7_poleTold_33 (by decide) ?_
      refine lv_icmp_ne (tgt := 49) hx hb dX7_poleTold_34 (by decide) (fun c_34 => ?_) (fun c_34 => ?_)
      · refine lv_aload_n hx hb dX7_poleTold_49 rfl (lv_at hl 0 rfl) ?_
        refine tr_get (ci := 7) (C := RX7) (T := TX7) (N := 6) hx hb hts hiX7 hown hK hM.c0 rfl 4 (by decide) f22 (v := .ref ((mA M) 2)) rfl dX7_poleTold_50 ?_
        refine tr_getN (host := "TramRibbonModel") (ci := 6) (C := RX6) (T := TX6) (N := 19) hx hb hts hiX6 hown hK hM.c2 rfl 6 (by decide) (by decide +kernel) (v := .ref ((mA M) 5)) rfl dX7_poleTold_53 ?_
        refine lv_iload_n hx hb dX7_poleTold_56 rfl (lv_at hl 1 rfl) ?_
        refine tr_sald (sv := sv) hx hb hK 2 (hM.arr 2 (by decide)) hpo dX7_poleTold_57 ?_
        exact W.iret hx hb hr (tr_endi (by rw [fX7_poleTold, if_neg c_1, if_neg c_18, if_neg c_34])) (fun _ h => by cases h) dX7_poleTold_58
      · refine lv_aload_n hx hb dX7_poleTold_37 rfl (lv_at hl 0 rfl) ?_
        refine tr_get (ci := 7) (C := RX7) (T := TX7) (N := 6) hx hb hts hiX7 hown hK hM.c0 rfl 4 (by decide) f22 (v := .ref ((mA M) 2)) rfl dX7_poleTold_38 ?_
        refine tr_getN (host := "TramRibbonModel") (ci := 6) (C := RX6) (T := TX6) (N := 19) hx hb hts hiX6 hown hK hM.c2 rfl 5 (by decide) (by decide +kernel) (v := .ref ((mA M) 4)) rfl dX7_poleTold_41 ?_
        refine lv_iload_n hx hb dX7_poleTold_44 rfl (lv_at hl 1 rfl) ?_
        refine tr_sald (sv := sv) hx hb hK 1 (hM.arr 1 (by decide)) hpo dX7_poleTold_45 ?_
        refine lv_goto (tgt := 58) hx hb dX7_poleTold_46 (by decide) ?_
        exact W.iret hx hb hr (tr_endi (by rw [fX7_poleTold, if_neg c_1, if_neg c_18, if_pos c_34])) (fun _ h => by cases h) dX7_poleTold_58
    · refine lv_aload_n hx hb dX7_poleTold_21 rfl (lv_at hl 0 rfl) ?_
      refine tr_get (ci := 7) (C := RX7) (T := TX7) (N := 6) hx hb hts hiX7 hown hK hM.c0 rfl 4 (by decide) f22 (v := .ref ((mA M) 2)) rfl dX7_poleTold_22 ?_
      refine lv_iload_n hx hb dX7_poleTold_25 rfl (lv_at hl 1 rfl) ?_
      refine tr_ri (va_runV (As := [.int po]) (rest := []) ⟨hx, hb, hml, hown, hts⟩ (c_X6_carsAt l D cI (mA M) hd.1 mv sv po hm) (cwV 1 hts gX7_poleTold_X6_carsAt rfl rfl rfl (by decide +kernel) ⟨Nat.le_of_ble_eq_true rfl, Nat.le_of_ble_eq_true rfl⟩) (tr_preV hK hM.c2 rfl hM) rfl rfl hl.1 rfl (lv_room (Nat.le_of_ble_eq_true rfl)) dX7_poleTold_26 ⟨Nat.zero_le _, Nat.zero_le _⟩) ?_
      refine lv_goto (tgt := 58) hx hb dX7_poleTold_29 (by decide) ?_
      exact W.iret hx hb hr (tr_endi (by rw [fX7_poleTold, if_neg c_1, if_pos c_18])) (fun _ h => by cases h) dX7_poleTold_58
  · refine lv_aload_n hx hb dX7_poleTold_4 rfl (lv_at hl 0 rfl) ?_
    refine tr_get (ci := 7) (C := RX7) (T := TX7) (N := 6) hx hb hts hiX7 hown hK hM.c0 rfl 4 (by decide) f22 (v := .ref ((mA M) 2)) rfl dX7_poleTold_5 ?_
    refine tr_getN (host := "TramRibbonModel") (ci := 6) (C := RX6) (T := TX6) (N := 19) hx hb hts hiX6 hown hK hM.c2 rfl 4 (by decide) (by decide +kernel) (v := .ref ((mA M) 3)) rfl dX7_poleTold_8 ?_
    refine lv_iload_n hx hb dX7_poleTold_11 rfl (lv_at hl 1 rfl) ?_
    refine tr_sald (sv := sv) hx hb hK 0 (hM.arr 0 (by decide)) hpo dX7_poleTold_12 ?_
    refine lv_goto (tgt := 58) hx hb dX7_poleTold_13 (by decide) ?_
    exact W.iret hx hb hr (tr_endi (by rw [fX7_poleTold, if_pos c_1])) (fun _ h => by cases h) dX7_poleTold_58
def fX7_pole (mv : LV) (sv : LV) (nv : LV) (po : Int32) (wh : Int32) : LV × LV × LV :=
  (if (fX7_isPole (lSc mv 0 0) sv nv po) = 0 then (lSc (lSc mv 0 0) 0 1, sv, nv) else (if (fX7_isIn wh 0 3) = 0 then (lSc (lSc mv 0 0) 0 1, sv, nv) else (lSc mv 0 0, sv, nv)))
def rX7_pole (mv : LV) (sv : LV) (nv : LV) (po : Int32) (wh : Int32) : Int32 :=
  (if (fX7_isPole (lSc mv 0 0) sv nv po) = 0 then 0 else (if (fX7_isIn wh 0 3) = 0 then 0 else fX7_poleTold (lSc mv 0 0) sv nv po wh))
set_option maxHeartbeats 4000000 in
set_option maxRecDepth 100000 in
theorem c_X7_pole (l : Launch) (D : va_G) (cI : ClassId) (M : Nat → Nat) (hMi : MInj M) (mv sv nv : LV) (po : Int32) (wh : Int32) (hm : mOK mv) : Met l yX7_pole wsX7_pole ({ frames := 2, cells := 0, slots := 0, locals := 45 }) (tr_Pc D cI [.ref ((mA M) 0), .int po, .int wh] (MPT D cI M (mv, sv, nv))) (tr_Q (some (.int (rX7_pole mv sv nv po wh))) (MPT D cI M (fX7_pole mv sv nv po wh)) (mOwn M)) 0 0 (mOwn M) := by
  refine Met.ofW (cc := cX7_pole) (maxL := 3) (ret := (some .int)) (by decide) rfl ?_
  intro p e s m args below meth c s₁ B hml hv
  obtain ⟨rfl, ⟨hM, hN⟩, hK⟩ := hv
  have hx := B.exec
  have hb := B.bytes
  have hr := B.returns
  have hts := atoms_spec (ws := wsX7_pole) B.pre
  have hown : s.vm.findClass RX7 = some m.cls := findClass_of_methodNamed B.named
  have hlocks := B.notSynchronized
  have hd := mn_dis hMi
  have hds := nm_dis hMi
  replace hM : STA D cI (mA M) mv sv s.heap := hM
  replace hN : STA D cI (nA M) mv nv s.heap := hN
  have hiX7 : ∀ w ∈ u_ws RX7 TX7 6, w ∈ wsX7_pole := by decide +kernel
  have f32 := hts (.fieldLink RX7 32 "TramRibbonModel" "thrown" "I") (by decide +kernel)
  have hl := lv_entry ([.ref ((mA M) 0), .int po, .int wh]) (n := 3) (Nat.le_of_ble_eq_true rfl)
  rw [lg_entry_eq]
  generalize (lg_sl ([.ref ((mA M) 0), .int po, .int wh]) ++ List.replicate (3 - (lg_sl ([.ref ((mA M) 0), .int po, .int wh])).length) Slot.unset).toArray = ls at hl ⊢
  replace hl : lv_has ls 3 [(0, .ref ((mA M) 0)), (1, .int po), (2, .int wh)] := hl
  have hS : tr_S (mOwn M) s.heap s.heap [] := tr_S.rf
  generalize h1 : s.heap = H, h2 : ([] : List Loc) = locs
  replace hS : tr_S (mOwn M) s.heap H locs := by rw [← h1, ← h2]; exact hS
  rw [h1] at hM hN
  clear h1 h2
  refine lv_aload_n hx hb dX7_pole_0 rfl (lv_at hl 0 rfl) ?_
  refine lv_iconst (v := 0) hx hb dX7_pole_1 (by decide) ?_
  refine tr_put (ci := 7) (C := RX7) (T := TX7) (N := 6) (ty := .int) (v := .int 0) hx hb hts hiX7 tyX7 tyX7_ok nmX7 hown hK hS (mOwn_k (k := 0) (by decide)) hM.c0 rfl 0 (by decide) f32 rfl (by decide +kernel) rfl rfl (Nat.le_of_ble_eq_true rfl) dX7_pole_2 (fun H locs hat hz hk hS => ?_)
  have hM : STA D cI (mA M) (lSc mv 0 0) sv H := hM.setM hd.1 0 hat rfl rfl hk
  have hN : STA D cI (nA M) (lSc mv 0 0) nv H := hN.setM hd.2.1 0 hat rfl rfl hk
  clear hat hz hk
  refine lv_aload_n hx hb dX7_pole_5 rfl (lv_at hl 0 rfl) ?_
  refine lv_iload_n hx hb dX7_pole_6 rfl (lv_at hl 1 rfl) ?_
  refine tr_ri (va_runV (As := [.int po]) (rest := []) ⟨hx, hb, hml, hown, hts⟩ (c_X7_isPole l D cI M hMi (lSc mv 0 0) sv nv po ) (cwV 1 hts gX7_pole_X7_isPole rfl rfl rfl (by decide +kernel) ⟨Nat.le_of_ble_eq_true rfl, Nat.le_of_ble_eq_true rfl⟩) (tr_preV hK hM.c0 rfl ⟨hM, hN⟩) rfl rfl hl.1 rfl (lv_room (Nat.le_of_ble_eq_true rfl)) dX7_pole_7 ⟨Nat.zero_le _, Nat.zero_le _⟩) ?_
  refine lv_if_eq (tgt := 31) hx hb dX7_pole_10 (by decide) (fun c_10 => ?_) (fun c_10 => ?_)
  · refine lv_aload_n hx hb dX7_pole_31 rfl (lv_at hl 0 rfl) ?_
    refine lv_iconst (v := 1) hx hb dX7_pole_32 (by decide) ?_
    refine tr_ci (va_runV (As := [.int 1]) (rest := []) ⟨hx, hb, hml, hown, hts⟩ (c_X7_no l D cI M hMi (lSc mv 0 0) sv nv 1 ) (cwV 1 hts gX7_pole_X7_no rfl rfl rfl (by decide +kernel) ⟨Nat.le_of_ble_eq_true rfl, Nat.le_of_ble_eq_true rfl⟩) (tr_preV hK hM.c0 rfl ⟨hM, hN⟩) rfl rfl hl.1 rfl (lv_room (Nat.le_of_ble_eq_true rfl)) dX7_pole_33 ⟨Nat.zero_le _, Nat.zero_le _⟩) hS (fun _ h => h) (fun H locs h9 hS => ?_)
    have hM : STA D cI (mA M) (lSc (lSc mv 0 0) 0 1) sv H := h9.1
    have hN : STA D cI (nA M) (lSc (lSc mv 0 0) 0 1) nv H := h9.2
    clear h9
    exact W.iret hx hb hr (hS.endr (by rw [rX7_pole, if_pos c_10]) (by rw [fX7_pole, if_pos c_10]; exact ⟨hM, hN⟩)) hS.2.2 dX7_pole_36
  · refine lv_iload_n hx hb dX7_pole_13 rfl (lv_at hl 2 rfl) ?_
    refine lv_iconst (v := 0) hx hb dX7_pole_14 (by decide) ?_
    refine lv_iconst (v := 3) hx hb dX7_pole_15 (by decide) ?_
    refine tr_ri (va_runS (As := [.int wh, .int 0, .int 3]) (rest := []) ⟨hx, hb, hml, hown, hts⟩ (c_X7_isIn l D cI wh 0 3) (va_cwS 3 hts gX7_pole_X7_isIn rfl rfl rfl (by decide +kernel) ⟨Nat.le_of_ble_eq_true rfl, Nat.le_of_ble_eq_true rfl⟩) (tr_preS hK trivial) rfl rfl hl.1 rfl (lv_room (Nat.le_of_ble_eq_true rfl)) dX7_pole_16 ⟨Nat.zero_le _, Nat.zero_le _⟩) ?_
    refine lv_if_eq (tgt := 31) hx hb dX7_pole_19 (by decide) (fun c_19 => ?_) (fun c_19 => ?_)
    · refine lv_aload_n hx hb dX7_pole_31 rfl (lv_at hl 0 rfl) ?_
      refine lv_iconst (v := 1) hx hb dX7_pole_32 (by decide) ?_
      refine tr_ci (va_runV (As := [.int 1]) (rest := []) ⟨hx, hb, hml, hown, hts⟩ (c_X7_no l D cI M hMi (lSc mv 0 0) sv nv 1 ) (cwV 1 hts gX7_pole_X7_no rfl rfl rfl (by decide +kernel) ⟨Nat.le_of_ble_eq_true rfl, Nat.le_of_ble_eq_true rfl⟩) (tr_preV hK hM.c0 rfl ⟨hM, hN⟩) rfl rfl hl.1 rfl (lv_room (Nat.le_of_ble_eq_true rfl)) dX7_pole_33 ⟨Nat.zero_le _, Nat.zero_le _⟩) hS (fun _ h => h) (fun H locs h9 hS => ?_)
      have hM : STA D cI (mA M) (lSc (lSc mv 0 0) 0 1) sv H := h9.1
      have hN : STA D cI (nA M) (lSc (lSc mv 0 0) 0 1) nv H := h9.2
      clear h9
      exact W.iret hx hb hr (hS.endr (by rw [rX7_pole, if_neg c_10, if_pos c_19]) (by rw [fX7_pole, if_neg c_10, if_pos c_19]; exact ⟨hM, hN⟩)) hS.2.2 dX7_pole_36
    · refine lv_aload_n hx hb dX7_pole_22 rfl (lv_at hl 0 rfl) ?_
      refine lv_iload_n hx hb dX7_pole_23 rfl (lv_at hl 1 rfl) ?_
      refine lv_iload_n hx hb dX7_pole_24 rfl (lv_at hl 2 rfl) ?_
      refine tr_ri (va_runV (As := [.int po, .int wh]) (rest := []) ⟨hx, hb, hml, hown, hts⟩ (c_X7_poleTold l D cI M hMi (lSc mv 0 0) sv nv po wh hm (isPole_in (mv := lSc mv 0 0) (sv := sv) (nv := nv) hm c_10)) (cwV 2 hts gX7_pole_X7_poleTold rfl rfl rfl (by decide +kernel) ⟨Nat.le_of_ble_eq_true rfl, Nat.le_of_ble_eq_true rfl⟩) (tr_preV hK hM.c0 rfl ⟨hM, hN⟩) rfl rfl hl.1 rfl (lv_room (Nat.le_of_ble_eq_true rfl)) dX7_pole_25 ⟨Nat.zero_le _, Nat.zero_le _⟩) ?_
      refine lv_goto (tgt := 36) hx hb dX7_pole_28 (by decide) ?_
      exact W.iret hx hb hr (hS.endr (by rw [rX7_pole, if_neg c_10, if_neg c_19]) (by rw [fX7_pole, if_neg c_10, if_neg c_19]; exact ⟨hM, hN⟩)) hS.2.2 dX7_pole_36
theorem isSpan_le {mv sv nv : LV} {k : Int32} (hm : mOK mv) (h : ¬ fX7_isSpan mv sv nv k = 0) : k.toInt ≤ 15 := (isSpan_in hm h).le15
def fX7_sectionOf (mv : LV) (sv : LV) (nv : LV) (sp : Int32) : LV × LV × LV :=
  (if (fX7_isSpan (lSc mv 0 0) sv nv sp) = 0 then (lSc (lSc mv 0 0) 0 1, sv, nv) else (lSc mv 0 0, sv, nv))
def rX7_sectionOf (mv : LV) (sv : LV) (nv : LV) (sp : Int32) : Int32 :=
  (if (fX7_isSpan (lSc mv 0 0) sv nv sp) = 0 then 0 else fX6_sectionOf (lSc mv 0 0) sv sp)
set_option maxHeartbeats 4000000 in
set_option maxRecDepth 100000 in
theorem c_X7_sectionOf (l : Launch) (D : va_G) (cI : ClassId) (M : Nat → Nat) (hMi : MInj M) (mv sv nv : LV) (sp : Int32) (hm : mOK mv) : Met l yX7_sectionOf wsX7_sectionOf ({ frames := 2, cells := 0, slots := 0, locals := 43 }) (tr_Pc D cI [.ref ((mA M) 0), .int sp] (MPT D cI M (mv, sv, nv))) (tr_Q (some (.int (rX7_sectionOf mv sv nv sp))) (MPT D cI M (fX7_sectionOf mv sv nv sp)) (mOwn M)) 0 0 (mOwn M) := by
  refine Met.ofW (cc := cX7_sectionOf) (maxL := 2) (ret := (some .int)) (by decide) rfl ?_
  intro p e s m args below meth c s₁ B hml hv
  obtain ⟨rfl, ⟨hM, hN⟩, hK⟩ := hv
  have hx := B.exec
  have hb := B.bytes
  have hr := B.returns
  have hts := atoms_spec (ws := wsX7_sectionOf) B.pre
  have hown : s.vm.findClass RX7 = some m.cls := findClass_of_methodNamed B.named
  have hlocks := B.notSynchronized
  have hd := mn_dis hMi
  have hds := nm_dis hMi
  replace hM : STA D cI (mA M) mv sv s.heap := hM
  replace hN : STA D cI (nA M) mv nv s.heap := hN
  have hiX7 : ∀ w ∈ u_ws RX7 TX7 6, w ∈ wsX7_sectionOf := by decide +kernel
  have f22 := hts (.fieldLink RX7 22 "TramRibbonModel" "s" "LTramRibbonModel$State;") (by decide +kernel)
  have f32 := hts (.fieldLink RX7 32 "TramRibbonModel" "thrown" "I") (by decide +kernel)
  have hl := lv_entry ([.ref ((mA M) 0), .int sp]) (n := 2) (Nat.le_of_ble_eq_true rfl)
  rw [lg_entry_eq]
  generalize (lg_sl ([.ref ((mA M) 0), .int sp]) ++ List.replicate (2 - (lg_sl ([.ref ((mA M) 0), .int sp])).length) Slot.unset).toArray = ls at hl ⊢
  replace hl : lv_has ls 2 [(0, .ref ((mA M) 0)), (1, .int sp)] := hl
  have hS : tr_S (mOwn M) s.heap s.heap [] := tr_S.rf
  generalize h1 : s.heap = H, h2 : ([] : List Loc) = locs
  replace hS : tr_S (mOwn M) s.heap H locs := by rw [← h1, ← h2]; exact hS
  rw [h1] at hM hN
  clear h1 h2
  refine lv_aload_n hx hb dX7_sectionOf_0 rfl (lv_at hl 0 rfl) ?_
  refine lv_iconst (v := 0) hx hb dX7_sectionOf_1 (by decide) ?_
  refine tr_put (ci := 7) (C := RX7) (T := TX7) (N := 6) (ty := .int) (v := .int 0) hx hb hts hiX7 tyX7 tyX7_ok nmX7 hown hK hS (mOwn_k (k := 0) (by decide)) hM.c0 rfl 0 (by decide) f32 rfl (by decide +kernel) rfl rfl (Nat.le_of_ble_eq_true rfl) dX7_sectionOf_2 (fun H locs hat hz hk hS => ?_)
  have hM : STA D cI (mA M) (lSc mv 0 0) sv H := hM.setM hd.1 0 hat rfl rfl hk
  have hN : STA D cI (nA M) (lSc mv 0 0) nv H := hN.setM hd.2.1 0 hat rfl rfl hk
  clear hat hz hk
  refine lv_aload_n hx hb dX7_sectionOf_5 rfl (lv_at hl 0 rfl) ?_
  refine lv_iload_n hx hb dX7_sectionOf_6 rfl (lv_at hl 1 rfl) ?_
  refine tr_ri (va_runV (As := [.int sp]) (rest := []) ⟨hx, hb, hml, hown, hts⟩ (c_X7_isSpan l D cI M hMi (lSc mv 0 0) sv nv sp ) (cwV 1 hts gX7_sectionOf_X7_isSpan rfl rfl rfl (by decide +kernel) ⟨Nat.le_of_ble_eq_true rfl, Nat.le_of_ble_eq_true rfl⟩) (tr_preV hK hM.c0 rfl ⟨hM, hN⟩) rfl rfl hl.1 rfl (lv_room (Nat.le_of_ble_eq_true rfl)) dX7_sectionOf_7 ⟨Nat.zero_le _, Nat.zero_le _⟩) ?_
  refine lv_if_eq (tgt := 24) hx hb dX7_sectionOf_10 (by decide) (fun c_10 => ?_) (fun c_10 => ?_)
  · refine lv_aload_n hx hb dX7_sectionOf_24 rfl (lv_at hl 0 rfl) ?_
    refine lv_iconst (v := 1) hx hb dX7_sectionOf_25 (by decide) ?_
    refine tr_ci (va_runV (As := [.int 1]) (rest := []) ⟨hx, hb, hml, hown, hts⟩ (c_X7_no l D cI M hMi (lSc mv 0 0) sv nv 1 ) (cwV 1 hts gX7_sectionOf_X7_no rfl rfl rfl (by decide +kernel) ⟨Nat.le_of_ble_eq_true rfl, Nat.le_of_ble_eq_true rfl⟩) (tr_preV hK hM.c0 rfl ⟨hM, hN⟩) rfl rfl hl.1 rfl (lv_room (Nat.le_of_ble_eq_true rfl)) dX7_sectionOf_26 ⟨Nat.zero_le _, Nat.zero_le _⟩) hS (fun _ h => h) (fun H locs h9 hS => ?_)
    have hM : STA D cI (mA M) (lSc (lSc mv 0 0) 0 1) sv H := h9.1
    have hN : STA D cI (nA M) (lSc (lSc mv 0 0) 0 1) nv H := h9.2
    clear h9
    exact W.iret hx hb hr (hS.endr (by rw [rX7_sectionOf, if_pos c_10]) (by rw [fX7_sectionOf, if_pos c_10]; exact ⟨hM, hN⟩)) hS.2.2 dX7_sectionOf_29
  · refine lv_aload_n hx hb dX7_sectionOf_13 rfl (lv_at hl 0 rfl) ?_
    refine tr_get (ci := 7) (C := RX7) (T := TX7) (N := 6) hx hb hts hiX7 hown hK hM.c0 rfl 4 (by decide) f22 (v := .ref ((mA M) 2)) rfl dX7_sectionOf_14 ?_
    refine lv_iload_n hx hb dX7_sectionOf_17 rfl (lv_at hl 1 rfl) ?_
    refine tr_ri (va_runV (As := [.int sp]) (rest := []) ⟨hx, hb, hml, hown, hts⟩ (c_X6_sectionOf l D cI (mA M) hd.1 (lSc mv 0 0) sv sp (isSpan_le (mv := lSc mv 0 0) (sv := sv) (nv := nv) hm (by assumption))) (cwV 1 hts gX7_sectionOf_X6_sectionOf rfl rfl rfl (by decide +kernel) ⟨Nat.le_of_ble_eq_true rfl, Nat.le_of_ble_eq_true rfl⟩) (tr_preV hK hM.c2 rfl hM) rfl rfl hl.1 rfl (lv_room (Nat.le_of_ble_eq_true rfl)) dX7_sectionOf_18 ⟨Nat.zero_le _, Nat.zero_le _⟩) ?_
    refine lv_goto (tgt := 29) hx hb dX7_sectionOf_21 (by decide) ?_
    exact W.iret hx hb hr (hS.endr (by rw [rX7_sectionOf, if_neg c_10]) (by rw [fX7_sectionOf, if_neg c_10]; exact ⟨hM, hN⟩)) hS.2.2 dX7_sectionOf_29
