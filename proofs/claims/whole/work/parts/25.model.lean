/-! THE MODEL: 32 cells: 0 itself, 1 its slopes, 2 .. 16 s, 17 .. 31 next -/
def mA (M : Nat → Nat) : Nat → Nat := fun k => if k < 17 then M k else if k = 17 then M 2 else M 17
def nA (M : Nat → Nat) : Nat → Nat := fun k => if k < 2 then M k else if k < 17 then M (k + 15) else if k = 17 then M 2 else M 17
def MInj (M : Nat → Nat) : Prop := ∀ i, i < 32 → ∀ j, j < 32 → M i = M j → i = j
def mOwn (M : Nat → Nat) : Nat → Prop := fun q => ∃ k, k < 32 ∧ q = M k
theorem mA_lt {M : Nat → Nat} {k : Nat} (h : k < 17) : mA M k = M k := if_pos h
theorem nA_lt {M : Nat → Nat} {k : Nat} (h2 : 2 ≤ k) (h : k < 17) : nA M k = M (k + 15) := by
  unfold nA
  rw [if_neg (by omega), if_pos h]
theorem nA_0 {M : Nat → Nat} {k : Nat} (h : k < 2) : nA M k = M k := if_pos h
theorem mn_dis {M : Nat → Nat} (h : MInj M) : SDis (mA M) (nA M) := by
  refine ⟨fun i hi j hj e => ?_, fun i hi j hj e => ?_, rfl, rfl, fun i hi j h2 hj e => ?_⟩
  · rw [mA_lt hi, mA_lt hj] at e; exact h _ (by omega) _ (by omega) e
  · by_cases h1 : i < 2
    · by_cases h3 : j < 2
      · rw [nA_0 h1, nA_0 h3] at e; exact h _ (by omega) _ (by omega) e
      · rw [nA_0 h1, nA_lt (by omega) hj] at e; have := h _ (by omega) _ (by omega) e; omega
    · by_cases h3 : j < 2
      · rw [nA_lt (by omega) hi, nA_0 h3] at e; have := h _ (by omega) _ (by omega) e; omega
      · rw [nA_lt (by omega) hi, nA_lt (by omega) hj] at e; have := h _ (by omega) _ (by omega) e; omega
  · by_cases h1 : i < 2
    · rw [nA_0 h1, mA_lt hj] at e; have := h _ (by omega) _ (by omega) e; omega
    · rw [nA_lt (by omega) hi, mA_lt hj] at e; have := h _ (by omega) _ (by omega) e; omega
theorem nm_dis {M : Nat → Nat} (h : MInj M) : SDis (nA M) (mA M) := by
  obtain ⟨h1, h2, -, -, h3⟩ := mn_dis h
  refine ⟨h2, h1, rfl, rfl, fun i hi j hj2 hj e => ?_⟩
  by_cases h4 : 2 ≤ i
  · exact h3 j hj i h4 hi e.symm
  · have e0 : mA M i = nA M i := by
      rw [mA_lt hi, nA_0 (by omega)]
    rw [e0] at e
    have := h2 _ hi _ hj e
    omega
theorem mOwn_s {M : Nat → Nat} : ∀ q, sOwn (mA M) q → mOwn M q := fun _ ⟨k, _, h3, e⟩ => ⟨k, by omega, by rw [e, mA_lt h3]⟩
theorem mOwn_n {M : Nat → Nat} : ∀ q, sOwn (nA M) q → mOwn M q := fun _ ⟨k, h2, h3, e⟩ => ⟨k + 15, by omega, by rw [e, nA_lt h2 h3]⟩
theorem mOwn_b {M : Nat → Nat} : ∀ q, bOwn (nA M) (mA M) q → mOwn M q := fun q h => h.elim (mOwn_n q) (mOwn_s q)
theorem mOwn_k {M : Nat → Nat} {k : Nat} (h : k < 32) : mOwn M (M k) := ⟨k, h, rfl⟩
theorem st_keepO {D : va_G} {cI : ClassId} {C C2 : Nat → Nat} {mv ov : LV} {H H1 : Heap} (hd : SDis C C2) (hO : STA D cI C2 mv ov H) (hk : ∀ q : Nat, q < H.size → ¬ sOwn C q → H1[q]? = H[q]?) : STA D cI C2 mv ov H1 := fun k hk17 => (hO k hk17).kept (hk _ (hO k hk17).lt (fun ⟨j, h2, hj, e⟩ => hd.2.2.2.2 k hk17 j h2 hj e))
theorem STA.setM {D : va_G} {cI : ClassId} {C : Nat → Nat} {mv sv : LV} {H H1 : Heap} (hC : SInj C) (h : STA D cI C mv sv H) (i : Nat) {x : Int32} {e : va_E} {a : Nat} (h1 : va_at D vwCl (a, e) H1) (ha : a = C 0) (he : e = sE cI C (lSc mv i x) sv 0) (hk : ∀ q : Nat, q ≠ a → H1[q]? = H[q]?) : STA D cI C (lSc mv i x) sv H1 := by
  subst ha
  intro k hk17
  by_cases e1 : k = 0
  · subst e1
    rw [← he]
    exact h1
  · have e2 : sE cI C (lSc mv i x) sv k = sE cI C mv sv k := by
      match k, e1 with
      | 0, e1 => exact absurd rfl e1
      | 1, _ => rfl
      | 2, _ => rfl
      | k + 3, _ => rfl
    rw [e2]
    exact (h k hk17).kept (hk _ (fun q => e1 (hC _ hk17 _ (by omega) q)))
theorem STA.setSl {D : va_G} {cI : ClassId} {C : Nat → Nat} {mv sv : LV} {H H1 : Heap} (hC : SInj C) (h : STA D cI C mv sv H) {i x : Int32} {a : Nat} (h1 : va_at D vwCl (a, .inl (cI, 16, .inl (upd (mv.2 0) i.toNatClampNeg x))) H1) (ha : a = C 1) (hk : ∀ q : Nat, q ≠ a → H1[q]? = H[q]?) : STA D cI C (aSet mv 0 i x) sv H1 := by
  subst ha
  intro k hk17
  by_cases e1 : k = 1
  · subst e1
    exact h1
  · have e2 : sE cI C (aSet mv 0 i x) sv k = sE cI C mv sv k := by
      match k, e1 with
      | 0, _ => rfl
      | 1, e1 => exact absurd rfl e1
      | 2, _ => rfl
      | k + 3, _ => rfl
    rw [e2]
    exact (h k hk17).kept (hk _ (fun q => e1 (hC _ hk17 _ (by omega) q)))
/-- the Model holds these numbers -/
def MPT (D : va_G) (cI : ClassId) (M : Nat → Nat) (t : LV × LV × LV) (H : Heap) : Prop := STA D cI (mA M) t.1 t.2.1 H ∧ STA D cI (nA M) t.1 t.2.2 H
/-- a tick is safe: the reference's own indices are in their rows -/
def TSafe (mv sv : LV) : Prop := pOK sv ∧ cOK (fX6_turn mv sv) ∧ pOK (fX6_turn mv sv) ∧ ((fX6_turn mv sv).1 3).toInt ≤ 16 ∧ ∀ x : Int32, vp_in x 6 → vp_in (aAt (GOS mv (fX6_turn mv sv)) 6 x) 16
def tickM (mv : LV) (_ : Nat) (sv : LV) : LV := fX6_pass mv (fX6_turn mv sv)
def fX7_thrown (mv : LV) (sv : LV) (nv : LV) : LV × LV × LV :=
  (mv, sv, nv)
def rX7_thrown (mv : LV) (sv : LV) (nv : LV) : Int32 :=
  mv.1 0
set_option maxHeartbeats 4000000 in
set_option maxRecDepth 100000 in
theorem c_X7_thrown (l : Launch) (D : va_G) (cI : ClassId) (M : Nat → Nat) (hMi : MInj M) (mv sv nv : LV)   : Met l yX7_thrown wsX7_thrown ({ frames := 0, cells := 0, slots := 0, locals := 0 }) (tr_Pc D cI [.ref ((mA M) 0)] (MPT D cI M (mv, sv, nv))) (tr_Q (some (.int (rX7_thrown mv sv nv))) (MPT D cI M (fX7_thrown mv sv nv)) (mOwn M)) 0 0 (mOwn M) := by
  refine Met.ofW (cc := cX7_thrown) (maxL := 1) (ret := (some .int)) (by decide) rfl ?_
  intro p e s m args below meth c s₁ B hml hv
  obtain ⟨rfl, ⟨hM, hN⟩, hK⟩ := hv
  have hx := B.exec
  have hb := B.bytes
  have hr := B.returns
  have hts := atoms_spec (ws := wsX7_thrown) B.pre
  have hown : s.vm.findClass RX7 = some m.cls := findClass_of_methodNamed B.named
  have hlocks := B.notSynchronized
  have hd := mn_dis hMi
  have hds := nm_dis hMi
  replace hM : STA D cI (mA M) mv sv s.heap := hM
  replace hN : STA D cI (nA M) mv nv s.heap := hN
  have hiX7 : ∀ w ∈ u_ws RX7 TX7 6, w ∈ wsX7_thrown := by decide +kernel
  have f32 := hts (.fieldLink RX7 32 "TramRibbonModel" "thrown" "I") (by decide +kernel)
  have hl := lv_entry ([.ref ((mA M) 0)]) (n := 1) (Nat.le_of_ble_eq_true rfl)
  rw [lg_entry_eq]
  generalize (lg_sl ([.ref ((mA M) 0)]) ++ List.replicate (1 - (lg_sl ([.ref ((mA M) 0)])).length) Slot.unset).toArray = ls at hl ⊢
  replace hl : lv_has ls 1 [(0, .ref ((mA M) 0))] := hl
  have hS : tr_S (mOwn M) s.heap s.heap [] := tr_S.rf
  generalize h1 : s.heap = H, h2 : ([] : List Loc) = locs
  replace hS : tr_S (mOwn M) s.heap H locs := by rw [← h1, ← h2]; exact hS
  rw [h1] at hM hN
  clear h1 h2
  refine lv_aload_n hx hb dX7_thrown_0 rfl (lv_at hl 0 rfl) ?_
  refine tr_get (ci := 7) (C := RX7) (T := TX7) (N := 6) hx hb hts hiX7 hown hK hM.c0 rfl 0 (by decide) f32 (v := .int (mv.1 0)) rfl dX7_thrown_1 ?_
  exact W.iret hx hb hr (hS.endr (by rw [rX7_thrown]) (by rw [fX7_thrown]; exact ⟨hM, hN⟩)) hS.2.2 dX7_thrown_4
def fX7_no (mv : LV) (sv : LV) (nv : LV) (k : Int32) : LV × LV × LV :=
  (lSc mv 0 k, sv, nv)
def rX7_no (mv : LV) (sv : LV) (nv : LV) (k : Int32) : Int32 :=
  0
set_option maxHeartbeats 4000000 in
set_option maxRecDepth 100000 in
theorem c_X7_no (l : Launch) (D : va_G) (cI : ClassId) (M : Nat → Nat) (hMi : MInj M) (mv sv nv : LV) (k : Int32)  : Met l yX7_no wsX7_no ({ frames := 0, cells := 0, slots := 0, locals := 0 }) (tr_Pc D cI [.ref ((mA M) 0), .int k] (MPT D cI M (mv, sv, nv))) (tr_Q (some (.int (rX7_no mv sv nv k))) (MPT D cI M (fX7_no mv sv nv k)) (mOwn M)) 0 0 (mOwn M) := by
  refine Met.ofW (cc := cX7_no) (maxL := 2) (ret := (some .int)) (by decide) rfl ?_
  intro p e s m args below meth c s₁ B hml hv
  obtain ⟨rfl, ⟨hM, hN⟩, hK⟩ := hv
  have hx := B.exec
  have hb := B.bytes
  have hr := B.returns
  have hts := atoms_spec (ws := wsX7_no) B.pre
  have hown : s.vm.findClass RX7 = some m.cls := findClass_of_methodNamed B.named
  have hlocks := B.notSynchronized
  have hd := mn_dis hMi
  have hds := nm_dis hMi
  replace hM : STA D cI (mA M) mv sv s.heap := hM
  replace hN : STA D cI (nA M) mv nv s.heap := hN
  have hiX7 : ∀ w ∈ u_ws RX7 TX7 6, w ∈ wsX7_no := by decide +kernel
  have f32 := hts (.fieldLink RX7 32 "TramRibbonModel" "thrown" "I") (by decide +kernel)
  have hl := lv_entry ([.ref ((mA M) 0), .int k]) (n := 2) (Nat.le_of_ble_eq_true rfl)
  rw [lg_entry_eq]
  generalize (lg_sl ([.ref ((mA M) 0), .int k]) ++ List.replicate (2 - (lg_sl ([.ref ((mA M) 0), .int k])).length) Slot.unset).toArray = ls at hl ⊢
  replace hl : lv_has ls 2 [(0, .ref ((mA M) 0)), (1, .int k)] := hl
  have hS : tr_S (mOwn M) s.heap s.heap [] := tr_S.rf
  generalize h1 : s.heap = H, h2 : ([] : List Loc) = locs
  replace hS : tr_S (mOwn M) s.heap H locs := by rw [← h1, ← h2]; exact hS
  rw [h1] at hM hN
  clear h1 h2
  refine lv_aload_n hx hb dX7_no_0 rfl (lv_at hl 0 rfl) ?_
  refine lv_iload_n hx hb dX7_no_1 rfl (lv_at hl 1 rfl) ?_
  refine tr_put (ci := 7) (C := RX7) (T := TX7) (N := 6) (ty := .int) (v := .int k) hx hb hts hiX7 tyX7 tyX7_ok nmX7 hown hK hS (mOwn_k (k := 0) (by decide)) hM.c0 rfl 0 (by decide) f32 rfl (by decide +kernel) rfl rfl (Nat.le_of_ble_eq_true rfl) dX7_no_2 (fun H locs hat hz hk hS => ?_)
  have hM : STA D cI (mA M) (lSc mv 0 k) sv H := hM.setM hd.1 0 hat rfl rfl hk
  have hN : STA D cI (nA M) (lSc mv 0 k) nv H := hN.setM hd.2.1 0 hat rfl rfl hk
  clear hat hz hk
  refine lv_iconst (v := 0) hx hb dX7_no_5 (by decide) ?_
  exact W.iret hx hb hr (hS.endr (by rw [rX7_no]) (by rw [fX7_no]; exact ⟨hM, hN⟩)) hS.2.2 dX7_no_6
def fX7_isIn (x : Int32) (lo : Int32) (hi : Int32) : Int32 :=
  (if x < lo then 0 else (if hi < x then 0 else 1))
set_option maxHeartbeats 4000000 in
set_option maxRecDepth 100000 in
theorem c_X7_isIn (l : Launch) (D : va_G) (cI : ClassId) (x lo hi : Int32)  : Met l yX7_isIn wsX7_isIn ({ frames := 0, cells := 0, slots := 0, locals := 0 }) (tr_Pc D cI [.int x, .int lo, .int hi] (fun _ => True)) (vp_Si (fun r => r = fX7_isIn x lo hi)) 0 0 (fun _ => False) := by
  refine Met.ofW (cc := cX7_isIn) (maxL := 3) (ret := (some .boolean)) (by decide) rfl ?_
  intro p e s m args below meth c s₁ B hml hv
  obtain ⟨rfl, -, hK⟩ := hv
  have hx := B.exec
  have hb := B.bytes
  have hr := B.returns
  have hts := atoms_spec (ws := wsX7_isIn) B.pre
  have hown : s.vm.findClass RX7 = some m.cls := findClass_of_methodNamed B.named
  have hlocks := B.notSynchronized
  have hl := lv_entry ([.int x, .int lo, .int hi]) (n := 3) (Nat.le_of_ble_eq_true rfl)
  rw [lg_entry_eq]
  generalize (lg_sl ([.int x, .int lo, .int hi]) ++ List.replicate (3 - (lg_sl ([.int x, .int lo, .int hi])).length) Slot.unset).toArray = ls at hl ⊢
  replace hl : lv_has ls 3 [(0, .int x), (1, .int lo), (2, .int hi)] := hl
  refine lv_iload_n hx hb dX7_isIn_0 rfl (lv_at hl 0 rfl) ?_
  refine lv_iload_n hx hb dX7_isIn_1 rfl (lv_at hl 1 rfl) ?_
  refine lv_icmp_lt (tgt := 14) hx hb dX7_isIn_2 (by decide) (fun c_2 => ?_) (fun c_2 => ?_)
  · refine lv_iconst (v := 0) hx hb dX7_isIn_14 (by decide) ?_
    exact W.zret (ty := .boolean) hx hb hr rfl (tr_endi (by rw [fX7_isIn, if_pos c_2])) (fun _ h => by cases h) dX7_isIn_15
  · refine lv_iload_n hx hb dX7_isIn_5 rfl (lv_at hl 0 rfl) ?_
    refine lv_iload_n hx hb dX7_isIn_6 rfl (lv_at hl 2 rfl) ?_
    refine lv_icmp_gt (tgt := 14) hx hb dX7_isIn_7 (by decide) (fun c_7 => ?_) (fun c_7 => ?_)
    · refine lv_iconst (v := 0) hx hb dX7_isIn_14 (by decide) ?_
      exact W.zret (ty := .boolean) hx hb hr rfl (tr_endi (by rw [fX7_isIn, if_neg c_2, if_pos c_7])) (fun _ h => by cases h) dX7_isIn_15
    · refine lv_iconst (v := 1) hx hb dX7_isIn_10 (by decide) ?_
      refine lv_goto (tgt := 15) hx hb dX7_isIn_11 (by decide) ?_
      exact W.zret (ty := .boolean) hx hb hr rfl (tr_endi (by rw [fX7_isIn, if_neg c_2, if_neg c_7])) (fun _ h => by cases h) dX7_isIn_15
