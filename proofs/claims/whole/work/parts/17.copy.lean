/-! copyFrom -/
def LDis (A B : Nat → Nat) : Prop := LInj A ∧ LInj B ∧ ∀ i, i < 38 → ∀ j, j < 38 → A i ≠ B j
theorem LDis.symm {A B : Nat → Nat} (h : LDis A B) : LDis B A := ⟨h.2.1, h.1, fun i hi j hj e => h.2.2 j hj i hi e.symm⟩
theorem ln_keep {D : va_G} {cI : ClassId} {A B : Nat → Nat} {u : LV} {H H1 : Heap} (hd : LDis A B) (hO : LNE D cI B u H) (j : Nat) (hj : j < 38) (hk : ∀ q : Nat, q ≠ A j → H1[q]? = H[q]?) : LNE D cI B u H1 := fun k h38 => (hO k h38).kept (hk _ (fun e => hd.2.2 j hj k h38 e.symm))
theorem ln_keepO {D : va_G} {cI : ClassId} {A B : Nat → Nat} {u : LV} {H H1 : Heap} (hd : LDis A B) (hO : LNE D cI B u H) (hk : ∀ q : Nat, q < H.size → ¬ lOwn A q → H1[q]? = H[q]?) : LNE D cI B u H1 := fun k h38 => (hO k h38).kept (hk _ (hO k h38).lt (fun ⟨j, hj, e⟩ => hd.2.2 j hj k h38 e.symm))
theorem lE_congr {cI : ClassId} {A : Nat → Nat} {v u : LV} (h1 : ∀ i, i < 6 → v.1 i = u.1 i) (h2 : ∀ r, r < 17 → v.2 r = u.2 r) : ∀ k, k < 38 → lE cI A v k = lE cI A u k
  | 0, _ => by unfold lE; rw [h1 3 (by decide), h1 4 (by decide), h1 5 (by decide)]
  | 1, _ => by unfold lE; rw [h1 0 (by decide), h1 1 (by decide)]
  | 2, _ => rfl
  | 3, _ => by unfold lE; rw [h1 2 (by decide)]
  | k + 4, hk => by
    show (if k % 2 = 0 then _ else _) = (if k % 2 = 0 then _ else _)
    by_cases e : k % 2 = 0
    · rw [if_pos e, if_pos e]
    · rw [if_neg e, if_neg e, h2 (k / 2) (by omega)]
theorem LNE.congr {D : va_G} {cI : ClassId} {A : Nat → Nat} {v u : LV} {H : Heap} (h1 : ∀ i, i < 6 → v.1 i = u.1 i) (h2 : ∀ r, r < 17 → v.2 r = u.2 r) (h : LNE D cI A v H) : LNE D cI A u H := fun k h38 => by rw [← lE_congr h1 h2 k h38]; exact h k h38
def bX2_copyFrom_2 (n : Nat) (f : Nat → Int32) (f2 : Nat → Int32) (i : Nat) (a : Nat → Int32) : Nat → Int32 :=
  upd a (nI i).toNatClampNeg (rAt n f2 (nI i))
def fX2_copyFrom (n : Nat) (f : Nat → Int32) (f2 : Nat → Int32) : Nat → Int32 :=
  itI n (bX2_copyFrom_2 n f f2) f
set_option maxHeartbeats 4000000 in
set_option maxRecDepth 100000 in
theorem c_X2_copyFrom (l : Launch) (D : va_G) (cI : ClassId) (a b a2 b2 n : Nat) (hn : n < 2 ^ 31) (hab : a ≠ b) (hab2 : a2 ≠ b2) (hx1 : a2 ≠ b) (hx2 : b2 ≠ b) (f f2 : Nat → Int32)  : Met l yX2_copyFrom wsX2_copyFrom ({ frames := 1, cells := 0, slots := 0, locals := 21 }) (tr_Pc D cI [.ref a, .ref a2] (fun H => rowP D cI a b n f H ∧ rowP D cI a2 b2 n f2 H)) (tr_Q none (fun H => rowP D cI a b n (fX2_copyFrom n f f2) H ∧ rowP D cI a2 b2 n f2 H) (rOwn b)) 0 0 (rOwn b) := by
  refine Met.ofW (cc := cX2_copyFrom) (maxL := 3) (ret := none) (by decide) rfl ?_
  intro p e s m args below meth c s₁ B hml hv
  obtain ⟨rfl, ⟨hR, hO⟩, hK⟩ := hv
  have hx := B.exec
  have hb := B.bytes
  have hr := B.returns
  have hts := atoms_spec (ws := wsX2_copyFrom) B.pre
  have hown : s.vm.findClass RX2 = some m.cls := findClass_of_methodNamed B.named
  have hlocks := B.notSynchronized
  have hiX2 : ∀ w ∈ u_ws RX2 TX2 1, w ∈ wsX2_copyFrom := by decide +kernel
  have f13 := hts (.fieldLink RX2 13 "TramRibbon$Row" "cells" "[I") (by decide +kernel)
  have hl := lv_entry ([.ref a, .ref a2]) (n := 3) (Nat.le_of_ble_eq_true rfl)
  rw [lg_entry_eq]
  generalize (lg_sl ([.ref a, .ref a2]) ++ List.replicate (3 - (lg_sl ([.ref a, .ref a2])).length) Slot.unset).toArray = ls at hl ⊢
  replace hl : lv_has ls 3 [(0, .ref a), (1, .ref a2)] := hl
  have hS : tr_S (rOwn b) s.heap s.heap [] := tr_S.rf
  generalize h1 : s.heap = H, h2 : ([] : List Loc) = locs
  replace hS : tr_S (rOwn b) s.heap H locs := by rw [← h1, ← h2]; exact hS
  rw [h1] at hR hO
  clear h1 h2
  refine lv_iconst (v := 0) hx hb dX2_copyFrom_0 (by decide) ?_
  refine lv_istore_n (lv' := [(2, .int 0), (0, .ref a), (1, .ref a2)]) hx hb dX2_copyFrom_1 rfl hl (by decide) rfl (fun ls hl => ?_)
  have hinv := And.intro (show rowP D cI a b n f H ∧ rowP D cI a2 b2 n f2 H ∧ tr_S (rOwn b) s.heap H locs from ⟨hR, hO, hS⟩) hl
  clear hR hO hS hl
  revert hinv; revert ls; revert locs; revert H
  refine tr_forw (fun i H locs ls => (rowP D cI a b n (itI i (bX2_copyFrom_2 n f f2) f) H ∧ rowP D cI a2 b2 n f2 H ∧ tr_S (rOwn b) s.heap H locs) ∧ lv_has ls 3 [(0, .ref a), (1, .ref a2), (2, .int (nI i))]) (n) (fun H locs ls hinv => ?_) ?_
  · obtain ⟨⟨hR, hO, hS⟩, hl⟩ := hinv
    exact ⟨⟨by rw [itI_0]; exact hR, hO, hS⟩, lv_sub hl [1, 2, 0] rfl⟩
  intro i H locs ls hi hinv ih
  obtain ⟨⟨hR, hO, hS⟩, hl⟩ := hinv
  refine lv_iload_n hx hb dX2_copyFrom_2 rfl (lv_at hl 2 rfl) ?_
  refine lv_aload_n hx hb dX2_copyFrom_3 rfl (lv_at hl 0 rfl) ?_
  refine tr_get (ci := 2) (C := RX2) (T := TX2) (N := 1) hx hb hts hiX2 hown hK hR.1 rfl 0 (by decide) f13 (v := .ref b) rfl dX2_copyFrom_4 ?_
  refine tr_alen hx hb hK hR.2 dX2_copyFrom_7 ?_
  refine lv_icmp_ge (tgt := 28) hx hb dX2_copyFrom_8 (by decide) (fun c_8 => ?_) (fun c_8 => ?_)
  · have hN : i = n := tr_over (tr_cl hn) hi c_8
    subst hN
    exact W.vret hx hb hr (hS.end ⟨(by rw [fX2_copyFrom]; exact hR), hO⟩) hS.2.2 dX2_copyFrom_28
  · have hlt : i < n := tr_on (tr_cl hn) hi c_8
    refine lv_aload_n hx hb dX2_copyFrom_11 rfl (lv_at hl 0 rfl) ?_
    refine tr_get (ci := 2) (C := RX2) (T := TX2) (N := 1) hx hb hts hiX2 hown hK hR.1 rfl 0 (by decide) f13 (v := .ref b) rfl dX2_copyFrom_12 ?_
    refine lv_iload_n hx hb dX2_copyFrom_15 rfl (lv_at hl 2 rfl) ?_
    refine lv_aload_n hx hb dX2_copyFrom_16 rfl (lv_at hl 1 rfl) ?_
    refine lv_iload_n hx hb dX2_copyFrom_17 rfl (lv_at hl 2 rfl) ?_
    refine tr_ri (va_runV (As := [.int (nI i)]) (rest := [.int (nI i), .ref b]) ⟨hx, hb, hml, hown, hts⟩ (c_X2_at l D cI a2 b2 n hn hab2 f2 (nI i)) (cwV 1 hts gX2_copyFrom_X2_at rfl rfl rfl (by decide +kernel) ⟨Nat.le_of_ble_eq_true rfl, Nat.le_of_ble_eq_true rfl⟩) (tr_preV hK hO.1 rfl hO) rfl rfl hl.1 rfl (lv_room (Nat.le_of_ble_eq_true rfl)) dX2_copyFrom_18 ⟨Nat.zero_le _, Nat.zero_le _⟩) ?_
    refine tr_iast hx hb hK hS rfl hR.2 (tr_vp hlt hn) dX2_copyFrom_21 (fun H locs hat hz hk hS => ?_)
    have hR : rowP D cI a b n (upd (itI i (bX2_copyFrom_2 n f f2) f) (nI i).toNatClampNeg (rAt n f2 (nI i))) H := ⟨hR.1.kept (hk _ hab), hat⟩
    replace hO : rowP D cI a2 b2 n f2 H := ⟨hO.1.kept (hk _ hx1), hO.2.kept (hk _ hx2)⟩
    clear hat hz hk
    refine lv_iinc (v := nI (i + 1)) (lv' := [(2, .int (nI (i + 1))), (0, .ref a), (1, .ref a2)]) hx hb dX2_copyFrom_22 hl (k := 2) rfl (tr_inc _) (by decide) rfl (fun ls hl => ?_)
    refine lv_goto (tgt := 2) hx hb dX2_copyFrom_25 (by decide) ?_
    have e9 : itI (i + 1) (bX2_copyFrom_2 n f f2) f = upd (itI i (bX2_copyFrom_2 n f f2) f) (nI i).toNatClampNeg (rAt n f2 (nI i)) := by rw [itI_s, bX2_copyFrom_2]
    exact ih H locs ls hlt ⟨⟨by rw [e9]; exact hR, hO, hS⟩, lv_sub hl [1, 2, 0] rfl⟩
theorem copy_is (n : Nat) (f f2 : Nat → Int32) (hn : n < 2 ^ 31) : ∀ j, j < n → fX2_copyFrom n f f2 j = f2 j := by
  have key : ∀ k, k ≤ n → ∀ j, j < k → itI k (bX2_copyFrom_2 n f f2) f j = f2 j := by
    intro k
    induction k with
    | zero => intro _ j hj; omega
    | succ k ih =>
      intro hk j hj
      rw [itI_s, bX2_copyFrom_2, tr_cl (by omega)]
      by_cases e : j = k
      · subst e
        rw [pk_us]
        unfold rAt
        rw [if_neg (nI_pos (by omega)), if_neg (nI_ge (by omega) (by omega)), tr_cl (by omega)]
      · rw [pk_un e]; exact ih (by omega) j (by omega)
  exact key n (Nat.le_refl _)
theorem c_lcopy (l : Launch) (D : va_G) (cI : ClassId) (A B : Nat → Nat) (hd : LDis A B) (v u : LV) (r : Nat) (hr : r < 17) : Met l yX2_copyFrom wsX2_copyFrom ({ frames := 1, cells := 0, slots := 0, locals := 21 }) (tr_Pc D cI [.ref (A (4 + 2 * r)), .ref (B (4 + 2 * r))] (fun H => LNE D cI A v H ∧ LNE D cI B u H)) (tr_Q none (fun H => LNE D cI A (lRow v r (u.2 r)) H ∧ LNE D cI B u H) (lOwn A)) 0 0 (lOwn A) :=
  tr_mono (tr_post (c_X2_copyFrom l D cI (A (4 + 2 * r)) (A (5 + 2 * r)) (B (4 + 2 * r)) (B (5 + 2 * r)) (lLen r) (lLen_lt r) (fun e => by have := hd.1 _ (by omega) _ (by omega) e; omega) (fun e => by have := hd.2.1 _ (by omega) _ (by omega) e; omega) (fun e => hd.2.2 _ (by omega) _ (by omega) e.symm) (fun e => hd.2.2 _ (by omega) _ (by omega) e.symm) (v.2 r) (u.2 r)) (P2 := fun H => LNE D cI A v H ∧ LNE D cI B u H) (fun H h => ⟨h.1.row r hr, h.2.row r hr⟩) (Q2 := fun H => LNE D cI A (lRow v r (u.2 r)) H ∧ LNE D cI B u H) (fun H H1 h0 h1 hk => ⟨h0.1.setRow hd.1 r hr (tr_row_eq h1.1.2 (fun j hj => copy_is _ _ _ (lLen_lt r) j hj)) hk, fun k h38 => (h0.2 k h38).kept (hk _ (h0.2 k h38).lt (fun e => hd.2.2 _ (by omega) k h38 e.symm))⟩)) (fun _ _ q => q) (fun _ _ _ _ _ q => ⟨q.1, q.2.1, q.2.2.1, fun z hl hz => q.2.2.2 z hl (fun e => hz (rOwn_l (by omega) z e))⟩) (rOwn_l (by omega))
def fX4_copyFrom (v : LV) (u : LV) : LV :=
  lRow (lRow (lRow (lRow (lRow (lRow (lRow (lSc (lSc v 0 (u.1 0)) 1 (u.1 1)) 0 (u.2 0)) 1 (u.2 1)) 2 (u.2 2)) 3 (u.2 3)) 4 (u.2 4)) 5 (u.2 5)) 6 (u.2 6)
set_option maxHeartbeats 4000000 in
set_option maxRecDepth 100000 in
theorem c_X4_copyFrom (l : Launch) (D : va_G) (cI : ClassId) (A A2 : Nat → Nat) (hd : LDis A A2) (v u : LV)  : Met l yX4_copyFrom wsX4_copyFrom ({ frames := 2, cells := 0, slots := 0, locals := 43 }) (tr_Pc D cI [.ref (A 1), .ref (A2 1)] (fun H => LNE D cI A v H ∧ LNE D cI A2 u H)) (tr_Q none (fun H => LNE D cI A (fX4_copyFrom v u) H ∧ LNE D cI A2 u H) (lOwn A)) 0 0 (lOwn A) := by
  refine Met.ofW (cc := cX4_copyFrom) (maxL := 2) (ret := none) (by decide) rfl ?_
  intro p e s m args below meth c s₁ B hml hv
  obtain ⟨rfl, ⟨hL, hO⟩, hK⟩ := hv
  have hx := B.exec
  have hb := B.bytes
  have hr := B.returns
  have hts := atoms_spec (ws := wsX4_copyFrom) B.pre
  have hown : s.vm.findClass RX4 = some m.cls := findClass_of_methodNamed B.named
  have hlocks := B.notSynchronized
  have hiX4 : ∀ w ∈ u_ws RX4 TX4 9, w ∈ wsX4_copyFrom := by decide +kernel
  have f14 := hts (.fieldLink RX4 14 "TramRibbon$Wire" "slope" "LTramRibbon$Row;") (by decide +kernel)
  have f20 := hts (.fieldLink RX4 20 "TramRibbon$Wire" "sectionAt" "LTramRibbon$Row;") (by decide +kernel)
  have f23 := hts (.fieldLink RX4 23 "TramRibbon$Wire" "insulator" "LTramRibbon$Row;") (by decide +kernel)
  have f26 := hts (.fieldLink RX4 26 "TramRibbon$Wire" "bound" "LTramRibbon$Row;") (by decide +kernel)
  have f29 := hts (.fieldLink RX4 29 "TramRibbon$Wire" "dead" "LTramRibbon$Row;") (by decide +kernel)
  have f32 := hts (.fieldLink RX4 32 "TramRibbon$Wire" "deaths" "LTramRibbon$Row;") (by decide +kernel)
  have f35 := hts (.fieldLink RX4 35 "TramRibbon$Wire" "drawn" "LTramRibbon$Row;") (by decide +kernel)
  have f38 := hts (.fieldLink RX4 38 "TramRibbon$Wire" "poles" "I") (by decide +kernel)
  have f42 := hts (.fieldLink RX4 42 "TramRibbon$Wire" "sections" "I") (by decide +kernel)
  have hl := lv_entry ([.ref (A 1), .ref (A2 1)]) (n := 2) (Nat.le_of_ble_eq_true rfl)
  rw [lg_entry_eq]
  generalize (lg_sl ([.ref (A 1), .ref (A2 1)]) ++ List.replicate (2 - (lg_sl ([.ref (A 1), .ref (A2 1)])).length) Slot.unset).toArray = ls at hl ⊢
  replace hl : lv_has ls 2 [(0, .ref (A 1)), (1, .ref (A2 1))] := hl
  have hS : tr_S (lOwn A) s.heap s.heap [] := tr_S.rf
  generalize h1 : s.heap = H, h2 : ([] : List Loc) = locs
  replace hS : tr_S (lOwn A) s.heap H locs := by rw [← h1, ← h2]; exact hS
  rw [h1] at hL hO
  clear h1 h2
  refine lv_aload_n hx hb dX4_copyFrom_0 rfl (lv_at hl 0 rfl) ?_
  refine lv_aload_n hx hb dX4_copyFrom_1 rfl (lv_at hl 1 rfl) ?_
  refine tr_get (ci := 4) (C := RX4) (T := TX4) (N := 9) hx hb hts hiX4 hown hK hO.c1 rfl 0 (by decide) f38 (v := .int (u.1 0)) rfl dX4_copyFrom_2 ?_
  refine tr_put (ci := 4) (C := RX4) (T := TX4) (N := 9) (ty := .int) (v := .int (u.1 0)) hx hb hts hiX4 tyX4 tyX4_ok nmX4 hown hK hS (lOwn_k (k := 1) (by decide)) hL.c1 rfl 0 (by decide) f38 rfl (by decide +kernel) rfl rfl (Nat.le_of_ble_eq_true rfl) dX4_copyFrom_5 (fun H locs hat hz hk hS => ?_)
  have hL : LNE D cI A (lSc v 0 (u.1 0)) H := hL.setSc hd.1 0 hat rfl hk
  replace hO := ln_keep hd hO 1 (by decide) hk
  clear hat hz hk
  refine lv_aload_n hx hb dX4_copyFrom_8 rfl (lv_at hl 0 rfl) ?_
  refine lv_aload_n hx hb dX4_copyFrom_9 rfl (lv_at hl 1 rfl) ?_
  refine tr_get (ci := 4) (C := RX4) (T := TX4) (N := 9) hx hb hts hiX4 hown hK hO.c1 rfl 1 (by decide) f42 (v := .int (u.1 1)) rfl dX4_copyFrom_10 ?_
  refine tr_put (ci := 4) (C := RX4) (T := TX4) (N := 9) (ty := .int) (v := .int (u.1 1)) hx hb hts hiX4 tyX4 tyX4_ok nmX4 hown hK hS (lOwn_k (k := 1) (by decide)) hL.c1 rfl 1 (by decide) f42 rfl (by decide +kernel) rfl rfl (Nat.le_of_ble_eq_true rfl) dX4_copyFrom_13 (fun H locs hat hz hk hS => ?_)
  have hL : LNE D cI A (lSc (lSc v 0 (u.1 0)) 1 (u.1 1)) H := hL.setSc hd.1 1 hat rfl hk
  replace hO := ln_keep hd hO 1 (by decide) hk
  clear hat hz hk
  refine lv_aload_n hx hb dX4_copyFrom_16 rfl (lv_at hl 0 rfl) ?_
  refine tr_get (ci := 4) (C := RX4) (T := TX4) (N := 9) hx hb hts hiX4 hown hK hL.c1 rfl 2 (by decide) f14 (v := .ref (A 4)) rfl dX4_copyFrom_17 ?_
  refine lv_aload_n hx hb dX4_copyFrom_20 rfl (lv_at hl 1 rfl) ?_
  refine tr_get (ci := 4) (C := RX4) (T := TX4) (N := 9) hx hb hts hiX4 hown hK hO.c1 rfl 2 (by decide) f14 (v := .ref (A2 4)) rfl dX4_copyFrom_21 ?_
  refine tr_cv (va_runV (As := [.ref (A2 4)]) (rest := []) ⟨hx, hb, hml, hown, hts⟩ (c_lcopy l D cI A A2 hd (lSc (lSc v 0 (u.1 0)) 1 (u.1 1)) u 0 (by decide)) (cwV 1 hts gX4_copyFrom_X2_copyFrom rfl rfl rfl (by decide +kernel) ⟨Nat.le_of_ble_eq_true rfl, Nat.le_of_ble_eq_true rfl⟩) (tr_preV hK (hL.robj 0 (by decide)) rfl ⟨hL, hO⟩) rfl rfl hl.1 rfl (lv_room (Nat.le_of_ble_eq_true rfl)) dX4_copyFrom_24 ⟨Nat.zero_le _, Nat.zero_le _⟩) hS (fun _ h => h) (fun H locs ⟨hL, hO⟩ hS => ?_)
  refine lv_aload_n hx hb dX4_copyFrom_27 rfl (lv_at hl 0 rfl) ?_
  refine tr_get (ci := 4) (C := RX4) (T := TX4) (N := 9) hx hb hts hiX4 hown hK hL.c1 rfl 3 (by decide) f20 (v := .ref (A 6)) rfl dX4_copyFrom_28 ?_
  refine lv_aload_n hx hb dX4_copyFrom_31 rfl (lv_at hl 1 rfl) ?_
  refine tr_get (ci := 4) (C := RX4) (T := TX4) (N := 9) hx hb hts hiX4 hown hK hO.c1 rfl 3 (by decide) f20 (v := .ref (A2 6)) rfl dX4_copyFrom_32 ?_
  refine tr_cv (va_runV (As := [.ref (A2 6)]) (rest := []) ⟨hx, hb, hml, hown, hts⟩ (c_lcopy l D cI A A2 hd (lRow (lSc (lSc v 0 (u.1 0)) 1 (u.1 1)) 0 (u.2 0)) u 1 (by decide)) (cwV 1 hts gX4_copyFrom_X2_copyFrom rfl rfl rfl (by decide +kernel) ⟨Nat.le_of_ble_eq_true rfl, Nat.le_of_ble_eq_true rfl⟩) (tr_preV hK (hL.robj 1 (by decide)) rfl ⟨hL, hO⟩) rfl rfl hl.1 rfl (lv_room (Nat.le_of_ble_eq_true rfl)) dX4_copyFrom_35 ⟨Nat.zero_le _, Nat.zero_le _⟩) hS (fun _ h => h) (fun H locs ⟨hL, hO⟩ hS => ?_)
  refine lv_aload_n hx hb dX4_copyFrom_38 rfl (lv_at hl 0 rfl) ?_
  refine tr_get (ci := 4) (C := RX4) (T := TX4) (N := 9) hx hb hts hiX4 hown hK hL.c1 rfl 4 (by decide) f23 (v := .ref (A 8)) rfl dX4_copyFrom_39 ?_
  refine lv_aload_n hx hb dX4_copyFrom_42 rfl (lv_at hl 1 rfl) ?_
  refine tr_get (ci := 4) (C := RX4) (T := TX4) (N := 9) hx hb hts hiX4 hown hK hO.c1 rfl 4 (by decide) f23 (v := .ref (A2 8)) rfl dX4_copyFrom_43 ?_
  refine tr_cv (va_runV (As := [.ref (A2 8)]) (rest := []) ⟨hx, hb, hml, hown, hts⟩ (c_lcopy l D cI A A2 hd (lRow (lRow (lSc (lSc v 0 (u.1 0)) 1 (u.1 1)) 0 (u.2 0)) 1 (u.2 1)) u 2 (by decide)) (cwV 1 hts gX4_copyFrom_X2_copyFrom rfl rfl rfl (by decide +kernel) ⟨Nat.le_of_ble_eq_true rfl, Nat.le_of_ble_eq_true rfl⟩) (tr_preV hK (hL.robj 2 (by decide)) rfl ⟨hL, hO⟩) rfl rfl hl.1 rfl (lv_room (Nat.le_of_ble_eq_true rfl)) dX4_copyFrom_46 ⟨Nat.zero_le _, Nat.zero_le _⟩) hS (fun _ h => h) (fun H locs ⟨hL, hO⟩ hS => ?_)
  refine lv_aload_n hx hb dX4_copyFrom_49 rfl (lv_at hl 0 rfl) ?_
  refine tr_get (ci := 4) (C := RX4) (T := TX4) (N := 9) hx hb hts hiX4 hown hK hL.c1 rfl 5 (by decide) f26 (v := .ref (A 10)) rfl dX4_copyFrom_50 ?_
  refine lv_aload_n hx hb dX4_copyFrom_53 rfl (lv_at hl 1 rfl) ?_
  refine tr_get (ci := 4) (C := RX4) (T := TX4) (N := 9) hx hb hts hiX4 hown hK hO.c1 rfl 5 (by decide) f26 (v := .ref (A2 10)) rfl dX4_copyFrom_54 ?_
  refine tr_cv (va_runV (As := [.ref (A2 10)]) (rest := []) ⟨hx, hb, hml, hown, hts⟩ (c_lcopy l D cI A A2 hd (lRow (lRow (lRow (lSc (lSc v 0 (u.1 0)) 1 (u.1 1)) 0 (u.2 0)) 1 (u.2 1)) 2 (u.2 2)) u 3 (by decide)) (cwV 1 hts gX4_copyFrom_X2_copyFrom rfl rfl rfl (by decide +kernel) ⟨Nat.le_of_ble_eq_true rfl, Nat.le_of_ble_eq_true rfl⟩) (tr_preV hK (hL.robj 3 (by decide)) rfl ⟨hL, hO⟩) rfl rfl hl.1 rfl (lv_room (Nat.le_of_ble_eq_true rfl)) dX4_copyFrom_57 ⟨Nat.zero_le _, Nat.zero_le _⟩) hS (fun _ h => h) (fun H locs ⟨hL, hO⟩ hS => ?_)
  refine lv_aload_n hx hb dX4_copyFrom_60 rfl (lv_at hl 0 rfl) ?_
  refine tr_get (ci := 4) (C := RX4) (T := TX4) (N := 9) hx hb hts hiX4 hown hK hL.c1 rfl 6 (by decide) f29 (v := .ref (A 12)) rfl dX4_copyFrom_61 ?_
  refine lv_aload_n hx hb dX4_copyFrom_64 rfl (lv_at hl 1 rfl) ?_
  refine tr_get (ci := 4) (C := RX4) (T := TX4) (N := 9) hx hb hts hiX4 hown hK hO.c1 rfl 6 (by decide) f29 (v := .ref (A2 12)) rfl dX4_copyFrom_65 ?_
  refine tr_cv (va_runV (As := [.ref (A2 12)]) (rest := []) ⟨hx, hb, hml, hown, hts⟩ (c_lcopy l D cI A A2 hd (lRow (lRow (lRow (lRow (lSc (lSc v 0 (u.1 0)) 1 (u.1 1)) 0 (u.2 0)) 1 (u.2 1)) 2 (u.2 2)) 3 (u.2 3)) u 4 (by decide)) (cwV 1 hts gX4_copyFrom_X2_copyFrom rfl rfl rfl (by decide +kernel) ⟨Nat.le_of_ble_eq_true rfl, Nat.le_of_ble_eq_true rfl⟩) (tr_preV hK (hL.robj 4 (by decide)) rfl ⟨hL, hO⟩) rfl rfl hl.1 rfl (lv_room (Nat.le_of_ble_eq_true rfl)) dX4_copyFrom_68 ⟨Nat.zero_le _, Nat.zero_le _⟩) hS (fun _ h => h) (fun H locs ⟨hL, hO⟩ hS => ?_)
  refine lv_aload_n hx hb dX4_copyFrom_71 rfl (lv_at hl 0 rfl) ?_
  refine tr_get (ci := 4) (C := RX4) (T := TX4) (N := 9) hx hb hts hiX4 hown hK hL.c1 rfl 7 (by decide) f32 (v := .ref (A 14)) rfl dX4_copyFrom_72 ?_
  refine lv_aload_n hx hb dX4_copyFrom_75 rfl (lv_at hl 1 rfl) ?_
  refine tr_get (ci := 4) (C := RX4) (T := TX4) (N := 9) hx hb hts hiX4 hown hK hO.c1 rfl 7 (by decide) f32 (v := .ref (A2 14)) rfl dX4_copyFrom_76 ?_
  refine tr_cv (va_runV (As := [.ref (A2 14)]) (rest := []) ⟨hx, hb, hml, hown, hts⟩ (c_lcopy l D cI A A2 hd (lRow (lRow (lRow (lRow (lRow (lSc (lSc v 0 (u.1 0)) 1 (u.1 1)) 0 (u.2 0)) 1 (u.2 1)) 2 (u.2 2)) 3 (u.2 3)) 4 (u.2 4)) u 5 (by decide)) (cwV 1 hts gX4_copyFrom_X2_copyFrom rfl rfl rfl (by decide +kernel) ⟨Nat.le_of_ble_eq_true rfl, Nat.le_of_ble_eq_true rfl⟩) (tr_preV hK (hL.robj 5 (by decide)) rfl ⟨hL, hO⟩) rfl rfl hl.1 rfl (lv_room (Nat.le_of_ble_eq_true rfl)) dX4_copyFrom_79 ⟨Nat.zero_le _, Nat.zero_le _⟩) hS (fun _ h => h) (fun H locs ⟨hL, hO⟩ hS => ?_)
  refine lv_aload_n hx hb dX4_copyFrom_82 rfl (lv_at hl 0 rfl) ?_
  refine tr_get (ci := 4) (C := RX4) (T := TX4) (N := 9) hx hb hts hiX4 hown hK hL.c1 rfl 8 (by decide) f35 (v := .ref (A 16)) rfl dX4_copyFrom_83 ?_
  refine lv_aload_n hx hb dX4_copyFrom_86 rfl (lv_at hl 1 rfl) ?_
  refine tr_get (ci := 4) (C := RX4) (T := TX4) (N := 9) hx hb hts hiX4 hown hK hO.c1 rfl 8 (by decide) f35 (v := .ref (A2 16)) rfl dX4_copyFrom_87 ?_
  refine tr_cv (va_runV (As := [.ref (A2 16)]) (rest := []) ⟨hx, hb, hml, hown, hts⟩ (c_lcopy l D cI A A2 hd (lRow (lRow (lRow (lRow (lRow (lRow (lSc (lSc v 0 (u.1 0)) 1 (u.1 1)) 0 (u.2 0)) 1 (u.2 1)) 2 (u.2 2)) 3 (u.2 3)) 4 (u.2 4)) 5 (u.2 5)) u 6 (by decide)) (cwV 1 hts gX4_copyFrom_X2_copyFrom rfl rfl rfl (by decide +kernel) ⟨Nat.le_of_ble_eq_true rfl, Nat.le_of_ble_eq_true rfl⟩) (tr_preV hK (hL.robj 6 (by decide)) rfl ⟨hL, hO⟩) rfl rfl hl.1 rfl (lv_room (Nat.le_of_ble_eq_true rfl)) dX4_copyFrom_90 ⟨Nat.zero_le _, Nat.zero_le _⟩) hS (fun _ h => h) (fun H locs ⟨hL, hO⟩ hS => ?_)
  exact W.vret hx hb hr (hS.end ⟨(by rw [fX4_copyFrom]; exact hL), hO⟩) hS.2.2 dX4_copyFrom_93
def fX3_copyFrom (v : LV) (u : LV) : LV :=
  lRow (lRow v 7 (u.2 7)) 8 (u.2 8)
set_option maxHeartbeats 4000000 in
set_option maxRecDepth 100000 in
theorem c_X3_copyFrom (l : Launch) (D : va_G) (cI : ClassId) (A A2 : Nat → Nat) (hd : LDis A A2) (v u : LV)  : Met l yX3_copyFrom wsX3_copyFrom ({ frames := 2, cells := 0, slots := 0, locals := 43 }) (tr_Pc D cI [.ref (A 2), .ref (A2 2)] (fun H => LNE D cI A v H ∧ LNE D cI A2 u H)) (tr_Q none (fun H => LNE D cI A (fX3_copyFrom v u) H ∧ LNE D cI A2 u H) (lOwn A)) 0 0 (lOwn A) := by
  refine Met.ofW (cc := cX3_copyFrom) (maxL := 2) (ret := none) (by decide) rfl ?_
  intro p e s m args below meth c s₁ B hml hv
  obtain ⟨rfl, ⟨hL, hO⟩, hK⟩ := hv
  have hx := B.exec
  have hb := B.bytes
  have hr := B.returns
  have hts := atoms_spec (ws := wsX3_copyFrom) B.pre
  have hown : s.vm.findClass RX3 = some m.cls := findClass_of_methodNamed B.named
  have hlocks := B.notSynchronized
  have hiX3 : ∀ w ∈ u_ws RX3 TX3 2, w ∈ wsX3_copyFrom := by decide +kernel
  have f14 := hts (.fieldLink RX3 14 "TramRibbon$Stops" "waiting" "LTramRibbon$Row;") (by decide +kernel)
  have f20 := hts (.fieldLink RX3 20 "TramRibbon$Stops" "spares" "LTramRibbon$Row;") (by decide +kernel)
  have hl := lv_entry ([.ref (A 2), .ref (A2 2)]) (n := 2) (Nat.le_of_ble_eq_true rfl)
  rw [lg_entry_eq]
  generalize (lg_sl ([.ref (A 2), .ref (A2 2)]) ++ List.replicate (2 - (lg_sl ([.ref (A 2), .ref (A2 2)])).length) Slot.unset).toArray = ls at hl ⊢
  replace hl : lv_has ls 2 [(0, .ref (A 2)), (1, .ref (A2 2))] := hl
  have hS : tr_S (lOwn A) s.heap s.heap [] := tr_S.rf
  generalize h1 : s.heap = H, h2 : ([] : List Loc) = locs
  replace hS : tr_S (lOwn A) s.heap H locs := by rw [← h1, ← h2]; exact hS
  rw [h1] at hL hO
  clear h1 h2
  refine lv_aload_n hx hb dX3_copyFrom_0 rfl (lv_at hl 0 rfl) ?_
  refine tr_get (ci := 3) (C := RX3) (T := TX3) (N := 2) hx hb hts hiX3 hown hK hL.c2 rfl 0 (by decide) f14 (v := .ref (A 18)) rfl dX3_copyFrom_1 ?_
  refine lv_aload_n hx hb dX3_copyFrom_4 rfl (lv_at hl 1 rfl) ?_
  refine tr_get (ci := 3) (C := RX3) (T := TX3) (N := 2) hx hb hts hiX3 hown hK hO.c2 rfl 0 (by decide) f14 (v := .ref (A2 18)) rfl dX3_copyFrom_5 ?_
  refine tr_cv (va_runV (As := [.ref (A2 18)]) (rest := []) ⟨hx, hb, hml, hown, hts⟩ (c_lcopy l D cI A A2 hd v u 7 (by decide)) (cwV 1 hts gX3_copyFrom_X2_copyFrom rfl rfl rfl (by decide +kernel) ⟨Nat.le_of_ble_eq_true rfl, Nat.le_of_ble_eq_true rfl⟩) (tr_preV hK (hL.robj 7 (by decide)) rfl ⟨hL, hO⟩) rfl rfl hl.1 rfl (lv_room (Nat.le_of_ble_eq_true rfl)) dX3_copyFrom_8 ⟨Nat.zero_le _, Nat.zero_le _⟩) hS (fun _ h => h) (fun H locs ⟨hL, hO⟩ hS => ?_)
  refine lv_aload_n hx hb dX3_copyFrom_11 rfl (lv_at hl 0 rfl) ?_
  refine tr_get (ci := 3) (C := RX3) (T := TX3) (N := 2) hx hb hts hiX3 hown hK hL.c2 rfl 1 (by decide) f20 (v := .ref (A 20)) rfl dX3_copyFrom_12 ?_
  refine lv_aload_n hx hb dX3_copyFrom_15 rfl (lv_at hl 1 rfl) ?_
  refine tr_get (ci := 3) (C := RX3) (T := TX3) (N := 2) hx hb hts hiX3 hown hK hO.c2 rfl 1 (by decide) f20 (v := .ref (A2 20)) rfl dX3_copyFrom_16 ?_
  refine tr_cv (va_runV (As := [.ref (A2 20)]) (rest := []) ⟨hx, hb, hml, hown, hts⟩ (c_lcopy l D cI A A2 hd (lRow v 7 (u.2 7)) u 8 (by decide)) (cwV 1 hts gX3_copyFrom_X2_copyFrom rfl rfl rfl (by decide +kernel) ⟨Nat.le_of_ble_eq_true rfl, Nat.le_of_ble_eq_true rfl⟩) (tr_preV hK (hL.robj 8 (by decide)) rfl ⟨hL, hO⟩) rfl rfl hl.1 rfl (lv_room (Nat.le_of_ble_eq_true rfl)) dX3_copyFrom_19 ⟨Nat.zero_le _, Nat.zero_le _⟩) hS (fun _ h => h) (fun H locs ⟨hL, hO⟩ hS => ?_)
  exact W.vret hx hb hr (hS.end ⟨(by rw [fX3_copyFrom]; exact hL), hO⟩) hS.2.2 dX3_copyFrom_22
def fX0_copyFrom (v : LV) (u : LV) : LV :=
  lRow (lRow (lRow (lRow (lRow (lRow (lRow (lRow (lSc v 2 (u.1 2)) 9 (u.2 9)) 10 (u.2 10)) 11 (u.2 11)) 12 (u.2 12)) 13 (u.2 13)) 14 (u.2 14)) 15 (u.2 15)) 16 (u.2 16)
set_option maxHeartbeats 4000000 in
set_option maxRecDepth 100000 in
theorem c_X0_copyFrom (l : Launch) (D : va_G) (cI : ClassId) (A A2 : Nat → Nat) (hd : LDis A A2) (v u : LV)  : Met l yX0_copyFrom wsX0_copyFrom ({ frames := 2, cells := 0, slots := 0, locals := 43 }) (tr_Pc D cI [.ref (A 3), .ref (A2 3)] (fun H => LNE D cI A v H ∧ LNE D cI A2 u H)) (tr_Q none (fun H => LNE D cI A (fX0_copyFrom v u) H ∧ LNE D cI A2 u H) (lOwn A)) 0 0 (lOwn A) := by
  refine Met.ofW (cc := cX0_copyFrom) (maxL := 2) (ret := none) (by decide) rfl ?_
  intro p e s m args below meth c s₁ B hml hv
  obtain ⟨rfl, ⟨hL, hO⟩, hK⟩ := hv
  have hx := B.exec
  have hb := B.bytes
  have hr := B.returns
  have hts := atoms_spec (ws := wsX0_copyFrom) B.pre
  have hown : s.vm.findClass RX0 = some m.cls := findClass_of_methodNamed B.named
  have hlocks := B.notSynchronized
  have hiX0 : ∀ w ∈ u_ws RX0 TX0 9, w ∈ wsX0_copyFrom := by decide +kernel
  have f14 := hts (.fieldLink RX0 14 "TramRibbon$Fleet" "place" "LTramRibbon$Row;") (by decide +kernel)
  have f20 := hts (.fieldLink RX0 20 "TramRibbon$Fleet" "up" "LTramRibbon$Row;") (by decide +kernel)
  have f23 := hts (.fieldLink RX0 23 "TramRibbon$Fleet" "riders" "LTramRibbon$Row;") (by decide +kernel)
  have f26 := hts (.fieldLink RX0 26 "TramRibbon$Fleet" "wear" "LTramRibbon$Row;") (by decide +kernel)
  have f29 := hts (.fieldLink RX0 29 "TramRibbon$Fleet" "broken" "LTramRibbon$Row;") (by decide +kernel)
  have f32 := hts (.fieldLink RX0 32 "TramRibbon$Fleet" "pushed" "LTramRibbon$Row;") (by decide +kernel)
  have f35 := hts (.fieldLink RX0 35 "TramRibbon$Fleet" "arrivals" "LTramRibbon$Row;") (by decide +kernel)
  have f38 := hts (.fieldLink RX0 38 "TramRibbon$Fleet" "went" "LTramRibbon$Row;") (by decide +kernel)
  have f41 := hts (.fieldLink RX0 41 "TramRibbon$Fleet" "size" "I") (by decide +kernel)
  have hl := lv_entry ([.ref (A 3), .ref (A2 3)]) (n := 2) (Nat.le_of_ble_eq_true rfl)
  rw [lg_entry_eq]
  generalize (lg_sl ([.ref (A 3), .ref (A2 3)]) ++ List.replicate (2 - (lg_sl ([.ref (A 3), .ref (A2 3)])).length) Slot.unset).toArray = ls at hl ⊢
  replace hl : lv_has ls 2 [(0, .ref (A 3)), (1, .ref (A2 3))] := hl
  have hS : tr_S (lOwn A) s.heap s.heap [] := tr_S.rf
  generalize h1 : s.heap = H, h2 : ([] : List Loc) = locs
  replace hS : tr_S (lOwn A) s.heap H locs := by rw [← h1, ← h2]; exact hS
  rw [h1] at hL hO
  clear h1 h2
  refine lv_aload_n hx hb dX0_copyFrom_0 rfl (lv_at hl 0 rfl) ?_
  refine lv_aload_n hx hb dX0_copyFrom_1 rfl (lv_at hl 1 rfl) ?_
  refine tr_get (ci := 0) (C := RX0) (T := TX0) (N := 9) hx hb hts hiX0 hown hK hO.c3 rfl 0 (by decide) f41 (v := .int (u.1 2)) rfl dX0_copyFrom_2 ?_
  refine tr_put (ci := 0) (C := RX0) (T := TX0) (N := 9) (ty := .int) (v := .int (u.1 2)) hx hb hts hiX0 tyX0 tyX0_ok nmX0 hown hK hS (lOwn_k (k := 3) (by decide)) hL.c3 rfl 0 (by decide) f41 rfl (by decide +kernel) rfl rfl (Nat.le_of_ble_eq_true rfl) dX0_copyFrom_5 (fun H locs hat hz hk hS => ?_)
  have hL : LNE D cI A (lSc v 2 (u.1 2)) H := hL.setSc hd.1 2 hat rfl hk
  replace hO := ln_keep hd hO 3 (by decide) hk
  clear hat hz hk
  refine lv_aload_n hx hb dX0_copyFrom_8 rfl (lv_at hl 0 rfl) ?_
  refine tr_get (ci := 0) (C := RX0) (T := TX0) (N := 9) hx hb hts hiX0 hown hK hL.c3 rfl 1 (by decide) f14 (v := .ref (A 22)) rfl dX0_copyFrom_9 ?_
  refine lv_aload_n hx hb dX0_copyFrom_12 rfl (lv_at hl 1 rfl) ?_
  refine tr_get (ci := 0) (C := RX0) (T := TX0) (N := 9) hx hb hts hiX0 hown hK hO.c3 rfl 1 (by decide) f14 (v := .ref (A2 22)) rfl dX0_copyFrom_13 ?_
  refine tr_cv (va_runV (As := [.ref (A2 22)]) (rest := []) ⟨hx, hb, hml, hown, hts⟩ (c_lcopy l D cI A A2 hd (lSc v 2 (u.1 2)) u 9 (by decide)) (cwV 1 hts gX0_copyFrom_X2_copyFrom rfl rfl rfl (by decide +kernel) ⟨Nat.le_of_ble_eq_true rfl, Nat.le_of_ble_eq_true rfl⟩) (tr_preV hK (hL.robj 9 (by decide)) rfl ⟨hL, hO⟩) rfl rfl hl.1 rfl (lv_room (Nat.le_of_ble_eq_true rfl)) dX0_copyFrom_16 ⟨Nat.zero_le _, Nat.zero_le _⟩) hS (fun _ h => h) (fun H locs ⟨hL, hO⟩ hS => ?_)
  refine lv_aload_n hx hb dX0_copyFrom_19 rfl (lv_at hl 0 rfl) ?_
  refine tr_get (ci := 0) (C := RX0) (T := TX0) (N := 9) hx hb hts hiX0 hown hK hL.c3 rfl 2 (by decide) f20 (v := .ref (A 24)) rfl dX0_copyFrom_20 ?_
  refine lv_aload_n hx hb dX0_copyFrom_23 rfl (lv_at hl 1 rfl) ?_
  refine tr_get (ci := 0) (C := RX0) (T := TX0) (N := 9) hx hb hts hiX0 hown hK hO.c3 rfl 2 (by decide) f20 (v := .ref (A2 24)) rfl dX0_copyFrom_24 ?_
  refine tr_cv (va_runV (As := [.ref (A2 24)]) (rest := []) ⟨hx, hb, hml, hown, hts⟩ (c_lcopy l D cI A A2 hd (lRow (lSc v 2 (u.1 2)) 9 (u.2 9)) u 10 (by decide)) (cwV 1 hts gX0_copyFrom_X2_copyFrom rfl rfl rfl (by decide +kernel) ⟨Nat.le_of_ble_eq_true rfl, Nat.le_of_ble_eq_true rfl⟩) (tr_preV hK (hL.robj 10 (by decide)) rfl ⟨hL, hO⟩) rfl rfl hl.1 rfl (lv_room (Nat.le_of_ble_eq_true rfl)) dX0_copyFrom_27 ⟨Nat.zero_le _, Nat.zero_le _⟩) hS (fun _ h => h) (fun H locs ⟨hL, hO⟩ hS => ?_)
  refine lv_aload_n hx hb dX0_copyFrom_30 rfl (lv_at hl 0 rfl) ?_
  refine tr_get (ci := 0) (C := RX0) (T := TX0) (N := 9) hx hb hts hiX0 hown hK hL.c3 rfl 3 (by decide) f23 (v := .ref (A 26)) rfl dX0_copyFrom_31 ?_
  refine lv_aload_n hx hb dX0_copyFrom_34 rfl (lv_at hl 1 rfl) ?_
  refine tr_get (ci := 0) (C := RX0) (T := TX0) (N := 9) hx hb hts hiX0 hown hK hO.c3 rfl 3 (by decide) f23 (v := .ref (A2 26)) rfl dX0_copyFrom_35 ?_
  refine tr_cv (va_runV (As := [.ref (A2 26)]) (rest := []) ⟨hx, hb, hml, hown, hts⟩ (c_lcopy l D cI A A2 hd (lRow (lRow (lSc v 2 (u.1 2)) 9 (u.2 9)) 10 (u.2 10)) u 11 (by decide)) (cwV 1 hts gX0_copyFrom_X2_copyFrom rfl rfl rfl (by decide +kernel) ⟨Nat.le_of_ble_eq_true rfl, Nat.le_of_ble_eq_true rfl⟩) (tr_preV hK (hL.robj 11 (by decide)) rfl ⟨hL, hO⟩) rfl rfl hl.1 rfl (lv_room (Nat.le_of_ble_eq_true rfl)) dX0_copyFrom_38 ⟨Nat.zero_le _, Nat.zero_le _⟩) hS (fun _ h => h) (fun H locs ⟨hL, hO⟩ hS => ?_)
  refine lv_aload_n hx hb dX0_copyFrom_41 rfl (lv_at hl 0 rfl) ?_
  refine tr_get (ci := 0) (C := RX0) (T := TX0) (N := 9) hx hb hts hiX0 hown hK hL.c3 rfl 4 (by decide) f26 (v := .ref (A 28)) rfl dX0_copyFrom_42 ?_
  refine lv_aload_n hx hb dX0_copyFrom_45 rfl (lv_at hl 1 rfl) ?_
  refine tr_get (ci := 0) (C := RX0) (T := TX0) (N := 9) hx hb hts hiX0 hown hK hO.c3 rfl 4 (by decide) f26 (v := .ref (A2 28)) rfl dX0_copyFrom_46 ?_
  refine tr_cv (va_runV (As := [.ref (A2 28)]) (rest := []) ⟨hx, hb, hml, hown, hts⟩ (c_lcopy l D cI A A2 hd (lRow (lRow (lRow (lSc v 2 (u.1 2)) 9 (u.2 9)) 10 (u.2 10)) 11 (u.2 11)) u 12 (by decide)) (cwV 1 hts gX0_copyFrom_X2_copyFrom rfl rfl rfl (by decide +kernel) ⟨Nat.le_of_ble_eq_true rfl, Nat.le_of_ble_eq_true rfl⟩) (tr_preV hK (hL.robj 12 (by decide)) rfl ⟨hL, hO⟩) rfl rfl hl.1 rfl (lv_room (Nat.le_of_ble_eq_true rfl)) dX0_copyFrom_49 ⟨Nat.zero_le _, Nat.zero_le _⟩) hS (fun _ h => h) (fun H locs ⟨hL, hO⟩ hS => ?_)
  refine lv_aload_n hx hb dX0_copyFrom_52 rfl (lv_at hl 0 rfl) ?_
  refine tr_get (ci := 0) (C := RX0) (T := TX0) (N := 9) hx hb hts hiX0 hown hK hL.c3 rfl 5 (by decide) f29 (v := .ref (A 30)) rfl dX0_copyFrom_53 ?_
  refine lv_aload_n hx hb dX0_copyFrom_56 rfl (lv_at hl 1 rfl) ?_
  refine tr_get (ci := 0) (C := RX0) (T := TX0) (N := 9) hx hb hts hiX0 hown hK hO.c3 rfl 5 (by decide) f29 (v := .ref (A2 30)) rfl dX0_copyFrom_57 ?_
  refine tr_cv (va_runV (As := [.ref (A2 30)]) (rest := []) ⟨hx, hb, hml, hown, hts⟩ (c_lcopy l D cI A A2 hd (lRow (lRow (lRow (lRow (lSc v 2 (u.1 2)) 9 (u.2 9)) 10 (u.2 10)) 11 (u.2 11)) 12 (u.2 12)) u 13 (by decide)) (cwV 1 hts gX0_copyFrom_X2_copyFrom rfl rfl rfl (by decide +kernel) ⟨Nat.le_of_ble_eq_true rfl, Nat.le_of_ble_eq_true rfl⟩) (tr_preV hK (hL.robj 13 (by decide)) rfl ⟨hL, hO⟩) rfl rfl hl.1 rfl (lv_room (Nat.le_of_ble_eq_true rfl)) dX0_copyFrom_60 ⟨Nat.zero_le _, Nat.zero_le _⟩) hS (fun _ h => h) (fun H locs ⟨hL, hO⟩ hS => ?_)
  refine lv_aload_n hx hb dX0_copyFrom_63 rfl (lv_at hl 0 rfl) ?_
  refine tr_get (ci := 0) (C := RX0) (T := TX0) (N := 9) hx hb hts hiX0 hown hK hL.c3 rfl 6 (by decide) f32 (v := .ref (A 32)) rfl dX0_copyFrom_64 ?_
  refine lv_aload_n hx hb dX0_copyFrom_67 rfl (lv_at hl 1 rfl) ?_
  refine tr_get (ci := 0) (C := RX0) (T := TX0) (N := 9) hx hb hts hiX0 hown hK hO.c3 rfl 6 (by decide) f32 (v := .ref (A2 32)) rfl dX0_copyFrom_68 ?_
  refine tr_cv (va_runV (As := [.ref (A2 32)]) (rest := []) ⟨hx, hb, hml, hown, hts⟩ (c_lcopy l D cI A A2 hd (lRow (lRow (lRow (lRow (lRow (lSc v 2 (u.1 2)) 9 (u.2 9)) 10 (u.2 10)) 11 (u.2 11)) 12 (u.2 12)) 13 (u.2 13)) u 14 (by decide)) (cwV 1 hts gX0_copyFrom_X2_copyFrom rfl rfl rfl (by decide +kernel) ⟨Nat.le_of_ble_eq_true rfl, Nat.le_of_ble_eq_true rfl⟩) (tr_preV hK (hL.robj 14 (by decide)) rfl ⟨hL, hO⟩) rfl rfl hl.1 rfl (lv_room (Nat.le_of_ble_eq_true rfl)) dX0_copyFrom_71 ⟨Nat.zero_le _, Nat.zero_le _⟩) hS (fun _ h => h) (fun H locs ⟨hL, hO⟩ hS => ?_)
  refine lv_aload_n hx hb dX0_copyFrom_74 rfl (lv_at hl 0 rfl) ?_
  refine tr_get (ci := 0) (C := RX0) (T := TX0) (N := 9) hx hb hts hiX0 hown hK hL.c3 rfl 7 (by decide) f35 (v := .ref (A 34)) rfl dX0_copyFrom_75 ?_
  refine lv_aload_n hx hb dX0_copyFrom_78 rfl (lv_at hl 1 rfl) ?_
  refine tr_get (ci := 0) (C := RX0) (T := TX0) (N := 9) hx hb hts hiX0 hown hK hO.c3 rfl 7 (by decide) f35 (v := .ref (A2 34)) rfl dX0_copyFrom_79 ?_
  refine tr_cv (va_runV (As := [.ref (A2 34)]) (rest := []) ⟨hx, hb, hml, hown, hts⟩ (c_lcopy l D cI A A2 hd (lRow (lRow (lRow (lRow (lRow (lRow (lSc v 2 (u.1 2)) 9 (u.2 9)) 10 (u.2 10)) 11 (u.2 11)) 12 (u.2 12)) 13 (u.2 13)) 14 (u.2 14)) u 15 (by decide)) (cwV 1 hts gX0_copyFrom_X2_copyFrom rfl rfl rfl (by decide +kernel) ⟨Nat.le_of_ble_eq_true rfl, Nat.le_of_ble_eq_true rfl⟩) (tr_preV hK (hL.robj 15 (by decide)) rfl ⟨hL, hO⟩) rfl rfl hl.1 rfl (lv_room (Nat.le_of_ble_eq_true rfl)) dX0_copyFrom_82 ⟨Nat.zero_le _, Nat.zero_le _⟩) hS (fun _ h => h) (fun H locs ⟨hL, hO⟩ hS => ?_)
  refine lv_aload_n hx hb dX0_copyFrom_85 rfl (lv_at hl 0 rfl) ?_
  refine tr_get (ci := 0) (C := RX0) (T := TX0) (N := 9) hx hb hts hiX0 hown hK hL.c3 rfl 8 (by decide) f38 (v := .ref (A 36)) rfl dX0_copyFrom_86 ?_
  refine lv_aload_n hx hb dX0_copyFrom_89 rfl (lv_at hl 1 rfl) ?_
  refine tr_get (ci := 0) (C := RX0) (T := TX0) (N := 9) hx hb hts hiX0 hown hK hO.c3 rfl 8 (by decide) f38 (v := .ref (A2 36)) rfl dX0_copyFrom_90 ?_
  refine tr_cv (va_runV (As := [.ref (A2 36)]) (rest := []) ⟨hx, hb, hml, hown, hts⟩ (c_lcopy l D cI A A2 hd (lRow (lRow (lRow (lRow (lRow (lRow (lRow (lSc v 2 (u.1 2)) 9 (u.2 9)) 10 (u.2 10)) 11 (u.2 11)) 12 (u.2 12)) 13 (u.2 13)) 14 (u.2 14)) 15 (u.2 15)) u 16 (by decide)) (cwV 1 hts gX0_copyFrom_X2_copyFrom rfl rfl rfl (by decide +kernel) ⟨Nat.le_of_ble_eq_true rfl, Nat.le_of_ble_eq_true rfl⟩) (tr_preV hK (hL.robj 16 (by decide)) rfl ⟨hL, hO⟩) rfl rfl hl.1 rfl (lv_room (Nat.le_of_ble_eq_true rfl)) dX0_copyFrom_93 ⟨Nat.zero_le _, Nat.zero_le _⟩) hS (fun _ h => h) (fun H locs ⟨hL, hO⟩ hS => ?_)
  exact W.vret hx hb hr (hS.end ⟨(by rw [fX0_copyFrom]; exact hL), hO⟩) hS.2.2 dX0_copyFrom_96
def fX1_copyFrom (v : LV) (u : LV) : LV :=
  lSc (lSc (lSc (fX0_copyFrom (fX3_copyFrom (fX4_copyFrom v u) u) u) 3 (u.1 3)) 4 (u.1 4)) 5 (u.1 5)
set_option maxHeartbeats 4000000 in
set_option maxRecDepth 100000 in
theorem c_X1_copyFrom (l : Launch) (D : va_G) (cI : ClassId) (A A2 : Nat → Nat) (hd : LDis A A2) (v u : LV)  : Met l yX1_copyFrom wsX1_copyFrom ({ frames := 3, cells := 0, slots := 0, locals := 64 }) (tr_Pc D cI [.ref (A 0), .ref (A2 0)] (fun H => LNE D cI A v H ∧ LNE D cI A2 u H)) (tr_Q none (fun H => LNE D cI A (fX1_copyFrom v u) H ∧ LNE D cI A2 u H) (lOwn A)) 0 0 (lOwn A) := by
  refine Met.ofW (cc := cX1_copyFrom) (maxL := 2) (ret := none) (by decide) rfl ?_
  intro p e s m args below meth c s₁ B hml hv
  obtain ⟨rfl, ⟨hL, hO⟩, hK⟩ := hv
  have hx := B.exec
  have hb := B.bytes
  have hr := B.returns
  have hts := atoms_spec (ws := wsX1_copyFrom) B.pre
  have hown : s.vm.findClass RX1 = some m.cls := findClass_of_methodNamed B.named
  have hlocks := B.notSynchronized
  have hiX1 : ∀ w ∈ u_ws RX1 TX1 6, w ∈ wsX1_copyFrom := by decide +kernel
  have f12 := hts (.fieldLink RX1 12 "TramRibbon$Line" "wire" "LTramRibbon$Wire;") (by decide +kernel)
  have f21 := hts (.fieldLink RX1 21 "TramRibbon$Line" "stops" "LTramRibbon$Stops;") (by decide +kernel)
  have f28 := hts (.fieldLink RX1 28 "TramRibbon$Line" "fleet" "LTramRibbon$Fleet;") (by decide +kernel)
  have f49 := hts (.fieldLink RX1 49 "TramRibbon$Line" "tick" "I") (by decide +kernel)
  have f53 := hts (.fieldLink RX1 53 "TramRibbon$Line" "boarded" "I") (by decide +kernel)
  have f56 := hts (.fieldLink RX1 56 "TramRibbon$Line" "swaps" "I") (by decide +kernel)
  have hl := lv_entry ([.ref (A 0), .ref (A2 0)]) (n := 2) (Nat.le_of_ble_eq_true rfl)
  rw [lg_entry_eq]
  generalize (lg_sl ([.ref (A 0), .ref (A2 0)]) ++ List.replicate (2 - (lg_sl ([.ref (A 0), .ref (A2 0)])).length) Slot.unset).toArray = ls at hl ⊢
  replace hl : lv_has ls 2 [(0, .ref (A 0)), (1, .ref (A2 0))] := hl
  have hS : tr_S (lOwn A) s.heap s.heap [] := tr_S.rf
  generalize h1 : s.heap = H, h2 : ([] : List Loc) = locs
  replace hS : tr_S (lOwn A) s.heap H locs := by rw [← h1, ← h2]; exact hS
  rw [h1] at hL hO
  clear h1 h2
  refine lv_aload_n hx hb dX1_copyFrom_0 rfl (lv_at hl 0 rfl) ?_
  refine tr_get (ci := 1) (C := RX1) (T := TX1) (N := 6) hx hb hts hiX1 hown hK hL.c0 rfl 0 (by decide) f12 (v := .ref (A 1)) rfl dX1_copyFrom_1 ?_
  refine lv_aload_n hx hb dX1_copyFrom_4 rfl (lv_at hl 1 rfl) ?_
  refine tr_get (ci := 1) (C := RX1) (T := TX1) (N := 6) hx hb hts hiX1 hown hK hO.c0 rfl 0 (by decide) f12 (v := .ref (A2 1)) rfl dX1_copyFrom_5 ?_
  refine tr_cv (va_runV (As := [.ref (A2 1)]) (rest := []) ⟨hx, hb, hml, hown, hts⟩ (c_X4_copyFrom l D cI A A2 hd v u) (cwV 1 hts gX1_copyFrom_X4_copyFrom rfl rfl rfl (by decide +kernel) ⟨Nat.le_of_ble_eq_true rfl, Nat.le_of_ble_eq_true rfl⟩) (tr_preV hK hL.c1 rfl ⟨hL, hO⟩) rfl rfl hl.1 rfl (lv_room (Nat.le_of_ble_eq_true rfl)) dX1_copyFrom_8 ⟨Nat.zero_le _, Nat.zero_le _⟩) hS (fun _ h => h) (fun H locs ⟨hL, hO⟩ hS => ?_)
  refine lv_aload_n hx hb dX1_copyFrom_11 rfl (lv_at hl 0 rfl) ?_
  refine tr_get (ci := 1) (C := RX1) (T := TX1) (N := 6) hx hb hts hiX1 hown hK hL.c0 rfl 1 (by decide) f21 (v := .ref (A 2)) rfl dX1_copyFrom_12 ?_
  refine lv_aload_n hx hb dX1_copyFrom_15 rfl (lv_at hl 1 rfl) ?_
  refine tr_get (ci := 1) (C := RX1) (T := TX1) (N := 6) hx hb hts hiX1 hown hK hO.c0 rfl 1 (by decide) f21 (v := .ref (A2 2)) rfl dX1_copyFrom_16 ?_
  refine tr_cv (va_runV (As := [.ref (A2 2)]) (rest := []) ⟨hx, hb, hml, hown, hts⟩ (c_X3_copyFrom l D cI A A2 hd (fX4_copyFrom v u) u) (cwV 1 hts gX1_copyFrom_X3_copyFrom rfl rfl rfl (by decide +kernel) ⟨Nat.le_of_ble_eq_true rfl, Nat.le_of_ble_eq_true rfl⟩) (tr_preV hK hL.c2 rfl ⟨hL, hO⟩) rfl rfl hl.1 rfl (lv_room (Nat.le_of_ble_eq_true rfl)) dX1_copyFrom_19 ⟨Nat.zero_le _, Nat.zero_le _⟩) hS (fun _ h => h) (fun H locs ⟨hL, hO⟩ hS => ?_)
  refine lv_aload_n hx hb dX1_copyFrom_22 rfl (lv_at hl 0 rfl) ?_
  refine tr_get (ci := 1) (C := RX1) (T := TX1) (N := 6) hx hb hts hiX1 hown hK hL.c0 rfl 2 (by decide) f28 (v := .ref (A 3)) rfl dX1_copyFrom_23 ?_
  refine lv_aload_n hx hb dX1_copyFrom_26 rfl (lv_at hl 1 rfl) ?_
  refine tr_get (ci := 1) (C := RX1) (T := TX1) (N := 6) hx hb hts hiX1 hown hK hO.c0 rfl 2 (by decide) f28 (v := .ref (A2 3)) rfl dX1_copyFrom_27 ?_
  refine tr_cv (va_runV (As := [.ref (A2 3)]) (rest := []) ⟨hx, hb, hml, hown, hts⟩ (c_X0_copyFrom l D cI A A2 hd (fX3_copyFrom (fX4_copyFrom v u) u) u) (cwV 1 hts gX1_copyFrom_X0_copyFrom rfl rfl rfl (by decide +kernel) ⟨Nat.le_of_ble_eq_true rfl, Nat.le_of_ble_eq_true rfl⟩) (tr_preV hK hL.c3 rfl ⟨hL, hO⟩) rfl rfl hl.1 rfl (lv_room (Nat.le_of_ble_eq_true rfl)) dX1_copyFrom_30 ⟨Nat.zero_le _, Nat.zero_le _⟩) hS (fun _ h => h) (fun H locs ⟨hL, hO⟩ hS => ?_)
  refine lv_aload_n hx hb dX1_copyFrom_33 rfl (lv_at hl 0 rfl) ?_
  refine lv_aload_n hx hb dX1_copyFrom_34 rfl (lv_at hl 1 rfl) ?_
  refine tr_get (ci := 1) (C := RX1) (T := TX1) (N := 6) hx hb hts hiX1 hown hK hO.c0 rfl 3 (by decide) f49 (v := .int (u.1 3)) rfl dX1_copyFrom_35 ?_
  refine tr_put (ci := 1) (C := RX1) (T := TX1) (N := 6) (ty := .int) (v := .int (u.1 3)) hx hb hts hiX1 tyX1 tyX1_ok nmX1 hown hK hS (lOwn_k (k := 0) (by decide)) hL.c0 rfl 3 (by decide) f49 rfl (by decide +kernel) rfl rfl (Nat.le_of_ble_eq_true rfl) dX1_copyFrom_38 (fun H locs hat hz hk hS => ?_)
  have hL : LNE D cI A (lSc (fX0_copyFrom (fX3_copyFrom (fX4_copyFrom v u) u) u) 3 (u.1 3)) H := hL.setSc hd.1 3 hat rfl hk
  replace hO := ln_keep hd hO 0 (by decide) hk
  clear hat hz hk
  refine lv_aload_n hx hb dX1_copyFrom_41 rfl (lv_at hl 0 rfl) ?_
  refine lv_aload_n hx hb dX1_copyFrom_42 rfl (lv_at hl 1 rfl) ?_
  refine tr_get (ci := 1) (C := RX1) (T := TX1) (N := 6) hx hb hts hiX1 hown hK hO.c0 rfl 4 (by decide) f53 (v := .int (u.1 4)) rfl dX1_copyFrom_43 ?_
  refine tr_put (ci := 1) (C := RX1) (T := TX1) (N := 6) (ty := .int) (v := .int (u.1 4)) hx hb hts hiX1 tyX1 tyX1_ok nmX1 hown hK hS (lOwn_k (k := 0) (by decide)) hL.c0 rfl 4 (by decide) f53 rfl (by decide +kernel) rfl rfl (Nat.le_of_ble_eq_true rfl) dX1_copyFrom_46 (fun H locs hat hz hk hS => ?_)
  have hL : LNE D cI A (lSc (lSc (fX0_copyFrom (fX3_copyFrom (fX4_copyFrom v u) u) u) 3 (u.1 3)) 4 (u.1 4)) H := hL.setSc hd.1 4 hat rfl hk
  replace hO := ln_keep hd hO 0 (by decide) hk
  clear hat hz hk
  refine lv_aload_n hx hb dX1_copyFrom_49 rfl (lv_at hl 0 rfl) ?_
  refine lv_aload_n hx hb dX1_copyFrom_50 rfl (lv_at hl 1 rfl) ?_
  refine tr_get (ci := 1) (C := RX1) (T := TX1) (N := 6) hx hb hts hiX1 hown hK hO.c0 rfl 5 (by decide) f56 (v := .int (u.1 5)) rfl dX1_copyFrom_51 ?_
  refine tr_put (ci := 1) (C := RX1) (T := TX1) (N := 6) (ty := .int) (v := .int (u.1 5)) hx hb hts hiX1 tyX1 tyX1_ok nmX1 hown hK hS (lOwn_k (k := 0) (by decide)) hL.c0 rfl 5 (by decide) f56 rfl (by decide +kernel) rfl rfl (Nat.le_of_ble_eq_true rfl) dX1_copyFrom_54 (fun H locs hat hz hk hS => ?_)
  have hL : LNE D cI A (lSc (lSc (lSc (fX0_copyFrom (fX3_copyFrom (fX4_copyFrom v u) u) u) 3 (u.1 3)) 4 (u.1 4)) 5 (u.1 5)) H := hL.setSc hd.1 5 hat rfl hk
  replace hO := ln_keep hd hO 0 (by decide) hk
  clear hat hz hk
  exact W.vret hx hb hr (hS.end ⟨(by rw [fX1_copyFrom]; exact hL), hO⟩) hS.2.2 dX1_copyFrom_57
theorem copy_all (v u : LV) : (∀ i, i < 6 → (fX1_copyFrom v u).1 i = u.1 i) ∧ ∀ r, r < 17 → (fX1_copyFrom v u).2 r = u.2 r := by
  constructor
  · intro i hi
    match i, hi with
    | 0, _ => rfl
    | 1, _ => rfl
    | 2, _ => rfl
    | 3, _ => rfl
    | 4, _ => rfl
    | 5, _ => rfl
  · intro r hr
    match r, hr with
    | 0, _ => rfl
    | 1, _ => rfl
    | 2, _ => rfl
    | 3, _ => rfl
    | 4, _ => rfl
    | 5, _ => rfl
    | 6, _ => rfl
    | 7, _ => rfl
    | 8, _ => rfl
    | 9, _ => rfl
    | 10, _ => rfl
    | 11, _ => rfl
    | 12, _ => rfl
    | 13, _ => rfl
    | 14, _ => rfl
    | 15, _ => rfl
    | 16, _ => rfl
    | k + 17, hk => exact absurd hk (by omega)
theorem c_copy (l : Launch) (D : va_G) (cI : ClassId) (A B : Nat → Nat) (hd : LDis A B) (v u : LV) : Met l yX1_copyFrom wsX1_copyFrom ({ frames := 3, cells := 0, slots := 0, locals := 64 }) (tr_Pc D cI [.ref (A 0), .ref (B 0)] (fun H => LNE D cI A v H ∧ LNE D cI B u H)) (tr_Q none (fun H => LNE D cI A u H ∧ LNE D cI B u H) (lOwn A)) 0 0 (lOwn A) :=
  tr_post (c_X1_copyFrom l D cI A B hd v u) (fun _ h => h) (fun _ _ _ h _ => ⟨h.1.congr (copy_all v u).1 (copy_all v u).2, h.2⟩)
