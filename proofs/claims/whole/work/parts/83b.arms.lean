/-! THE LAW: its arms -/
set_option maxHeartbeats 4000000 in
set_option maxRecDepth 100000 in
theorem arm_put0 {p : Program} {l : Launch} {e : Env} {s : State} {m : MethodId} {below : List Frame} {meth : Method} {c : Code} {b L : Nat} {xs : Nat → Int32} {D : va_G} {cI cJ : ClassId} {z0 : Nat} {A A2 M : Nat → Nat} {oa : Nat} (K : LC p l s m c b L xs D cI cJ z0 A A2 M oa) {Q : State → Prop} {j : Nat} (hj : 4 * j + 4 ≤ L) (hj2 : j < 600) {H : Heap} {locs : List Loc} {ls : Array Slot} {cells slots : Nat} (hcs : cells + 151 ≤ 601024 ∧ slots + 1100 ≤ 7293034) (hs : LST s D cI cJ z0 A A2 M oa j H locs) (hl : lv_has ls 9 [(0, .ref b), (1, .ref z0), (2, .ref ((mA M) 0)), (3, .ref oa), (4, .int (nI (4 * j)))]) (nx : ∀ (H : Heap) (locs : List Loc) (ls : Array Slot), LST s D cI cJ z0 A A2 M oa (j + 1) H locs → lv_has ls 9 [(0, .ref b), (1, .ref z0), (2, .ref ((mA M) 0)), (3, .ref oa), (4, .int (nI (4 * j)))] → W p l e room_1 s m #[Value.ref b] below meth c H locs (cells + 151) (slots + 1100) Q (F0 m 1283 ls [])) (hup : (xs (nI (4 * j) + 2).toNatClampNeg) = 0) : W p l e room_1 s m #[Value.ref b] below meth c H locs cells slots Q (F0 m 512 ls []) := by
  obtain ⟨⟨hx, hb, hml, hown, hts⟩, ⟨hX, hbl, hL⟩, hst, ⟨hK, hJ, hH, hXA⟩, ⟨hd, hMi, ho⟩, hap, hfr⟩ := K
  obtain ⟨v, u, mv, sv, nv, y, hT, hM, hO, hrel, hS⟩ := hs
  have hbA : ¬ lOw s b := Nat.not_le.mpr hbl
  have sim := s_put hrel u nv (xs (nI (4 * j) + 1).toNatClampNeg) 0 (xs (nI (4 * j) + 3).toNatClampNeg)
  obtain ⟨t, et⟩ : ∃ t, t = fX7_put mv sv nv (xs (nI (4 * j) + 1).toNatClampNeg) 0 (xs (nI (4 * j) + 3).toNatClampNeg) := ⟨_, rfl⟩
  rw [← et] at sim
  obtain ⟨mv1, sv1, nv1⟩ := t
  obtain ⟨x5, ex⟩ : ∃ t, t = xX5_put v u (xs (nI (4 * j) + 1).toNatClampNeg) 0 (xs (nI (4 * j) + 3).toNatClampNeg) := ⟨_, rfl⟩
  obtain ⟨r5, er5⟩ : ∃ t, t = rX5_put v u (xs (nI (4 * j) + 1).toNatClampNeg) 0 (xs (nI (4 * j) + 3).toNatClampNeg) := ⟨_, rfl⟩
  obtain ⟨r7, er7⟩ : ∃ t, t = rX7_put mv sv nv (xs (nI (4 * j) + 1).toNatClampNeg) 0 (xs (nI (4 * j) + 3).toNatClampNeg) := ⟨_, rfl⟩
  obtain ⟨v1, ev1⟩ : ∃ t, t = (fX5_put v u (xs (nI (4 * j) + 1).toNatClampNeg) 0 (xs (nI (4 * j) + 3).toNatClampNeg)).1 := ⟨_, rfl⟩
  rw [← ex, ← er5, ← er7, ← ev1] at sim
  obtain ⟨sim1, sim2⟩ := sim
  obtain ⟨hc1, hc2⟩ := OUT_cod (Or.inr (Or.inr (Or.inr (Or.inr (Or.inr (Or.inr (rfl))))))) sim1
  refine lv_aload_n hx hb dL_law_512 rfl (lv_at hl 1 rfl) ?_
  refine lv_aload_n hx hb dL_law_513 rfl (lv_at hl 0 rfl) ?_
  refine lv_iload hx hb dL_law_514 (lv_at hl 4 rfl) ?_
  refine lv_iconst (v := 1) hx hb dL_law_516 (by decide) ?_
  refine lv_iadd hx hb dL_law_517 ?_
  refine va_sld (A := lOw s) hx hb hX hbl hbA hS (vp_sc (k := 1) (by omega) hL) dL_law_518 ?_
  refine lv_aload_n hx hb dL_law_519 rfl (lv_at hl 0 rfl) ?_
  refine lv_iload hx hb dL_law_520 (lv_at hl 4 rfl) ?_
  refine lv_iconst (v := 2) hx hb dL_law_522 (by decide) ?_
  refine lv_iadd hx hb dL_law_523 ?_
  refine va_sld (A := lOw s) hx hb hX hbl hbA hS (vp_sc (k := 2) (by omega) hL) dL_law_524 ?_
  refine lv_if_eq (tgt := 532) hx hb dL_law_525 (by decide) (fun _ => ?_) (fun c9 => absurd hup c9)
  refine lv_iconst (v := 0) hx hb dL_law_532 (by decide) ?_
  refine lv_aload_n hx hb dL_law_533 rfl (lv_at hl 0 rfl) ?_
  refine lv_iload hx hb dL_law_534 (lv_at hl 4 rfl) ?_
  refine lv_iconst (v := 3) hx hb dL_law_536 (by decide) ?_
  refine lv_iadd hx hb dL_law_537 ?_
  refine va_sld (A := lOw s) hx hb hX hbl hbA hS (vp_sc (k := 3) (by omega) hL) dL_law_538 ?_
  refine lv_aload_n hx hb dL_law_539 rfl (lv_at hl 3 rfl) ?_
  refine tr_wNi (vx_runSW (As := [.ref z0, .int (xs (nI (4 * j) + 1).toNatClampNeg), .int 0, .int (xs (nI (4 * j) + 3).toNatClampNeg), .ref oa]) (rest := []) ⟨hx, hb, hml, hown, hts⟩ (c_L_put l hst D cI cJ z0 A A2 hd v u (xs (nI (4 * j) + 1).toNatClampNeg) 0 (xs (nI (4 * j) + 3).toNatClampNeg) oa y ho) (vx_cwSW 5 hts gL_law_L_put rfl rfl rfl (by decide +kernel) ⟨Nat.le_of_ble_eq_true rfl, Nat.le_of_ble_eq_true rfl⟩) (tr_preSH hK (hXA.at hS) hJ hH ⟨hT, hO⟩) rfl rfl hl.1 rfl (lv_room (Nat.le_of_ble_eq_true rfl)) dL_law_540 ⟨show cells + 1 ≤ 601024 by omega, show slots + 6 ≤ 7293034 by omega⟩) hS hfr.h hfr.h (fun H locs hp hz hk hS => ?_)
  rw [← ex, ← er5, ← ev1] at hp
  rw [← ex]
  obtain ⟨⟨u2, hT⟩, hO⟩ := hp
  replace hM := hM.keptH hap hk
  refine lv_istore (lv' := [(5, .int (cod [sIX, sIA, sIS] x5)), (0, .ref b), (1, .ref z0), (2, .ref ((mA M) 0)), (3, .ref oa), (4, .int (nI (4 * j)))]) hx hb dL_law_543 hl (by decide) rfl (fun ls hl => ?_)
  refine lv_aload_n hx hb dL_law_545 rfl (lv_at hl 3 rfl) ?_
  refine lv_aload_n hx hb dL_law_546 rfl (lv_at hl 1 rfl) ?_
  refine lv_iload hx hb dL_law_547 (lv_at hl 5 rfl) ?_
  refine lv_iconst (v := 1) hx hb dL_law_549 (by decide) ?_
  refine lv_iadd hx hb dL_law_550 ?_
  refine va_sld (A := lOw s) hx hb hX hbl hbA hS (vp_sc (k := 1) (by omega) hL) dL_law_551 ?_
  refine lv_aload_n hx hb dL_law_552 rfl (lv_at hl 1 rfl) ?_
  refine lv_iload hx hb dL_law_553 (lv_at hl 5 rfl) ?_
  refine lv_iconst (v := 2) hx hb dL_law_555 (by decide) ?_
  refine lv_iadd hx hb dL_law_556 ?_
  refine va_sld (A := lOw s) hx hb hX hbl hbA hS (vp_sc (k := 2) (by omega) hL) dL_law_557 ?_
  refine lv_if_eq (tgt := 565) hx hb dL_law_558 (by decide) (fun _ => ?_) (fun c9 => absurd hup c9)
  refine lv_iconst (v := 0) hx hb dL_law_565 (by decide) ?_
  refine lv_aload_n hx hb dL_law_566 rfl (lv_at hl 1 rfl) ?_
  refine lv_iload hx hb dL_law_567 (lv_at hl 5 rfl) ?_
  refine lv_iconst (v := 3) hx hb dL_law_569 (by decide) ?_
  refine lv_iadd hx hb dL_law_570 ?_
  refine va_sld (A := lOw s) hx hb hX hbl hbA hS (vp_sc (k := 3) (by omega) hL) dL_law_571 ?_
  refine tr_wi (va_runV (As := [.int (xs (nI (4 * j) + 1).toNatClampNeg), .int 0, .int (xs (nI (4 * j) + 3).toNatClampNeg)]) (rest := []) ⟨hx, hb, hml, hown, hts⟩ (c_X7_put l D cI M hMi mv sv nv (xs (nI (4 * j) + 1).toNatClampNeg) 0 (xs (nI (4 * j) + 3).toNatClampNeg) hrel.mOK) (cwV 3 hts gL_law_X7_put rfl rfl rfl (by decide +kernel) ⟨Nat.le_of_ble_eq_true rfl, Nat.le_of_ble_eq_true rfl⟩) (tr_preV hK hM.1.c0 rfl hM) rfl rfl hl.1 rfl (lv_room (Nat.le_of_ble_eq_true rfl)) dL_law_572 ⟨show cells + 1 + 0 ≤ 601024 by omega, show slots + 6 + 0 ≤ 7293034 by omega⟩) hS hfr.m (fun H locs hp hz hk hS => ?_)
  rw [← er7]
  rw [← et] at hp
  have hM := hp
  replace hT := hT.keptM hap hk
  replace hO := hO.keptM hap hk
  refine lv_istore (lv' := [(6, .int r7), (5, .int (cod [sIX, sIA, sIS] x5)), (0, .ref b), (1, .ref z0), (2, .ref ((mA M) 0)), (3, .ref oa), (4, .int (nI (4 * j)))]) hx hb dL_law_575 hl (by decide) rfl (fun ls hl => ?_)
  refine lv_aload_n hx hb dL_law_577 rfl (lv_at hl 4 rfl) ?_
  refine tr_wi (va_runV (As := []) (rest := []) ⟨hx, hb, hml, hown, hts⟩ (c_X7_thrown l D cI M hMi mv1 sv1 nv1) (cwV 0 hts gL_law_X7_thrown rfl rfl rfl (by decide +kernel) ⟨Nat.le_of_ble_eq_true rfl, Nat.le_of_ble_eq_true rfl⟩) (tr_preV hK hM.1.c0 rfl hM) rfl rfl hl.1 rfl (lv_room (Nat.le_of_ble_eq_true rfl)) dL_law_578 ⟨show cells + 1 + 0 + 0 ≤ 601024 by omega, show slots + 6 + 0 + 0 ≤ 7293034 by omega⟩) hS hfr.m (fun H locs hM hz hk hS => ?_)
  replace hT := hT.keptM hap hk
  replace hO := hO.keptM hap hk
  refine lv_iload hx hb dL_law_581 (lv_at hl 1 rfl) ?_
  refine lv_icmp_eq (tgt := 588) hx hb dL_law_583 (by decide) (fun _ => ?_) (fun c9 => absurd hc1 c9)
  refine lv_iload hx hb dL_law_588 (lv_at hl 1 rfl) ?_
  have fin : W p l e room_1 s m #[Value.ref b] below meth c H locs (cells + 151) (slots + 1100) Q (F0 m 605 ls []) := by
    refine lv_goto (tgt := 1283) hx hb dL_law_605 (by decide) ?_
    exact nx H locs ls ⟨v1, u2, mv1, sv1, nv1, _, hT, hM, hO, sim2, hS⟩ (lv_sub hl [2, 3, 4, 5, 6] rfl)
  refine W.widen (k := cells + 151) (n := slots + 1100) (by omega) (by omega) ?_
  refine lv_if_ne (tgt := 605) hx hb dL_law_590 (by decide) (fun _ => fin) (fun c9 => ?_)
  obtain ⟨hn, hr57⟩ := hc2 c9
  have hO9 : oat D cJ oa (r5.toInt64) H := by rw [if_pos hn] at hO; exact hO
  refine lv_aload_n hx hb dL_law_593 rfl (lv_at hl 5 rfl) ?_
  refine lv_iconst (v := 0) hx hb dL_law_594 (by decide) ?_
  refine va_lald hx hb hJ (tr_one hO9) 0 0 rfl rfl (i := 0) vp00 dL_law_595 ?_
  refine lv_iload hx hb dL_law_596 (lv_at hl 0 rfl) ?_
  refine lv_i2l hx hb dL_law_598 rfl ?_
  refine W.lcmp hx hb dL_law_599 ?_
  exact lv_if_eq (tgt := 605) hx hb dL_law_600 (by decide) (fun _ => fin) (fun c8 => absurd (by rw [hr57]; exact lg_cmp_self _) c8)
set_option maxHeartbeats 4000000 in
set_option maxRecDepth 100000 in
theorem arm_put1 {p : Program} {l : Launch} {e : Env} {s : State} {m : MethodId} {below : List Frame} {meth : Method} {c : Code} {b L : Nat} {xs : Nat → Int32} {D : va_G} {cI cJ : ClassId} {z0 : Nat} {A A2 M : Nat → Nat} {oa : Nat} (K : LC p l s m c b L xs D cI cJ z0 A A2 M oa) {Q : State → Prop} {j : Nat} (hj : 4 * j + 4 ≤ L) (hj2 : j < 600) {H : Heap} {locs : List Loc} {ls : Array Slot} {cells slots : Nat} (hcs : cells + 151 ≤ 601024 ∧ slots + 1100 ≤ 7293034) (hs : LST s D cI cJ z0 A A2 M oa j H locs) (hl : lv_has ls 9 [(0, .ref b), (1, .ref z0), (2, .ref ((mA M) 0)), (3, .ref oa), (4, .int (nI (4 * j)))]) (nx : ∀ (H : Heap) (locs : List Loc) (ls : Array Slot), LST s D cI cJ z0 A A2 M oa (j + 1) H locs → lv_has ls 9 [(0, .ref b), (1, .ref z0), (2, .ref ((mA M) 0)), (3, .ref oa), (4, .int (nI (4 * j)))] → W p l e room_1 s m #[Value.ref b] below meth c H locs (cells + 151) (slots + 1100) Q (F0 m 1283 ls [])) (hup : ¬ (xs (nI (4 * j) + 2).toNatClampNeg) = 0) : W p l e room_1 s m #[Value.ref b] below meth c H locs cells slots Q (F0 m 512 ls []) := by
  obtain ⟨⟨hx, hb, hml, hown, hts⟩, ⟨hX, hbl, hL⟩, hst, ⟨hK, hJ, hH, hXA⟩, ⟨hd, hMi, ho⟩, hap, hfr⟩ := K
  obtain ⟨v, u, mv, sv, nv, y, hT, hM, hO, hrel, hS⟩ := hs
  have hbA : ¬ lOw s b := Nat.not_le.mpr hbl
  have sim := s_put hrel u nv (xs (nI (4 * j) + 1).toNatClampNeg) 1 (xs (nI (4 * j) + 3).toNatClampNeg)
  obtain ⟨t, et⟩ : ∃ t, t = fX7_put mv sv nv (xs (nI (4 * j) + 1).toNatClampNeg) 1 (xs (nI (4 * j) + 3).toNatClampNeg) := ⟨_, rfl⟩
  rw [← et] at sim
  obtain ⟨mv1, sv1, nv1⟩ := t
  obtain ⟨x5, ex⟩ : ∃ t, t = xX5_put v u (xs (nI (4 * j) + 1).toNatClampNeg) 1 (xs (nI (4 * j) + 3).toNatClampNeg) := ⟨_, rfl⟩
  obtain ⟨r5, er5⟩ : ∃ t, t = rX5_put v u (xs (nI (4 * j) + 1).toNatClampNeg) 1 (xs (nI (4 * j) + 3).toNatClampNeg) := ⟨_, rfl⟩
  obtain ⟨r7, er7⟩ : ∃ t, t = rX7_put mv sv nv (xs (nI (4 * j) + 1).toNatClampNeg) 1 (xs (nI (4 * j) + 3).toNatClampNeg) := ⟨_, rfl⟩
  obtain ⟨v1, ev1⟩ : ∃ t, t = (fX5_put v u (xs (nI (4 * j) + 1).toNatClampNeg) 1 (xs (nI (4 * j) + 3).toNatClampNeg)).1 := ⟨_, rfl⟩
  rw [← ex, ← er5, ← er7, ← ev1] at sim
  obtain ⟨sim1, sim2⟩ := sim
  obtain ⟨hc1, hc2⟩ := OUT_cod (Or.inr (Or.inr (Or.inr (Or.inr (Or.inr (Or.inr (rfl))))))) sim1
  refine lv_aload_n hx hb dL_law_512 rfl (lv_at hl 1 rfl) ?_
  refine lv_aload_n hx hb dL_law_513 rfl (lv_at hl 0 rfl) ?_
  refine lv_iload hx hb dL_law_514 (lv_at hl 4 rfl) ?_
  refine lv_iconst (v := 1) hx hb dL_law_516 (by decide) ?_
  refine lv_iadd hx hb dL_law_517 ?_
  refine va_sld (A := lOw s) hx hb hX hbl hbA hS (vp_sc (k := 1) (by omega) hL) dL_law_518 ?_
  refine lv_aload_n hx hb dL_law_519 rfl (lv_at hl 0 rfl) ?_
  refine lv_iload hx hb dL_law_520 (lv_at hl 4 rfl) ?_
  refine lv_iconst (v := 2) hx hb dL_law_522 (by decide) ?_
  refine lv_iadd hx hb dL_law_523 ?_
  refine va_sld (A := lOw s) hx hb hX hbl hbA hS (vp_sc (k := 2) (by omega) hL) dL_law_524 ?_
  refine lv_if_eq (tgt := 532) hx hb dL_law_525 (by decide) (fun c9 => absurd c9 hup) (fun _ => ?_)
  refine lv_iconst (v := 1) hx hb dL_law_528 (by decide) ?_
  refine lv_goto (tgt := 533) hx hb dL_law_529 (by decide) ?_
  refine lv_aload_n hx hb dL_law_533 rfl (lv_at hl 0 rfl) ?_
  refine lv_iload hx hb dL_law_534 (lv_at hl 4 rfl) ?_
  refine lv_iconst (v := 3) hx hb dL_law_536 (by decide) ?_
  refine lv_iadd hx hb dL_law_537 ?_
  refine va_sld (A := lOw s) hx hb hX hbl hbA hS (vp_sc (k := 3) (by omega) hL) dL_law_538 ?_
  refine lv_aload_n hx hb dL_law_539 rfl (lv_at hl 3 rfl) ?_
  refine tr_wNi (vx_runSW (As := [.ref z0, .int (xs (nI (4 * j) + 1).toNatClampNeg), .int 1, .int (xs (nI (4 * j) + 3).toNatClampNeg), .ref oa]) (rest := []) ⟨hx, hb, hml, hown, hts⟩ (c_L_put l hst D cI cJ z0 A A2 hd v u (xs (nI (4 * j) + 1).toNatClampNeg) 1 (xs (nI (4 * j) + 3).toNatClampNeg) oa y ho) (vx_cwSW 5 hts gL_law_L_put rfl rfl rfl (by decide +kernel) ⟨Nat.le_of_ble_eq_true rfl, Nat.le_of_ble_eq_true rfl⟩) (tr_preSH hK (hXA.at hS) hJ hH ⟨hT, hO⟩) rfl rfl hl.1 rfl (lv_room (Nat.le_of_ble_eq_true rfl)) dL_law_540 ⟨show cells + 1 ≤ 601024 by omega, show slots + 6 ≤ 7293034 by omega⟩) hS hfr.h hfr.h (fun H locs hp hz hk hS => ?_)
  rw [← ex, ← er5, ← ev1] at hp
  rw [← ex]
  obtain ⟨⟨u2, hT⟩, hO⟩ := hp
  replace hM := hM.keptH hap hk
  refine lv_istore (lv' := [(5, .int (cod [sIX, sIA, sIS] x5)), (0, .ref b), (1, .ref z0), (2, .ref ((mA M) 0)), (3, .ref oa), (4, .int (nI (4 * j)))]) hx hb dL_law_543 hl (by decide) rfl (fun ls hl => ?_)
  refine lv_aload_n hx hb dL_law_545 rfl (lv_at hl 3 rfl) ?_
  refine lv_aload_n hx hb dL_law_546 rfl (lv_at hl 1 rfl) ?_
  refine lv_iload hx hb dL_law_547 (lv_at hl 5 rfl) ?_
  refine lv_iconst (v := 1) hx hb dL_law_549 (by decide) ?_
  refine lv_iadd hx hb dL_law_550 ?_
  refine va_sld (A := lOw s) hx hb hX hbl hbA hS (vp_sc (k := 1) (by omega) hL) dL_law_551 ?_
  refine lv_aload_n hx hb dL_law_552 rfl (lv_at hl 1 rfl) ?_
  refine lv_iload hx hb dL_law_553 (lv_at hl 5 rfl) ?_
  refine lv_iconst (v := 2) hx hb dL_law_555 (by decide) ?_
  refine lv_iadd hx hb dL_law_556 ?_
  refine va_sld (A := lOw s) hx hb hX hbl hbA hS (vp_sc (k := 2) (by omega) hL) dL_law_557 ?_
  refine lv_if_eq (tgt := 565) hx hb dL_law_558 (by decide) (fun c9 => absurd c9 hup) (fun _ => ?_)
  refine lv_iconst (v := 1) hx hb dL_law_561 (by decide) ?_
  refine lv_goto (tgt := 566) hx hb dL_law_562 (by decide) ?_
  refine lv_aload_n hx hb dL_law_566 rfl (lv_at hl 1 rfl) ?_
  refine lv_iload hx hb dL_law_567 (lv_at hl 5 rfl) ?_
  refine lv_iconst (v := 3) hx hb dL_law_569 (by decide) ?_
  refine lv_iadd hx hb dL_law_570 ?_
  refine va_sld (A := lOw s) hx hb hX hbl hbA hS (vp_sc (k := 3) (by omega) hL) dL_law_571 ?_
  refine tr_wi (va_runV (As := [.int (xs (nI (4 * j) + 1).toNatClampNeg), .int 1, .int (xs (nI (4 * j) + 3).toNatClampNeg)]) (rest := []) ⟨hx, hb, hml, hown, hts⟩ (c_X7_put l D cI M hMi mv sv nv (xs (nI (4 * j) + 1).toNatClampNeg) 1 (xs (nI (4 * j) + 3).toNatClampNeg) hrel.mOK) (cwV 3 hts gL_law_X7_put rfl rfl rfl (by decide +kernel) ⟨Nat.le_of_ble_eq_true rfl, Nat.le_of_ble_eq_true rfl⟩) (tr_preV hK hM.1.c0 rfl hM) rfl rfl hl.1 rfl (lv_room (Nat.le_of_ble_eq_true rfl)) dL_law_572 ⟨show cells + 1 + 0 ≤ 601024 by omega, show slots + 6 + 0 ≤ 7293034 by omega⟩) hS hfr.m (fun H locs hp hz hk hS => ?_)
  rw [← er7]
  rw [← et] at hp
  have hM := hp
  replace hT := hT.keptM hap hk
  replace hO := hO.keptM hap hk
  refine lv_istore (lv' := [(6, .int r7), (5, .int (cod [sIX, sIA, sIS] x5)), (0, .ref b), (1, .ref z0), (2, .ref ((mA M) 0)), (3, .ref oa), (4, .int (nI (4 * j)))]) hx hb dL_law_575 hl (by decide) rfl (fun ls hl => ?_)
  refine lv_aload_n hx hb dL_law_577 rfl (lv_at hl 4 rfl) ?_
  refine tr_wi (va_runV (As := []) (rest := []) ⟨hx, hb, hml, hown, hts⟩ (c_X7_thrown l D cI M hMi mv1 sv1 nv1) (cwV 0 hts gL_law_X7_thrown rfl rfl rfl (by decide +kernel) ⟨Nat.le_of_ble_eq_true rfl, Nat.le_of_ble_eq_true rfl⟩) (tr_preV hK hM.1.c0 rfl hM) rfl rfl hl.1 rfl (lv_room (Nat.le_of_ble_eq_true rfl)) dL_law_578 ⟨show cells + 1 + 0 + 0 ≤ 601024 by omega, show slots + 6 + 0 + 0 ≤ 7293034 by omega⟩) hS hfr.m (fun H locs hM hz hk hS => ?_)
  replace hT := hT.keptM hap hk
  replace hO := hO.keptM hap hk
  refine lv_iload hx hb dL_law_581 (lv_at hl 1 rfl) ?_
  refine lv_icmp_eq (tgt := 588) hx hb dL_law_583 (by decide) (fun _ => ?_) (fun c9 => absurd hc1 c9)
  refine lv_iload hx hb dL_law_588 (lv_at hl 1 rfl) ?_
  have fin : W p l e room_1 s m #[Value.ref b] below meth c H locs (cells + 151) (slots + 1100) Q (F0 m 605 ls []) := by
    refine lv_goto (tgt := 1283) hx hb dL_law_605 (by decide) ?_
    exact nx H locs ls ⟨v1, u2, mv1, sv1, nv1, _, hT, hM, hO, sim2, hS⟩ (lv_sub hl [2, 3, 4, 5, 6] rfl)
  refine W.widen (k := cells + 151) (n := slots + 1100) (by omega) (by omega) ?_
  refine lv_if_ne (tgt := 605) hx hb dL_law_590 (by decide) (fun _ => fin) (fun c9 => ?_)
  obtain ⟨hn, hr57⟩ := hc2 c9
  have hO9 : oat D cJ oa (r5.toInt64) H := by rw [if_pos hn] at hO; exact hO
  refine lv_aload_n hx hb dL_law_593 rfl (lv_at hl 5 rfl) ?_
  refine lv_iconst (v := 0) hx hb dL_law_594 (by decide) ?_
  refine va_lald hx hb hJ (tr_one hO9) 0 0 rfl rfl (i := 0) vp00 dL_law_595 ?_
  refine lv_iload hx hb dL_law_596 (lv_at hl 0 rfl) ?_
  refine lv_i2l hx hb dL_law_598 rfl ?_
  refine W.lcmp hx hb dL_law_599 ?_
  exact lv_if_eq (tgt := 605) hx hb dL_law_600 (by decide) (fun _ => fin) (fun c8 => absurd (by rw [hr57]; exact lg_cmp_self _) c8)
theorem arm_put {p : Program} {l : Launch} {e : Env} {s : State} {m : MethodId} {below : List Frame} {meth : Method} {c : Code} {b L : Nat} {xs : Nat → Int32} {D : va_G} {cI cJ : ClassId} {z0 : Nat} {A A2 M : Nat → Nat} {oa : Nat} (K : LC p l s m c b L xs D cI cJ z0 A A2 M oa) {Q : State → Prop} {j : Nat} (hj : 4 * j + 4 ≤ L) (hj2 : j < 600) {H : Heap} {locs : List Loc} {ls : Array Slot} {cells slots : Nat} (hcs : cells + 151 ≤ 601024 ∧ slots + 1100 ≤ 7293034) (hs : LST s D cI cJ z0 A A2 M oa j H locs) (hl : lv_has ls 9 [(0, .ref b), (1, .ref z0), (2, .ref ((mA M) 0)), (3, .ref oa), (4, .int (nI (4 * j)))]) (nx : ∀ (H : Heap) (locs : List Loc) (ls : Array Slot), LST s D cI cJ z0 A A2 M oa (j + 1) H locs → lv_has ls 9 [(0, .ref b), (1, .ref z0), (2, .ref ((mA M) 0)), (3, .ref oa), (4, .int (nI (4 * j)))] → W p l e room_1 s m #[Value.ref b] below meth c H locs (cells + 151) (slots + 1100) Q (F0 m 1283 ls [])): W p l e room_1 s m #[Value.ref b] below meth c H locs cells slots Q (F0 m 512 ls []) := by
  by_cases hup : (xs (nI (4 * j) + 2).toNatClampNeg) = 0
  · exact arm_put0 K hj hj2 hcs hs hl nx hup
  · exact arm_put1 K hj hj2 hcs hs hl nx hup
set_option maxHeartbeats 4000000 in
set_option maxRecDepth 100000 in
theorem arm_pole {p : Program} {l : Launch} {e : Env} {s : State} {m : MethodId} {below : List Frame} {meth : Method} {c : Code} {b L : Nat} {xs : Nat → Int32} {D : va_G} {cI cJ : ClassId} {z0 : Nat} {A A2 M : Nat → Nat} {oa : Nat} (K : LC p l s m c b L xs D cI cJ z0 A A2 M oa) {Q : State → Prop} {j : Nat} (hj : 4 * j + 4 ≤ L) (hj2 : j < 600) {H : Heap} {locs : List Loc} {ls : Array Slot} {cells slots : Nat} (hcs : cells + 151 ≤ 601024 ∧ slots + 1100 ≤ 7293034) (hs : LST s D cI cJ z0 A A2 M oa j H locs) (hl : lv_has ls 9 [(0, .ref b), (1, .ref z0), (2, .ref ((mA M) 0)), (3, .ref oa), (4, .int (nI (4 * j)))]) (nx : ∀ (H : Heap) (locs : List Loc) (ls : Array Slot), LST s D cI cJ z0 A A2 M oa (j + 1) H locs → lv_has ls 9 [(0, .ref b), (1, .ref z0), (2, .ref ((mA M) 0)), (3, .ref oa), (4, .int (nI (4 * j)))] → W p l e room_1 s m #[Value.ref b] below meth c H locs (cells + 151) (slots + 1100) Q (F0 m 1283 ls [])): W p l e room_1 s m #[Value.ref b] below meth c H locs cells slots Q (F0 m 608 ls []) := by
  obtain ⟨⟨hx, hb, hml, hown, hts⟩, ⟨hX, hbl, hL⟩, hst, ⟨hK, hJ, hH, hXA⟩, ⟨hd, hMi, ho⟩, hap, hfr⟩ := K
  obtain ⟨v, u, mv, sv, nv, y, hT, hM, hO, hrel, hS⟩ := hs
  have hbA : ¬ lOw s b := Nat.not_le.mpr hbl
  have sim := s_pole hrel u nv (xs (nI (4 * j) + 1).toNatClampNeg) (xs (nI (4 * j) + 2).toNatClampNeg)
  obtain ⟨t, et⟩ : ∃ t, t = fX7_pole mv sv nv (xs (nI (4 * j) + 1).toNatClampNeg) (xs (nI (4 * j) + 2).toNatClampNeg) := ⟨_, rfl⟩
  rw [← et] at sim
  obtain ⟨mv1, sv1, nv1⟩ := t
  obtain ⟨x5, ex⟩ : ∃ t, t = xX5_pole v u (xs (nI (4 * j) + 1).toNatClampNeg) (xs (nI (4 * j) + 2).toNatClampNeg) := ⟨_, rfl⟩
  obtain ⟨r5, er5⟩ : ∃ t, t = rX5_pole v u (xs (nI (4 * j) + 1).toNatClampNeg) (xs (nI (4 * j) + 2).toNatClampNeg) := ⟨_, rfl⟩
  obtain ⟨r7, er7⟩ : ∃ t, t = rX7_pole mv sv nv (xs (nI (4 * j) + 1).toNatClampNeg) (xs (nI (4 * j) + 2).toNatClampNeg) := ⟨_, rfl⟩
  obtain ⟨v1, ev1⟩ : ∃ t, t = (fX5_pole v u (xs (nI (4 * j) + 1).toNatClampNeg) (xs (nI (4 * j) + 2).toNatClampNeg)).1 := ⟨_, rfl⟩
  rw [← ex, ← er5, ← er7, ← ev1] at sim
  obtain ⟨sim1, sim2⟩ := sim
  obtain ⟨hc1, hc2⟩ := OUT_cod (Or.inr (Or.inl rfl)) sim1
  refine lv_aload_n hx hb dL_law_608 rfl (lv_at hl 1 rfl) ?_
  refine lv_aload_n hx hb dL_law_609 rfl (lv_at hl 0 rfl) ?_
  refine lv_iload hx hb dL_law_610 (lv_at hl 4 rfl) ?_
  refine lv_iconst (v := 1) hx hb dL_law_612 (by decide) ?_
  refine lv_iadd hx hb dL_law_613 ?_
  refine va_sld (A := lOw s) hx hb hX hbl hbA hS (vp_sc (k := 1) (by omega) hL) dL_law_614 ?_
  refine lv_aload_n hx hb dL_law_615 rfl (lv_at hl 0 rfl) ?_
  refine lv_iload hx hb dL_law_616 (lv_at hl 4 rfl) ?_
  refine lv_iconst (v := 2) hx hb dL_law_618 (by decide) ?_
  refine lv_iadd hx hb dL_law_619 ?_
  refine va_sld (A := lOw s) hx hb hX hbl hbA hS (vp_sc (k := 2) (by omega) hL) dL_law_620 ?_
  refine lv_aload_n hx hb dL_law_621 rfl (lv_at hl 3 rfl) ?_
  refine tr_wNi (vx_runSW (As := [.ref z0, .int (xs (nI (4 * j) + 1).toNatClampNeg), .int (xs (nI (4 * j) + 2).toNatClampNeg), .ref oa]) (rest := []) ⟨hx, hb, hml, hown, hts⟩ (c_L_pole l hst D cI cJ z0 A A2 hd v u (xs (nI (4 * j) + 1).toNatClampNeg) (xs (nI (4 * j) + 2).toNatClampNeg) oa y ho) (vx_cwSW 4 hts gL_law_L_pole rfl rfl rfl (by decide +kernel) ⟨Nat.le_of_ble_eq_true rfl, Nat.le_of_ble_eq_true rfl⟩) (tr_preSH hK (hXA.at hS) hJ hH ⟨hT, hO⟩) rfl rfl hl.1 rfl (lv_room (Nat.le_of_ble_eq_true rfl)) dL_law_622 ⟨show cells + 1 ≤ 601024 by omega, show slots + 6 ≤ 7293034 by omega⟩) hS hfr.h hfr.h (fun H locs hp hz hk hS => ?_)
  rw [← ex, ← er5, ← ev1] at hp
  rw [← ex]
  obtain ⟨⟨u2, hT⟩, hO⟩ := hp
  replace hM := hM.keptH hap hk
  refine lv_istore (lv' := [(5, .int (cod [sIX] x5)), (0, .ref b), (1, .ref z0), (2, .ref ((mA M) 0)), (3, .ref oa), (4, .int (nI (4 * j)))]) hx hb dL_law_625 hl (by decide) rfl (fun ls hl => ?_)
  refine lv_aload_n hx hb dL_law_627 rfl (lv_at hl 3 rfl) ?_
  refine lv_aload_n hx hb dL_law_628 rfl (lv_at hl 1 rfl) ?_
  refine lv_iload hx hb dL_law_629 (lv_at hl 5 rfl) ?_
  refine lv_iconst (v := 1) hx hb dL_law_631 (by decide) ?_
  refine lv_iadd hx hb dL_law_632 ?_
  refine va_sld (A := lOw s) hx hb hX hbl hbA hS (vp_sc (k := 1) (by omega) hL) dL_law_633 ?_
  refine lv_aload_n hx hb dL_law_634 rfl (lv_at hl 1 rfl) ?_
  refine lv_iload hx hb dL_law_635 (lv_at hl 5 rfl) ?_
  refine lv_iconst (v := 2) hx hb dL_law_637 (by decide) ?_
  refine lv_iadd hx hb dL_law_638 ?_
  refine va_sld (A := lOw s) hx hb hX hbl hbA hS (vp_sc (k := 2) (by omega) hL) dL_law_639 ?_
  refine tr_wi (va_runV (As := [.int (xs (nI (4 * j) + 1).toNatClampNeg), .int (xs (nI (4 * j) + 2).toNatClampNeg)]) (rest := []) ⟨hx, hb, hml, hown, hts⟩ (c_X7_pole l D cI M hMi mv sv nv (xs (nI (4 * j) + 1).toNatClampNeg) (xs (nI (4 * j) + 2).toNatClampNeg) hrel.mOK) (cwV 2 hts gL_law_X7_pole rfl rfl rfl (by decide +kernel) ⟨Nat.le_of_ble_eq_true rfl, Nat.le_of_ble_eq_true rfl⟩) (tr_preV hK hM.1.c0 rfl hM) rfl rfl hl.1 rfl (lv_room (Nat.le_of_ble_eq_true rfl)) dL_law_640 ⟨show cells + 1 + 0 ≤ 601024 by omega, show slots + 6 + 0 ≤ 7293034 by omega⟩) hS hfr.m (fun H locs hp hz hk hS => ?_)
  rw [← er7]
  rw [← et] at hp
  have hM := hp
  replace hT := hT.keptM hap hk
  replace hO := hO.keptM hap hk
  refine lv_istore (lv' := [(6, .int r7), (5, .int (cod [sIX] x5)), (0, .ref b), (1, .ref z0), (2, .ref ((mA M) 0)), (3, .ref oa), (4, .int (nI (4 * j)))]) hx hb dL_law_643 hl (by decide) rfl (fun ls hl => ?_)
  refine lv_aload_n hx hb dL_law_645 rfl (lv_at hl 4 rfl) ?_
  refine tr_wi (va_runV (As := []) (rest := []) ⟨hx, hb, hml, hown, hts⟩ (c_X7_thrown l D cI M hMi mv1 sv1 nv1) (cwV 0 hts gL_law_X7_thrown rfl rfl rfl (by decide +kernel) ⟨Nat.le_of_ble_eq_true rfl, Nat.le_of_ble_eq_true rfl⟩) (tr_preV hK hM.1.c0 rfl hM) rfl rfl hl.1 rfl (lv_room (Nat.le_of_ble_eq_true rfl)) dL_law_646 ⟨show cells + 1 + 0 + 0 ≤ 601024 by omega, show slots + 6 + 0 + 0 ≤ 7293034 by omega⟩) hS hfr.m (fun H locs hM hz hk hS => ?_)
  replace hT := hT.keptM hap hk
  replace hO := hO.keptM hap hk
  refine lv_iload hx hb dL_law_649 (lv_at hl 1 rfl) ?_
  refine lv_icmp_eq (tgt := 656) hx hb dL_law_651 (by decide) (fun _ => ?_) (fun c9 => absurd hc1 c9)
  refine lv_iload hx hb dL_law_656 (lv_at hl 1 rfl) ?_
  have fin : W p l e room_1 s m #[Value.ref b] below meth c H locs (cells + 151) (slots + 1100) Q (F0 m 673 ls []) := by
    refine lv_goto (tgt := 1283) hx hb dL_law_673 (by decide) ?_
    exact nx H locs ls ⟨v1, u2, mv1, sv1, nv1, _, hT, hM, hO, sim2, hS⟩ (lv_sub hl [2, 3, 4, 5, 6] rfl)
  refine W.widen (k := cells + 151) (n := slots + 1100) (by omega) (by omega) ?_
  refine lv_if_ne (tgt := 673) hx hb dL_law_658 (by decide) (fun _ => fin) (fun c9 => ?_)
  obtain ⟨hn, hr57⟩ := hc2 c9
  have hO9 : oat D cJ oa (r5.toInt64) H := by rw [if_pos hn] at hO; exact hO
  refine lv_aload_n hx hb dL_law_661 rfl (lv_at hl 5 rfl) ?_
  refine lv_iconst (v := 0) hx hb dL_law_662 (by decide) ?_
  refine va_lald hx hb hJ (tr_one hO9) 0 0 rfl rfl (i := 0) vp00 dL_law_663 ?_
  refine lv_iload hx hb dL_law_664 (lv_at hl 0 rfl) ?_
  refine lv_i2l hx hb dL_law_666 rfl ?_
  refine W.lcmp hx hb dL_law_667 ?_
  exact lv_if_eq (tgt := 673) hx hb dL_law_668 (by decide) (fun _ => fin) (fun c8 => absurd (by rw [hr57]; exact lg_cmp_self _) c8)
set_option maxHeartbeats 4000000 in
set_option maxRecDepth 100000 in
theorem arm_sectionOf {p : Program} {l : Launch} {e : Env} {s : State} {m : MethodId} {below : List Frame} {meth : Method} {c : Code} {b L : Nat} {xs : Nat → Int32} {D : va_G} {cI cJ : ClassId} {z0 : Nat} {A A2 M : Nat → Nat} {oa : Nat} (K : LC p l s m c b L xs D cI cJ z0 A A2 M oa) {Q : State → Prop} {j : Nat} (hj : 4 * j + 4 ≤ L) (hj2 : j < 600) {H : Heap} {locs : List Loc} {ls : Array Slot} {cells slots : Nat} (hcs : cells + 151 ≤ 601024 ∧ slots + 1100 ≤ 7293034) (hs : LST s D cI cJ z0 A A2 M oa j H locs) (hl : lv_has ls 9 [(0, .ref b), (1, .ref z0), (2, .ref ((mA M) 0)), (3, .ref oa), (4, .int (nI (4 * j)))]) (nx : ∀ (H : Heap) (locs : List Loc) (ls : Array Slot), LST s D cI cJ z0 A A2 M oa (j + 1) H locs → lv_has ls 9 [(0, .ref b), (1, .ref z0), (2, .ref ((mA M) 0)), (3, .ref oa), (4, .int (nI (4 * j)))] → W p l e room_1 s m #[Value.ref b] below meth c H locs (cells + 151) (slots + 1100) Q (F0 m 1283 ls [])): W p l e room_1 s m #[Value.ref b] below meth c H locs cells slots Q (F0 m 676 ls []) := by
  obtain ⟨⟨hx, hb, hml, hown, hts⟩, ⟨hX, hbl, hL⟩, hst, ⟨hK, hJ, hH, hXA⟩, ⟨hd, hMi, ho⟩, hap, hfr⟩ := K
  obtain ⟨v, u, mv, sv, nv, y, hT, hM, hO, hrel, hS⟩ := hs
  have hbA : ¬ lOw s b := Nat.not_le.mpr hbl
  have sim := s_sectionOf hrel u nv (xs (nI (4 * j) + 1).toNatClampNeg)
  obtain ⟨t, et⟩ : ∃ t, t = fX7_sectionOf mv sv nv (xs (nI (4 * j) + 1).toNatClampNeg) := ⟨_, rfl⟩
  rw [← et] at sim
  obtain ⟨mv1, sv1, nv1⟩ := t
  obtain ⟨x5, ex⟩ : ∃ t, t = xX5_sectionOf v u (xs (nI (4 * j) + 1).toNatClampNeg) := ⟨_, rfl⟩
  obtain ⟨r5, er5⟩ : ∃ t, t = rX5_sectionOf v u (xs (nI (4 * j) + 1).toNatClampNeg) := ⟨_, rfl⟩
  obtain ⟨r7, er7⟩ : ∃ t, t = rX7_sectionOf mv sv nv (xs (nI (4 * j) + 1).toNatClampNeg) := ⟨_, rfl⟩
  obtain ⟨v1, ev1⟩ : ∃ t, t = (fX5_sectionOf v u (xs (nI (4 * j) + 1).toNatClampNeg)).1 := ⟨_, rfl⟩
  rw [← ex, ← er5, ← er7, ← ev1] at sim
  obtain ⟨sim1, sim2⟩ := sim
  obtain ⟨hc1, hc2⟩ := OUT_cod (Or.inr (Or.inl rfl)) sim1
  refine lv_aload_n hx hb dL_law_676 rfl (lv_at hl 1 rfl) ?_
  refine lv_aload_n hx hb dL_law_677 rfl (lv_at hl 0 rfl) ?_
  refine lv_iload hx hb dL_law_678 (lv_at hl 4 rfl) ?_
  refine lv_iconst (v := 1) hx hb dL_law_680 (by decide) ?_
  refine lv_iadd hx hb dL_law_681 ?_
  refine va_sld (A := lOw s) hx hb hX hbl hbA hS (vp_sc (k := 1) (by omega) hL) dL_law_682 ?_
  refine lv_aload_n hx hb dL_law_683 rfl (lv_at hl 3 rfl) ?_
  refine tr_wNi (vx_runSW (As := [.ref z0, .int (xs (nI (4 * j) + 1).toNatClampNeg), .ref oa]) (rest := []) ⟨hx, hb, hml, hown, hts⟩ (c_L_sectionOf l hst D cI cJ z0 A A2 hd v u (xs (nI (4 * j) + 1).toNatClampNeg) oa y ho) (vx_cwSW 3 hts gL_law_L_sectionOf rfl rfl rfl (by decide +kernel) ⟨Nat.le_of_ble_eq_true rfl, Nat.le_of_ble_eq_true rfl⟩) (tr_preSH hK (hXA.at hS) hJ hH ⟨hT, hO⟩) rfl rfl hl.1 rfl (lv_room (Nat.le_of_ble_eq_true rfl)) dL_law_684 ⟨show cells + 1 ≤ 601024 by omega, show slots + 6 ≤ 7293034 by omega⟩) hS hfr.h hfr.h (fun H locs hp hz hk hS => ?_)
  rw [← ex, ← er5, ← ev1] at hp
  rw [← ex]
  obtain ⟨⟨u2, hT⟩, hO⟩ := hp
  replace hM := hM.keptH hap hk
  refine lv_istore (lv' := [(5, .int (cod [sIX] x5)), (0, .ref b), (1, .ref z0), (2, .ref ((mA M) 0)), (3, .ref oa), (4, .int (nI (4 * j)))]) hx hb dL_law_687 hl (by decide) rfl (fun ls hl => ?_)
  refine lv_aload_n hx hb dL_law_689 rfl (lv_at hl 3 rfl) ?_
  refine lv_aload_n hx hb dL_law_690 rfl (lv_at hl 1 rfl) ?_
  refine lv_iload hx hb dL_law_691 (lv_at hl 5 rfl) ?_
  refine lv_iconst (v := 1) hx hb dL_law_693 (by decide) ?_
  refine lv_iadd hx hb dL_law_694 ?_
  refine va_sld (A := lOw s) hx hb hX hbl hbA hS (vp_sc (k := 1) (by omega) hL) dL_law_695 ?_
  refine tr_wi (va_runV (As := [.int (xs (nI (4 * j) + 1).toNatClampNeg)]) (rest := []) ⟨hx, hb, hml, hown, hts⟩ (c_X7_sectionOf l D cI M hMi mv sv nv (xs (nI (4 * j) + 1).toNatClampNeg) hrel.mOK) (cwV 1 hts gL_law_X7_sectionOf rfl rfl rfl (by decide +kernel) ⟨Nat.le_of_ble_eq_true rfl, Nat.le_of_ble_eq_true rfl⟩) (tr_preV hK hM.1.c0 rfl hM) rfl rfl hl.1 rfl (lv_room (Nat.le_of_ble_eq_true rfl)) dL_law_696 ⟨show cells + 1 + 0 ≤ 601024 by omega, show slots + 6 + 0 ≤ 7293034 by omega⟩) hS hfr.m (fun H locs hp hz hk hS => ?_)
  rw [← er7]
  rw [← et] at hp
  have hM := hp
  replace hT := hT.keptM hap hk
  replace hO := hO.keptM hap hk
  refine lv_istore (lv' := [(6, .int r7), (5, .int (cod [sIX] x5)), (0, .ref b), (1, .ref z0), (2, .ref ((mA M) 0)), (3, .ref oa), (4, .int (nI (4 * j)))]) hx hb dL_law_699 hl (by decide) rfl (fun ls hl => ?_)
  refine lv_aload_n hx hb dL_law_701 rfl (lv_at hl 4 rfl) ?_
  refine tr_wi (va_runV (As := []) (rest := []) ⟨hx, hb, hml, hown, hts⟩ (c_X7_thrown l D cI M hMi mv1 sv1 nv1) (cwV 0 hts gL_law_X7_thrown rfl rfl rfl (by decide +kernel) ⟨Nat.le_of_ble_eq_true rfl, Nat.le_of_ble_eq_true rfl⟩) (tr_preV hK hM.1.c0 rfl hM) rfl rfl hl.1 rfl (lv_room (Nat.le_of_ble_eq_true rfl)) dL_law_702 ⟨show cells + 1 + 0 + 0 ≤ 601024 by omega, show slots + 6 + 0 + 0 ≤ 7293034 by omega⟩) hS hfr.m (fun H locs hM hz hk hS => ?_)
  replace hT := hT.keptM hap hk
  replace hO := hO.keptM hap hk
  refine lv_iload hx hb dL_law_705 (lv_at hl 1 rfl) ?_
  refine lv_icmp_eq (tgt := 712) hx hb dL_law_707 (by decide) (fun _ => ?_) (fun c9 => absurd hc1 c9)
  refine lv_iload hx hb dL_law_712 (lv_at hl 1 rfl) ?_
  have fin : W p l e room_1 s m #[Value.ref b] below meth c H locs (cells + 151) (slots + 1100) Q (F0 m 729 ls []) := by
    refine lv_goto (tgt := 1283) hx hb dL_law_729 (by decide) ?_
    exact nx H locs ls ⟨v1, u2, mv1, sv1, nv1, _, hT, hM, hO, sim2, hS⟩ (lv_sub hl [2, 3, 4, 5, 6] rfl)
  refine W.widen (k := cells + 151) (n := slots + 1100) (by omega) (by omega) ?_
  refine lv_if_ne (tgt := 729) hx hb dL_law_714 (by decide) (fun _ => fin) (fun c9 => ?_)
  obtain ⟨hn, hr57⟩ := hc2 c9
  have hO9 : oat D cJ oa (r5.toInt64) H := by rw [if_pos hn] at hO; exact hO
  refine lv_aload_n hx hb dL_law_717 rfl (lv_at hl 5 rfl) ?_
  refine lv_iconst (v := 0) hx hb dL_law_718 (by decide) ?_
  refine va_lald hx hb hJ (tr_one hO9) 0 0 rfl rfl (i := 0) vp00 dL_law_719 ?_
  refine lv_iload hx hb dL_law_720 (lv_at hl 0 rfl) ?_
  refine lv_i2l hx hb dL_law_722 rfl ?_
  refine W.lcmp hx hb dL_law_723 ?_
  exact lv_if_eq (tgt := 729) hx hb dL_law_724 (by decide) (fun _ => fin) (fun c8 => absurd (by rw [hr57]; exact lg_cmp_self _) c8)
set_option maxHeartbeats 4000000 in
set_option maxRecDepth 100000 in
theorem arm_section {p : Program} {l : Launch} {e : Env} {s : State} {m : MethodId} {below : List Frame} {meth : Method} {c : Code} {b L : Nat} {xs : Nat → Int32} {D : va_G} {cI cJ : ClassId} {z0 : Nat} {A A2 M : Nat → Nat} {oa : Nat} (K : LC p l s m c b L xs D cI cJ z0 A A2 M oa) {Q : State → Prop} {j : Nat} (hj : 4 * j + 4 ≤ L) (hj2 : j < 600) {H : Heap} {locs : List Loc} {ls : Array Slot} {cells slots : Nat} (hcs : cells + 151 ≤ 601024 ∧ slots + 1100 ≤ 7293034) (hs : LST s D cI cJ z0 A A2 M oa j H locs) (hl : lv_has ls 9 [(0, .ref b), (1, .ref z0), (2, .ref ((mA M) 0)), (3, .ref oa), (4, .int (nI (4 * j)))]) (nx : ∀ (H : Heap) (locs : List Loc) (ls : Array Slot), LST s D cI cJ z0 A A2 M oa (j + 1) H locs → lv_has ls 9 [(0, .ref b), (1, .ref z0), (2, .ref ((mA M) 0)), (3, .ref oa), (4, .int (nI (4 * j)))] → W p l e room_1 s m #[Value.ref b] below meth c H locs (cells + 151) (slots + 1100) Q (F0 m 1283 ls [])): W p l e room_1 s m #[Value.ref b] below meth c H locs cells slots Q (F0 m 732 ls []) := by
  obtain ⟨⟨hx, hb, hml, hown, hts⟩, ⟨hX, hbl, hL⟩, hst, ⟨hK, hJ, hH, hXA⟩, ⟨hd, hMi, ho⟩, hap, hfr⟩ := K
  obtain ⟨v, u, mv, sv, nv, y, hT, hM, hO, hrel, hS⟩ := hs
  have hbA : ¬ lOw s b := Nat.not_le.mpr hbl
  have sim := s_section hrel u nv (xs (nI (4 * j) + 1).toNatClampNeg) (xs (nI (4 * j) + 2).toNatClampNeg)
  obtain ⟨t, et⟩ : ∃ t, t = fX7_section mv sv nv (xs (nI (4 * j) + 1).toNatClampNeg) (xs (nI (4 * j) + 2).toNatClampNeg) := ⟨_, rfl⟩
  rw [← et] at sim
  obtain ⟨mv1, sv1, nv1⟩ := t
  obtain ⟨x5, ex⟩ : ∃ t, t = xX5_section v u (xs (nI (4 * j) + 1).toNatClampNeg) (xs (nI (4 * j) + 2).toNatClampNeg) := ⟨_, rfl⟩
  obtain ⟨r5, er5⟩ : ∃ t, t = rX5_section v u (xs (nI (4 * j) + 1).toNatClampNeg) (xs (nI (4 * j) + 2).toNatClampNeg) := ⟨_, rfl⟩
  obtain ⟨r7, er7⟩ : ∃ t, t = rX7_section mv sv nv (xs (nI (4 * j) + 1).toNatClampNeg) (xs (nI (4 * j) + 2).toNatClampNeg) := ⟨_, rfl⟩
  obtain ⟨v1, ev1⟩ : ∃ t, t = (fX5_section v u (xs (nI (4 * j) + 1).toNatClampNeg) (xs (nI (4 * j) + 2).toNatClampNeg)).1 := ⟨_, rfl⟩
  rw [← ex, ← er5, ← er7, ← ev1] at sim
  obtain ⟨sim1, sim2⟩ := sim
  obtain ⟨hc1, hc2⟩ := OUT_cod (Or.inr (Or.inl rfl)) sim1
  refine lv_aload_n hx hb dL_law_732 rfl (lv_at hl 1 rfl) ?_
  refine lv_aload_n hx hb dL_law_733 rfl (lv_at hl 0 rfl) ?_
  refine lv_iload hx hb dL_law_734 (lv_at hl 4 rfl) ?_
  refine lv_iconst (v := 1) hx hb dL_law_736 (by decide) ?_
  refine lv_iadd hx hb dL_law_737 ?_
  refine va_sld (A := lOw s) hx hb hX hbl hbA hS (vp_sc (k := 1) (by omega) hL) dL_law_738 ?_
  refine lv_aload_n hx hb dL_law_739 rfl (lv_at hl 0 rfl) ?_
  refine lv_iload hx hb dL_law_740 (lv_at hl 4 rfl) ?_
  refine lv_iconst (v := 2) hx hb dL_law_742 (by decide) ?_
  refine lv_iadd hx hb dL_law_743 ?_
  refine va_sld (A := lOw s) hx hb hX hbl hbA hS (vp_sc (k := 2) (by omega) hL) dL_law_744 ?_
  refine lv_aload_n hx hb dL_law_745 rfl (lv_at hl 3 rfl) ?_
  refine tr_wNi (vx_runSW (As := [.ref z0, .int (xs (nI (4 * j) + 1).toNatClampNeg), .int (xs (nI (4 * j) + 2).toNatClampNeg), .ref oa]) (rest := []) ⟨hx, hb, hml, hown, hts⟩ (c_L_section l hst D cI cJ z0 A A2 hd v u (xs (nI (4 * j) + 1).toNatClampNeg) (xs (nI (4 * j) + 2).toNatClampNeg) oa y ho) (vx_cwSW 4 hts gL_law_L_section rfl rfl rfl (by decide +kernel) ⟨Nat.le_of_ble_eq_true rfl, Nat.le_of_ble_eq_true rfl⟩) (tr_preSH hK (hXA.at hS) hJ hH ⟨hT, hO⟩) rfl rfl hl.1 rfl (lv_room (Nat.le_of_ble_eq_true rfl)) dL_law_746 ⟨show cells + 1 ≤ 601024 by omega, show slots + 6 ≤ 7293034 by omega⟩) hS hfr.h hfr.h (fun H locs hp hz hk hS => ?_)
  rw [← ex, ← er5, ← ev1] at hp
  rw [← ex]
  obtain ⟨⟨u2, hT⟩, hO⟩ := hp
  replace hM := hM.keptH hap hk
  refine lv_istore (lv' := [(5, .int (cod [sIX] x5)), (0, .ref b), (1, .ref z0), (2, .ref ((mA M) 0)), (3, .ref oa), (4, .int (nI (4 * j)))]) hx hb dL_law_749 hl (by decide) rfl (fun ls hl => ?_)
  refine lv_aload_n hx hb dL_law_751 rfl (lv_at hl 3 rfl) ?_
  refine lv_aload_n hx hb dL_law_752 rfl (lv_at hl 1 rfl) ?_
  refine lv_iload hx hb dL_law_753 (lv_at hl 5 rfl) ?_
  refine lv_iconst (v := 1) hx hb dL_law_755 (by decide) ?_
  refine lv_iadd hx hb dL_law_756 ?_
  refine va_sld (A := lOw s) hx hb hX hbl hbA hS (vp_sc (k := 1) (by omega) hL) dL_law_757 ?_
  refine lv_aload_n hx hb dL_law_758 rfl (lv_at hl 1 rfl) ?_
  refine lv_iload hx hb dL_law_759 (lv_at hl 5 rfl) ?_
  refine lv_iconst (v := 2) hx hb dL_law_761 (by decide) ?_
  refine lv_iadd hx hb dL_law_762 ?_
  refine va_sld (A := lOw s) hx hb hX hbl hbA hS (vp_sc (k := 2) (by omega) hL) dL_law_763 ?_
  refine tr_wNi (va_runV (As := [.int (xs (nI (4 * j) + 1).toNatClampNeg), .int (xs (nI (4 * j) + 2).toNatClampNeg)]) (rest := []) ⟨hx, hb, hml, hown, hts⟩ (c_X7_section l D cI M hMi mv sv nv H.size (xs (nI (4 * j) + 1).toNatClampNeg) (xs (nI (4 * j) + 2).toNatClampNeg) hrel.mOK hrel.nOK) (cwV 2 hts gL_law_X7_section rfl rfl rfl (by decide +kernel) ⟨Nat.le_of_ble_eq_true rfl, Nat.le_of_ble_eq_true rfl⟩) (tr_preV hK hM.1.c0 rfl ⟨Nat.le_refl _, hM⟩) rfl rfl hl.1 rfl (lv_room (Nat.le_of_ble_eq_true rfl)) dL_law_764 ⟨show cells + 1 + 1 ≤ 601024 by omega, show slots + 6 + 6 ≤ 7293034 by omega⟩) hS (hfr.n hS) (hfr.n hS) (fun H locs hp hz hk hS => ?_)
  replace hk := kN rfl hk
  rw [← er7]
  rw [← et] at hp
  have hM := hp
  replace hT := hT.keptM hap hk
  replace hO := hO.keptM hap hk
  refine lv_istore (lv' := [(6, .int r7), (5, .int (cod [sIX] x5)), (0, .ref b), (1, .ref z0), (2, .ref ((mA M) 0)), (3, .ref oa), (4, .int (nI (4 * j)))]) hx hb dL_law_767 hl (by decide) rfl (fun ls hl => ?_)
  refine lv_aload_n hx hb dL_law_769 rfl (lv_at hl 4 rfl) ?_
  refine tr_wi (va_runV (As := []) (rest := []) ⟨hx, hb, hml, hown, hts⟩ (c_X7_thrown l D cI M hMi mv1 sv1 nv1) (cwV 0 hts gL_law_X7_thrown rfl rfl rfl (by decide +kernel) ⟨Nat.le_of_ble_eq_true rfl, Nat.le_of_ble_eq_true rfl⟩) (tr_preV hK hM.1.c0 rfl hM) rfl rfl hl.1 rfl (lv_room (Nat.le_of_ble_eq_true rfl)) dL_law_770 ⟨show cells + 1 + 1 + 0 ≤ 601024 by omega, show slots + 6 + 6 + 0 ≤ 7293034 by omega⟩) hS hfr.m (fun H locs hM hz hk hS => ?_)
  replace hT := hT.keptM hap hk
  replace hO := hO.keptM hap hk
  refine lv_iload hx hb dL_law_773 (lv_at hl 1 rfl) ?_
  refine lv_icmp_eq (tgt := 780) hx hb dL_law_775 (by decide) (fun _ => ?_) (fun c9 => absurd hc1 c9)
  refine lv_iload hx hb dL_law_780 (lv_at hl 1 rfl) ?_
  have fin : W p l e room_1 s m #[Value.ref b] below meth c H locs (cells + 151) (slots + 1100) Q (F0 m 797 ls []) := by
    refine lv_goto (tgt := 1283) hx hb dL_law_797 (by decide) ?_
    exact nx H locs ls ⟨v1, u2, mv1, sv1, nv1, _, hT, hM, hO, sim2, hS⟩ (lv_sub hl [2, 3, 4, 5, 6] rfl)
  refine W.widen (k := cells + 151) (n := slots + 1100) (by omega) (by omega) ?_
  refine lv_if_ne (tgt := 797) hx hb dL_law_782 (by decide) (fun _ => fin) (fun c9 => ?_)
  obtain ⟨hn, hr57⟩ := hc2 c9
  have hO9 : oat D cJ oa (r5.toInt64) H := by rw [if_pos hn] at hO; exact hO
  refine lv_aload_n hx hb dL_law_785 rfl (lv_at hl 5 rfl) ?_
  refine lv_iconst (v := 0) hx hb dL_law_786 (by decide) ?_
  refine va_lald hx hb hJ (tr_one hO9) 0 0 rfl rfl (i := 0) vp00 dL_law_787 ?_
  refine lv_iload hx hb dL_law_788 (lv_at hl 0 rfl) ?_
  refine lv_i2l hx hb dL_law_790 rfl ?_
  refine W.lcmp hx hb dL_law_791 ?_
  exact lv_if_eq (tgt := 797) hx hb dL_law_792 (by decide) (fun _ => fin) (fun c8 => absurd (by rw [hr57]; exact lg_cmp_self _) c8)
set_option maxHeartbeats 4000000 in
set_option maxRecDepth 100000 in
theorem arm_car {p : Program} {l : Launch} {e : Env} {s : State} {m : MethodId} {below : List Frame} {meth : Method} {c : Code} {b L : Nat} {xs : Nat → Int32} {D : va_G} {cI cJ : ClassId} {z0 : Nat} {A A2 M : Nat → Nat} {oa : Nat} (K : LC p l s m c b L xs D cI cJ z0 A A2 M oa) {Q : State → Prop} {j : Nat} (hj : 4 * j + 4 ≤ L) (hj2 : j < 600) {H : Heap} {locs : List Loc} {ls : Array Slot} {cells slots : Nat} (hcs : cells + 151 ≤ 601024 ∧ slots + 1100 ≤ 7293034) (hs : LST s D cI cJ z0 A A2 M oa j H locs) (hl : lv_has ls 9 [(0, .ref b), (1, .ref z0), (2, .ref ((mA M) 0)), (3, .ref oa), (4, .int (nI (4 * j)))]) (nx : ∀ (H : Heap) (locs : List Loc) (ls : Array Slot), LST s D cI cJ z0 A A2 M oa (j + 1) H locs → lv_has ls 9 [(0, .ref b), (1, .ref z0), (2, .ref ((mA M) 0)), (3, .ref oa), (4, .int (nI (4 * j)))] → W p l e room_1 s m #[Value.ref b] below meth c H locs (cells + 151) (slots + 1100) Q (F0 m 1283 ls [])): W p l e room_1 s m #[Value.ref b] below meth c H locs cells slots Q (F0 m 800 ls []) := by
  obtain ⟨⟨hx, hb, hml, hown, hts⟩, ⟨hX, hbl, hL⟩, hst, ⟨hK, hJ, hH, hXA⟩, ⟨hd, hMi, ho⟩, hap, hfr⟩ := K
  obtain ⟨v, u, mv, sv, nv, y, hT, hM, hO, hrel, hS⟩ := hs
  have hbA : ¬ lOw s b := Nat.not_le.mpr hbl
  have sim := s_car hrel u nv (xs (nI (4 * j) + 1).toNatClampNeg) (xs (nI (4 * j) + 2).toNatClampNeg)
  obtain ⟨t, et⟩ : ∃ t, t = fX7_car mv sv nv (xs (nI (4 * j) + 1).toNatClampNeg) (xs (nI (4 * j) + 2).toNatClampNeg) := ⟨_, rfl⟩
  rw [← et] at sim
  obtain ⟨mv1, sv1, nv1⟩ := t
  obtain ⟨x5, ex⟩ : ∃ t, t = xX5_car v u (xs (nI (4 * j) + 1).toNatClampNeg) (xs (nI (4 * j) + 2).toNatClampNeg) := ⟨_, rfl⟩
  obtain ⟨r5, er5⟩ : ∃ t, t = rX5_car v u (xs (nI (4 * j) + 1).toNatClampNeg) (xs (nI (4 * j) + 2).toNatClampNeg) := ⟨_, rfl⟩
  obtain ⟨r7, er7⟩ : ∃ t, t = rX7_car mv sv nv (xs (nI (4 * j) + 1).toNatClampNeg) (xs (nI (4 * j) + 2).toNatClampNeg) := ⟨_, rfl⟩
  obtain ⟨v1, ev1⟩ : ∃ t, t = (fX5_car v u (xs (nI (4 * j) + 1).toNatClampNeg) (xs (nI (4 * j) + 2).toNatClampNeg)).1 := ⟨_, rfl⟩
  rw [← ex, ← er5, ← er7, ← ev1] at sim
  obtain ⟨sim1, sim2⟩ := sim
  obtain ⟨hc1, hc2⟩ := OUT_cod (Or.inr (Or.inl rfl)) sim1
  refine lv_aload_n hx hb dL_law_800 rfl (lv_at hl 1 rfl) ?_
  refine lv_aload_n hx hb dL_law_801 rfl (lv_at hl 0 rfl) ?_
  refine lv_iload hx hb dL_law_802 (lv_at hl 4 rfl) ?_
  refine lv_iconst (v := 1) hx hb dL_law_804 (by decide) ?_
  refine lv_iadd hx hb dL_law_805 ?_
  refine va_sld (A := lOw s) hx hb hX hbl hbA hS (vp_sc (k := 1) (by omega) hL) dL_law_806 ?_
  refine lv_aload_n hx hb dL_law_807 rfl (lv_at hl 0 rfl) ?_
  refine lv_iload hx hb dL_law_808 (lv_at hl 4 rfl) ?_
  refine lv_iconst (v := 2) hx hb dL_law_810 (by decide) ?_
  refine lv_iadd hx hb dL_law_811 ?_
  refine va_sld (A := lOw s) hx hb hX hbl hbA hS (vp_sc (k := 2) (by omega) hL) dL_law_812 ?_
  refine lv_aload_n hx hb dL_law_813 rfl (lv_at hl 3 rfl) ?_
  refine tr_wNi (vx_runSW (As := [.ref z0, .int (xs (nI (4 * j) + 1).toNatClampNeg), .int (xs (nI (4 * j) + 2).toNatClampNeg), .ref oa]) (rest := []) ⟨hx, hb, hml, hown, hts⟩ (c_L_car l hst D cI cJ z0 A A2 hd v u (xs (nI (4 * j) + 1).toNatClampNeg) (xs (nI (4 * j) + 2).toNatClampNeg) oa y ho) (vx_cwSW 4 hts gL_law_L_car rfl rfl rfl (by decide +kernel) ⟨Nat.le_of_ble_eq_true rfl, Nat.le_of_ble_eq_true rfl⟩) (tr_preSH hK (hXA.at hS) hJ hH ⟨hT, hO⟩) rfl rfl hl.1 rfl (lv_room (Nat.le_of_ble_eq_true rfl)) dL_law_814 ⟨show cells + 1 ≤ 601024 by omega, show slots + 6 ≤ 7293034 by omega⟩) hS hfr.h hfr.h (fun H locs hp hz hk hS => ?_)
  rw [← ex, ← er5, ← ev1] at hp
  rw [← ex]
  obtain ⟨⟨u2, hT⟩, hO⟩ := hp
  replace hM := hM.keptH hap hk
  refine lv_istore (lv' := [(5, .int (cod [sIX] x5)), (0, .ref b), (1, .ref z0), (2, .ref ((mA M) 0)), (3, .ref oa), (4, .int (nI (4 * j)))]) hx hb dL_law_817 hl (by decide) rfl (fun ls hl => ?_)
  refine lv_aload_n hx hb dL_law_819 rfl (lv_at hl 3 rfl) ?_
  refine lv_aload_n hx hb dL_law_820 rfl (lv_at hl 1 rfl) ?_
  refine lv_iload hx hb dL_law_821 (lv_at hl 5 rfl) ?_
  refine lv_iconst (v := 1) hx hb dL_law_823 (by decide) ?_
  refine lv_iadd hx hb dL_law_824 ?_
  refine va_sld (A := lOw s) hx hb hX hbl hbA hS (vp_sc (k := 1) (by omega) hL) dL_law_825 ?_
  refine lv_aload_n hx hb dL_law_826 rfl (lv_at hl 1 rfl) ?_
  refine lv_iload hx hb dL_law_827 (lv_at hl 5 rfl) ?_
  refine lv_iconst (v := 2) hx hb dL_law_829 (by decide) ?_
  refine lv_iadd hx hb dL_law_830 ?_
  refine va_sld (A := lOw s) hx hb hX hbl hbA hS (vp_sc (k := 2) (by omega) hL) dL_law_831 ?_
  refine tr_wNi (va_runV (As := [.int (xs (nI (4 * j) + 1).toNatClampNeg), .int (xs (nI (4 * j) + 2).toNatClampNeg)]) (rest := []) ⟨hx, hb, hml, hown, hts⟩ (c_X7_car l D cI M hMi mv sv nv H.size (xs (nI (4 * j) + 1).toNatClampNeg) (xs (nI (4 * j) + 2).toNatClampNeg) hrel.mOK) (cwV 2 hts gL_law_X7_car rfl rfl rfl (by decide +kernel) ⟨Nat.le_of_ble_eq_true rfl, Nat.le_of_ble_eq_true rfl⟩) (tr_preV hK hM.1.c0 rfl ⟨Nat.le_refl _, hM⟩) rfl rfl hl.1 rfl (lv_room (Nat.le_of_ble_eq_true rfl)) dL_law_832 ⟨show cells + 1 + 1 ≤ 601024 by omega, show slots + 6 + 8 ≤ 7293034 by omega⟩) hS (hfr.n hS) (hfr.n hS) (fun H locs hp hz hk hS => ?_)
  replace hk := kN rfl hk
  rw [← er7]
  rw [← et] at hp
  have hM := hp
  replace hT := hT.keptM hap hk
  replace hO := hO.keptM hap hk
  refine lv_istore (lv' := [(6, .int r7), (5, .int (cod [sIX] x5)), (0, .ref b), (1, .ref z0), (2, .ref ((mA M) 0)), (3, .ref oa), (4, .int (nI (4 * j)))]) hx hb dL_law_835 hl (by decide) rfl (fun ls hl => ?_)
  refine lv_aload_n hx hb dL_law_837 rfl (lv_at hl 4 rfl) ?_
  refine tr_wi (va_runV (As := []) (rest := []) ⟨hx, hb, hml, hown, hts⟩ (c_X7_thrown l D cI M hMi mv1 sv1 nv1) (cwV 0 hts gL_law_X7_thrown rfl rfl rfl (by decide +kernel) ⟨Nat.le_of_ble_eq_true rfl, Nat.le_of_ble_eq_true rfl⟩) (tr_preV hK hM.1.c0 rfl hM) rfl rfl hl.1 rfl (lv_room (Nat.le_of_ble_eq_true rfl)) dL_law_838 ⟨show cells + 1 + 1 + 0 ≤ 601024 by omega, show slots + 6 + 8 + 0 ≤ 7293034 by omega⟩) hS hfr.m (fun H locs hM hz hk hS => ?_)
  replace hT := hT.keptM hap hk
  replace hO := hO.keptM hap hk
  refine lv_iload hx hb dL_law_841 (lv_at hl 1 rfl) ?_
  refine lv_icmp_eq (tgt := 848) hx hb dL_law_843 (by decide) (fun _ => ?_) (fun c9 => absurd hc1 c9)
  refine lv_iload hx hb dL_law_848 (lv_at hl 1 rfl) ?_
  have fin : W p l e room_1 s m #[Value.ref b] below meth c H locs (cells + 151) (slots + 1100) Q (F0 m 865 ls []) := by
    refine lv_goto (tgt := 1283) hx hb dL_law_865 (by decide) ?_
    exact nx H locs ls ⟨v1, u2, mv1, sv1, nv1, _, hT, hM, hO, sim2, hS⟩ (lv_sub hl [2, 3, 4, 5, 6] rfl)
  refine W.widen (k := cells + 151) (n := slots + 1100) (by omega) (by omega) ?_
  refine lv_if_ne (tgt := 865) hx hb dL_law_850 (by decide) (fun _ => fin) (fun c9 => ?_)
  obtain ⟨hn, hr57⟩ := hc2 c9
  have hO9 : oat D cJ oa (r5.toInt64) H := by rw [if_pos hn] at hO; exact hO
  refine lv_aload_n hx hb dL_law_853 rfl (lv_at hl 5 rfl) ?_
  refine lv_iconst (v := 0) hx hb dL_law_854 (by decide) ?_
  refine va_lald hx hb hJ (tr_one hO9) 0 0 rfl rfl (i := 0) vp00 dL_law_855 ?_
  refine lv_iload hx hb dL_law_856 (lv_at hl 0 rfl) ?_
  refine lv_i2l hx hb dL_law_858 rfl ?_
  refine W.lcmp hx hb dL_law_859 ?_
  exact lv_if_eq (tgt := 865) hx hb dL_law_860 (by decide) (fun _ => fin) (fun c8 => absurd (by rw [hr57]; exact lg_cmp_self _) c8)
set_option maxHeartbeats 4000000 in
set_option maxRecDepth 100000 in
theorem arm_pass {p : Program} {l : Launch} {e : Env} {s : State} {m : MethodId} {below : List Frame} {meth : Method} {c : Code} {b L : Nat} {xs : Nat → Int32} {D : va_G} {cI cJ : ClassId} {z0 : Nat} {A A2 M : Nat → Nat} {oa : Nat} (K : LC p l s m c b L xs D cI cJ z0 A A2 M oa) {Q : State → Prop} {j : Nat} (hj : 4 * j + 4 ≤ L) (hj2 : j < 600) {H : Heap} {locs : List Loc} {ls : Array Slot} {cells slots : Nat} (hcs : cells + 151 ≤ 601024 ∧ slots + 1100 ≤ 7293034) (hs : LST s D cI cJ z0 A A2 M oa j H locs) (hl : lv_has ls 9 [(0, .ref b), (1, .ref z0), (2, .ref ((mA M) 0)), (3, .ref oa), (4, .int (nI (4 * j)))]) (nx : ∀ (H : Heap) (locs : List Loc) (ls : Array Slot), LST s D cI cJ z0 A A2 M oa (j + 1) H locs → lv_has ls 9 [(0, .ref b), (1, .ref z0), (2, .ref ((mA M) 0)), (3, .ref oa), (4, .int (nI (4 * j)))] → W p l e room_1 s m #[Value.ref b] below meth c H locs (cells + 151) (slots + 1100) Q (F0 m 1283 ls [])): W p l e room_1 s m #[Value.ref b] below meth c H locs cells slots Q (F0 m 868 ls []) := by
  obtain ⟨⟨hx, hb, hml, hown, hts⟩, ⟨hX, hbl, hL⟩, hst, ⟨hK, hJ, hH, hXA⟩, ⟨hd, hMi, ho⟩, hap, hfr⟩ := K
  obtain ⟨v, u, mv, sv, nv, y, hT, hM, hO, hrel, hS⟩ := hs
  have hbA : ¬ lOw s b := Nat.not_le.mpr hbl
  have sim := s_pass hrel u nv (xs (nI (4 * j) + 1).toNatClampNeg)
  obtain ⟨t, et⟩ : ∃ t, t = fX7_pass mv sv nv (xs (nI (4 * j) + 1).toNatClampNeg) := ⟨_, rfl⟩
  rw [← et] at sim
  obtain ⟨mv1, sv1, nv1⟩ := t
  obtain ⟨x5, ex⟩ : ∃ t, t = xX5_pass v u (xs (nI (4 * j) + 1).toNatClampNeg) := ⟨_, rfl⟩
  obtain ⟨r5, er5⟩ : ∃ t, t = rX5_pass v u (xs (nI (4 * j) + 1).toNatClampNeg) := ⟨_, rfl⟩
  obtain ⟨r7, er7⟩ : ∃ t, t = rX7_pass mv sv nv (xs (nI (4 * j) + 1).toNatClampNeg) := ⟨_, rfl⟩
  obtain ⟨v1, ev1⟩ : ∃ t, t = (fX5_pass v u (xs (nI (4 * j) + 1).toNatClampNeg)).1 := ⟨_, rfl⟩
  rw [← ex, ← er5, ← er7, ← ev1] at sim
  obtain ⟨sim1, sim2⟩ := sim
  obtain ⟨hc1, hc2⟩ := OUT_cod (Or.inl rfl) sim1
  refine lv_aload_n hx hb dL_law_868 rfl (lv_at hl 1 rfl) ?_
  refine lv_aload_n hx hb dL_law_869 rfl (lv_at hl 0 rfl) ?_
  refine lv_iload hx hb dL_law_870 (lv_at hl 4 rfl) ?_
  refine lv_iconst (v := 1) hx hb dL_law_872 (by decide) ?_
  refine lv_iadd hx hb dL_law_873 ?_
  refine va_sld (A := lOw s) hx hb hX hbl hbA hS (vp_sc (k := 1) (by omega) hL) dL_law_874 ?_
  refine lv_aload_n hx hb dL_law_875 rfl (lv_at hl 3 rfl) ?_
  refine tr_wNi (vx_runSW (As := [.ref z0, .int (xs (nI (4 * j) + 1).toNatClampNeg), .ref oa]) (rest := []) ⟨hx, hb, hml, hown, hts⟩ (c_L_pass l hst D cI cJ z0 A A2 hd v u (xs (nI (4 * j) + 1).toNatClampNeg) oa y ho) (vx_cwSW 3 hts gL_law_L_pass rfl rfl rfl (by decide +kernel) ⟨Nat.le_of_ble_eq_true rfl, Nat.le_of_ble_eq_true rfl⟩) (tr_preSH hK (hXA.at hS) hJ hH ⟨hT, hO⟩) rfl rfl hl.1 rfl (lv_room (Nat.le_of_ble_eq_true rfl)) dL_law_876 ⟨show cells + 1 ≤ 601024 by omega, show slots + 6 ≤ 7293034 by omega⟩) hS hfr.h hfr.h (fun H locs hp hz hk hS => ?_)
  rw [← ex, ← er5, ← ev1] at hp
  rw [← ex]
  obtain ⟨⟨u2, hT⟩, hO⟩ := hp
  replace hM := hM.keptH hap hk
  refine lv_istore (lv' := [(5, .int (cod [sIA] x5)), (0, .ref b), (1, .ref z0), (2, .ref ((mA M) 0)), (3, .ref oa), (4, .int (nI (4 * j)))]) hx hb dL_law_879 hl (by decide) rfl (fun ls hl => ?_)
  refine lv_aload_n hx hb dL_law_881 rfl (lv_at hl 3 rfl) ?_
  refine lv_aload_n hx hb dL_law_882 rfl (lv_at hl 1 rfl) ?_
  refine lv_iload hx hb dL_law_883 (lv_at hl 5 rfl) ?_
  refine lv_iconst (v := 1) hx hb dL_law_885 (by decide) ?_
  refine lv_iadd hx hb dL_law_886 ?_
  refine va_sld (A := lOw s) hx hb hX hbl hbA hS (vp_sc (k := 1) (by omega) hL) dL_law_887 ?_
  refine tr_wi (va_runV (As := [.int (xs (nI (4 * j) + 1).toNatClampNeg)]) (rest := []) ⟨hx, hb, hml, hown, hts⟩ (c_X7_pass l D cI M hMi mv sv nv (xs (nI (4 * j) + 1).toNatClampNeg) hrel.mOK (fun k _ => hrel.hsafe k)) (cwV 1 hts gL_law_X7_pass rfl rfl rfl (by decide +kernel) ⟨Nat.le_of_ble_eq_true rfl, Nat.le_of_ble_eq_true rfl⟩) (tr_preV hK hM.1.c0 rfl hM) rfl rfl hl.1 rfl (lv_room (Nat.le_of_ble_eq_true rfl)) dL_law_888 ⟨show cells + 1 + 0 ≤ 601024 by omega, show slots + 6 + 0 ≤ 7293034 by omega⟩) hS hfr.m (fun H locs hp hz hk hS => ?_)
  rw [← er7]
  rw [← et] at hp
  have hM := hp
  replace hT := hT.keptM hap hk
  replace hO := hO.keptM hap hk
  refine lv_istore (lv' := [(6, .int r7), (5, .int (cod [sIA] x5)), (0, .ref b), (1, .ref z0), (2, .ref ((mA M) 0)), (3, .ref oa), (4, .int (nI (4 * j)))]) hx hb dL_law_891 hl (by decide) rfl (fun ls hl => ?_)
  refine lv_aload_n hx hb dL_law_893 rfl (lv_at hl 4 rfl) ?_
  refine tr_wi (va_runV (As := []) (rest := []) ⟨hx, hb, hml, hown, hts⟩ (c_X7_thrown l D cI M hMi mv1 sv1 nv1) (cwV 0 hts gL_law_X7_thrown rfl rfl rfl (by decide +kernel) ⟨Nat.le_of_ble_eq_true rfl, Nat.le_of_ble_eq_true rfl⟩) (tr_preV hK hM.1.c0 rfl hM) rfl rfl hl.1 rfl (lv_room (Nat.le_of_ble_eq_true rfl)) dL_law_894 ⟨show cells + 1 + 0 + 0 ≤ 601024 by omega, show slots + 6 + 0 + 0 ≤ 7293034 by omega⟩) hS hfr.m (fun H locs hM hz hk hS => ?_)
  replace hT := hT.keptM hap hk
  replace hO := hO.keptM hap hk
  refine lv_iload hx hb dL_law_897 (lv_at hl 1 rfl) ?_
  refine lv_icmp_eq (tgt := 904) hx hb dL_law_899 (by decide) (fun _ => ?_) (fun c9 => absurd hc1 c9)
  refine lv_iload hx hb dL_law_904 (lv_at hl 1 rfl) ?_
  have fin : W p l e room_1 s m #[Value.ref b] below meth c H locs (cells + 151) (slots + 1100) Q (F0 m 921 ls []) := by
    refine lv_goto (tgt := 1283) hx hb dL_law_921 (by decide) ?_
    exact nx H locs ls ⟨v1, u2, mv1, sv1, nv1, _, hT, hM, hO, sim2, hS⟩ (lv_sub hl [2, 3, 4, 5, 6] rfl)
  refine W.widen (k := cells + 151) (n := slots + 1100) (by omega) (by omega) ?_
  refine lv_if_ne (tgt := 921) hx hb dL_law_906 (by decide) (fun _ => fin) (fun c9 => ?_)
  obtain ⟨hn, hr57⟩ := hc2 c9
  have hO9 : oat D cJ oa (r5.toInt64) H := by rw [if_pos hn] at hO; exact hO
  refine lv_aload_n hx hb dL_law_909 rfl (lv_at hl 5 rfl) ?_
  refine lv_iconst (v := 0) hx hb dL_law_910 (by decide) ?_
  refine va_lald hx hb hJ (tr_one hO9) 0 0 rfl rfl (i := 0) vp00 dL_law_911 ?_
  refine lv_iload hx hb dL_law_912 (lv_at hl 0 rfl) ?_
  refine lv_i2l hx hb dL_law_914 rfl ?_
  refine W.lcmp hx hb dL_law_915 ?_
  exact lv_if_eq (tgt := 921) hx hb dL_law_916 (by decide) (fun _ => fin) (fun c8 => absurd (by rw [hr57]; exact lg_cmp_self _) c8)
