/-! THE LAW: its arms -/
set_option maxHeartbeats 4000000 in
set_option maxRecDepth 100000 in
theorem arm_count {p : Program} {l : Launch} {e : Env} {s : State} {m : MethodId} {below : List Frame} {meth : Method} {c : Code} {b L : Nat} {xs : Nat → Int32} {D : va_G} {cI cJ : ClassId} {z0 : Nat} {A A2 M : Nat → Nat} {oa : Nat} (K : LC p l s m c b L xs D cI cJ z0 A A2 M oa) {Q : State → Prop} {j : Nat} (hj : 4 * j + 4 ≤ L) (hj2 : j < 600) {H : Heap} {locs : List Loc} {ls : Array Slot} {cells slots : Nat} (hcs : cells + 151 ≤ 601024 ∧ slots + 1100 ≤ 7293034) (hs : LST s D cI cJ z0 A A2 M oa j H locs) (hl : lv_has ls 9 [(0, .ref b), (1, .ref z0), (2, .ref ((mA M) 0)), (3, .ref oa), (4, .int (nI (4 * j)))]) (nx : ∀ (H : Heap) (locs : List Loc) (ls : Array Slot), LST s D cI cJ z0 A A2 M oa (j + 1) H locs → lv_has ls 9 [(0, .ref b), (1, .ref z0), (2, .ref ((mA M) 0)), (3, .ref oa), (4, .int (nI (4 * j)))] → W p l e room_1 s m #[Value.ref b] below meth c H locs (cells + 151) (slots + 1100) Q (F0 m 1283 ls [])): W p l e room_1 s m #[Value.ref b] below meth c H locs cells slots Q (F0 m 924 ls []) := by
  obtain ⟨⟨hx, hb, hml, hown, hts⟩, ⟨hX, hbl, hL⟩, hst, ⟨hK, hJ, hH, hXA⟩, ⟨hd, hMi, ho⟩, hap, hfr⟩ := K
  obtain ⟨v, u, mv, sv, nv, y, hT, hM, hO, hrel, hS⟩ := hs
  have hbA : ¬ lOw s b := Nat.not_le.mpr hbl
  have sim := s_count hrel u nv (xs (nI (4 * j) + 1).toNatClampNeg)
  obtain ⟨t, et⟩ : ∃ t, t = fX7_count mv sv nv (xs (nI (4 * j) + 1).toNatClampNeg) := ⟨_, rfl⟩
  rw [← et] at sim
  obtain ⟨mv1, sv1, nv1⟩ := t
  obtain ⟨x5, ex⟩ : ∃ t, t = xX5_count v u (xs (nI (4 * j) + 1).toNatClampNeg) := ⟨_, rfl⟩
  obtain ⟨r5, er5⟩ : ∃ t, t = rX5_count v u (xs (nI (4 * j) + 1).toNatClampNeg) := ⟨_, rfl⟩
  obtain ⟨r7, er7⟩ : ∃ t, t = rX7_count mv sv nv (xs (nI (4 * j) + 1).toNatClampNeg) := ⟨_, rfl⟩
  obtain ⟨v1, ev1⟩ : ∃ t, t = (fX5_count v u (xs (nI (4 * j) + 1).toNatClampNeg)).1 := ⟨_, rfl⟩
  rw [← ex, ← er5, ← er7, ← ev1] at sim
  obtain ⟨sim1, sim2⟩ := sim
  obtain ⟨hc1, hc2⟩ := OUT_cod (Or.inr (Or.inl rfl)) sim1
  refine lv_aload_n hx hb dL_law_924 rfl (lv_at hl 1 rfl) ?_
  refine lv_aload_n hx hb dL_law_925 rfl (lv_at hl 0 rfl) ?_
  refine lv_iload hx hb dL_law_926 (lv_at hl 4 rfl) ?_
  refine lv_iconst (v := 1) hx hb dL_law_928 (by decide) ?_
  refine lv_iadd hx hb dL_law_929 ?_
  refine va_sld (A := lOw s) hx hb hX hbl hbA hS (vp_sc (k := 1) (by omega) hL) dL_law_930 ?_
  refine lv_aload_n hx hb dL_law_931 rfl (lv_at hl 3 rfl) ?_
  refine tr_wNi (vx_runSW (As := [.ref z0, .int (xs (nI (4 * j) + 1).toNatClampNeg), .ref oa]) (rest := []) ⟨hx, hb, hml, hown, hts⟩ (c_L_count l hst D cI cJ z0 A A2 hd v u (xs (nI (4 * j) + 1).toNatClampNeg) oa y ho) (vx_cwSW 3 hts gL_law_L_count rfl rfl rfl (by decide +kernel) ⟨Nat.le_of_ble_eq_true rfl, Nat.le_of_ble_eq_true rfl⟩) (tr_preSH hK (hXA.at hS) hJ hH ⟨hT, hO⟩) rfl rfl hl.1 rfl (lv_room (Nat.le_of_ble_eq_true rfl)) dL_law_932 ⟨show cells + 1 ≤ 601024 by omega, show slots + 6 ≤ 7293034 by omega⟩) hS hfr.h hfr.h (fun H locs hp hz hk hS => ?_)
  rw [← ex, ← er5, ← ev1] at hp
  rw [← ex]
  obtain ⟨⟨u2, hT⟩, hO⟩ := hp
  replace hM := hM.keptH hap hk
  refine lv_istore (lv' := [(5, .int (cod [sIX] x5)), (0, .ref b), (1, .ref z0), (2, .ref ((mA M) 0)), (3, .ref oa), (4, .int (nI (4 * j)))]) hx hb dL_law_935 hl (by decide) rfl (fun ls hl => ?_)
  refine lv_aload_n hx hb dL_law_937 rfl (lv_at hl 3 rfl) ?_
  refine lv_aload_n hx hb dL_law_938 rfl (lv_at hl 1 rfl) ?_
  refine lv_iload hx hb dL_law_939 (lv_at hl 5 rfl) ?_
  refine lv_iconst (v := 1) hx hb dL_law_941 (by decide) ?_
  refine lv_iadd hx hb dL_law_942 ?_
  refine va_sld (A := lOw s) hx hb hX hbl hbA hS (vp_sc (k := 1) (by omega) hL) dL_law_943 ?_
  refine tr_wNi (va_runV (As := [.int (xs (nI (4 * j) + 1).toNatClampNeg)]) (rest := []) ⟨hx, hb, hml, hown, hts⟩ (c_X7_count l D cI M hMi mv sv nv H.size (xs (nI (4 * j) + 1).toNatClampNeg) hrel.mOK hrel.nOK) (cwV 1 hts gL_law_X7_count rfl rfl rfl (by decide +kernel) ⟨Nat.le_of_ble_eq_true rfl, Nat.le_of_ble_eq_true rfl⟩) (tr_preV hK hM.1.c0 rfl ⟨Nat.le_refl _, hM⟩) rfl rfl hl.1 rfl (lv_room (Nat.le_of_ble_eq_true rfl)) dL_law_944 ⟨show cells + 1 + 1 ≤ 601024 by omega, show slots + 6 + 11 ≤ 7293034 by omega⟩) hS (hfr.n hS) (hfr.n hS) (fun H locs hp hz hk hS => ?_)
  replace hk := kN rfl hk
  rw [← er7]
  rw [← et] at hp
  have hM := hp
  replace hT := hT.keptM hap hk
  replace hO := hO.keptM hap hk
  refine lv_istore (lv' := [(6, .int r7), (5, .int (cod [sIX] x5)), (0, .ref b), (1, .ref z0), (2, .ref ((mA M) 0)), (3, .ref oa), (4, .int (nI (4 * j)))]) hx hb dL_law_947 hl (by decide) rfl (fun ls hl => ?_)
  refine lv_aload_n hx hb dL_law_949 rfl (lv_at hl 4 rfl) ?_
  refine tr_wi (va_runV (As := []) (rest := []) ⟨hx, hb, hml, hown, hts⟩ (c_X7_thrown l D cI M hMi mv1 sv1 nv1) (cwV 0 hts gL_law_X7_thrown rfl rfl rfl (by decide +kernel) ⟨Nat.le_of_ble_eq_true rfl, Nat.le_of_ble_eq_true rfl⟩) (tr_preV hK hM.1.c0 rfl hM) rfl rfl hl.1 rfl (lv_room (Nat.le_of_ble_eq_true rfl)) dL_law_950 ⟨show cells + 1 + 1 + 0 ≤ 601024 by omega, show slots + 6 + 11 + 0 ≤ 7293034 by omega⟩) hS hfr.m (fun H locs hM hz hk hS => ?_)
  replace hT := hT.keptM hap hk
  replace hO := hO.keptM hap hk
  refine lv_iload hx hb dL_law_953 (lv_at hl 1 rfl) ?_
  refine lv_icmp_eq (tgt := 960) hx hb dL_law_955 (by decide) (fun _ => ?_) (fun c9 => absurd hc1 c9)
  refine lv_iload hx hb dL_law_960 (lv_at hl 1 rfl) ?_
  have fin : W p l e room_1 s m #[Value.ref b] below meth c H locs (cells + 151) (slots + 1100) Q (F0 m 977 ls []) := by
    refine lv_goto (tgt := 1283) hx hb dL_law_977 (by decide) ?_
    exact nx H locs ls ⟨v1, u2, mv1, sv1, nv1, _, hT, hM, hO, sim2, hS⟩ (lv_sub hl [2, 3, 4, 5, 6] rfl)
  refine W.widen (k := cells + 151) (n := slots + 1100) (by omega) (by omega) ?_
  refine lv_if_ne (tgt := 977) hx hb dL_law_962 (by decide) (fun _ => fin) (fun c9 => ?_)
  obtain ⟨hn, hr57⟩ := hc2 c9
  have hO9 : oat D cJ oa (r5.toInt64) H := by rw [if_pos hn] at hO; exact hO
  refine lv_aload_n hx hb dL_law_965 rfl (lv_at hl 5 rfl) ?_
  refine lv_iconst (v := 0) hx hb dL_law_966 (by decide) ?_
  refine va_lald hx hb hJ (tr_one hO9) 0 0 rfl rfl (i := 0) vp00 dL_law_967 ?_
  refine lv_iload hx hb dL_law_968 (lv_at hl 0 rfl) ?_
  refine lv_i2l hx hb dL_law_970 rfl ?_
  refine W.lcmp hx hb dL_law_971 ?_
  exact lv_if_eq (tgt := 977) hx hb dL_law_972 (by decide) (fun _ => fin) (fun c8 => absurd (by rw [hr57]; exact lg_cmp_self _) c8)
set_option maxHeartbeats 4000000 in
set_option maxRecDepth 100000 in
theorem arm_next {p : Program} {l : Launch} {e : Env} {s : State} {m : MethodId} {below : List Frame} {meth : Method} {c : Code} {b L : Nat} {xs : Nat → Int32} {D : va_G} {cI cJ : ClassId} {z0 : Nat} {A A2 M : Nat → Nat} {oa : Nat} (K : LC p l s m c b L xs D cI cJ z0 A A2 M oa) {Q : State → Prop} {j : Nat} (hj : 4 * j + 4 ≤ L) (hj2 : j < 600) {H : Heap} {locs : List Loc} {ls : Array Slot} {cells slots : Nat} (hcs : cells + 151 ≤ 601024 ∧ slots + 1100 ≤ 7293034) (hs : LST s D cI cJ z0 A A2 M oa j H locs) (hl : lv_has ls 9 [(0, .ref b), (1, .ref z0), (2, .ref ((mA M) 0)), (3, .ref oa), (4, .int (nI (4 * j)))]) (nx : ∀ (H : Heap) (locs : List Loc) (ls : Array Slot), LST s D cI cJ z0 A A2 M oa (j + 1) H locs → lv_has ls 9 [(0, .ref b), (1, .ref z0), (2, .ref ((mA M) 0)), (3, .ref oa), (4, .int (nI (4 * j)))] → W p l e room_1 s m #[Value.ref b] below meth c H locs (cells + 151) (slots + 1100) Q (F0 m 1283 ls [])): W p l e room_1 s m #[Value.ref b] below meth c H locs cells slots Q (F0 m 980 ls []) := by
  obtain ⟨⟨hx, hb, hml, hown, hts⟩, ⟨hX, hbl, hL⟩, hst, ⟨hK, hJ, hH, hXA⟩, ⟨hd, hMi, ho⟩, hap, hfr⟩ := K
  obtain ⟨v, u, mv, sv, nv, y, hT, hM, hO, hrel, hS⟩ := hs
  have hbA : ¬ lOw s b := Nat.not_le.mpr hbl
  obtain ⟨mv1, et⟩ : ∃ t, t = fX7_next mv sv nv (xs (nI (4 * j) + 1).toNatClampNeg) := ⟨_, rfl⟩
  have sim := s_next hrel u nv (xs (nI (4 * j) + 1).toNatClampNeg)
  rw [← et] at sim
  obtain ⟨x5, ex⟩ : ∃ t, t = xX5_next v u (xs (nI (4 * j) + 1).toNatClampNeg) := ⟨_, rfl⟩
  obtain ⟨r5, er5⟩ : ∃ t, t = rX5_next v u (xs (nI (4 * j) + 1).toNatClampNeg) := ⟨_, rfl⟩
  obtain ⟨r7, er7⟩ : ∃ t, t = rX7_next mv sv nv (xs (nI (4 * j) + 1).toNatClampNeg) := ⟨_, rfl⟩
  obtain ⟨v1, ev1⟩ : ∃ t, t = fX5_next v u (xs (nI (4 * j) + 1).toNatClampNeg) := ⟨_, rfl⟩
  rw [← ex, ← er5, ← er7, ← ev1] at sim
  obtain ⟨sim1, sim2⟩ := sim
  obtain ⟨hc1, hc2⟩ := OUT_cod (Or.inr (Or.inl rfl)) sim1
  refine lv_aload_n hx hb dL_law_980 rfl (lv_at hl 1 rfl) ?_
  refine lv_aload_n hx hb dL_law_981 rfl (lv_at hl 0 rfl) ?_
  refine lv_iload hx hb dL_law_982 (lv_at hl 4 rfl) ?_
  refine lv_iconst (v := 1) hx hb dL_law_984 (by decide) ?_
  refine lv_iadd hx hb dL_law_985 ?_
  refine va_sld (A := lOw s) hx hb hX hbl hbA hS (vp_sc (k := 1) (by omega) hL) dL_law_986 ?_
  refine lv_aload_n hx hb dL_law_987 rfl (lv_at hl 3 rfl) ?_
  refine tr_wNi (vx_runSW (As := [.ref z0, .int (xs (nI (4 * j) + 1).toNatClampNeg), .ref oa]) (rest := []) ⟨hx, hb, hml, hown, hts⟩ (c_L_next l hst D cI cJ z0 A A2 hd v u (xs (nI (4 * j) + 1).toNatClampNeg) oa y ho) (vx_cwSW 3 hts gL_law_L_next rfl rfl rfl (by decide +kernel) ⟨Nat.le_of_ble_eq_true rfl, Nat.le_of_ble_eq_true rfl⟩) (tr_preSH hK (hXA.at hS) hJ hH ⟨hT, hO⟩) rfl rfl hl.1 rfl (lv_room (Nat.le_of_ble_eq_true rfl)) dL_law_988 ⟨show cells + 1 ≤ 601024 by omega, show slots + 6 ≤ 7293034 by omega⟩) hS hfr.h hfr.h (fun H locs hp hz hk hS => ?_)
  rw [← ex, ← er5, ← ev1] at hp
  rw [← ex]
  obtain ⟨⟨u2, hT⟩, hO⟩ := hp
  replace hM := hM.keptH hap hk
  refine lv_istore (lv' := [(5, .int (cod [sIX] x5)), (0, .ref b), (1, .ref z0), (2, .ref ((mA M) 0)), (3, .ref oa), (4, .int (nI (4 * j)))]) hx hb dL_law_991 hl (by decide) rfl (fun ls hl => ?_)
  refine lv_aload_n hx hb dL_law_993 rfl (lv_at hl 3 rfl) ?_
  refine lv_aload_n hx hb dL_law_994 rfl (lv_at hl 1 rfl) ?_
  refine lv_iload hx hb dL_law_995 (lv_at hl 5 rfl) ?_
  refine lv_iconst (v := 1) hx hb dL_law_997 (by decide) ?_
  refine lv_iadd hx hb dL_law_998 ?_
  refine va_sld (A := lOw s) hx hb hX hbl hbA hS (vp_sc (k := 1) (by omega) hL) dL_law_999 ?_
  refine tr_wi (va_runV (As := [.int (xs (nI (4 * j) + 1).toNatClampNeg)]) (rest := []) ⟨hx, hb, hml, hown, hts⟩ (c_X7_next l D cI M hMi mv sv nv (xs (nI (4 * j) + 1).toNatClampNeg) hrel.mOK (fun k _ => hrel.hsafeb nv k)) (cwV 1 hts gL_law_X7_next rfl rfl rfl (by decide +kernel) ⟨Nat.le_of_ble_eq_true rfl, Nat.le_of_ble_eq_true rfl⟩) (tr_preV hK hM.1.c0 rfl hM) rfl rfl hl.1 rfl (lv_room (Nat.le_of_ble_eq_true rfl)) dL_law_1000 ⟨show cells + 1 + 0 ≤ 601024 by omega, show slots + 6 + 0 ≤ 7293034 by omega⟩) hS hfr.m (fun H locs hp hz hk hS => ?_)
  rw [← er7]
  rw [← et] at hp
  obtain ⟨nv1, hM⟩ := hp
  replace hT := hT.keptM hap hk
  replace hO := hO.keptM hap hk
  refine lv_istore (lv' := [(6, .int r7), (5, .int (cod [sIX] x5)), (0, .ref b), (1, .ref z0), (2, .ref ((mA M) 0)), (3, .ref oa), (4, .int (nI (4 * j)))]) hx hb dL_law_1003 hl (by decide) rfl (fun ls hl => ?_)
  refine lv_aload_n hx hb dL_law_1005 rfl (lv_at hl 4 rfl) ?_
  refine tr_wi (va_runV (As := []) (rest := []) ⟨hx, hb, hml, hown, hts⟩ (c_X7_thrown l D cI M hMi mv1 sv nv1) (cwV 0 hts gL_law_X7_thrown rfl rfl rfl (by decide +kernel) ⟨Nat.le_of_ble_eq_true rfl, Nat.le_of_ble_eq_true rfl⟩) (tr_preV hK hM.1.c0 rfl hM) rfl rfl hl.1 rfl (lv_room (Nat.le_of_ble_eq_true rfl)) dL_law_1006 ⟨show cells + 1 + 0 + 0 ≤ 601024 by omega, show slots + 6 + 0 + 0 ≤ 7293034 by omega⟩) hS hfr.m (fun H locs hM hz hk hS => ?_)
  replace hT := hT.keptM hap hk
  replace hO := hO.keptM hap hk
  refine lv_iload hx hb dL_law_1009 (lv_at hl 1 rfl) ?_
  refine lv_icmp_eq (tgt := 1016) hx hb dL_law_1011 (by decide) (fun _ => ?_) (fun c9 => absurd hc1 c9)
  refine lv_iload hx hb dL_law_1016 (lv_at hl 1 rfl) ?_
  have fin : W p l e room_1 s m #[Value.ref b] below meth c H locs (cells + 151) (slots + 1100) Q (F0 m 1033 ls []) := by
    refine lv_goto (tgt := 1283) hx hb dL_law_1033 (by decide) ?_
    exact nx H locs ls ⟨v1, u2, mv1, sv, nv1, _, hT, hM, hO, sim2, hS⟩ (lv_sub hl [2, 3, 4, 5, 6] rfl)
  refine W.widen (k := cells + 151) (n := slots + 1100) (by omega) (by omega) ?_
  refine lv_if_ne (tgt := 1033) hx hb dL_law_1018 (by decide) (fun _ => fin) (fun c9 => ?_)
  obtain ⟨hn, hr57⟩ := hc2 c9
  have hO9 : oat D cJ oa (r5.toInt64) H := by rw [if_pos hn] at hO; exact hO
  refine lv_aload_n hx hb dL_law_1021 rfl (lv_at hl 5 rfl) ?_
  refine lv_iconst (v := 0) hx hb dL_law_1022 (by decide) ?_
  refine va_lald hx hb hJ (tr_one hO9) 0 0 rfl rfl (i := 0) vp00 dL_law_1023 ?_
  refine lv_iload hx hb dL_law_1024 (lv_at hl 0 rfl) ?_
  refine lv_i2l hx hb dL_law_1026 rfl ?_
  refine W.lcmp hx hb dL_law_1027 ?_
  exact lv_if_eq (tgt := 1033) hx hb dL_law_1028 (by decide) (fun _ => fin) (fun c8 => absurd (by rw [hr57]; exact lg_cmp_self _) c8)
set_option maxHeartbeats 4000000 in
set_option maxRecDepth 100000 in
theorem arm_needs {p : Program} {l : Launch} {e : Env} {s : State} {m : MethodId} {below : List Frame} {meth : Method} {c : Code} {b L : Nat} {xs : Nat → Int32} {D : va_G} {cI cJ : ClassId} {z0 : Nat} {A A2 M : Nat → Nat} {oa : Nat} (K : LC p l s m c b L xs D cI cJ z0 A A2 M oa) {Q : State → Prop} {j : Nat} (hj : 4 * j + 4 ≤ L) (hj2 : j < 600) {H : Heap} {locs : List Loc} {ls : Array Slot} {cells slots : Nat} (hcs : cells + 151 ≤ 601024 ∧ slots + 1100 ≤ 7293034) (hs : LST s D cI cJ z0 A A2 M oa j H locs) (hl : lv_has ls 9 [(0, .ref b), (1, .ref z0), (2, .ref ((mA M) 0)), (3, .ref oa), (4, .int (nI (4 * j)))]) (nx : ∀ (H : Heap) (locs : List Loc) (ls : Array Slot), LST s D cI cJ z0 A A2 M oa (j + 1) H locs → lv_has ls 9 [(0, .ref b), (1, .ref z0), (2, .ref ((mA M) 0)), (3, .ref oa), (4, .int (nI (4 * j)))] → W p l e room_1 s m #[Value.ref b] below meth c H locs (cells + 151) (slots + 1100) Q (F0 m 1283 ls [])): W p l e room_1 s m #[Value.ref b] below meth c H locs cells slots Q (F0 m 1036 ls []) := by
  obtain ⟨⟨hx, hb, hml, hown, hts⟩, ⟨hX, hbl, hL⟩, hst, ⟨hK, hJ, hH, hXA⟩, ⟨hd, hMi, ho⟩, hap, hfr⟩ := K
  obtain ⟨v, u, mv, sv, nv, y, hT, hM, hO, hrel, hS⟩ := hs
  have hbA : ¬ lOw s b := Nat.not_le.mpr hbl
  have sim := s_needs hrel u nv (xs (nI (4 * j) + 1).toNatClampNeg) (xs (nI (4 * j) + 2).toNatClampNeg)
  obtain ⟨t, et⟩ : ∃ t, t = fX7_needs mv sv nv (xs (nI (4 * j) + 1).toNatClampNeg) (xs (nI (4 * j) + 2).toNatClampNeg) := ⟨_, rfl⟩
  rw [← et] at sim
  obtain ⟨mv1, sv1, nv1⟩ := t
  obtain ⟨x5, ex⟩ : ∃ t, t = xX5_needs v u (xs (nI (4 * j) + 1).toNatClampNeg) (xs (nI (4 * j) + 2).toNatClampNeg) := ⟨_, rfl⟩
  obtain ⟨r5, er5⟩ : ∃ t, t = rX5_needs v u (xs (nI (4 * j) + 1).toNatClampNeg) (xs (nI (4 * j) + 2).toNatClampNeg) := ⟨_, rfl⟩
  obtain ⟨r7, er7⟩ : ∃ t, t = rX7_needs mv sv nv (xs (nI (4 * j) + 1).toNatClampNeg) (xs (nI (4 * j) + 2).toNatClampNeg) := ⟨_, rfl⟩
  obtain ⟨v1, ev1⟩ : ∃ t, t = fX5_needs v u (xs (nI (4 * j) + 1).toNatClampNeg) (xs (nI (4 * j) + 2).toNatClampNeg) := ⟨_, rfl⟩
  rw [← ex, ← er5, ← er7, ← ev1] at sim
  obtain ⟨sim1, sim2⟩ := sim
  obtain ⟨hc1, hc2⟩ := OUT_cod (Or.inr (Or.inr (Or.inr (Or.inl rfl)))) sim1
  refine lv_aload_n hx hb dL_law_1036 rfl (lv_at hl 1 rfl) ?_
  refine lv_aload_n hx hb dL_law_1037 rfl (lv_at hl 0 rfl) ?_
  refine lv_iload hx hb dL_law_1038 (lv_at hl 4 rfl) ?_
  refine lv_iconst (v := 1) hx hb dL_law_1040 (by decide) ?_
  refine lv_iadd hx hb dL_law_1041 ?_
  refine va_sld (A := lOw s) hx hb hX hbl hbA hS (vp_sc (k := 1) (by omega) hL) dL_law_1042 ?_
  refine lv_aload_n hx hb dL_law_1043 rfl (lv_at hl 0 rfl) ?_
  refine lv_iload hx hb dL_law_1044 (lv_at hl 4 rfl) ?_
  refine lv_iconst (v := 2) hx hb dL_law_1046 (by decide) ?_
  refine lv_iadd hx hb dL_law_1047 ?_
  refine va_sld (A := lOw s) hx hb hX hbl hbA hS (vp_sc (k := 2) (by omega) hL) dL_law_1048 ?_
  refine lv_aload_n hx hb dL_law_1049 rfl (lv_at hl 3 rfl) ?_
  refine tr_wNi (vx_runSW (As := [.ref z0, .int (xs (nI (4 * j) + 1).toNatClampNeg), .int (xs (nI (4 * j) + 2).toNatClampNeg), .ref oa]) (rest := []) ⟨hx, hb, hml, hown, hts⟩ (c_L_needs l hst D cI cJ z0 A A2 hd v u (xs (nI (4 * j) + 1).toNatClampNeg) (xs (nI (4 * j) + 2).toNatClampNeg) oa y ho) (vx_cwSW 4 hts gL_law_L_needs rfl rfl rfl (by decide +kernel) ⟨Nat.le_of_ble_eq_true rfl, Nat.le_of_ble_eq_true rfl⟩) (tr_preSH hK (hXA.at hS) hJ hH ⟨hT, hO⟩) rfl rfl hl.1 rfl (lv_room (Nat.le_of_ble_eq_true rfl)) dL_law_1050 ⟨show cells + 1 ≤ 601024 by omega, show slots + 6 ≤ 7293034 by omega⟩) hS hfr.h hfr.h (fun H locs hp hz hk hS => ?_)
  rw [← ex, ← er5, ← ev1] at hp
  rw [← ex]
  obtain ⟨⟨u2, hT⟩, hO⟩ := hp
  replace hM := hM.keptH hap hk
  refine lv_istore (lv' := [(5, .int (cod [sIX, sIA] x5)), (0, .ref b), (1, .ref z0), (2, .ref ((mA M) 0)), (3, .ref oa), (4, .int (nI (4 * j)))]) hx hb dL_law_1053 hl (by decide) rfl (fun ls hl => ?_)
  refine lv_aload_n hx hb dL_law_1055 rfl (lv_at hl 3 rfl) ?_
  refine lv_aload_n hx hb dL_law_1056 rfl (lv_at hl 1 rfl) ?_
  refine lv_iload hx hb dL_law_1057 (lv_at hl 5 rfl) ?_
  refine lv_iconst (v := 1) hx hb dL_law_1059 (by decide) ?_
  refine lv_iadd hx hb dL_law_1060 ?_
  refine va_sld (A := lOw s) hx hb hX hbl hbA hS (vp_sc (k := 1) (by omega) hL) dL_law_1061 ?_
  refine lv_aload_n hx hb dL_law_1062 rfl (lv_at hl 1 rfl) ?_
  refine lv_iload hx hb dL_law_1063 (lv_at hl 5 rfl) ?_
  refine lv_iconst (v := 2) hx hb dL_law_1065 (by decide) ?_
  refine lv_iadd hx hb dL_law_1066 ?_
  refine va_sld (A := lOw s) hx hb hX hbl hbA hS (vp_sc (k := 2) (by omega) hL) dL_law_1067 ?_
  refine tr_wi (va_runV (As := [.int (xs (nI (4 * j) + 1).toNatClampNeg), .int (xs (nI (4 * j) + 2).toNatClampNeg)]) (rest := []) ⟨hx, hb, hml, hown, hts⟩ (c_X7_needs l D cI M hMi mv sv nv (xs (nI (4 * j) + 1).toNatClampNeg) (xs (nI (4 * j) + 2).toNatClampNeg) hrel.mOK (fun k _ => hrel.hsafeb nv k)) (cwV 2 hts gL_law_X7_needs rfl rfl rfl (by decide +kernel) ⟨Nat.le_of_ble_eq_true rfl, Nat.le_of_ble_eq_true rfl⟩) (tr_preV hK hM.1.c0 rfl hM) rfl rfl hl.1 rfl (lv_room (Nat.le_of_ble_eq_true rfl)) dL_law_1068 ⟨show cells + 1 + 0 ≤ 601024 by omega, show slots + 6 + 0 ≤ 7293034 by omega⟩) hS hfr.m (fun H locs hp hz hk hS => ?_)
  rw [← er7]
  rw [← et] at hp
  have hM := hp
  replace hT := hT.keptM hap hk
  replace hO := hO.keptM hap hk
  refine lv_istore (lv' := [(6, .int r7), (5, .int (cod [sIX, sIA] x5)), (0, .ref b), (1, .ref z0), (2, .ref ((mA M) 0)), (3, .ref oa), (4, .int (nI (4 * j)))]) hx hb dL_law_1071 hl (by decide) rfl (fun ls hl => ?_)
  refine lv_aload_n hx hb dL_law_1073 rfl (lv_at hl 4 rfl) ?_
  refine tr_wi (va_runV (As := []) (rest := []) ⟨hx, hb, hml, hown, hts⟩ (c_X7_thrown l D cI M hMi mv1 sv1 nv1) (cwV 0 hts gL_law_X7_thrown rfl rfl rfl (by decide +kernel) ⟨Nat.le_of_ble_eq_true rfl, Nat.le_of_ble_eq_true rfl⟩) (tr_preV hK hM.1.c0 rfl hM) rfl rfl hl.1 rfl (lv_room (Nat.le_of_ble_eq_true rfl)) dL_law_1074 ⟨show cells + 1 + 0 + 0 ≤ 601024 by omega, show slots + 6 + 0 + 0 ≤ 7293034 by omega⟩) hS hfr.m (fun H locs hM hz hk hS => ?_)
  replace hT := hT.keptM hap hk
  replace hO := hO.keptM hap hk
  refine lv_iload hx hb dL_law_1077 (lv_at hl 1 rfl) ?_
  refine lv_icmp_eq (tgt := 1084) hx hb dL_law_1079 (by decide) (fun _ => ?_) (fun c9 => absurd hc1 c9)
  refine lv_iload hx hb dL_law_1084 (lv_at hl 1 rfl) ?_
  have fin : W p l e room_1 s m #[Value.ref b] below meth c H locs (cells + 151) (slots + 1100) Q (F0 m 1101 ls []) := by
    refine lv_goto (tgt := 1283) hx hb dL_law_1101 (by decide) ?_
    exact nx H locs ls ⟨v1, u2, mv1, sv1, nv1, _, hT, hM, hO, sim2, hS⟩ (lv_sub hl [2, 3, 4, 5, 6] rfl)
  refine W.widen (k := cells + 151) (n := slots + 1100) (by omega) (by omega) ?_
  refine lv_if_ne (tgt := 1101) hx hb dL_law_1086 (by decide) (fun _ => fin) (fun c9 => ?_)
  obtain ⟨hn, hr57⟩ := hc2 c9
  have hO9 : oat D cJ oa (r5.toInt64) H := by rw [if_pos hn] at hO; exact hO
  refine lv_aload_n hx hb dL_law_1089 rfl (lv_at hl 5 rfl) ?_
  refine lv_iconst (v := 0) hx hb dL_law_1090 (by decide) ?_
  refine va_lald hx hb hJ (tr_one hO9) 0 0 rfl rfl (i := 0) vp00 dL_law_1091 ?_
  refine lv_iload hx hb dL_law_1092 (lv_at hl 0 rfl) ?_
  refine lv_i2l hx hb dL_law_1094 rfl ?_
  refine W.lcmp hx hb dL_law_1095 ?_
  exact lv_if_eq (tgt := 1101) hx hb dL_law_1096 (by decide) (fun _ => fin) (fun c8 => absurd (by rw [hr57]; exact lg_cmp_self _) c8)
set_option maxHeartbeats 4000000 in
set_option maxRecDepth 100000 in
theorem arm_advise {p : Program} {l : Launch} {e : Env} {s : State} {m : MethodId} {below : List Frame} {meth : Method} {c : Code} {b L : Nat} {xs : Nat → Int32} {D : va_G} {cI cJ : ClassId} {z0 : Nat} {A A2 M : Nat → Nat} {oa : Nat} (K : LC p l s m c b L xs D cI cJ z0 A A2 M oa) {Q : State → Prop} {j : Nat} (hj : 4 * j + 4 ≤ L) (hj2 : j < 600) {H : Heap} {locs : List Loc} {ls : Array Slot} {cells slots : Nat} (hcs : cells + 151 ≤ 601024 ∧ slots + 1100 ≤ 7293034) (hs : LST s D cI cJ z0 A A2 M oa j H locs) (hl : lv_has ls 9 [(0, .ref b), (1, .ref z0), (2, .ref ((mA M) 0)), (3, .ref oa), (4, .int (nI (4 * j)))]) (nx : ∀ (H : Heap) (locs : List Loc) (ls : Array Slot), LST s D cI cJ z0 A A2 M oa (j + 1) H locs → lv_has ls 9 [(0, .ref b), (1, .ref z0), (2, .ref ((mA M) 0)), (3, .ref oa), (4, .int (nI (4 * j)))] → W p l e room_1 s m #[Value.ref b] below meth c H locs (cells + 151) (slots + 1100) Q (F0 m 1283 ls [])): W p l e room_1 s m #[Value.ref b] below meth c H locs cells slots Q (F0 m 1104 ls []) := by
  obtain ⟨⟨hx, hb, hml, hown, hts⟩, ⟨hX, hbl, hL⟩, hst, ⟨hK, hJ, hH, hXA⟩, ⟨hd, hMi, ho⟩, hap, hfr⟩ := K
  obtain ⟨v, u, mv, sv, nv, y, hT, hM, hO, hrel, hS⟩ := hs
  have hbA : ¬ lOw s b := Nat.not_le.mpr hbl
  have sim := s_advise hj2 hrel u nv (xs (nI (4 * j) + 1).toNatClampNeg)
  obtain ⟨t, et⟩ : ∃ t, t = fX7_advise mv sv nv (xs (nI (4 * j) + 1).toNatClampNeg) := ⟨_, rfl⟩
  rw [← et] at sim
  obtain ⟨mv1, sv1, nv1⟩ := t
  obtain ⟨x5, ex⟩ : ∃ t, t = xX5_advise v u (xs (nI (4 * j) + 1).toNatClampNeg) := ⟨_, rfl⟩
  obtain ⟨r5, er5⟩ : ∃ t, t = rX5_advise v u (xs (nI (4 * j) + 1).toNatClampNeg) := ⟨_, rfl⟩
  obtain ⟨r7, er7⟩ : ∃ t, t = rX7_advise mv sv nv (xs (nI (4 * j) + 1).toNatClampNeg) := ⟨_, rfl⟩
  obtain ⟨v1, ev1⟩ : ∃ t, t = fX5_advise v u (xs (nI (4 * j) + 1).toNatClampNeg) := ⟨_, rfl⟩
  rw [← ex, ← er5, ← er7, ← ev1] at sim
  obtain ⟨sim1, sim2⟩ := sim
  obtain ⟨hc1, hc2⟩ := OUT_cod (Or.inl rfl) sim1
  refine lv_aload_n hx hb dL_law_1104 rfl (lv_at hl 1 rfl) ?_
  refine lv_aload_n hx hb dL_law_1105 rfl (lv_at hl 0 rfl) ?_
  refine lv_iload hx hb dL_law_1106 (lv_at hl 4 rfl) ?_
  refine lv_iconst (v := 1) hx hb dL_law_1108 (by decide) ?_
  refine lv_iadd hx hb dL_law_1109 ?_
  refine va_sld (A := lOw s) hx hb hX hbl hbA hS (vp_sc (k := 1) (by omega) hL) dL_law_1110 ?_
  refine lv_aload_n hx hb dL_law_1111 rfl (lv_at hl 3 rfl) ?_
  refine tr_wNi (vx_runSW (As := [.ref z0, .int (xs (nI (4 * j) + 1).toNatClampNeg), .ref oa]) (rest := []) ⟨hx, hb, hml, hown, hts⟩ (c_L_advise l hst D cI cJ z0 A A2 hd v u (xs (nI (4 * j) + 1).toNatClampNeg) oa y ho) (vx_cwSW 3 hts gL_law_L_advise rfl rfl rfl (by decide +kernel) ⟨Nat.le_of_ble_eq_true rfl, Nat.le_of_ble_eq_true rfl⟩) (tr_preSH hK (hXA.at hS) hJ hH ⟨hT, hO⟩) rfl rfl hl.1 rfl (lv_room (Nat.le_of_ble_eq_true rfl)) dL_law_1112 ⟨show cells + 1 ≤ 601024 by omega, show slots + 6 ≤ 7293034 by omega⟩) hS hfr.h hfr.h (fun H locs hp hz hk hS => ?_)
  rw [← ex, ← er5, ← ev1] at hp
  rw [← ex]
  obtain ⟨⟨u2, hT⟩, hO⟩ := hp
  replace hM := hM.keptH hap hk
  refine lv_istore (lv' := [(5, .int (cod [sIA] x5)), (0, .ref b), (1, .ref z0), (2, .ref ((mA M) 0)), (3, .ref oa), (4, .int (nI (4 * j)))]) hx hb dL_law_1115 hl (by decide) rfl (fun ls hl => ?_)
  refine lv_aload_n hx hb dL_law_1117 rfl (lv_at hl 3 rfl) ?_
  refine lv_aload_n hx hb dL_law_1118 rfl (lv_at hl 1 rfl) ?_
  refine lv_iload hx hb dL_law_1119 (lv_at hl 5 rfl) ?_
  refine lv_iconst (v := 1) hx hb dL_law_1121 (by decide) ?_
  refine lv_iadd hx hb dL_law_1122 ?_
  refine va_sld (A := lOw s) hx hb hX hbl hbA hS (vp_sc (k := 1) (by omega) hL) dL_law_1123 ?_
  refine tr_wi (va_runV (As := [.int (xs (nI (4 * j) + 1).toNatClampNeg)]) (rest := []) ⟨hx, hb, hml, hown, hts⟩ (c_X7_advise l D cI M hMi mv sv nv (xs (nI (4 * j) + 1).toNatClampNeg) hrel.mOK hrel.cOK hrel.nOK hrel.hqa (fun k _ => hrel.hsafeb nv k) (fun a po k _ hc => hrel.hsafec a po k hc)) (cwV 1 hts gL_law_X7_advise rfl rfl rfl (by decide +kernel) ⟨Nat.le_of_ble_eq_true rfl, Nat.le_of_ble_eq_true rfl⟩) (tr_preV hK hM.1.c0 rfl hM) rfl rfl hl.1 rfl (lv_room (Nat.le_of_ble_eq_true rfl)) dL_law_1124 ⟨show cells + 1 + 0 ≤ 601024 by omega, show slots + 6 + 0 ≤ 7293034 by omega⟩) hS hfr.m (fun H locs hp hz hk hS => ?_)
  rw [← er7]
  rw [← et] at hp
  have hM := hp
  replace hT := hT.keptM hap hk
  replace hO := hO.keptM hap hk
  refine lv_istore (lv' := [(6, .int r7), (5, .int (cod [sIA] x5)), (0, .ref b), (1, .ref z0), (2, .ref ((mA M) 0)), (3, .ref oa), (4, .int (nI (4 * j)))]) hx hb dL_law_1127 hl (by decide) rfl (fun ls hl => ?_)
  refine lv_aload_n hx hb dL_law_1129 rfl (lv_at hl 4 rfl) ?_
  refine tr_wi (va_runV (As := []) (rest := []) ⟨hx, hb, hml, hown, hts⟩ (c_X7_thrown l D cI M hMi mv1 sv1 nv1) (cwV 0 hts gL_law_X7_thrown rfl rfl rfl (by decide +kernel) ⟨Nat.le_of_ble_eq_true rfl, Nat.le_of_ble_eq_true rfl⟩) (tr_preV hK hM.1.c0 rfl hM) rfl rfl hl.1 rfl (lv_room (Nat.le_of_ble_eq_true rfl)) dL_law_1130 ⟨show cells + 1 + 0 + 0 ≤ 601024 by omega, show slots + 6 + 0 + 0 ≤ 7293034 by omega⟩) hS hfr.m (fun H locs hM hz hk hS => ?_)
  replace hT := hT.keptM hap hk
  replace hO := hO.keptM hap hk
  refine lv_iload hx hb dL_law_1133 (lv_at hl 1 rfl) ?_
  refine lv_icmp_eq (tgt := 1140) hx hb dL_law_1135 (by decide) (fun _ => ?_) (fun c9 => absurd hc1 c9)
  refine lv_iload hx hb dL_law_1140 (lv_at hl 1 rfl) ?_
  have fin : W p l e room_1 s m #[Value.ref b] below meth c H locs (cells + 151) (slots + 1100) Q (F0 m 1157 ls []) := by
    refine lv_goto (tgt := 1283) hx hb dL_law_1157 (by decide) ?_
    exact nx H locs ls ⟨v1, u2, mv1, sv1, nv1, _, hT, hM, hO, sim2, hS⟩ (lv_sub hl [2, 3, 4, 5, 6] rfl)
  refine W.widen (k := cells + 151) (n := slots + 1100) (by omega) (by omega) ?_
  refine lv_if_ne (tgt := 1157) hx hb dL_law_1142 (by decide) (fun _ => fin) (fun c9 => ?_)
  obtain ⟨hn, hr57⟩ := hc2 c9
  have hO9 : oat D cJ oa (r5.toInt64) H := by rw [if_pos hn] at hO; exact hO
  refine lv_aload_n hx hb dL_law_1145 rfl (lv_at hl 5 rfl) ?_
  refine lv_iconst (v := 0) hx hb dL_law_1146 (by decide) ?_
  refine va_lald hx hb hJ (tr_one hO9) 0 0 rfl rfl (i := 0) vp00 dL_law_1147 ?_
  refine lv_iload hx hb dL_law_1148 (lv_at hl 0 rfl) ?_
  refine lv_i2l hx hb dL_law_1150 rfl ?_
  refine W.lcmp hx hb dL_law_1151 ?_
  exact lv_if_eq (tgt := 1157) hx hb dL_law_1152 (by decide) (fun _ => fin) (fun c8 => absurd (by rw [hr57]; exact lg_cmp_self _) c8)
set_option maxHeartbeats 4000000 in
set_option maxRecDepth 100000 in
theorem arm_foresee {p : Program} {l : Launch} {e : Env} {s : State} {m : MethodId} {below : List Frame} {meth : Method} {c : Code} {b L : Nat} {xs : Nat → Int32} {D : va_G} {cI cJ : ClassId} {z0 : Nat} {A A2 M : Nat → Nat} {oa : Nat} (K : LC p l s m c b L xs D cI cJ z0 A A2 M oa) {Q : State → Prop} {j : Nat} (hj : 4 * j + 4 ≤ L) (hj2 : j < 600) {H : Heap} {locs : List Loc} {ls : Array Slot} {cells slots : Nat} (hcs : cells + 151 ≤ 601024 ∧ slots + 1100 ≤ 7293034) (hs : LST s D cI cJ z0 A A2 M oa j H locs) (hl : lv_has ls 9 [(0, .ref b), (1, .ref z0), (2, .ref ((mA M) 0)), (3, .ref oa), (4, .int (nI (4 * j)))]) (nx : ∀ (H : Heap) (locs : List Loc) (ls : Array Slot), LST s D cI cJ z0 A A2 M oa (j + 1) H locs → lv_has ls 9 [(0, .ref b), (1, .ref z0), (2, .ref ((mA M) 0)), (3, .ref oa), (4, .int (nI (4 * j)))] → W p l e room_1 s m #[Value.ref b] below meth c H locs (cells + 151) (slots + 1100) Q (F0 m 1283 ls [])): W p l e room_1 s m #[Value.ref b] below meth c H locs cells slots Q (F0 m 1160 ls []) := by
  obtain ⟨⟨hx, hb, hml, hown, hts⟩, ⟨hX, hbl, hL⟩, hst, ⟨hK, hJ, hH, hXA⟩, ⟨hd, hMi, ho⟩, hap, hfr⟩ := K
  obtain ⟨v, u, mv, sv, nv, y, hT, hM, hO, hrel, hS⟩ := hs
  have hbA : ¬ lOw s b := Nat.not_le.mpr hbl
  have sim := s_foresee hrel u nv (xs (nI (4 * j) + 1).toNatClampNeg) (xs (nI (4 * j) + 2).toNatClampNeg)
  obtain ⟨t, et⟩ : ∃ t, t = fX7_foresee mv sv nv (xs (nI (4 * j) + 1).toNatClampNeg) (xs (nI (4 * j) + 2).toNatClampNeg) := ⟨_, rfl⟩
  rw [← et] at sim
  obtain ⟨mv1, sv1, nv1⟩ := t
  obtain ⟨x5, ex⟩ : ∃ t, t = xX5_foresee v u (xs (nI (4 * j) + 1).toNatClampNeg) (xs (nI (4 * j) + 2).toNatClampNeg) := ⟨_, rfl⟩
  obtain ⟨r5, er5⟩ : ∃ t, t = rX5_foresee v u (xs (nI (4 * j) + 1).toNatClampNeg) (xs (nI (4 * j) + 2).toNatClampNeg) := ⟨_, rfl⟩
  obtain ⟨r7, er7⟩ : ∃ t, t = rX7_foresee mv sv nv (xs (nI (4 * j) + 1).toNatClampNeg) (xs (nI (4 * j) + 2).toNatClampNeg) := ⟨_, rfl⟩
  obtain ⟨v1, ev1⟩ : ∃ t, t = fX5_foresee v u (xs (nI (4 * j) + 1).toNatClampNeg) (xs (nI (4 * j) + 2).toNatClampNeg) := ⟨_, rfl⟩
  rw [← ex, ← er5, ← er7, ← ev1] at sim
  obtain ⟨sim1, sim2⟩ := sim
  obtain ⟨hc1, hc2⟩ := OUT_cod (Or.inr (Or.inr (Or.inr (Or.inr (Or.inr (Or.inl rfl)))))) sim1
  refine lv_aload_n hx hb dL_law_1160 rfl (lv_at hl 1 rfl) ?_
  refine lv_aload_n hx hb dL_law_1161 rfl (lv_at hl 0 rfl) ?_
  refine lv_iload hx hb dL_law_1162 (lv_at hl 4 rfl) ?_
  refine lv_iconst (v := 1) hx hb dL_law_1164 (by decide) ?_
  refine lv_iadd hx hb dL_law_1165 ?_
  refine va_sld (A := lOw s) hx hb hX hbl hbA hS (vp_sc (k := 1) (by omega) hL) dL_law_1166 ?_
  refine lv_aload_n hx hb dL_law_1167 rfl (lv_at hl 0 rfl) ?_
  refine lv_iload hx hb dL_law_1168 (lv_at hl 4 rfl) ?_
  refine lv_iconst (v := 2) hx hb dL_law_1170 (by decide) ?_
  refine lv_iadd hx hb dL_law_1171 ?_
  refine va_sld (A := lOw s) hx hb hX hbl hbA hS (vp_sc (k := 2) (by omega) hL) dL_law_1172 ?_
  refine lv_aload_n hx hb dL_law_1173 rfl (lv_at hl 3 rfl) ?_
  refine tr_wNi (vx_runSW (As := [.ref z0, .int (xs (nI (4 * j) + 1).toNatClampNeg), .int (xs (nI (4 * j) + 2).toNatClampNeg), .ref oa]) (rest := []) ⟨hx, hb, hml, hown, hts⟩ (c_L_foresee l hst D cI cJ z0 A A2 hd v u (xs (nI (4 * j) + 1).toNatClampNeg) (xs (nI (4 * j) + 2).toNatClampNeg) oa y ho) (vx_cwSW 4 hts gL_law_L_foresee rfl rfl rfl (by decide +kernel) ⟨Nat.le_of_ble_eq_true rfl, Nat.le_of_ble_eq_true rfl⟩) (tr_preSH hK (hXA.at hS) hJ hH ⟨hT, hO⟩) rfl rfl hl.1 rfl (lv_room (Nat.le_of_ble_eq_true rfl)) dL_law_1174 ⟨show cells + 1 ≤ 601024 by omega, show slots + 6 ≤ 7293034 by omega⟩) hS hfr.h hfr.h (fun H locs hp hz hk hS => ?_)
  rw [← ex, ← er5, ← ev1] at hp
  rw [← ex]
  obtain ⟨⟨u2, hT⟩, hO⟩ := hp
  replace hM := hM.keptH hap hk
  refine lv_istore (lv' := [(5, .int (cod [sIA, sIX] x5)), (0, .ref b), (1, .ref z0), (2, .ref ((mA M) 0)), (3, .ref oa), (4, .int (nI (4 * j)))]) hx hb dL_law_1177 hl (by decide) rfl (fun ls hl => ?_)
  refine lv_aload_n hx hb dL_law_1179 rfl (lv_at hl 3 rfl) ?_
  refine lv_aload_n hx hb dL_law_1180 rfl (lv_at hl 1 rfl) ?_
  refine lv_iload hx hb dL_law_1181 (lv_at hl 5 rfl) ?_
  refine lv_iconst (v := 1) hx hb dL_law_1183 (by decide) ?_
  refine lv_iadd hx hb dL_law_1184 ?_
  refine va_sld (A := lOw s) hx hb hX hbl hbA hS (vp_sc (k := 1) (by omega) hL) dL_law_1185 ?_
  refine lv_aload_n hx hb dL_law_1186 rfl (lv_at hl 1 rfl) ?_
  refine lv_iload hx hb dL_law_1187 (lv_at hl 5 rfl) ?_
  refine lv_iconst (v := 2) hx hb dL_law_1189 (by decide) ?_
  refine lv_iadd hx hb dL_law_1190 ?_
  refine va_sld (A := lOw s) hx hb hX hbl hbA hS (vp_sc (k := 2) (by omega) hL) dL_law_1191 ?_
  refine tr_wi (va_runV (As := [.int (xs (nI (4 * j) + 1).toNatClampNeg), .int (xs (nI (4 * j) + 2).toNatClampNeg)]) (rest := []) ⟨hx, hb, hml, hown, hts⟩ (c_X7_foresee l D cI M hMi mv sv nv (xs (nI (4 * j) + 1).toNatClampNeg) (xs (nI (4 * j) + 2).toNatClampNeg) hrel.mOK (fun k _ => hrel.hsafeb nv k)) (cwV 2 hts gL_law_X7_foresee rfl rfl rfl (by decide +kernel) ⟨Nat.le_of_ble_eq_true rfl, Nat.le_of_ble_eq_true rfl⟩) (tr_preV hK hM.1.c0 rfl hM) rfl rfl hl.1 rfl (lv_room (Nat.le_of_ble_eq_true rfl)) dL_law_1192 ⟨show cells + 1 + 0 ≤ 601024 by omega, show slots + 6 + 0 ≤ 7293034 by omega⟩) hS hfr.m (fun H locs hp hz hk hS => ?_)
  rw [← er7]
  rw [← et] at hp
  have hM := hp
  replace hT := hT.keptM hap hk
  replace hO := hO.keptM hap hk
  refine lv_istore (lv' := [(6, .int r7), (5, .int (cod [sIA, sIX] x5)), (0, .ref b), (1, .ref z0), (2, .ref ((mA M) 0)), (3, .ref oa), (4, .int (nI (4 * j)))]) hx hb dL_law_1195 hl (by decide) rfl (fun ls hl => ?_)
  refine lv_aload_n hx hb dL_law_1197 rfl (lv_at hl 4 rfl) ?_
  refine tr_wi (va_runV (As := []) (rest := []) ⟨hx, hb, hml, hown, hts⟩ (c_X7_thrown l D cI M hMi mv1 sv1 nv1) (cwV 0 hts gL_law_X7_thrown rfl rfl rfl (by decide +kernel) ⟨Nat.le_of_ble_eq_true rfl, Nat.le_of_ble_eq_true rfl⟩) (tr_preV hK hM.1.c0 rfl hM) rfl rfl hl.1 rfl (lv_room (Nat.le_of_ble_eq_true rfl)) dL_law_1198 ⟨show cells + 1 + 0 + 0 ≤ 601024 by omega, show slots + 6 + 0 + 0 ≤ 7293034 by omega⟩) hS hfr.m (fun H locs hM hz hk hS => ?_)
  replace hT := hT.keptM hap hk
  replace hO := hO.keptM hap hk
  refine lv_iload hx hb dL_law_1201 (lv_at hl 1 rfl) ?_
  refine lv_icmp_eq (tgt := 1208) hx hb dL_law_1203 (by decide) (fun _ => ?_) (fun c9 => absurd hc1 c9)
  refine lv_iload hx hb dL_law_1208 (lv_at hl 1 rfl) ?_
  have fin : W p l e room_1 s m #[Value.ref b] below meth c H locs (cells + 151) (slots + 1100) Q (F0 m 1225 ls []) := by
    refine lv_goto (tgt := 1283) hx hb dL_law_1225 (by decide) ?_
    exact nx H locs ls ⟨v1, u2, mv1, sv1, nv1, _, hT, hM, hO, sim2, hS⟩ (lv_sub hl [2, 3, 4, 5, 6] rfl)
  refine W.widen (k := cells + 151) (n := slots + 1100) (by omega) (by omega) ?_
  refine lv_if_ne (tgt := 1225) hx hb dL_law_1210 (by decide) (fun _ => fin) (fun c9 => ?_)
  obtain ⟨hn, hr57⟩ := hc2 c9
  have hO9 : oat D cJ oa (r5.toInt64) H := by rw [if_pos hn] at hO; exact hO
  refine lv_aload_n hx hb dL_law_1213 rfl (lv_at hl 5 rfl) ?_
  refine lv_iconst (v := 0) hx hb dL_law_1214 (by decide) ?_
  refine va_lald hx hb hJ (tr_one hO9) 0 0 rfl rfl (i := 0) vp00 dL_law_1215 ?_
  refine lv_iload hx hb dL_law_1216 (lv_at hl 0 rfl) ?_
  refine lv_i2l hx hb dL_law_1218 rfl ?_
  refine W.lcmp hx hb dL_law_1219 ?_
  exact lv_if_eq (tgt := 1225) hx hb dL_law_1220 (by decide) (fun _ => fin) (fun c8 => absurd (by rw [hr57]; exact lg_cmp_self _) c8)
