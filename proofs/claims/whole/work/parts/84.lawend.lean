/-! THE LAW: mean, digest, the loop -/
theorem REL.up {j : Nat} {v mv sv : LV} (h : REL j v mv sv) : REL (j + 1) v mv sv := by
  obtain ⟨P, C, S, hR, hV⟩ := h
  exact REL.of hR hV
theorem LST.up {s : State} {D : va_G} {cI cJ : ClassId} {z0 : Nat} {A A2 M : Nat → Nat} {oa j : Nat} {H : Heap} {locs : List Loc} (h : LST s D cI cJ z0 A A2 M oa j H locs) : LST s D cI cJ z0 A A2 M oa (j + 1) H locs := by
  obtain ⟨v, u, mv, sv, nv, y, hT, hM, hO, hrel, hS⟩ := h
  exact ⟨v, u, mv, sv, nv, y, hT, hM, hO, hrel.up, hS⟩
section ZAM
variable {p : Program} {l : Launch} {e : Env} {R : Room} {s : State} {m : MethodId} {args : Array Value} {below : List Frame} {meth : Method} {c : Code} {H : Heap} {locs : List Loc} {cells slots : Nat} {Q : State → Prop} {pc : Nat} {ls : Array Slot} {rest st0 : List Value} {av : Array Value}
theorem tr_rd {v : UInt64} (hr : va_Run p l e R s m args below meth c H locs cells slots 0 0 (F0 m pc ls st0) rest (vp_Sd (fun r => r = v) av) (fun _ => False))
    (kk : W p l e R s m args below meth c H locs cells slots Q (F0 m (pc + 3) ls (.double v :: rest))) : W p l e R s m args below meth c H locs cells slots Q (F0 m pc ls st0) :=
  vp_callSd hr.run (fun r hr => by rw [hr]; exact kk)
end ZAM
set_option maxHeartbeats 4000000 in
set_option maxRecDepth 100000 in
theorem arm_mean {p : Program} {l : Launch} {e : Env} {s : State} {m : MethodId} {below : List Frame} {meth : Method} {c : Code} {b L : Nat} {xs : Nat → Int32} {D : va_G} {cI cJ : ClassId} {z0 : Nat} {A A2 M : Nat → Nat} {oa : Nat} (K : LC p l s m c b L xs D cI cJ z0 A A2 M oa) {Q : State → Prop} {j : Nat} (hj : 4 * j + 4 ≤ L) (hj2 : j < 600) {H : Heap} {locs : List Loc} {ls : Array Slot} {cells slots : Nat} (hcs : cells + 151 ≤ 601024 ∧ slots + 1100 ≤ 7293034) (hs : LST s D cI cJ z0 A A2 M oa j H locs) (hl : lv_has ls 9 [(0, .ref b), (1, .ref z0), (2, .ref ((mA M) 0)), (3, .ref oa), (4, .int (nI (4 * j)))]) (nx : ∀ (H : Heap) (locs : List Loc) (ls : Array Slot), LST s D cI cJ z0 A A2 M oa (j + 1) H locs → lv_has ls 9 [(0, .ref b), (1, .ref z0), (2, .ref ((mA M) 0)), (3, .ref oa), (4, .int (nI (4 * j)))] → W p l e room_1 s m #[Value.ref b] below meth c H locs (cells + 151) (slots + 1100) Q (F0 m 1283 ls [])) : W p l e room_1 s m #[Value.ref b] below meth c H locs cells slots Q (F0 m 1228 ls []) := by
  obtain ⟨⟨hx, hb, hml, hown, hts⟩, ⟨hX, hbl, hL⟩, hst, ⟨hK, hJ, hH, hXA⟩, ⟨hd, hMi, ho⟩, hap, hfr⟩ := K
  obtain ⟨v, u, mv, sv, nv, y, hT, hM, hO, hrel, hS⟩ := hs
  have sim := s_mean hrel u nv
  obtain ⟨pm, epm⟩ : ∃ t, t = fX5_mean v u := ⟨_, rfl⟩
  refine lv_aload_n hx hb dL_law_1228 rfl (lv_at hl 1 rfl) ?_
  refine tr_rd (va_runV (As := []) (rest := []) ⟨hx, hb, hml, hown, hts⟩ (c_X5_mean l D cI z0 A A2 hd v u) (cwV 0 hts gL_law_X5_mean rfl rfl rfl (by decide +kernel) ⟨Nat.le_of_ble_eq_true rfl, Nat.le_of_ble_eq_true rfl⟩) (tr_preV hK hT.1 rfl hT) rfl rfl hl.1 rfl (lv_room (Nat.le_of_ble_eq_true rfl)) dL_law_1229 ⟨show cells + 0 ≤ 601024 by omega, show slots + 0 ≤ 7293034 by omega⟩) ?_
  rw [← epm] at sim ⊢
  refine lv_dstore (lv' := [(5, .double pm), (0, .ref b), (1, .ref z0), (2, .ref ((mA M) 0)), (3, .ref oa), (4, .int (nI (4 * j)))]) hx hb dL_law_1232 hl (by decide) rfl (fun ls hl => ?_)
  refine lv_aload_n hx hb dL_law_1234 rfl (lv_at hl 3 rfl) ?_
  refine tr_w (va_runV (As := []) (rest := []) ⟨hx, hb, hml, hown, hts⟩ (c_X7_mean l D cI M hMi mv sv nv hrel.mOK) (cwV 0 hts gL_law_X7_mean rfl rfl rfl (by decide +kernel) ⟨Nat.le_of_ble_eq_true rfl, Nat.le_of_ble_eq_true rfl⟩) (tr_preV hK hM.1.c0 rfl hM) rfl rfl hl.1 rfl (lv_room (Nat.le_of_ble_eq_true rfl)) dL_law_1235 ⟨show cells + 0 ≤ 601024 by omega, show slots + 0 ≤ 7293034 by omega⟩) hS hfr.m (fun H locs hM hz hk hS => ?_)
  replace hT := hT.keptM hap hk
  replace hO := hO.keptM hap hk
  rw [← sim.1]
  refine lv_dstore (lv' := [(7, .double pm), (5, .double pm), (0, .ref b), (1, .ref z0), (2, .ref ((mA M) 0)), (3, .ref oa), (4, .int (nI (4 * j)))]) hx hb dL_law_1238 hl (by decide) rfl (fun ls hl => ?_)
  have fin : W p l e room_1 s m #[Value.ref b] below meth c H locs cells slots Q (F0 m 1266 ls []) := by
    refine lv_goto (tgt := 1283) hx hb dL_law_1266 (by decide) ?_
    refine W.widen (k := cells + 151) (n := slots + 1100) (by omega) (by omega) ?_
    exact nx H locs ls ⟨v, u, (fX7_mean mv sv nv).1, (fX7_mean mv sv nv).2.1, (fX7_mean mv sv nv).2.2, _, hT, hM, hO, sim.2, hS⟩ (lv_sub hl [2, 3, 4, 5, 6] rfl)
  refine lv_dload hx hb dL_law_1240 (lv_at hl 1 rfl) ?_
  refine lv_dload hx hb dL_law_1242 (lv_at hl 0 rfl) ?_
  refine lv_dcmp hx hb dL_law_1244 ?_
  refine lv_if_eq (tgt := 1266) hx hb dL_law_1245 (by decide) (fun _ => fin) (fun c1 => ?_)
  refine lv_dload hx hb dL_law_1248 (lv_at hl 1 rfl) ?_
  refine lv_dload hx hb dL_law_1250 (lv_at hl 1 rfl) ?_
  refine lv_dcmp hx hb dL_law_1252 ?_
  refine lv_if_eq (tgt := 1264) hx hb dL_law_1253 (by decide) (fun c2 => absurd c2 c1) (fun _ => ?_)
  refine lv_dload hx hb dL_law_1256 (lv_at hl 0 rfl) ?_
  refine lv_dload hx hb dL_law_1258 (lv_at hl 0 rfl) ?_
  refine lv_dcmp hx hb dL_law_1260 ?_
  exact lv_if_ne (tgt := 1266) hx hb dL_law_1261 (by decide) (fun _ => fin) (fun c2 => absurd c2 c1)
set_option maxHeartbeats 4000000 in
set_option maxRecDepth 100000 in
theorem arm_digest {p : Program} {l : Launch} {e : Env} {s : State} {m : MethodId} {below : List Frame} {meth : Method} {c : Code} {b L : Nat} {xs : Nat → Int32} {D : va_G} {cI cJ : ClassId} {z0 : Nat} {A A2 M : Nat → Nat} {oa : Nat} (K : LC p l s m c b L xs D cI cJ z0 A A2 M oa) {Q : State → Prop} {j : Nat} (hj : 4 * j + 4 ≤ L) (hj2 : j < 600) {H : Heap} {locs : List Loc} {ls : Array Slot} {cells slots : Nat} (hcs : cells + 151 ≤ 601024 ∧ slots + 1100 ≤ 7293034) (hs : LST s D cI cJ z0 A A2 M oa j H locs) (hl : lv_has ls 9 [(0, .ref b), (1, .ref z0), (2, .ref ((mA M) 0)), (3, .ref oa), (4, .int (nI (4 * j)))]) (nx : ∀ (H : Heap) (locs : List Loc) (ls : Array Slot), LST s D cI cJ z0 A A2 M oa (j + 1) H locs → lv_has ls 9 [(0, .ref b), (1, .ref z0), (2, .ref ((mA M) 0)), (3, .ref oa), (4, .int (nI (4 * j)))] → W p l e room_1 s m #[Value.ref b] below meth c H locs (cells + 151) (slots + 1100) Q (F0 m 1283 ls [])) : W p l e room_1 s m #[Value.ref b] below meth c H locs cells slots Q (F0 m 1269 ls []) := by
  obtain ⟨⟨hx, hb, hml, hown, hts⟩, ⟨hX, hbl, hL⟩, hst, ⟨hK, hJ, hH, hXA⟩, ⟨hd, hMi, ho⟩, hap, hfr⟩ := K
  obtain ⟨v, u, mv, sv, nv, y, hT, hM, hO, hrel, hS⟩ := hs
  have sim := s_digest hrel u nv
  obtain ⟨pm, epm⟩ : ∃ t, t = fX5_digest v u := ⟨_, rfl⟩
  refine lv_aload_n hx hb dL_law_1269 rfl (lv_at hl 1 rfl) ?_
  refine tr_rl (va_runV (As := []) (rest := []) ⟨hx, hb, hml, hown, hts⟩ (c_X5_digest l D cI z0 A A2 hd v u) (cwV 0 hts gL_law_X5_digest rfl rfl rfl (by decide +kernel) ⟨Nat.le_of_ble_eq_true rfl, Nat.le_of_ble_eq_true rfl⟩) (tr_preV hK hT.1 rfl hT) rfl rfl hl.1 rfl (lv_room (Nat.le_of_ble_eq_true rfl)) dL_law_1270 ⟨show cells + 0 ≤ 601024 by omega, show slots + 0 ≤ 7293034 by omega⟩) ?_
  rw [← epm] at sim ⊢
  refine lv_aload_n hx hb dL_law_1273 rfl (lv_at hl 2 rfl) ?_
  refine tr_wN (va_runV (As := []) (rest := [.long pm]) ⟨hx, hb, hml, hown, hts⟩ (c_X7_digest l D cI M hMi mv sv nv H.size hrel.mOK hrel.nOK) (cwV 0 hts gL_law_X7_digest rfl rfl rfl (by decide +kernel) ⟨Nat.le_of_ble_eq_true rfl, Nat.le_of_ble_eq_true rfl⟩) (tr_preV hK hM.1.c0 rfl ⟨Nat.le_refl _, hM⟩) rfl rfl hl.1 rfl (lv_room (Nat.le_of_ble_eq_true rfl)) dL_law_1274 ⟨show cells + 149 ≤ 601024 by omega, show slots + 1045 ≤ 7293034 by omega⟩) hS (hfr.n hS) (hfr.n hS) (fun H locs hM hz hk hS => ?_)
  replace hk := kN rfl hk
  replace hT := hT.keptM hap hk
  replace hO := hO.keptM hap hk
  rw [← sim.1]
  have fin : W p l e room_1 s m #[Value.ref b] below meth c H locs (cells + 149) (slots + 1045) Q (F0 m 1283 ls []) := by
    refine W.widen (k := cells + 151) (n := slots + 1100) (by omega) (by omega) ?_
    exact nx H locs ls ⟨v, u, (fX7_digest mv sv nv).1, (fX7_digest mv sv nv).2.1, (fX7_digest mv sv nv).2.2, _, hT, hM, hO, sim.2, hS⟩ hl
  refine W.lcmp hx hb dL_law_1277 ?_
  exact lv_if_eq (tgt := 1283) hx hb dL_law_1278 (by decide) (fun _ => fin) (fun c8 => absurd (lg_cmp_self _) c8)
set_option maxHeartbeats 4000000 in
set_option maxRecDepth 100000 in
/-- the arm that the script's word k names -/
theorem arm_any {p : Program} {l : Launch} {e : Env} {s : State} {m : MethodId} {below : List Frame} {meth : Method} {c : Code} {b L : Nat} {xs : Nat → Int32} {D : va_G} {cI cJ : ClassId} {z0 : Nat} {A A2 M : Nat → Nat} {oa : Nat} (K : LC p l s m c b L xs D cI cJ z0 A A2 M oa) {Q : State → Prop} {j : Nat} (hj : 4 * j + 4 ≤ L) (hj2 : j < 600) {H : Heap} {locs : List Loc} {ls : Array Slot} {cells slots : Nat} (hcs : cells + 151 ≤ 601024 ∧ slots + 1100 ≤ 7293034) (hs : LST s D cI cJ z0 A A2 M oa j H locs) (hl : lv_has ls 9 [(0, .ref b), (1, .ref z0), (2, .ref ((mA M) 0)), (3, .ref oa), (4, .int (nI (4 * j)))]) (nx : ∀ (H : Heap) (locs : List Loc) (ls : Array Slot), LST s D cI cJ z0 A A2 M oa (j + 1) H locs → lv_has ls 9 [(0, .ref b), (1, .ref z0), (2, .ref ((mA M) 0)), (3, .ref oa), (4, .int (nI (4 * j)))] → W p l e room_1 s m #[Value.ref b] below meth c H locs (cells + 151) (slots + 1100) Q (F0 m 1283 ls [])) {k : Nat} (hk : k < 32) : W p l e room_1 s m #[Value.ref b] below meth c H locs cells slots Q (F0 m 39 ls [.int (nI k)]) := by
  have hx := K.1.1
  have hb := K.1.2.1
  by_cases h18 : k ≤ 18
  · rcases (show k = 0 ∨ k = 1 ∨ k = 2 ∨ k = 3 ∨ k = 4 ∨ k = 5 ∨ k = 6 ∨ k = 7 ∨ k = 8 ∨ k = 9 ∨ k = 10 ∨ k = 11 ∨ k = 12 ∨ k = 13 ∨ k = 14 ∨ k = 15 ∨ k = 16 ∨ k = 17 ∨ k = 18 by omega) with rfl | rfl | rfl | rfl | rfl | rfl | rfl | rfl | rfl | rfl | rfl | rfl | rfl | rfl | rfl | rfl | rfl | rfl | rfl
    · exact lv_tableIn (tgt := 128) hx hb dL_law_39 (by decide) (by decide) (off := 89) rfl (by decide) (arm_build K hj hj2 hcs hs hl nx)
    · exact lv_tableIn (tgt := 184) hx hb dL_law_39 (by decide) (by decide) (off := 145) rfl (by decide) (arm_setSlope K hj hj2 hcs hs hl nx)
    · exact lv_tableIn (tgt := 252) hx hb dL_law_39 (by decide) (by decide) (off := 213) rfl (by decide) (arm_cut K hj hj2 hcs hs hl nx)
    · exact lv_tableIn (tgt := 308) hx hb dL_law_39 (by decide) (by decide) (off := 269) rfl (by decide) (arm_setBound K hj hj2 hcs hs hl nx)
    · exact lv_tableIn (tgt := 376) hx hb dL_law_39 (by decide) (by decide) (off := 337) rfl (by decide) (arm_depot K hj hj2 hcs hs hl nx)
    · exact lv_tableIn (tgt := 444) hx hb dL_law_39 (by decide) (by decide) (off := 405) rfl (by decide) (arm_come K hj hj2 hcs hs hl nx)
    · exact lv_tableIn (tgt := 512) hx hb dL_law_39 (by decide) (by decide) (off := 473) rfl (by decide) (arm_put K hj hj2 hcs hs hl nx)
    · exact lv_tableIn (tgt := 608) hx hb dL_law_39 (by decide) (by decide) (off := 569) rfl (by decide) (arm_pole K hj hj2 hcs hs hl nx)
    · exact lv_tableIn (tgt := 676) hx hb dL_law_39 (by decide) (by decide) (off := 637) rfl (by decide) (arm_sectionOf K hj hj2 hcs hs hl nx)
    · exact lv_tableIn (tgt := 732) hx hb dL_law_39 (by decide) (by decide) (off := 693) rfl (by decide) (arm_section K hj hj2 hcs hs hl nx)
    · exact lv_tableIn (tgt := 800) hx hb dL_law_39 (by decide) (by decide) (off := 761) rfl (by decide) (arm_car K hj hj2 hcs hs hl nx)
    · exact lv_tableIn (tgt := 868) hx hb dL_law_39 (by decide) (by decide) (off := 829) rfl (by decide) (arm_pass K hj hj2 hcs hs hl nx)
    · exact lv_tableIn (tgt := 924) hx hb dL_law_39 (by decide) (by decide) (off := 885) rfl (by decide) (arm_count K hj hj2 hcs hs hl nx)
    · exact lv_tableIn (tgt := 980) hx hb dL_law_39 (by decide) (by decide) (off := 941) rfl (by decide) (arm_next K hj hj2 hcs hs hl nx)
    · exact lv_tableIn (tgt := 1036) hx hb dL_law_39 (by decide) (by decide) (off := 997) rfl (by decide) (arm_needs K hj hj2 hcs hs hl nx)
    · exact lv_tableIn (tgt := 1104) hx hb dL_law_39 (by decide) (by decide) (off := 1065) rfl (by decide) (arm_advise K hj hj2 hcs hs hl nx)
    · exact lv_tableIn (tgt := 1160) hx hb dL_law_39 (by decide) (by decide) (off := 1121) rfl (by decide) (arm_foresee K hj hj2 hcs hs hl nx)
    · exact lv_tableIn (tgt := 1228) hx hb dL_law_39 (by decide) (by decide) (off := 1189) rfl (by decide) (arm_mean K hj hj2 hcs hs hl nx)
    · exact lv_tableIn (tgt := 1269) hx hb dL_law_39 (by decide) (by decide) (off := 1230) rfl (by decide) (arm_digest K hj hj2 hcs hs hl nx)
  · have h1 : (nI k).toInt = (k : Int) := nI_toInt (by omega)
    refine lv_tableOut (tgt := 1283) hx hb dL_law_39 (Or.inr (by rw [h1]; omega)) (by decide) ?_
    refine W.widen (k := cells + 151) (n := slots + 1100) (by omega) (by omega) ?_
    exact nx H locs ls hs.up hl
