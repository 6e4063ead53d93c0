/-! THE LAW: its arms -/
set_option maxHeartbeats 4000000 in
set_option maxRecDepth 100000 in
theorem arm_build {p : Program} {l : Launch} {e : Env} {s : State} {m : MethodId} {below : List Frame} {meth : Method} {c : Code} {b L : Nat} {xs : Nat → Int32} {D : va_G} {cI cJ : ClassId} {z0 : Nat} {A A2 M : Nat → Nat} {oa : Nat} (K : LC p l s m c b L xs D cI cJ z0 A A2 M oa) {Q : State → Prop} {j : Nat} (hj : 4 * j + 4 ≤ L) (hj2 : j < 600) {H : Heap} {locs : List Loc} {ls : Array Slot} {cells slots : Nat} (hcs : cells + 151 ≤ 601024 ∧ slots + 1100 ≤ 7293034) (hs : LST s D cI cJ z0 A A2 M oa j H locs) (hl : lv_has ls 9 [(0, .ref b), (1, .ref z0), (2, .ref ((mA M) 0)), (3, .ref oa), (4, .int (nI (4 * j)))]) (nx : ∀ (H : Heap) (locs : List Loc) (ls : Array Slot), LST s D cI cJ z0 A A2 M oa (j + 1) H locs → lv_has ls 9 [(0, .ref b), (1, .ref z0), (2, .ref ((mA M) 0)), (3, .ref oa), (4, .int (nI (4 * j)))] → W p l e room_1 s m #[Value.ref b] below meth c H locs (cells + 151) (slots + 1100) Q (F0 m 1283 ls [])): W p l e room_1 s m #[Value.ref b] below meth c H locs cells slots Q (F0 m 128 ls []) := by
  obtain ⟨⟨hx, hb, hml, hown, hts⟩, ⟨hX, hbl, hL⟩, hst, ⟨hK, hJ, hH, hXA⟩, ⟨hd, hMi, ho⟩, hap, hfr⟩ := K
  obtain ⟨v, u, mv, sv, nv, y, hT, hM, hO, hrel, hS⟩ := hs
  have hbA : ¬ lOw s b := Nat.not_le.mpr hbl
  have sim := s_build hrel u nv (xs (nI (4 * j) + 1).toNatClampNeg)
  obtain ⟨t, et⟩ : ∃ t, t = fX7_build mv sv nv (xs (nI (4 * j) + 1).toNatClampNeg) := ⟨_, rfl⟩
  rw [← et] at sim
  obtain ⟨mv1, sv1, nv1⟩ := t
  obtain ⟨x5, ex⟩ : ∃ t, t = xX5_build v u (xs (nI (4 * j) + 1).toNatClampNeg) := ⟨_, rfl⟩
  obtain ⟨r5, er5⟩ : ∃ t, t = rX5_build v u (xs (nI (4 * j) + 1).toNatClampNeg) := ⟨_, rfl⟩
  obtain ⟨r7, er7⟩ : ∃ t, t = rX7_build mv sv nv (xs (nI (4 * j) + 1).toNatClampNeg) := ⟨_, rfl⟩
  obtain ⟨v1, ev1⟩ : ∃ t, t = (fX5_build v u (xs (nI (4 * j) + 1).toNatClampNeg)).1 := ⟨_, rfl⟩
  rw [← ex, ← er5, ← er7, ← ev1] at sim
  obtain ⟨sim1, sim2⟩ := sim
  obtain ⟨hc1, hc2⟩ := OUT_cod (Or.inr (Or.inr (Or.inl rfl))) sim1
  refine lv_aload_n hx hb dL_law_128 rfl (lv_at hl 1 rfl) ?_
  refine lv_aload_n hx hb dL_law_129 rfl (lv_at hl 0 rfl) ?_
  refine lv_iload hx hb dL_law_130 (lv_at hl 4 rfl) ?_
  refine lv_iconst (v := 1) hx hb dL_law_132 (by decide) ?_
  refine lv_iadd hx hb dL_law_133 ?_
  refine va_sld (A := lOw s) hx hb hX hbl hbA hS (vp_sc (k := 1) (by omega) hL) dL_law_134 ?_
  refine lv_aload_n hx hb dL_law_135 rfl (lv_at hl 3 rfl) ?_
  refine tr_wNi (vx_runSW (As := [.ref z0, .int (xs (nI (4 * j) + 1).toNatClampNeg), .ref oa]) (rest := []) ⟨hx, hb, hml, hown, hts⟩ (c_L_build l hst D cI cJ z0 A A2 hd v u (xs (nI (4 * j) + 1).toNatClampNeg) oa y ho) (vx_cwSW 3 hts gL_law_L_build rfl rfl rfl (by decide +kernel) ⟨Nat.le_of_ble_eq_true rfl, Nat.le_of_ble_eq_true rfl⟩) (tr_preSH hK (hXA.at hS) hJ hH ⟨hT, hO⟩) rfl rfl hl.1 rfl (lv_room (Nat.le_of_ble_eq_true rfl)) dL_law_136 ⟨show cells + 1 ≤ 601024 by omega, show slots + 6 ≤ 7293034 by omega⟩) hS hfr.h hfr.h (fun H locs hp hz hk hS => ?_)
  rw [← ex, ← er5, ← ev1] at hp
  rw [← ex]
  obtain ⟨⟨u2, hT⟩, hO⟩ := hp
  replace hM := hM.keptH hap hk
  refine lv_istore (lv' := [(5, .int (cod [sIA, sIS] x5)), (0, .ref b), (1, .ref z0), (2, .ref ((mA M) 0)), (3, .ref oa), (4, .int (nI (4 * j)))]) hx hb dL_law_139 hl (by decide) rfl (fun ls hl => ?_)
  refine lv_aload_n hx hb dL_law_141 rfl (lv_at hl 3 rfl) ?_
  refine lv_aload_n hx hb dL_law_142 rfl (lv_at hl 1 rfl) ?_
  refine lv_iload hx hb dL_law_143 (lv_at hl 5 rfl) ?_
  refine lv_iconst (v := 1) hx hb dL_law_145 (by decide) ?_
  refine lv_iadd hx hb dL_law_146 ?_
  refine va_sld (A := lOw s) hx hb hX hbl hbA hS (vp_sc (k := 1) (by omega) hL) dL_law_147 ?_
  refine tr_wi (va_runV (As := [.int (xs (nI (4 * j) + 1).toNatClampNeg)]) (rest := []) ⟨hx, hb, hml, hown, hts⟩ (c_X7_build l D cI M hMi mv sv nv (xs (nI (4 * j) + 1).toNatClampNeg) ) (cwV 1 hts gL_law_X7_build rfl rfl rfl (by decide +kernel) ⟨Nat.le_of_ble_eq_true rfl, Nat.le_of_ble_eq_true rfl⟩) (tr_preV hK hM.1.c0 rfl hM) rfl rfl hl.1 rfl (lv_room (Nat.le_of_ble_eq_true rfl)) dL_law_148 ⟨show cells + 1 + 0 ≤ 601024 by omega, show slots + 6 + 0 ≤ 7293034 by omega⟩) hS hfr.m (fun H locs hp hz hk hS => ?_)
  rw [← er7]
  rw [← et] at hp
  have hM := hp
  replace hT := hT.keptM hap hk
  replace hO := hO.keptM hap hk
  refine lv_istore (lv' := [(6, .int r7), (5, .int (cod [sIA, sIS] x5)), (0, .ref b), (1, .ref z0), (2, .ref ((mA M) 0)), (3, .ref oa), (4, .int (nI (4 * j)))]) hx hb dL_law_151 hl (by decide) rfl (fun ls hl => ?_)
  refine lv_aload_n hx hb dL_law_153 rfl (lv_at hl 4 rfl) ?_
  refine tr_wi (va_runV (As := []) (rest := []) ⟨hx, hb, hml, hown, hts⟩ (c_X7_thrown l D cI M hMi mv1 sv1 nv1) (cwV 0 hts gL_law_X7_thrown rfl rfl rfl (by decide +kernel) ⟨Nat.le_of_ble_eq_true rfl, Nat.le_of_ble_eq_true rfl⟩) (tr_preV hK hM.1.c0 rfl hM) rfl rfl hl.1 rfl (lv_room (Nat.le_of_ble_eq_true rfl)) dL_law_154 ⟨show cells + 1 + 0 + 0 ≤ 601024 by omega, show slots + 6 + 0 + 0 ≤ 7293034 by omega⟩) hS hfr.m (fun H locs hM hz hk hS => ?_)
  replace hT := hT.keptM hap hk
  replace hO := hO.keptM hap hk
  refine lv_iload hx hb dL_law_157 (lv_at hl 1 rfl) ?_
  refine lv_icmp_eq (tgt := 164) hx hb dL_law_159 (by decide) (fun _ => ?_) (fun c9 => absurd hc1 c9)
  refine lv_iload hx hb dL_law_164 (lv_at hl 1 rfl) ?_
  have fin : W p l e room_1 s m #[Value.ref b] below meth c H locs (cells + 151) (slots + 1100) Q (F0 m 181 ls []) := by
    refine lv_goto (tgt := 1283) hx hb dL_law_181 (by decide) ?_
    exact nx H locs ls ⟨v1, u2, mv1, sv1, nv1, _, hT, hM, hO, sim2, hS⟩ (lv_sub hl [2, 3, 4, 5, 6] rfl)
  refine W.widen (k := cells + 151) (n := slots + 1100) (by omega) (by omega) ?_
  refine lv_if_ne (tgt := 181) hx hb dL_law_166 (by decide) (fun _ => fin) (fun c9 => ?_)
  obtain ⟨hn, hr57⟩ := hc2 c9
  have hO9 : oat D cJ oa (r5.toInt64) H := by rw [if_pos hn] at hO; exact hO
  refine lv_aload_n hx hb dL_law_169 rfl (lv_at hl 5 rfl) ?_
  refine lv_iconst (v := 0) hx hb dL_law_170 (by decide) ?_
  refine va_lald hx hb hJ (tr_one hO9) 0 0 rfl rfl (i := 0) vp00 dL_law_171 ?_
  refine lv_iload hx hb dL_law_172 (lv_at hl 0 rfl) ?_
  refine lv_i2l hx hb dL_law_174 rfl ?_
  refine W.lcmp hx hb dL_law_175 ?_
  exact lv_if_eq (tgt := 181) hx hb dL_law_176 (by decide) (fun _ => fin) (fun c8 => absurd (by rw [hr57]; exact lg_cmp_self _) c8)
set_option maxHeartbeats 4000000 in
set_option maxRecDepth 100000 in
theorem arm_setSlope {p : Program} {l : Launch} {e : Env} {s : State} {m : MethodId} {below : List Frame} {meth : Method} {c : Code} {b L : Nat} {xs : Nat → Int32} {D : va_G} {cI cJ : ClassId} {z0 : Nat} {A A2 M : Nat → Nat} {oa : Nat} (K : LC p l s m c b L xs D cI cJ z0 A A2 M oa) {Q : State → Prop} {j : Nat} (hj : 4 * j + 4 ≤ L) (hj2 : j < 600) {H : Heap} {locs : List Loc} {ls : Array Slot} {cells slots : Nat} (hcs : cells + 151 ≤ 601024 ∧ slots + 1100 ≤ 7293034) (hs : LST s D cI cJ z0 A A2 M oa j H locs) (hl : lv_has ls 9 [(0, .ref b), (1, .ref z0), (2, .ref ((mA M) 0)), (3, .ref oa), (4, .int (nI (4 * j)))]) (nx : ∀ (H : Heap) (locs : List Loc) (ls : Array Slot), LST s D cI cJ z0 A A2 M oa (j + 1) H locs → lv_has ls 9 [(0, .ref b), (1, .ref z0), (2, .ref ((mA M) 0)), (3, .ref oa), (4, .int (nI (4 * j)))] → W p l e room_1 s m #[Value.ref b] below meth c H locs (cells + 151) (slots + 1100) Q (F0 m 1283 ls [])): W p l e room_1 s m #[Value.ref b] below meth c H locs cells slots Q (F0 m 184 ls []) := by
  obtain ⟨⟨hx, hb, hml, hown, hts⟩, ⟨hX, hbl, hL⟩, hst, ⟨hK, hJ, hH, hXA⟩, ⟨hd, hMi, ho⟩, hap, hfr⟩ := K
  obtain ⟨v, u, mv, sv, nv, y, hT, hM, hO, hrel, hS⟩ := hs
  have hbA : ¬ lOw s b := Nat.not_le.mpr hbl
  have sim := s_setSlope hrel u nv (xs (nI (4 * j) + 1).toNatClampNeg) (xs (nI (4 * j) + 2).toNatClampNeg)
  obtain ⟨t, et⟩ : ∃ t, t = fX7_setSlope mv sv nv (xs (nI (4 * j) + 1).toNatClampNeg) (xs (nI (4 * j) + 2).toNatClampNeg) := ⟨_, rfl⟩
  rw [← et] at sim
  obtain ⟨mv1, sv1, nv1⟩ := t
  obtain ⟨x5, ex⟩ : ∃ t, t = xX5_setSlope v u (xs (nI (4 * j) + 1).toNatClampNeg) (xs (nI (4 * j) + 2).toNatClampNeg) := ⟨_, rfl⟩
  obtain ⟨r5, er5⟩ : ∃ t, t = rX5_setSlope v u (xs (nI (4 * j) + 1).toNatClampNeg) (xs (nI (4 * j) + 2).toNatClampNeg) := ⟨_, rfl⟩
  obtain ⟨r7, er7⟩ : ∃ t, t = rX7_setSlope mv sv nv (xs (nI (4 * j) + 1).toNatClampNeg) (xs (nI (4 * j) + 2).toNatClampNeg) := ⟨_, rfl⟩
  obtain ⟨v1, ev1⟩ : ∃ t, t = (fX5_setSlope v u (xs (nI (4 * j) + 1).toNatClampNeg) (xs (nI (4 * j) + 2).toNatClampNeg)).1 := ⟨_, rfl⟩
  rw [← ex, ← er5, ← er7, ← ev1] at sim
  obtain ⟨sim1, sim2⟩ := sim
  obtain ⟨hc1, hc2⟩ := OUT_cod (Or.inr (Or.inr (Or.inr (Or.inl rfl)))) sim1
  refine lv_aload_n hx hb dL_law_184 rfl (lv_at hl 1 rfl) ?_
  refine lv_aload_n hx hb dL_law_185 rfl (lv_at hl 0 rfl) ?_
  refine lv_iload hx hb dL_law_186 (lv_at hl 4 rfl) ?_
  refine lv_iconst (v := 1) hx hb dL_law_188 (by decide) ?_
  refine lv_iadd hx hb dL_law_189 ?_
  refine va_sld (A := lOw s) hx hb hX hbl hbA hS (vp_sc (k := 1) (by omega) hL) dL_law_190 ?_
  refine lv_aload_n hx hb dL_law_191 rfl (lv_at hl 0 rfl) ?_
  refine lv_iload hx hb dL_law_192 (lv_at hl 4 rfl) ?_
  refine lv_iconst (v := 2) hx hb dL_law_194 (by decide) ?_
  refine lv_iadd hx hb dL_law_195 ?_
  refine va_sld (A := lOw s) hx hb hX hbl hbA hS (vp_sc (k := 2) (by omega) hL) dL_law_196 ?_
  refine lv_aload_n hx hb dL_law_197 rfl (lv_at hl 3 rfl) ?_
  refine tr_wNi (vx_runSW (As := [.ref z0, .int (xs (nI (4 * j) + 1).toNatClampNeg), .int (xs (nI (4 * j) + 2).toNatClampNeg), .ref oa]) (rest := []) ⟨hx, hb, hml, hown, hts⟩ (c_L_setSlope l hst D cI cJ z0 A A2 hd v u (xs (nI (4 * j) + 1).toNatClampNeg) (xs (nI (4 * j) + 2).toNatClampNeg) oa y ho) (vx_cwSW 4 hts gL_law_L_setSlope rfl rfl rfl (by decide +kernel) ⟨Nat.le_of_ble_eq_true rfl, Nat.le_of_ble_eq_true rfl⟩) (tr_preSH hK (hXA.at hS) hJ hH ⟨hT, hO⟩) rfl rfl hl.1 rfl (lv_room (Nat.le_of_ble_eq_true rfl)) dL_law_198 ⟨show cells + 1 ≤ 601024 by omega, show slots + 6 ≤ 7293034 by omega⟩) hS hfr.h hfr.h (fun H locs hp hz hk hS => ?_)
  rw [← ex, ← er5, ← ev1] at hp
  rw [← ex]
  obtain ⟨⟨u2, hT⟩, hO⟩ := hp
  replace hM := hM.keptH hap hk
  refine lv_istore (lv' := [(5, .int (cod [sIX, sIA] x5)), (0, .ref b), (1, .ref z0), (2, .ref ((mA M) 0)), (3, .ref oa), (4, .int (nI (4 * j)))]) hx hb dL_law_201 hl (by decide) rfl (fun ls hl => ?_)
  refine lv_aload_n hx hb dL_law_203 rfl (lv_at hl 3 rfl) ?_
  refine lv_aload_n hx hb dL_law_204 rfl (lv_at hl 1 rfl) ?_
  refine lv_iload hx hb dL_law_205 (lv_at hl 5 rfl) ?_
  refine lv_iconst (v := 1) hx hb dL_law_207 (by decide) ?_
  refine lv_iadd hx hb dL_law_208 ?_
  refine va_sld (A := lOw s) hx hb hX hbl hbA hS (vp_sc (k := 1) (by omega) hL) dL_law_209 ?_
  refine lv_aload_n hx hb dL_law_210 rfl (lv_at hl 1 rfl) ?_
  refine lv_iload hx hb dL_law_211 (lv_at hl 5 rfl) ?_
  refine lv_iconst (v := 2) hx hb dL_law_213 (by decide) ?_
  refine lv_iadd hx hb dL_law_214 ?_
  refine va_sld (A := lOw s) hx hb hX hbl hbA hS (vp_sc (k := 2) (by omega) hL) dL_law_215 ?_
  refine tr_wi (va_runV (As := [.int (xs (nI (4 * j) + 1).toNatClampNeg), .int (xs (nI (4 * j) + 2).toNatClampNeg)]) (rest := []) ⟨hx, hb, hml, hown, hts⟩ (c_X7_setSlope l D cI M hMi mv sv nv (xs (nI (4 * j) + 1).toNatClampNeg) (xs (nI (4 * j) + 2).toNatClampNeg) hrel.mOK) (cwV 2 hts gL_law_X7_setSlope rfl rfl rfl (by decide +kernel) ⟨Nat.le_of_ble_eq_true rfl, Nat.le_of_ble_eq_true rfl⟩) (tr_preV hK hM.1.c0 rfl hM) rfl rfl hl.1 rfl (lv_room (Nat.le_of_ble_eq_true rfl)) dL_law_216 ⟨show cells + 1 + 0 ≤ 601024 by omega, show slots + 6 + 0 ≤ 7293034 by omega⟩) hS hfr.m (fun H locs hp hz hk hS => ?_)
  rw [← er7]
  rw [← et] at hp
  have hM := hp
  replace hT := hT.keptM hap hk
  replace hO := hO.keptM hap hk
  refine lv_istore (lv' := [(6, .int r7), (5, .int (cod [sIX, sIA] x5)), (0, .ref b), (1, .ref z0), (2, .ref ((mA M) 0)), (3, .ref oa), (4, .int (nI (4 * j)))]) hx hb dL_law_219 hl (by decide) rfl (fun ls hl => ?_)
  refine lv_aload_n hx hb dL_law_221 rfl (lv_at hl 4 rfl) ?_
  refine tr_wi (va_runV (As := []) (rest := []) ⟨hx, hb, hml, hown, hts⟩ (c_X7_thrown l D cI M hMi mv1 sv1 nv1) (cwV 0 hts gL_law_X7_thrown rfl rfl rfl (by decide +kernel) ⟨Nat.le_of_ble_eq_true rfl, Nat.le_of_ble_eq_true rfl⟩) (tr_preV hK hM.1.c0 rfl hM) rfl rfl hl.1 rfl (lv_room (Nat.le_of_ble_eq_true rfl)) dL_law_222 ⟨show cells + 1 + 0 + 0 ≤ 601024 by omega, show slots + 6 + 0 + 0 ≤ 7293034 by omega⟩) hS hfr.m (fun H locs hM hz hk hS => ?_)
  replace hT := hT.keptM hap hk
  replace hO := hO.keptM hap hk
  refine lv_iload hx hb dL_law_225 (lv_at hl 1 rfl) ?_
  refine lv_icmp_eq (tgt := 232) hx hb dL_law_227 (by decide) (fun _ => ?_) (fun c9 => absurd hc1 c9)
  refine lv_iload hx hb dL_law_232 (lv_at hl 1 rfl) ?_
  have fin : W p l e room_1 s m #[Value.ref b] below meth c H locs (cells + 151) (slots + 1100) Q (F0 m 249 ls []) := by
    refine lv_goto (tgt := 1283) hx hb dL_law_249 (by decide) ?_
    exact nx H locs ls ⟨v1, u2, mv1, sv1, nv1, _, hT, hM, hO, sim2, hS⟩ (lv_sub hl [2, 3, 4, 5, 6] rfl)
  refine W.widen (k := cells + 151) (n := slots + 1100) (by omega) (by omega) ?_
  refine lv_if_ne (tgt := 249) hx hb dL_law_234 (by decide) (fun _ => fin) (fun c9 => ?_)
  obtain ⟨hn, hr57⟩ := hc2 c9
  have hO9 : oat D cJ oa (r5.toInt64) H := by rw [if_pos hn] at hO; exact hO
  refine lv_aload_n hx hb dL_law_237 rfl (lv_at hl 5 rfl) ?_
  refine lv_iconst (v := 0) hx hb dL_law_238 (by decide) ?_
  refine va_lald hx hb hJ (tr_one hO9) 0 0 rfl rfl (i := 0) vp00 dL_law_239 ?_
  refine lv_iload hx hb dL_law_240 (lv_at hl 0 rfl) ?_
  refine lv_i2l hx hb dL_law_242 rfl ?_
  refine W.lcmp hx hb dL_law_243 ?_
  exact lv_if_eq (tgt := 249) hx hb dL_law_244 (by decide) (fun _ => fin) (fun c8 => absurd (by rw [hr57]; exact lg_cmp_self _) c8)
set_option maxHeartbeats 4000000 in
set_option maxRecDepth 100000 in
theorem arm_cut {p : Program} {l : Launch} {e : Env} {s : State} {m : MethodId} {below : List Frame} {meth : Method} {c : Code} {b L : Nat} {xs : Nat → Int32} {D : va_G} {cI cJ : ClassId} {z0 : Nat} {A A2 M : Nat → Nat} {oa : Nat} (K : LC p l s m c b L xs D cI cJ z0 A A2 M oa) {Q : State → Prop} {j : Nat} (hj : 4 * j + 4 ≤ L) (hj2 : j < 600) {H : Heap} {locs : List Loc} {ls : Array Slot} {cells slots : Nat} (hcs : cells + 151 ≤ 601024 ∧ slots + 1100 ≤ 7293034) (hs : LST s D cI cJ z0 A A2 M oa j H locs) (hl : lv_has ls 9 [(0, .ref b), (1, .ref z0), (2, .ref ((mA M) 0)), (3, .ref oa), (4, .int (nI (4 * j)))]) (nx : ∀ (H : Heap) (locs : List Loc) (ls : Array Slot), LST s D cI cJ z0 A A2 M oa (j + 1) H locs → lv_has ls 9 [(0, .ref b), (1, .ref z0), (2, .ref ((mA M) 0)), (3, .ref oa), (4, .int (nI (4 * j)))] → W p l e room_1 s m #[Value.ref b] below meth c H locs (cells + 151) (slots + 1100) Q (F0 m 1283 ls [])): W p l e room_1 s m #[Value.ref b] below meth c H locs cells slots Q (F0 m 252 ls []) := by
  obtain ⟨⟨hx, hb, hml, hown, hts⟩, ⟨hX, hbl, hL⟩, hst, ⟨hK, hJ, hH, hXA⟩, ⟨hd, hMi, ho⟩, hap, hfr⟩ := K
  obtain ⟨v, u, mv, sv, nv, y, hT, hM, hO, hrel, hS⟩ := hs
  have hbA : ¬ lOw s b := Nat.not_le.mpr hbl
  have sim := s_cut hrel u nv (xs (nI (4 * j) + 1).toNatClampNeg)
  obtain ⟨t, et⟩ : ∃ t, t = fX7_cut mv sv nv (xs (nI (4 * j) + 1).toNatClampNeg) := ⟨_, rfl⟩
  rw [← et] at sim
  obtain ⟨mv1, sv1, nv1⟩ := t
  obtain ⟨x5, ex⟩ : ∃ t, t = xX5_cut v u (xs (nI (4 * j) + 1).toNatClampNeg) := ⟨_, rfl⟩
  obtain ⟨r5, er5⟩ : ∃ t, t = rX5_cut v u (xs (nI (4 * j) + 1).toNatClampNeg) := ⟨_, rfl⟩
  obtain ⟨r7, er7⟩ : ∃ t, t = rX7_cut mv sv nv (xs (nI (4 * j) + 1).toNatClampNeg) := ⟨_, rfl⟩
  obtain ⟨v1, ev1⟩ : ∃ t, t = (fX5_cut v u (xs (nI (4 * j) + 1).toNatClampNeg)).1 := ⟨_, rfl⟩
  rw [← ex, ← er5, ← er7, ← ev1] at sim
  obtain ⟨sim1, sim2⟩ := sim
  obtain ⟨hc1, hc2⟩ := OUT_cod (Or.inr (Or.inr (Or.inr (Or.inr (Or.inl rfl))))) sim1
  refine lv_aload_n hx hb dL_law_252 rfl (lv_at hl 1 rfl) ?_
  refine lv_aload_n hx hb dL_law_253 rfl (lv_at hl 0 rfl) ?_
  refine lv_iload hx hb dL_law_254 (lv_at hl 4 rfl) ?_
  refine lv_iconst (v := 1) hx hb dL_law_256 (by decide) ?_
  refine lv_iadd hx hb dL_law_257 ?_
  refine va_sld (A := lOw s) hx hb hX hbl hbA hS (vp_sc (k := 1) (by omega) hL) dL_law_258 ?_
  refine lv_aload_n hx hb dL_law_259 rfl (lv_at hl 3 rfl) ?_
  refine tr_wNi (vx_runSW (As := [.ref z0, .int (xs (nI (4 * j) + 1).toNatClampNeg), .ref oa]) (rest := []) ⟨hx, hb, hml, hown, hts⟩ (c_L_cut l hst D cI cJ z0 A A2 hd v u (xs (nI (4 * j) + 1).toNatClampNeg) oa y ho) (vx_cwSW 3 hts gL_law_L_cut rfl rfl rfl (by decide +kernel) ⟨Nat.le_of_ble_eq_true rfl, Nat.le_of_ble_eq_true rfl⟩) (tr_preSH hK (hXA.at hS) hJ hH ⟨hT, hO⟩) rfl rfl hl.1 rfl (lv_room (Nat.le_of_ble_eq_true rfl)) dL_law_260 ⟨show cells + 1 ≤ 601024 by omega, show slots + 6 ≤ 7293034 by omega⟩) hS hfr.h hfr.h (fun H locs hp hz hk hS => ?_)
  rw [← ex, ← er5, ← ev1] at hp
  rw [← ex]
  obtain ⟨⟨u2, hT⟩, hO⟩ := hp
  replace hM := hM.keptH hap hk
  refine lv_istore (lv' := [(5, .int (cod [sIX, sIS] x5)), (0, .ref b), (1, .ref z0), (2, .ref ((mA M) 0)), (3, .ref oa), (4, .int (nI (4 * j)))]) hx hb dL_law_263 hl (by decide) rfl (fun ls hl => ?_)
  refine lv_aload_n hx hb dL_law_265 rfl (lv_at hl 3 rfl) ?_
  refine lv_aload_n hx hb dL_law_266 rfl (lv_at hl 1 rfl) ?_
  refine lv_iload hx hb dL_law_267 (lv_at hl 5 rfl) ?_
  refine lv_iconst (v := 1) hx hb dL_law_269 (by decide) ?_
  refine lv_iadd hx hb dL_law_270 ?_
  refine va_sld (A := lOw s) hx hb hX hbl hbA hS (vp_sc (k := 1) (by omega) hL) dL_law_271 ?_
  refine tr_wi (va_runV (As := [.int (xs (nI (4 * j) + 1).toNatClampNeg)]) (rest := []) ⟨hx, hb, hml, hown, hts⟩ (c_X7_cut l D cI M hMi mv sv nv (xs (nI (4 * j) + 1).toNatClampNeg) hrel.mOK hrel.cOK hrel.nOK (hrel.hq nv)) (cwV 1 hts gL_law_X7_cut rfl rfl rfl (by decide +kernel) ⟨Nat.le_of_ble_eq_true rfl, Nat.le_of_ble_eq_true rfl⟩) (tr_preV hK hM.1.c0 rfl hM) rfl rfl hl.1 rfl (lv_room (Nat.le_of_ble_eq_true rfl)) dL_law_272 ⟨show cells + 1 + 0 ≤ 601024 by omega, show slots + 6 + 0 ≤ 7293034 by omega⟩) hS hfr.m (fun H locs hp hz hk hS => ?_)
  rw [← er7]
  rw [← et] at hp
  have hM := hp
  replace hT := hT.keptM hap hk
  replace hO := hO.keptM hap hk
  refine lv_istore (lv' := [(6, .int r7), (5, .int (cod [sIX, sIS] x5)), (0, .ref b), (1, .ref z0), (2, .ref ((mA M) 0)), (3, .ref oa), (4, .int (nI (4 * j)))]) hx hb dL_law_275 hl (by decide) rfl (fun ls hl => ?_)
  refine lv_aload_n hx hb dL_law_277 rfl (lv_at hl 4 rfl) ?_
  refine tr_wi (va_runV (As := []) (rest := []) ⟨hx, hb, hml, hown, hts⟩ (c_X7_thrown l D cI M hMi mv1 sv1 nv1) (cwV 0 hts gL_law_X7_thrown rfl rfl rfl (by decide +kernel) ⟨Nat.le_of_ble_eq_true rfl, Nat.le_of_ble_eq_true rfl⟩) (tr_preV hK hM.1.c0 rfl hM) rfl rfl hl.1 rfl (lv_room (Nat.le_of_ble_eq_true rfl)) dL_law_278 ⟨show cells + 1 + 0 + 0 ≤ 601024 by omega, show slots + 6 + 0 + 0 ≤ 7293034 by omega⟩) hS hfr.m (fun H locs hM hz hk hS => ?_)
  replace hT := hT.keptM hap hk
  replace hO := hO.keptM hap hk
  refine lv_iload hx hb dL_law_281 (lv_at hl 1 rfl) ?_
  refine lv_icmp_eq (tgt := 288) hx hb dL_law_283 (by decide) (fun _ => ?_) (fun c9 => absurd hc1 c9)
  refine lv_iload hx hb dL_law_288 (lv_at hl 1 rfl) ?_
  have fin : W p l e room_1 s m #[Value.ref b] below meth c H locs (cells + 151) (slots + 1100) Q (F0 m 305 ls []) := by
    refine lv_goto (tgt := 1283) hx hb dL_law_305 (by decide) ?_
    exact nx H locs ls ⟨v1, u2, mv1, sv1, nv1, _, hT, hM, hO, sim2, hS⟩ (lv_sub hl [2, 3, 4, 5, 6] rfl)
  refine W.widen (k := cells + 151) (n := slots + 1100) (by omega) (by omega) ?_
  refine lv_if_ne (tgt := 305) hx hb dL_law_290 (by decide) (fun _ => fin) (fun c9 => ?_)
  obtain ⟨hn, hr57⟩ := hc2 c9
  have hO9 : oat D cJ oa (r5.toInt64) H := by rw [if_pos hn] at hO; exact hO
  refine lv_aload_n hx hb dL_law_293 rfl (lv_at hl 5 rfl) ?_
  refine lv_iconst (v := 0) hx hb dL_law_294 (by decide) ?_
  refine va_lald hx hb hJ (tr_one hO9) 0 0 rfl rfl (i := 0) vp00 dL_law_295 ?_
  refine lv_iload hx hb dL_law_296 (lv_at hl 0 rfl) ?_
  refine lv_i2l hx hb dL_law_298 rfl ?_
  refine W.lcmp hx hb dL_law_299 ?_
  exact lv_if_eq (tgt := 305) hx hb dL_law_300 (by decide) (fun _ => fin) (fun c8 => absurd (by rw [hr57]; exact lg_cmp_self _) c8)
set_option maxHeartbeats 4000000 in
set_option maxRecDepth 100000 in
theorem arm_setBound {p : Program} {l : Launch} {e : Env} {s : State} {m : MethodId} {below : List Frame} {meth : Method} {c : Code} {b L : Nat} {xs : Nat → Int32} {D : va_G} {cI cJ : ClassId} {z0 : Nat} {A A2 M : Nat → Nat} {oa : Nat} (K : LC p l s m c b L xs D cI cJ z0 A A2 M oa) {Q : State → Prop} {j : Nat} (hj : 4 * j + 4 ≤ L) (hj2 : j < 600) {H : Heap} {locs : List Loc} {ls : Array Slot} {cells slots : Nat} (hcs : cells + 151 ≤ 601024 ∧ slots + 1100 ≤ 7293034) (hs : LST s D cI cJ z0 A A2 M oa j H locs) (hl : lv_has ls 9 [(0, .ref b), (1, .ref z0), (2, .ref ((mA M) 0)), (3, .ref oa), (4, .int (nI (4 * j)))]) (nx : ∀ (H : Heap) (locs : List Loc) (ls : Array Slot), LST s D cI cJ z0 A A2 M oa (j + 1) H locs → lv_has ls 9 [(0, .ref b), (1, .ref z0), (2, .ref ((mA M) 0)), (3, .ref oa), (4, .int (nI (4 * j)))] → W p l e room_1 s m #[Value.ref b] below meth c H locs (cells + 151) (slots + 1100) Q (F0 m 1283 ls [])): W p l e room_1 s m #[Value.ref b] below meth c H locs cells slots Q (F0 m 308 ls []) := by
  obtain ⟨⟨hx, hb, hml, hown, hts⟩, ⟨hX, hbl, hL⟩, hst, ⟨hK, hJ, hH, hXA⟩, ⟨hd, hMi, ho⟩, hap, hfr⟩ := K
  obtain ⟨v, u, mv, sv, nv, y, hT, hM, hO, hrel, hS⟩ := hs
  have hbA : ¬ lOw s b := Nat.not_le.mpr hbl
  have sim := s_setBound hrel u nv (xs (nI (4 * j) + 1).toNatClampNeg) (xs (nI (4 * j) + 2).toNatClampNeg)
  obtain ⟨t, et⟩ : ∃ t, t = fX7_setBound mv sv nv (xs (nI (4 * j) + 1).toNatClampNeg) (xs (nI (4 * j) + 2).toNatClampNeg) := ⟨_, rfl⟩
  rw [← et] at sim
  obtain ⟨mv1, sv1, nv1⟩ := t
  obtain ⟨x5, ex⟩ : ∃ t, t = xX5_setBound v u (xs (nI (4 * j) + 1).toNatClampNeg) (xs (nI (4 * j) + 2).toNatClampNeg) := ⟨_, rfl⟩
  obtain ⟨r5, er5⟩ : ∃ t, t = rX5_setBound v u (xs (nI (4 * j) + 1).toNatClampNeg) (xs (nI (4 * j) + 2).toNatClampNeg) := ⟨_, rfl⟩
  obtain ⟨r7, er7⟩ : ∃ t, t = rX7_setBound mv sv nv (xs (nI (4 * j) + 1).toNatClampNeg) (xs (nI (4 * j) + 2).toNatClampNeg) := ⟨_, rfl⟩
  obtain ⟨v1, ev1⟩ : ∃ t, t = (fX5_setBound v u (xs (nI (4 * j) + 1).toNatClampNeg) (xs (nI (4 * j) + 2).toNatClampNeg)).1 := ⟨_, rfl⟩
  rw [← ex, ← er5, ← er7, ← ev1] at sim
  obtain ⟨sim1, sim2⟩ := sim
  obtain ⟨hc1, hc2⟩ := OUT_cod (Or.inr (Or.inr (Or.inr (Or.inl rfl)))) sim1
  refine lv_aload_n hx hb dL_law_308 rfl (lv_at hl 1 rfl) ?_
  refine lv_aload_n hx hb dL_law_309 rfl (lv_at hl 0 rfl) ?_
  refine lv_iload hx hb dL_law_310 (lv_at hl 4 rfl) ?_
  refine lv_iconst (v := 1) hx hb dL_law_312 (by decide) ?_
  refine lv_iadd hx hb dL_law_313 ?_
  refine va_sld (A := lOw s) hx hb hX hbl hbA hS (vp_sc (k := 1) (by omega) hL) dL_law_314 ?_
  refine lv_aload_n hx hb dL_law_315 rfl (lv_at hl 0 rfl) ?_
  refine lv_iload hx hb dL_law_316 (lv_at hl 4 rfl) ?_
  refine lv_iconst (v := 2) hx hb dL_law_318 (by decide) ?_
  refine lv_iadd hx hb dL_law_319 ?_
  refine va_sld (A := lOw s) hx hb hX hbl hbA hS (vp_sc (k := 2) (by omega) hL) dL_law_320 ?_
  refine lv_aload_n hx hb dL_law_321 rfl (lv_at hl 3 rfl) ?_
  refine tr_wNi (vx_runSW (As := [.ref z0, .int (xs (nI (4 * j) + 1).toNatClampNeg), .int (xs (nI (4 * j) + 2).toNatClampNeg), .ref oa]) (rest := []) ⟨hx, hb, hml, hown, hts⟩ (c_L_setBound l hst D cI cJ z0 A A2 hd v u (xs (nI (4 * j) + 1).toNatClampNeg) (xs (nI (4 * j) + 2).toNatClampNeg) oa y ho) (vx_cwSW 4 hts gL_law_L_setBound rfl rfl rfl (by decide +kernel) ⟨Nat.le_of_ble_eq_true rfl, Nat.le_of_ble_eq_true rfl⟩) (tr_preSH hK (hXA.at hS) hJ hH ⟨hT, hO⟩) rfl rfl hl.1 rfl (lv_room (Nat.le_of_ble_eq_true rfl)) dL_law_322 ⟨show cells + 1 ≤ 601024 by omega, show slots + 6 ≤ 7293034 by omega⟩) hS hfr.h hfr.h (fun H locs hp hz hk hS => ?_)
  rw [← ex, ← er5, ← ev1] at hp
  rw [← ex]
  obtain ⟨⟨u2, hT⟩, hO⟩ := hp
  replace hM := hM.keptH hap hk
  refine lv_istore (lv' := [(5, .int (cod [sIX, sIA] x5)), (0, .ref b), (1, .ref z0), (2, .ref ((mA M) 0)), (3, .ref oa), (4, .int (nI (4 * j)))]) hx hb dL_law_325 hl (by decide) rfl (fun ls hl => ?_)
  refine lv_aload_n hx hb dL_law_327 rfl (lv_at hl 3 rfl) ?_
  refine lv_aload_n hx hb dL_law_328 rfl (lv_at hl 1 rfl) ?_
  refine lv_iload hx hb dL_law_329 (lv_at hl 5 rfl) ?_
  refine lv_iconst (v := 1) hx hb dL_law_331 (by decide) ?_
  refine lv_iadd hx hb dL_law_332 ?_
  refine va_sld (A := lOw s) hx hb hX hbl hbA hS (vp_sc (k := 1) (by omega) hL) dL_law_333 ?_
  refine lv_aload_n hx hb dL_law_334 rfl (lv_at hl 1 rfl) ?_
  refine lv_iload hx hb dL_law_335 (lv_at hl 5 rfl) ?_
  refine lv_iconst (v := 2) hx hb dL_law_337 (by decide) ?_
  refine lv_iadd hx hb dL_law_338 ?_
  refine va_sld (A := lOw s) hx hb hX hbl hbA hS (vp_sc (k := 2) (by omega) hL) dL_law_339 ?_
  refine tr_wi (va_runV (As := [.int (xs (nI (4 * j) + 1).toNatClampNeg), .int (xs (nI (4 * j) + 2).toNatClampNeg)]) (rest := []) ⟨hx, hb, hml, hown, hts⟩ (c_X7_setBound l D cI M hMi mv sv nv (xs (nI (4 * j) + 1).toNatClampNeg) (xs (nI (4 * j) + 2).toNatClampNeg) hrel.mOK hrel.nOK) (cwV 2 hts gL_law_X7_setBound rfl rfl rfl (by decide +kernel) ⟨Nat.le_of_ble_eq_true rfl, Nat.le_of_ble_eq_true rfl⟩) (tr_preV hK hM.1.c0 rfl hM) rfl rfl hl.1 rfl (lv_room (Nat.le_of_ble_eq_true rfl)) dL_law_340 ⟨show cells + 1 + 0 ≤ 601024 by omega, show slots + 6 + 0 ≤ 7293034 by omega⟩) hS hfr.m (fun H locs hp hz hk hS => ?_)
  rw [← er7]
  rw [← et] at hp
  have hM := hp
  replace hT := hT.keptM hap hk
  replace hO := hO.keptM hap hk
  refine lv_istore (lv' := [(6, .int r7), (5, .int (cod [sIX, sIA] x5)), (0, .ref b), (1, .ref z0), (2, .ref ((mA M) 0)), (3, .ref oa), (4, .int (nI (4 * j)))]) hx hb dL_law_343 hl (by decide) rfl (fun ls hl => ?_)
  refine lv_aload_n hx hb dL_law_345 rfl (lv_at hl 4 rfl) ?_
  refine tr_wi (va_runV (As := []) (rest := []) ⟨hx, hb, hml, hown, hts⟩ (c_X7_thrown l D cI M hMi mv1 sv1 nv1) (cwV 0 hts gL_law_X7_thrown rfl rfl rfl (by decide +kernel) ⟨Nat.le_of_ble_eq_true rfl, Nat.le_of_ble_eq_true rfl⟩) (tr_preV hK hM.1.c0 rfl hM) rfl rfl hl.1 rfl (lv_room (Nat.le_of_ble_eq_true rfl)) dL_law_346 ⟨show cells + 1 + 0 + 0 ≤ 601024 by omega, show slots + 6 + 0 + 0 ≤ 7293034 by omega⟩) hS hfr.m (fun H locs hM hz hk hS => ?_)
  replace hT := hT.keptM hap hk
  replace hO := hO.keptM hap hk
  refine lv_iload hx hb dL_law_349 (lv_at hl 1 rfl) ?_
  refine lv_icmp_eq (tgt := 356) hx hb dL_law_351 (by decide) (fun _ => ?_) (fun c9 => absurd hc1 c9)
  refine lv_iload hx hb dL_law_356 (lv_at hl 1 rfl) ?_
  have fin : W p l e room_1 s m #[Value.ref b] below meth c H locs (cells + 151) (slots + 1100) Q (F0 m 373 ls []) := by
    refine lv_goto (tgt := 1283) hx hb dL_law_373 (by decide) ?_
    exact nx H locs ls ⟨v1, u2, mv1, sv1, nv1, _, hT, hM, hO, sim2, hS⟩ (lv_sub hl [2, 3, 4, 5, 6] rfl)
  refine W.widen (k := cells + 151) (n := slots + 1100) (by omega) (by omega) ?_
  refine lv_if_ne (tgt := 373) hx hb dL_law_358 (by decide) (fun _ => fin) (fun c9 => ?_)
  obtain ⟨hn, hr57⟩ := hc2 c9
  have hO9 : oat D cJ oa (r5.toInt64) H := by rw [if_pos hn] at hO; exact hO
  refine lv_aload_n hx hb dL_law_361 rfl (lv_at hl 5 rfl) ?_
  refine lv_iconst (v := 0) hx hb dL_law_362 (by decide) ?_
  refine va_lald hx hb hJ (tr_one hO9) 0 0 rfl rfl (i := 0) vp00 dL_law_363 ?_
  refine lv_iload hx hb dL_law_364 (lv_at hl 0 rfl) ?_
  refine lv_i2l hx hb dL_law_366 rfl ?_
  refine W.lcmp hx hb dL_law_367 ?_
  exact lv_if_eq (tgt := 373) hx hb dL_law_368 (by decide) (fun _ => fin) (fun c8 => absurd (by rw [hr57]; exact lg_cmp_self _) c8)
set_option maxHeartbeats 4000000 in
set_option maxRecDepth 100000 in
theorem arm_depot {p : Program} {l : Launch} {e : Env} {s : State} {m : MethodId} {below : List Frame} {meth : Method} {c : Code} {b L : Nat} {xs : Nat → Int32} {D : va_G} {cI cJ : ClassId} {z0 : Nat} {A A2 M : Nat → Nat} {oa : Nat} (K : LC p l s m c b L xs D cI cJ z0 A A2 M oa) {Q : State → Prop} {j : Nat} (hj : 4 * j + 4 ≤ L) (hj2 : j < 600) {H : Heap} {locs : List Loc} {ls : Array Slot} {cells slots : Nat} (hcs : cells + 151 ≤ 601024 ∧ slots + 1100 ≤ 7293034) (hs : LST s D cI cJ z0 A A2 M oa j H locs) (hl : lv_has ls 9 [(0, .ref b), (1, .ref z0), (2, .ref ((mA M) 0)), (3, .ref oa), (4, .int (nI (4 * j)))]) (nx : ∀ (H : Heap) (locs : List Loc) (ls : Array Slot), LST s D cI cJ z0 A A2 M oa (j + 1) H locs → lv_has ls 9 [(0, .ref b), (1, .ref z0), (2, .ref ((mA M) 0)), (3, .ref oa), (4, .int (nI (4 * j)))] → W p l e room_1 s m #[Value.ref b] below meth c H locs (cells + 151) (slots + 1100) Q (F0 m 1283 ls [])): W p l e room_1 s m #[Value.ref b] below meth c H locs cells slots Q (F0 m 376 ls []) := by
  obtain ⟨⟨hx, hb, hml, hown, hts⟩, ⟨hX, hbl, hL⟩, hst, ⟨hK, hJ, hH, hXA⟩, ⟨hd, hMi, ho⟩, hap, hfr⟩ := K
  obtain ⟨v, u, mv, sv, nv, y, hT, hM, hO, hrel, hS⟩ := hs
  have hbA : ¬ lOw s b := Nat.not_le.mpr hbl
  have sim := s_depot hrel u nv (xs (nI (4 * j) + 1).toNatClampNeg) (xs (nI (4 * j) + 2).toNatClampNeg)
  obtain ⟨t, et⟩ : ∃ t, t = fX7_depot mv sv nv (xs (nI (4 * j) + 1).toNatClampNeg) (xs (nI (4 * j) + 2).toNatClampNeg) := ⟨_, rfl⟩
  rw [← et] at sim
  obtain ⟨mv1, sv1, nv1⟩ := t
  obtain ⟨x5, ex⟩ : ∃ t, t = xX5_depot v u (xs (nI (4 * j) + 1).toNatClampNeg) (xs (nI (4 * j) + 2).toNatClampNeg) := ⟨_, rfl⟩
  obtain ⟨r5, er5⟩ : ∃ t, t = rX5_depot v u (xs (nI (4 * j) + 1).toNatClampNeg) (xs (nI (4 * j) + 2).toNatClampNeg) := ⟨_, rfl⟩
  obtain ⟨r7, er7⟩ : ∃ t, t = rX7_depot mv sv nv (xs (nI (4 * j) + 1).toNatClampNeg) (xs (nI (4 * j) + 2).toNatClampNeg) := ⟨_, rfl⟩
  obtain ⟨v1, ev1⟩ : ∃ t, t = (fX5_depot v u (xs (nI (4 * j) + 1).toNatClampNeg) (xs (nI (4 * j) + 2).toNatClampNeg)).1 := ⟨_, rfl⟩
  rw [← ex, ← er5, ← er7, ← ev1] at sim
  obtain ⟨sim1, sim2⟩ := sim
  obtain ⟨hc1, hc2⟩ := OUT_cod (Or.inr (Or.inr (Or.inr (Or.inr (Or.inr (Or.inr (rfl))))))) sim1
  refine lv_aload_n hx hb dL_law_376 rfl (lv_at hl 1 rfl) ?_
  refine lv_aload_n hx hb dL_law_377 rfl (lv_at hl 0 rfl) ?_
  refine lv_iload hx hb dL_law_378 (lv_at hl 4 rfl) ?_
  refine lv_iconst (v := 1) hx hb dL_law_380 (by decide) ?_
  refine lv_iadd hx hb dL_law_381 ?_
  refine va_sld (A := lOw s) hx hb hX hbl hbA hS (vp_sc (k := 1) (by omega) hL) dL_law_382 ?_
  refine lv_aload_n hx hb dL_law_383 rfl (lv_at hl 0 rfl) ?_
  refine lv_iload hx hb dL_law_384 (lv_at hl 4 rfl) ?_
  refine lv_iconst (v := 2) hx hb dL_law_386 (by decide) ?_
  refine lv_iadd hx hb dL_law_387 ?_
  refine va_sld (A := lOw s) hx hb hX hbl hbA hS (vp_sc (k := 2) (by omega) hL) dL_law_388 ?_
  refine lv_aload_n hx hb dL_law_389 rfl (lv_at hl 3 rfl) ?_
  refine tr_wNi (vx_runSW (As := [.ref z0, .int (xs (nI (4 * j) + 1).toNatClampNeg), .int (xs (nI (4 * j) + 2).toNatClampNeg), .ref oa]) (rest := []) ⟨hx, hb, hml, hown, hts⟩ (c_L_depot l hst D cI cJ z0 A A2 hd v u (xs (nI (4 * j) + 1).toNatClampNeg) (xs (nI (4 * j) + 2).toNatClampNeg) oa y ho) (vx_cwSW 4 hts gL_law_L_depot rfl rfl rfl (by decide +kernel) ⟨Nat.le_of_ble_eq_true rfl, Nat.le_of_ble_eq_true rfl⟩) (tr_preSH hK (hXA.at hS) hJ hH ⟨hT, hO⟩) rfl rfl hl.1 rfl (lv_room (Nat.le_of_ble_eq_true rfl)) dL_law_390 ⟨show cells + 1 ≤ 601024 by omega, show slots + 6 ≤ 7293034 by omega⟩) hS hfr.h hfr.h (fun H locs hp hz hk hS => ?_)
  rw [← ex, ← er5, ← ev1] at hp
  rw [← ex]
  obtain ⟨⟨u2, hT⟩, hO⟩ := hp
  replace hM := hM.keptH hap hk
  refine lv_istore (lv' := [(5, .int (cod [sIX, sIA, sIS] x5)), (0, .ref b), (1, .ref z0), (2, .ref ((mA M) 0)), (3, .ref oa), (4, .int (nI (4 * j)))]) hx hb dL_law_393 hl (by decide) rfl (fun ls hl => ?_)
  refine lv_aload_n hx hb dL_law_395 rfl (lv_at hl 3 rfl) ?_
  refine lv_aload_n hx hb dL_law_396 rfl (lv_at hl 1 rfl) ?_
  refine lv_iload hx hb dL_law_397 (lv_at hl 5 rfl) ?_
  refine lv_iconst (v := 1) hx hb dL_law_399 (by decide) ?_
  refine lv_iadd hx hb dL_law_400 ?_
  refine va_sld (A := lOw s) hx hb hX hbl hbA hS (vp_sc (k := 1) (by omega) hL) dL_law_401 ?_
  refine lv_aload_n hx hb dL_law_402 rfl (lv_at hl 1 rfl) ?_
  refine lv_iload hx hb dL_law_403 (lv_at hl 5 rfl) ?_
  refine lv_iconst (v := 2) hx hb dL_law_405 (by decide) ?_
  refine lv_iadd hx hb dL_law_406 ?_
  refine va_sld (A := lOw s) hx hb hX hbl hbA hS (vp_sc (k := 2) (by omega) hL) dL_law_407 ?_
  refine tr_wi (va_runV (As := [.int (xs (nI (4 * j) + 1).toNatClampNeg), .int (xs (nI (4 * j) + 2).toNatClampNeg)]) (rest := []) ⟨hx, hb, hml, hown, hts⟩ (c_X7_depot l D cI M hMi mv sv nv (xs (nI (4 * j) + 1).toNatClampNeg) (xs (nI (4 * j) + 2).toNatClampNeg) hrel.mOK) (cwV 2 hts gL_law_X7_depot rfl rfl rfl (by decide +kernel) ⟨Nat.le_of_ble_eq_true rfl, Nat.le_of_ble_eq_true rfl⟩) (tr_preV hK hM.1.c0 rfl hM) rfl rfl hl.1 rfl (lv_room (Nat.le_of_ble_eq_true rfl)) dL_law_408 ⟨show cells + 1 + 0 ≤ 601024 by omega, show slots + 6 + 0 ≤ 7293034 by omega⟩) hS hfr.m (fun H locs hp hz hk hS => ?_)
  rw [← er7]
  rw [← et] at hp
  have hM := hp
  replace hT := hT.keptM hap hk
  replace hO := hO.keptM hap hk
  refine lv_istore (lv' := [(6, .int r7), (5, .int (cod [sIX, sIA, sIS] x5)), (0, .ref b), (1, .ref z0), (2, .ref ((mA M) 0)), (3, .ref oa), (4, .int (nI (4 * j)))]) hx hb dL_law_411 hl (by decide) rfl (fun ls hl => ?_)
  refine lv_aload_n hx hb dL_law_413 rfl (lv_at hl 4 rfl) ?_
  refine tr_wi (va_runV (As := []) (rest := []) ⟨hx, hb, hml, hown, hts⟩ (c_X7_thrown l D cI M hMi mv1 sv1 nv1) (cwV 0 hts gL_law_X7_thrown rfl rfl rfl (by decide +kernel) ⟨Nat.le_of_ble_eq_true rfl, Nat.le_of_ble_eq_true rfl⟩) (tr_preV hK hM.1.c0 rfl hM) rfl rfl hl.1 rfl (lv_room (Nat.le_of_ble_eq_true rfl)) dL_law_414 ⟨show cells + 1 + 0 + 0 ≤ 601024 by omega, show slots + 6 + 0 + 0 ≤ 7293034 by omega⟩) hS hfr.m (fun H locs hM hz hk hS => ?_)
  replace hT := hT.keptM hap hk
  replace hO := hO.keptM hap hk
  refine lv_iload hx hb dL_law_417 (lv_at hl 1 rfl) ?_
  refine lv_icmp_eq (tgt := 424) hx hb dL_law_419 (by decide) (fun _ => ?_) (fun c9 => absurd hc1 c9)
  refine lv_iload hx hb dL_law_424 (lv_at hl 1 rfl) ?_
  have fin : W p l e room_1 s m #[Value.ref b] below meth c H locs (cells + 151) (slots + 1100) Q (F0 m 441 ls []) := by
    refine lv_goto (tgt := 1283) hx hb dL_law_441 (by decide) ?_
    exact nx H locs ls ⟨v1, u2, mv1, sv1, nv1, _, hT, hM, hO, sim2, hS⟩ (lv_sub hl [2, 3, 4, 5, 6] rfl)
  refine W.widen (k := cells + 151) (n := slots + 1100) (by omega) (by omega) ?_
  refine lv_if_ne (tgt := 441) hx hb dL_law_426 (by decide) (fun _ => fin) (fun c9 => ?_)
  obtain ⟨hn, hr57⟩ := hc2 c9
  have hO9 : oat D cJ oa (r5.toInt64) H := by rw [if_pos hn] at hO; exact hO
  refine lv_aload_n hx hb dL_law_429 rfl (lv_at hl 5 rfl) ?_
  refine lv_iconst (v := 0) hx hb dL_law_430 (by decide) ?_
  refine va_lald hx hb hJ (tr_one hO9) 0 0 rfl rfl (i := 0) vp00 dL_law_431 ?_
  refine lv_iload hx hb dL_law_432 (lv_at hl 0 rfl) ?_
  refine lv_i2l hx hb dL_law_434 rfl ?_
  refine W.lcmp hx hb dL_law_435 ?_
  exact lv_if_eq (tgt := 441) hx hb dL_law_436 (by decide) (fun _ => fin) (fun c8 => absurd (by rw [hr57]; exact lg_cmp_self _) c8)
set_option maxHeartbeats 4000000 in
set_option maxRecDepth 100000 in
theorem arm_come {p : Program} {l : Launch} {e : Env} {s : State} {m : MethodId} {below : List Frame} {meth : Method} {c : Code} {b L : Nat} {xs : Nat → Int32} {D : va_G} {cI cJ : ClassId} {z0 : Nat} {A A2 M : Nat → Nat} {oa : Nat} (K : LC p l s m c b L xs D cI cJ z0 A A2 M oa) {Q : State → Prop} {j : Nat} (hj : 4 * j + 4 ≤ L) (hj2 : j < 600) {H : Heap} {locs : List Loc} {ls : Array Slot} {cells slots : Nat} (hcs : cells + 151 ≤ 601024 ∧ slots + 1100 ≤ 7293034) (hs : LST s D cI cJ z0 A A2 M oa j H locs) (hl : lv_has ls 9 [(0, .ref b), (1, .ref z0), (2, .ref ((mA M) 0)), (3, .ref oa), (4, .int (nI (4 * j)))]) (nx : ∀ (H : Heap) (locs : List Loc) (ls : Array Slot), LST s D cI cJ z0 A A2 M oa (j + 1) H locs → lv_has ls 9 [(0, .ref b), (1, .ref z0), (2, .ref ((mA M) 0)), (3, .ref oa), (4, .int (nI (4 * j)))] → W p l e room_1 s m #[Value.ref b] below meth c H locs (cells + 151) (slots + 1100) Q (F0 m 1283 ls [])): W p l e room_1 s m #[Value.ref b] below meth c H locs cells slots Q (F0 m 444 ls []) := by
  obtain ⟨⟨hx, hb, hml, hown, hts⟩, ⟨hX, hbl, hL⟩, hst, ⟨hK, hJ, hH, hXA⟩, ⟨hd, hMi, ho⟩, hap, hfr⟩ := K
  obtain ⟨v, u, mv, sv, nv, y, hT, hM, hO, hrel, hS⟩ := hs
  have hbA : ¬ lOw s b := Nat.not_le.mpr hbl
  have sim := s_come hrel u nv (xs (nI (4 * j) + 1).toNatClampNeg) (xs (nI (4 * j) + 2).toNatClampNeg)
  obtain ⟨t, et⟩ : ∃ t, t = fX7_come mv sv nv (xs (nI (4 * j) + 1).toNatClampNeg) (xs (nI (4 * j) + 2).toNatClampNeg) := ⟨_, rfl⟩
  rw [← et] at sim
  obtain ⟨mv1, sv1, nv1⟩ := t
  obtain ⟨x5, ex⟩ : ∃ t, t = xX5_come v u (xs (nI (4 * j) + 1).toNatClampNeg) (xs (nI (4 * j) + 2).toNatClampNeg) := ⟨_, rfl⟩
  obtain ⟨r5, er5⟩ : ∃ t, t = rX5_come v u (xs (nI (4 * j) + 1).toNatClampNeg) (xs (nI (4 * j) + 2).toNatClampNeg) := ⟨_, rfl⟩
  obtain ⟨r7, er7⟩ : ∃ t, t = rX7_come mv sv nv (xs (nI (4 * j) + 1).toNatClampNeg) (xs (nI (4 * j) + 2).toNatClampNeg) := ⟨_, rfl⟩
  obtain ⟨v1, ev1⟩ : ∃ t, t = (fX5_come v u (xs (nI (4 * j) + 1).toNatClampNeg) (xs (nI (4 * j) + 2).toNatClampNeg)).1 := ⟨_, rfl⟩
  rw [← ex, ← er5, ← er7, ← ev1] at sim
  obtain ⟨sim1, sim2⟩ := sim
  obtain ⟨hc1, hc2⟩ := OUT_cod (Or.inr (Or.inr (Or.inr (Or.inl rfl)))) sim1
  refine lv_aload_n hx hb dL_law_444 rfl (lv_at hl 1 rfl) ?_
  refine lv_aload_n hx hb dL_law_445 rfl (lv_at hl 0 rfl) ?_
  refine lv_iload hx hb dL_law_446 (lv_at hl 4 rfl) ?_
  refine lv_iconst (v := 1) hx hb dL_law_448 (by decide) ?_
  refine lv_iadd hx hb dL_law_449 ?_
  refine va_sld (A := lOw s) hx hb hX hbl hbA hS (vp_sc (k := 1) (by omega) hL) dL_law_450 ?_
  refine lv_aload_n hx hb dL_law_451 rfl (lv_at hl 0 rfl) ?_
  refine lv_iload hx hb dL_law_452 (lv_at hl 4 rfl) ?_
  refine lv_iconst (v := 2) hx hb dL_law_454 (by decide) ?_
  refine lv_iadd hx hb dL_law_455 ?_
  refine va_sld (A := lOw s) hx hb hX hbl hbA hS (vp_sc (k := 2) (by omega) hL) dL_law_456 ?_
  refine lv_aload_n hx hb dL_law_457 rfl (lv_at hl 3 rfl) ?_
  refine tr_wNi (vx_runSW (As := [.ref z0, .int (xs (nI (4 * j) + 1).toNatClampNeg), .int (xs (nI (4 * j) + 2).toNatClampNeg), .ref oa]) (rest := []) ⟨hx, hb, hml, hown, hts⟩ (c_L_come l hst D cI cJ z0 A A2 hd v u (xs (nI (4 * j) + 1).toNatClampNeg) (xs (nI (4 * j) + 2).toNatClampNeg) oa y ho) (vx_cwSW 4 hts gL_law_L_come rfl rfl rfl (by decide +kernel) ⟨Nat.le_of_ble_eq_true rfl, Nat.le_of_ble_eq_true rfl⟩) (tr_preSH hK (hXA.at hS) hJ hH ⟨hT, hO⟩) rfl rfl hl.1 rfl (lv_room (Nat.le_of_ble_eq_true rfl)) dL_law_458 ⟨show cells + 1 ≤ 601024 by omega, show slots + 6 ≤ 7293034 by omega⟩) hS hfr.h hfr.h (fun H locs hp hz hk hS => ?_)
  rw [← ex, ← er5, ← ev1] at hp
  rw [← ex]
  obtain ⟨⟨u2, hT⟩, hO⟩ := hp
  replace hM := hM.keptH hap hk
  refine lv_istore (lv' := [(5, .int (cod [sIX, sIA] x5)), (0, .ref b), (1, .ref z0), (2, .ref ((mA M) 0)), (3, .ref oa), (4, .int (nI (4 * j)))]) hx hb dL_law_461 hl (by decide) rfl (fun ls hl => ?_)
  refine lv_aload_n hx hb dL_law_463 rfl (lv_at hl 3 rfl) ?_
  refine lv_aload_n hx hb dL_law_464 rfl (lv_at hl 1 rfl) ?_
  refine lv_iload hx hb dL_law_465 (lv_at hl 5 rfl) ?_
  refine lv_iconst (v := 1) hx hb dL_law_467 (by decide) ?_
  refine lv_iadd hx hb dL_law_468 ?_
  refine va_sld (A := lOw s) hx hb hX hbl hbA hS (vp_sc (k := 1) (by omega) hL) dL_law_469 ?_
  refine lv_aload_n hx hb dL_law_470 rfl (lv_at hl 1 rfl) ?_
  refine lv_iload hx hb dL_law_471 (lv_at hl 5 rfl) ?_
  refine lv_iconst (v := 2) hx hb dL_law_473 (by decide) ?_
  refine lv_iadd hx hb dL_law_474 ?_
  refine va_sld (A := lOw s) hx hb hX hbl hbA hS (vp_sc (k := 2) (by omega) hL) dL_law_475 ?_
  refine tr_wi (va_runV (As := [.int (xs (nI (4 * j) + 1).toNatClampNeg), .int (xs (nI (4 * j) + 2).toNatClampNeg)]) (rest := []) ⟨hx, hb, hml, hown, hts⟩ (c_X7_come l D cI M hMi mv sv nv (xs (nI (4 * j) + 1).toNatClampNeg) (xs (nI (4 * j) + 2).toNatClampNeg) hrel.mOK) (cwV 2 hts gL_law_X7_come rfl rfl rfl (by decide +kernel) ⟨Nat.le_of_ble_eq_true rfl, Nat.le_of_ble_eq_true rfl⟩) (tr_preV hK hM.1.c0 rfl hM) rfl rfl hl.1 rfl (lv_room (Nat.le_of_ble_eq_true rfl)) dL_law_476 ⟨show cells + 1 + 0 ≤ 601024 by omega, show slots + 6 + 0 ≤ 7293034 by omega⟩) hS hfr.m (fun H locs hp hz hk hS => ?_)
  rw [← er7]
  rw [← et] at hp
  have hM := hp
  replace hT := hT.keptM hap hk
  replace hO := hO.keptM hap hk
  refine lv_istore (lv' := [(6, .int r7), (5, .int (cod [sIX, sIA] x5)), (0, .ref b), (1, .ref z0), (2, .ref ((mA M) 0)), (3, .ref oa), (4, .int (nI (4 * j)))]) hx hb dL_law_479 hl (by decide) rfl (fun ls hl => ?_)
  refine lv_aload_n hx hb dL_law_481 rfl (lv_at hl 4 rfl) ?_
  refine tr_wi (va_runV (As := []) (rest := []) ⟨hx, hb, hml, hown, hts⟩ (c_X7_thrown l D cI M hMi mv1 sv1 nv1) (cwV 0 hts gL_law_X7_thrown rfl rfl rfl (by decide +kernel) ⟨Nat.le_of_ble_eq_true rfl, Nat.le_of_ble_eq_true rfl⟩) (tr_preV hK hM.1.c0 rfl hM) rfl rfl hl.1 rfl (lv_room (Nat.le_of_ble_eq_true rfl)) dL_law_482 ⟨show cells + 1 + 0 + 0 ≤ 601024 by omega, show slots + 6 + 0 + 0 ≤ 7293034 by omega⟩) hS hfr.m (fun H locs hM hz hk hS => ?_)
  replace hT := hT.keptM hap hk
  replace hO := hO.keptM hap hk
  refine lv_iload hx hb dL_law_485 (lv_at hl 1 rfl) ?_
  refine lv_icmp_eq (tgt := 492) hx hb dL_law_487 (by decide) (fun _ => ?_) (fun c9 => absurd hc1 c9)
  refine lv_iload hx hb dL_law_492 (lv_at hl 1 rfl) ?_
  have fin : W p l e room_1 s m #[Value.ref b] below meth c H locs (cells + 151) (slots + 1100) Q (F0 m 509 ls []) := by
    refine lv_goto (tgt := 1283) hx hb dL_law_509 (by decide) ?_
    exact nx H locs ls ⟨v1, u2, mv1, sv1, nv1, _, hT, hM, hO, sim2, hS⟩ (lv_sub hl [2, 3, 4, 5, 6] rfl)
  refine W.widen (k := cells + 151) (n := slots + 1100) (by omega) (by omega) ?_
  refine lv_if_ne (tgt := 509) hx hb dL_law_494 (by decide) (fun _ => fin) (fun c9 => ?_)
  obtain ⟨hn, hr57⟩ := hc2 c9
  have hO9 : oat D cJ oa (r5.toInt64) H := by rw [if_pos hn] at hO; exact hO
  refine lv_aload_n hx hb dL_law_497 rfl (lv_at hl 5 rfl) ?_
  refine lv_iconst (v := 0) hx hb dL_law_498 (by decide) ?_
  refine va_lald hx hb hJ (tr_one hO9) 0 0 rfl rfl (i := 0) vp00 dL_law_499 ?_
  refine lv_iload hx hb dL_law_500 (lv_at hl 0 rfl) ?_
  refine lv_i2l hx hb dL_law_502 rfl ?_
  refine W.lcmp hx hb dL_law_503 ?_
  exact lv_if_eq (tgt := 509) hx hb dL_law_504 (by decide) (fun _ => fin) (fun c8 => absurd (by rw [hr57]; exact lg_cmp_self _) c8)
