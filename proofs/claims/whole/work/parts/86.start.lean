/-! THE LAW: its loop, its start -/
set_option maxHeartbeats 4000000 in
set_option maxRecDepth 100000 in
theorem law_loop {p : Program} {l : Launch} {e : Env} {s : State} {m : MethodId} {below : List Frame} {meth : Method} {c : Code} {b L : Nat} {xs : Nat → Int32} {D : va_G} {cI cJ : ClassId} {z0 : Nat} {A A2 M : Nat → Nat} {oa : Nat} (K : LC p l s m c b L xs D cI cJ z0 A A2 M oa) (hr : meth.sig.returnType = ret) (hlocks : meth.locks = false) : ∀ (n j : Nat) (H : Heap) (locs : List Loc) (ls : Array Slot), j + n = 513 → j ≤ 512 → LST s D cI cJ z0 A A2 M oa j H locs → lv_has ls 9 [(0, .ref b), (1, .ref z0), (2, .ref ((mA M) 0)), (3, .ref oa), (4, .int (nI (4 * j)))] → W p l e room_1 s m #[Value.ref b] below meth c H locs (200 + 151 * j) (900 + 1100 * j) (lw_Z below #[Value.ref b] s) (F0 m 23 ls []) := by
  intro n
  induction n with
  | zero => intro j H locs ls h1 h2; omega
  | succ n ih =>
    intro j H locs ls h1 h2 hs hl
    obtain ⟨⟨hx, hb, hml, hown, hts⟩, ⟨hX, hbl, hL⟩, -⟩ := id K
    have hS : tr_S (lOw s) s.heap H locs := by
      obtain ⟨_, _, _, _, _, _, _, _, _, _, hS⟩ := hs
      exact hS
    have hbA : ¬ lOw s b := Nat.not_le.mpr hbl
    refine lv_iload hx hb dL_law_23 (lv_at hl 4 rfl) ?_
    refine lv_aload_n hx hb dL_law_25 rfl (lv_at hl 0 rfl) ?_
    refine va_slen (A := lOw s) hx hb hX hbl hbA hS dL_law_26 ?_
    refine lv_iconst (v := 4) hx hb dL_law_27 (by decide) ?_
    refine lv_isub hx hb dL_law_28 ?_
    have e1 : (Int32.ofNat L - 4).toInt = (L : Int) - 4 := pk_sub_toInt (a := L) (b := 4) (by omega) (by omega)
    have e2 : (nI (4 * j)).toInt = ((4 * j : Nat) : Int) := nI_toInt (by omega)
    refine lv_icmp_gt (tgt := 1289) hx hb dL_law_29 (by decide) (fun c1 => ?_) (fun c1 => ?_)
    · refine lv_iconst (v := 1) hx hb dL_law_1289 (by decide) ?_
      refine va_forget hS.2.2 ?_
      refine W.widen (k := 601024) (n := 7293034) (by omega) (by omega) ?_
      refine W.base ?_
      exact lw_ret (Drawn.sameBut.refl s.drawn lw_cs) hx hb hr hlocks dL_law_1290
    · rw [Int32.lt_iff_toInt_lt, e1, e2] at c1
      have hj : 4 * j + 4 ≤ L := by omega
      refine lv_aload_n hx hb dL_law_32 rfl (lv_at hl 0 rfl) ?_
      refine lv_iload hx hb dL_law_33 (lv_at hl 4 rfl) ?_
      refine va_sld (A := lOw s) hx hb hX hbl hbA hS (vp_in_nI (n := 4 * j) (by omega) (by omega)) dL_law_35 ?_
      refine lv_bipush (v := 31) hx hb dL_law_36 (by decide) ?_
      refine lv_iand hx hb dL_law_38 ?_
      obtain ⟨k, hk, ek⟩ := pk_andE (xs (nI (4 * j)).toNatClampNeg) (m := 31) 5 (by decide)
      rw [ek]
      refine arm_any K hj (by omega) (by omega) hs hl (fun H2 locs2 ls2 hs2 hl2 => ?_) hk
      refine lv_iinc (v := nI (4 * (j + 1))) (lv' := [(4, .int (nI (4 * (j + 1)))), (0, .ref b), (1, .ref z0), (2, .ref ((mA M) 0)), (3, .ref oa)]) hx hb dL_law_1283 hl2 (k := 4) rfl (by rw [show Int32.ofInt 4 = nI 4 from rfl, nI_add]; rfl) (by decide) rfl (fun ls3 hl3 => ?_)
      refine lv_goto (tgt := 23) hx hb dL_law_1286 (by decide) ?_
      have := ih (j + 1) H2 locs2 ls3 (by omega) (by omega) hs2 (lv_sub hl3 [1, 2, 3, 4, 0] rfl)
      rw [show 200 + 151 * (j + 1) = 200 + 151 * j + 151 by omega, show 900 + 1100 * (j + 1) = 900 + 1100 * j + 1100 by omega] at this
      exact this
theorem arr_of {args : Array Value} {s : State} {ty : FieldType} (h : (Cond.arrayClass ty).before args s = true) : ∃ cA : ClassId, ArrOfT s cA ty ∧ s.vm.findClass ("[" ++ ty.toString) = some cA := by
  obtain ⟨cA, kA, comp, h1, h2, h3⟩ := Cond.arrayClass_spec h
  exact ⟨cA, fun n z => ⟨fun k h => (by cases h), kA, h2, comp, h3⟩, h1⟩
theorem tr_newa_l {p : Program} {l : Launch} {e : Env} {R : Room} {s : State} {m : MethodId} {args : Array Value} {below : List Frame} {meth : Method} {c : Code} {H : Heap} {locs : List Loc} {cells slots : Nat} {Q : State → Prop} {cc : ByteArray} {pc : Nat} {ls : Array Slot} {rest : List Value} {D : va_G} {cJ : ClassId} {H0 : Heap} {own0 : Nat → Prop} (hexec : p.tables.exec = Jvm.exec) (hb : c.code = cc) (harr : (Cond.arrayClass .long).before args s = true) (hc : s.vm.findClass ("[" ++ (FieldType.long).toString) = some cJ) (hS : tr_S own0 H0 H locs) (hcells : cells + 1 ≤ R.cells) (hslots : slots + 1 ≤ R.slots) (hdg : decode cc pc = .ok (.newarray .long, 2))
    (kk : ∀ (q : Nat) (H1 : Heap), q = H.size → oat D cJ q 0 H1 → H1.size = H.size + 1 → (∀ x : Nat, x < H.size → H1[x]? = H[x]?) → tr_S own0 H0 H1 locs → W p l e R s m args below meth c H1 locs (cells + 1) (slots + 1) Q (F0 m (pc + 2) ls (.ref q :: rest))) : W p l e R s m args below meth c H locs cells slots Q (F0 m pc ls (.int 1 :: rest)) := by
  refine va_newaK (atype := .long) (n := 1) (N := 1) hexec hb harr rfl hdg rfl (by decide) rfl (by decide) hcells hslots rfl fun H1 cA e1 z1 o1 hAr hNm => ?_
  have e2 : cA = cJ := Option.some.inj (hNm.symm.trans hc)
  subst e2
  refine kk H.size H1 rfl ?_ z1 o1 ⟨Nat.le_trans hS.1 (by omega), fun x h1 h2 => (o1 x (Nat.lt_of_lt_of_le h1 hS.1)).trans (hS.2.1 x h1 h2), hS.2.2⟩
  show H1[H.size]? = some (vp_cell _ _)
  rw [vp_cell_l]
  exact e1
theorem tr_nest_in : ∀ w ∈ tr_nest, w ∈ lw_tbl := by decide +kernel
theorem tr_nest_t : ∀ w ∈ tr_nest, w.onTables = true := by decide +kernel
theorem tr_strs_in : ∀ t ∈ tr_strs, Cond.stringRef RX5 t.1 t.2 ∈ lw_tbl := by decide +kernel
theorem tr_bad_in : ∀ w ∈ tr_bad, w ∈ lw_tbl := by decide +kernel
theorem tr_cst_in : ∀ w ∈ tr_cst, w ∈ lw_tbl := by decide +kernel
theorem tr_ncs_in : ∀ q ∈ tr_ncs, Cond.not (.castable q.1 q.2) ∈ flatC (Jvm.Cond.and given_1 narrow_1) := by decide +kernel
theorem mAd_k {a sz k : Nat} (h : sz = a + 1) : mAd a sz k = a + k := by
  unfold mAd
  by_cases h0 : k = 0
  · rw [if_pos h0, h0]; rfl
  · rw [if_neg h0]; omega
set_option maxHeartbeats 4000000 in
set_option maxRecDepth 100000 in
theorem whole_start {p : Program} {e : Env} {s : State} {m : MethodId} {below : List Frame} {meth : Method} {c : Code} (l : Launch) (hflags : l.flags = flags0) {b L : Nat} {xs : Nat → Int32} (hL : L ≤ 2048) (C0 : lw_At p s m meth c b L xs) : W p l e room_1 s m #[Value.ref b] below meth c s.heap [] 0 0 (lw_Z below #[Value.ref b] s) (entryFrame m ([Value.ref b] : List Value).toArray 9) := by
  obtain ⟨hx, hb, hr, hml, hown, hts0, hX, hbl, hlocks, hgv⟩ := id C0
  have hst : l.stackTraces = false := by
    unfold Launch.stackTraces
    rw [hflags]
    decide +kernel
  have hts : ∀ w ∈ wsL_law, w.before #[Value.ref b] s = true := fun w h => hts0 w (wsL_law_in w h)
  have hflat := flat_of_before _ hgv
  obtain ⟨c0, i0, k0⟩ := u_known (C := RX0) (T := TX0) (N := 9) (n := 9) hts0 inX0 (hts0 (.instantiable RX0 9) (by decide +kernel))
  obtain ⟨c1, i1, k1⟩ := u_known (C := RX1) (T := TX1) (N := 6) (n := 6) hts0 inX1 (hts0 (.instantiable RX1 6) (by decide +kernel))
  obtain ⟨c2, i2, k2⟩ := u_known (C := RX2) (T := TX2) (N := 1) (n := 1) hts0 inX2 (hts0 (.instantiable RX2 1) (by decide +kernel))
  obtain ⟨c3, i3, k3⟩ := u_known (C := RX3) (T := TX3) (N := 2) (n := 2) hts0 inX3 (hts0 (.instantiable RX3 2) (by decide +kernel))
  obtain ⟨c4, i4, k4⟩ := u_known (C := RX4) (T := TX4) (N := 9) (n := 9) hts0 inX4 (hts0 (.instantiable RX4 9) (by decide +kernel))
  obtain ⟨c5, i5, k5⟩ := u_known (C := RX5) (T := TX5) (N := 2) (n := 2) hts0 inX5 (hts0 (.instantiable RX5 2) (by decide +kernel))
  obtain ⟨c6, i6, k6⟩ := u_known (C := RX6) (T := TX6) (N := 19) (n := 19) hts0 inX6 (hts0 (.instantiable RX6 19) (by decide +kernel))
  obtain ⟨c7, i7, k7⟩ := u_known (C := RX7) (T := TX7) (N := 6) (n := 6) hts0 inX7 (hts0 (.instantiable RX7 6) (by decide +kernel))
  obtain ⟨D, hKc⟩ : ∃ D : va_G, ∀ (k : Nat) (q : vw_C), vwCl[k]? = some q → u_Kn s q.1 q.2.1 q.2.2 (D.1 k) (D.2 k) := by
    refine ⟨(fun k => match k with | 0 => c0 | 1 => c1 | 2 => c2 | 3 => c3 | 4 => c4 | 5 => c5 | 6 => c6 | _ => c7, fun k => match k with | 0 => i0 | 1 => i1 | 2 => i2 | 3 => i3 | 4 => i4 | 5 => i5 | 6 => i6 | _ => i7), ?_⟩
    intro k q hq
    match k, hq with
    | 0, hq => cases hq; exact k0
    | 1, hq => cases hq; exact k1
    | 2, hq => cases hq; exact k2
    | 3, hq => cases hq; exact k3
    | 4, hq => cases hq; exact k4
    | 5, hq => cases hq; exact k5
    | 6, hq => cases hq; exact k6
    | 7, hq => cases hq; exact k7
    | k + 8, hq => simp [vwCl] at hq
  obtain ⟨cI, aI, fI⟩ := arr_of (hts0 (.arrayClass .int) (by decide +kernel))
  obtain ⟨cJ, aJ, fJ⟩ := arr_of (hts0 (.arrayClass .long) (by decide +kernel))
  have hK : TK D cI s := ⟨⟨hKc, fun k q h => by
    match k, h with
    | 0, h => cases h; exact ⟨aI, fI⟩
    | k + 1, h => simp at h⟩, fun w hw => va_Nw.of (tr_nest_t w hw) (hts0 w (tr_nest_in w hw))⟩
  have hJ : va_K D vwCl [(cJ, .long)] s := ⟨hKc, fun k q h => by
    match k, h with
    | 0, h => cases h; exact ⟨aJ, fJ⟩
    | k + 1, h => simp at h⟩
  have hH : HK s := ⟨fun w hw => va_tabs (tr_cst_t w hw) rfl (hts0 w (tr_cst_in w hw)), fun q hq => va_Nc.of (hflat _ (tr_ncs_in q hq))⟩
  have hXA : XA s := by
    refine ⟨fun t ht => ?_, fun w hw => va_tabs (tr_bad_t w hw) rfl (hts0 w (tr_bad_in w hw)), ?_, ?_⟩
    · have hw := hts0 _ (tr_strs_in t ht)
      obtain ⟨_, _, _, a, _, _, _, _, _, hev⟩ := Cond.stringRef_spec k5.2.1 hw
      exact ⟨a, vk_R.of hw hev⟩
    · exact vx_Zqof (hts0 _ (show Cond.laysStatic Bundle.tN "UNASSIGNED_STACK" Bundle.steD ∈ lw_tbl by decide +kernel)) (hts0 _ (show Cond.initialized Bundle.tN ∈ lw_tbl by decide +kernel)) (hflat _ (by decide +kernel)) (fun a h => Nat.not_le.mpr h)
    · exact vx_Zqof (hts0 _ (show Cond.laysStatic Bundle.tN "SUPPRESSED_SENTINEL" Bundle.listD ∈ lw_tbl by decide +kernel)) (hts0 _ (show Cond.initialized Bundle.tN ∈ lw_tbl by decide +kernel)) (hflat _ (by decide +kernel)) (fun a h => Nat.not_le.mpr h)
  have hl := lv_entry ([.ref b]) (n := 9) (Nat.le_of_ble_eq_true rfl)
  rw [lg_entry_eq]
  generalize (lg_sl ([.ref b]) ++ List.replicate (9 - (lg_sl ([.ref b])).length) Slot.unset).toArray = ls at hl ⊢
  replace hl : lv_has ls 9 [(0, .ref b)] := hl
  have hS : tr_S (lOw s) s.heap s.heap [] := tr_S.rf
  have ini5 := hts (.initialized RX5) (by decide +kernel)
  have ini7 := hts (.initialized RX7) (by decide +kernel)
  refine tr_newo (C := RX5) (T := TX5) (N := 2) (ci := 5) (fs := [.null, .null]) hx hb hts inlX5 tyX5 tyX5_ok hown (hts (.classLink RL 8 RX5) (by decide +kernel)) (hts (.instantiable RX5 2) (by decide +kernel)) ini5 hK hS rfl (by decide) (show 0 + 1 ≤ 601024 by omega) (show 0 + 2 ≤ 7293034 by omega) dL_law_0 (fun z0 H1 hq hO5 hz1 hk1 hS => ?_)
  have hz2 : H1.size = z0 + 1 := by rw [hz1, hq]
  have hzs : s.heap.size ≤ z0 := Nat.le_of_eq hq.symm
  clear hk1 hz1
  refine lv_dup hx hb dL_law_3 rfl ?_
  refine tr_wN (va_runI (As := []) (rest := [.ref z0]) ⟨hx, hb, hml, hown, hts⟩ (c_X5_init l D cI z0 (z0 + 1)) (cwI 0 hts gL_law_X5_init rfl rfl rfl ini5 (hts (.methodLink RL 69 yX5_init) (by decide +kernel)) (hts (.instanceMethod yX5_init) (by decide +kernel)) rfl (by decide +kernel) ⟨Nat.le_of_ble_eq_true rfl, Nat.le_of_ble_eq_true rfl⟩) (tr_preS hK ⟨hz2, hO5⟩) rfl rfl hl.1 rfl (lv_room (Nat.le_of_ble_eq_true rfl)) dL_law_4 ⟨show 0 + 1 + 76 ≤ 601024 by omega, show 0 + 2 + 458 ≤ 7293034 by omega⟩) hS (fun x h => by rcases h with rfl | h; exact hzs; exact Nat.le_trans hzs (by omega)) (fun x h => by rcases h with rfl | h; exact hzs; exact Nat.le_trans hzs (by omega)) (fun H locs hP hz3 hk3 hS => ?_)
  obtain ⟨A, A2, hd, hT, hAb⟩ := hP
  refine lv_astore_n (lv' := [(1, .ref z0), (0, .ref b)]) hx hb dL_law_7 rfl hl (by decide) rfl (fun ls hl => ?_)
  have hTl0 : z0 < H.size := hT.1.lt
  have hTl1 : ∀ k, k < 38 → A k < H.size := fun k hk => (hT.2.1 k hk).lt
  have hTl2 : ∀ k, k < 38 → A2 k < H.size := fun k hk => (hT.2.2 k hk).lt
  clear hk3 hz3
  refine tr_newo (C := RX7) (T := TX7) (N := 6) (ci := 7) (fs := [.int 0, .int 0, .int 0, .null, .null, .null]) hx hb hts inlX7 tyX7 tyX7_ok hown (hts (.classLink RL 70 RX7) (by decide +kernel)) (hts (.instantiable RX7 6) (by decide +kernel)) ini7 hK hS rfl (by decide) (show 0 + 1 + 76 + 1 ≤ 601024 by omega) (show 0 + 2 + 458 + 6 ≤ 7293034 by omega) dL_law_8 (fun q7 H2 hq7 hO7 hz4 hk4 hS => ?_)
  have hz5 : H2.size = q7 + 1 := by rw [hz4, hq7]
  have hT2 := hT.keptAll hk4
  have h7s : s.heap.size ≤ q7 := by omega
  rw [← hq7] at hTl0 hTl1 hTl2
  clear hk4 hz4
  refine lv_dup hx hb dL_law_11 rfl ?_
  refine tr_wN (va_runI (As := []) (rest := [.ref q7]) ⟨hx, hb, hml, hown, hts⟩ (c_X7_init l D cI q7 (q7 + 1)) (cwI 0 hts gL_law_X7_init rfl rfl rfl ini7 (hts (.methodLink RL 72 yX7_init) (by decide +kernel)) (hts (.instanceMethod yX7_init) (by decide +kernel)) rfl (by decide +kernel) ⟨Nat.le_of_ble_eq_true rfl, Nat.le_of_ble_eq_true rfl⟩) (tr_preS hK ⟨hz5, hO7⟩) rfl rfl hl.1 rfl (lv_room (Nat.le_of_ble_eq_true rfl)) dL_law_12 ⟨show 0 + 1 + 76 + 1 + 31 ≤ 601024 by omega, show 0 + 2 + 458 + 6 + 342 ≤ 7293034 by omega⟩) hS (fun x h => by rcases h with rfl | h; exact h7s; exact Nat.le_trans h7s (by omega)) (fun x h => by rcases h with rfl | h; exact h7s; exact Nat.le_trans h7s (by omega)) (fun H3 locs3 hM hz6 hk6 hS => ?_)
  have hT3 : TRB D cI z0 A A2 (newLine, newLine) H3 := hT2.kept (hk6 _ (by omega) (fun z => by rcases z with z | z <;> omega)) (fun k hk => hk6 _ (by have := hTl1 k hk; omega) (fun z => by have := hTl1 k hk; rcases z with z | z <;> omega)) (fun k hk => hk6 _ (by have := hTl2 k hk; omega) (fun z => by have := hTl2 k hk; rcases z with z | z <;> omega))
  obtain ⟨M, eM⟩ : ∃ M, M = mAd q7 (q7 + 1) := ⟨_, rfl⟩
  rw [← eM] at hM
  have Mk : ∀ k, M k = q7 + k := fun k => by rw [eM]; exact mAd_k rfl
  have e0 : (Value.ref q7) = .ref ((mA M) 0) := by
    have : (mA M) 0 = q7 := by
      show M 0 = q7
      rw [Mk]; rfl
    rw [this]
  rw [e0]
  refine lv_astore_n (lv' := [(2, .ref ((mA M) 0)), (1, .ref z0), (0, .ref b)]) hx hb dL_law_15 rfl hl (by decide) rfl (fun ls hl => ?_)
  refine lv_iconst (v := 1) hx hb dL_law_16 (by decide) ?_
  have hMl : ∀ k, k < 32 → M k < H3.size := fun k hk => by
    by_cases h17 : k < 17
    · have := (hM.1 k h17).lt
      simp only [show mA M k = M k from if_pos h17] at this
      exact this
    · have := (hM.2 (k - 15) (by omega)).lt
      simp only [show nA M (k - 15) = M k by unfold nA; rw [if_neg (by omega), if_pos (by omega), show k - 15 + 15 = k by omega]] at this
      exact this
  refine tr_newa_l (D := D) hx hb (hts (.arrayClass .long) (by decide +kernel)) fJ hS (show 0 + 1 + 76 + 1 + 31 + 1 ≤ 601024 by omega) (show 0 + 2 + 458 + 6 + 342 + 1 ≤ 7293034 by omega) dL_law_17 (fun oa H4 hq9 hO hz7 hk7 hS => ?_)
  have hT4 := hT3.keptAll hk7
  have hM4 : MPT D cI M (zMV, fX6_renew zMV zSV, zSV) H4 := hM.kept (fun k hk hl => hk7 _ hl)
  refine lv_astore_n (lv' := [(3, .ref oa), (2, .ref ((mA M) 0)), (1, .ref z0), (0, .ref b)]) hx hb dL_law_19 rfl hl (by decide) rfl (fun ls hl => ?_)
  refine lv_iconst (v := 0) hx hb dL_law_20 (by decide) ?_
  refine lv_istore (lv' := [(4, .int 0), (3, .ref oa), (2, .ref ((mA M) 0)), (1, .ref z0), (0, .ref b)]) hx hb dL_law_21 hl (by decide) rfl (fun ls hl => ?_)
  have hH3 : q7 + 1 ≤ H3.size := by omega
  have K : LC p l s m c b L xs D cI cJ z0 A A2 M oa := by
    refine ⟨⟨hx, hb, hml, hown, hts⟩, ⟨hX, hbl, hL⟩, hst, ⟨hK, hJ, hH, hXA⟩, ⟨hd, ?_, ⟨by omega, fun k hk => ⟨by have := hTl1 k hk; omega, by have := hTl2 k hk; omega⟩⟩⟩, ?_, ⟨hzs, by omega, fun k hk => ?_, fun k hk => by rw [Mk]; omega⟩⟩
    · intro i hi k hk h
      rw [Mk, Mk] at h
      omega
    · intro k hk
      have h1 := Mk k
      have h2 := hMl k hk
      exact ⟨by omega, by omega, fun i hi => ⟨by have := hTl1 i hi; omega, by have := hTl2 i hi; omega⟩⟩
    · have := hAb k hk
      exact ⟨by omega, by omega⟩
  refine W.widen (k := 200 + 151 * 0) (n := 900 + 1100 * 0) (by omega) (by omega) ?_
  exact law_loop K hr hlocks 513 0 H4 _ ls (by omega) (by omega) ⟨newLine, newLine, zMV, fX6_renew zMV zSV, zSV, 0, hT4, hM4, hO, rel0, hS⟩ (lv_sub hl [4, 3, 2, 1, 0] rfl)
