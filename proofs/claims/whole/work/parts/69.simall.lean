/-! THE SIMULATION, 10: call by call -/
section ZAL
variable {j : Nat} {v mv sv : LV}
theorem s_build (h : REL j v mv sv) (u nv : LV) (po : Int32) : OUT [sIA, sIS] (xX5_build v u po) ((fX7_build mv sv nv po).1.1 0) (rX5_build v u po) (rX7_build mv sv nv po) ∧ REL (j + 1) (fX5_build v u po).1 (fX7_build mv sv nv po).1 (fX7_build mv sv nv po).2.1 := by
  obtain ⟨P, C, S, hR, hV⟩ := h
  have hP := hV.1
  have hC := hR.hC
  have vC := hR.1.2.2.1
  unfold xX5_build fX7_build rX5_build rX7_build fX5_build
  by_cases h1 : fX7_isIn po 3 16 = 0
  · have h1' : ¬ fX5_outside po 3 16 = 0 := fun e => outIn.mp e h1
    simp only [if_pos h1, if_neg h1']
    exact ⟨OUT.ex 0 rfl, REL.of (hR.thr 1) hV⟩
  · have h1' : fX5_outside po 3 16 = 0 := outIn.mpr h1
    simp only [if_neg h1, if_pos h1', hC, vC]
    by_cases h2 : nI C ≤ 0
    · simp only [if_pos h2]
      have hC0 : C = 0 := by
        rcases Nat.eq_zero_or_pos C with z | z
        · exact z
        · exact absurd h2 (nI_nle z (by omega))
      subst hC0
      obtain ⟨p, hp1, hp2, rfl⟩ := inN (a := 3) (b := 16) (by omega) h1 (by omega)
      refine ⟨?_, ?_⟩
      · have e : (itI 16 (bX7_build_53 mv sv nv (nI p)) (lSc (lSc mv 0 0) 1 (nI p))).1 0 = 0 := by
          rw [show itI 16 (bX7_build_53 mv sv nv (nI p)) (lSc (lSc mv 0 0) 1 (nI p)) = _ from fillI (fun _ => 0) 0 (lSc (lSc mv 0 0) 1 (nI p)) 0]
          rfl
        show OUT _ none ((itI 16 (bX7_build_53 mv sv nv (nI p)) (lSc (lSc mv 0 0) 1 (nI p))).1 0) _ _
        rw [e]
        exact OUT.ok (by rw [hR.1.1, hR.hP])
      · have e : itI 16 (bX7_build_53 mv sv nv (nI p)) (lSc (lSc mv 0 0) 1 (nI p)) = lRow (lSc (lSc mv 0 0) 1 (nI p)) 0 (fun k => if k < 16 then 0 else (lSc (lSc mv 0 0) 1 (nI p)).2 0 k) := fillI (fun _ => 0) 0 (lSc (lSc mv 0 0) 1 (nI p)) 0
        show REL (j + 1) (fX3_clear (fX4_lay v (nI p))) (itI 16 (bX7_build_53 mv sv nv (nI p)) (lSc (lSc mv 0 0) 1 (nI p))) (fX6_renew (lSc (lSc mv 0 0) 1 (nI p)) sv)
        rw [e]
        obtain ⟨⟨q3, q16, qC6, qS⟩, hc, hw, hs, hd, ha, hy, hr, hb, hpu, hn, hg⟩ := hV
        have := rl_new (v := v) (sv := sv) (g := 36000 * j) (p := p) (mx := lSc (lSc mv 0 0) 1 (nI p)) (mv := lRow (lSc (lSc mv 0 0) 1 (nI p)) 0 (fun k => if k < 16 then 0 else (lSc (lSc mv 0 0) 1 (nI p)).2 0 k)) ⟨hp1, hp2⟩ vC hR.1.2.2.2.1 hR.1.2.2.2.2.1 hR.1.2.2.2.2.2.1 rfl hC (fun k hk => by
          show (if k < 16 then (0 : Int32) else _) = 0
          rw [if_pos (by omega)]) (fun r h1 h2 k hk => hR.2.2.2.2 r k (by
            rcases r17 (show r < 17 by omega) with rfl | rfl | rfl | rfl | rfl | rfl | rfl | rfl | rfl | rfl | rfl | rfl | rfl | rfl | rfl | rfl | rfl
            all_goals first | exact hk | (exfalso; omega))) (fun k hk => by
            rcases hc k with z | ⟨_, _, z⟩
            · exact z
            · omega) hd (fun k hk => by
            obtain ⟨q, _, e, z⟩ := ha k hk
            rw [e, z (by omega)]; rfl) (fun k hk => by
            obtain ⟨q, _, e, z⟩ := hr k hk
            rw [e, z (by omega)]; rfl) (fun k hk => by
            rcases hb k hk with z | ⟨_, z⟩
            · exact z
            · omega) hpu.1 hg
        exact REL.of this.1 this.2
    · simp only [if_neg h2]
      exact ⟨OUT.ex 1 rfl, REL.of (hR.thr 2) hV⟩
theorem s_setSlope (h : REL j v mv sv) (u nv : LV) (sp sl : Int32) : OUT [sIX, sIA] (xX5_setSlope v u sp sl) ((fX7_setSlope mv sv nv sp sl).1.1 0) (rX5_setSlope v u sp sl) (rX7_setSlope mv sv nv sp sl) ∧ REL (j + 1) (fX5_setSlope v u sp sl).1 (fX7_setSlope mv sv nv sp sl).1 (fX7_setSlope mv sv nv sp sl).2.1 := by
  obtain ⟨P, C, S, hR, hV⟩ := h
  have hP := hV.1
  obtain ⟨e1, e2⟩ := spanE hR hV u nv sp
  unfold xX5_setSlope fX7_setSlope rX5_setSlope rX7_setSlope fX5_setSlope
  simp only [e1, e2]
  by_cases h1 : fX7_isIn sp (nI 0) (nI (P - 2)) = 0
  · have h1' : ¬ fX5_outside sp (nI 0) (nI (P - 2)) = 0 := fun e => outIn.mp e h1
    simp only [if_pos h1, if_neg h1']
    exact ⟨OUT.ex 0 rfl, REL.of (hR.thr 1) hV⟩
  · have h1' : fX5_outside sp (nI 0) (nI (P - 2)) = 0 := outIn.mpr h1
    simp only [if_neg h1, if_pos h1']
    by_cases h2 : fX7_isIn sl (-3) 3 = 0
    · have h2' : ¬ fX5_outside sl (-3) 3 = 0 := fun e => outIn.mp e h2
      simp only [if_pos h2, if_neg h2']
      exact ⟨OUT.ex 1 rfl, REL.of (hR.thr 2) hV⟩
    · have h2' : fX5_outside sl (-3) 3 = 0 := outIn.mpr h2
      simp only [if_neg h2, if_pos h2']
      obtain ⟨k, -, hk, rfl⟩ := inN (by omega) h1 (by omega)
      have e3 : lAt v 0 (nI k) = aAt (lSc mv 0 0) 0 (nI k) := by
        rw [lAt_n (by show k < 15; omega), aAt_n (by omega)]
        exact hR.2.1 k (by omega)
      refine ⟨OUT.ok e3, REL.of (P := P) (C := C) (S := S) ?_ hV⟩
      rw [lSet_n (by show k < 15; omega), aSet_n (by omega)]
      refine ⟨hR.1, fun i hi => ?_, fun i hi => ?_, hR.2.2.2.wl 0 _ rfl⟩
      · show upd (v.2 0) k sl i = upd (mv.2 0) k sl i
        unfold upd
        by_cases e : i = k
        · rw [if_pos e, if_pos e]
        · rw [if_neg e, if_neg e]; exact hR.2.1 i hi
      · exact hR.2.2.1 i hi
theorem s_cut (h : REL j v mv sv) (u nv : LV) (po : Int32) : OUT [sIX, sIS] (xX5_cut v u po) ((fX7_cut mv sv nv po).1.1 0) (rX5_cut v u po) (rX7_cut mv sv nv po) ∧ REL (j + 1) (fX5_cut v u po).1 (fX7_cut mv sv nv po).1 (fX7_cut mv sv nv po).2.1 := by
  obtain ⟨P, C, S, hR, hV⟩ := h
  obtain ⟨e1, e2⟩ := poleE hR hV u nv po
  obtain ⟨e3, e4⟩ := canE hR hV nv po
  unfold xX5_cut fX7_cut rX5_cut rX7_cut fX5_cut
  simp only [e1, e2, e3]
  by_cases h1 : fX7_isIn po (nI 0) (nI (P - 1)) = 0
  · have h1' : ¬ fX5_outside po (nI 0) (nI (P - 1)) = 0 := fun e => outIn.mp e h1
    simp only [if_pos h1, if_neg h1']
    exact ⟨OUT.ex 0 rfl, REL.of (hR.thr 1) hV⟩
  · have h1' : fX5_outside po (nI 0) (nI (P - 1)) = 0 := outIn.mpr h1
    simp only [if_neg h1, if_pos h1']
    by_cases h2 : fX7_canCut (lSc mv 0 0) sv nv po = 0
    · simp only [if_pos h2]
      exact ⟨OUT.ex 1 rfl, REL.of (hR.thr 2) hV⟩
    · simp only [if_neg h2]
      obtain ⟨n, n1, n2, rfl, n4⟩ := e4 h2
      have := rl_cut (hR.thr 0) hV n1 n2 n4
      exact ⟨OUT.ok (by rw [this.1.1.2.1, this.1.hS]), REL.of this.1 this.2⟩
theorem s_setBound (h : REL j v mv sv) (u nv : LV) (q bo : Int32) : OUT [sIX, sIA] (xX5_setBound v u q bo) ((fX7_setBound mv sv nv q bo).1.1 0) (rX5_setBound v u q bo) (rX7_setBound mv sv nv q bo) ∧ REL (j + 1) (fX5_setBound v u q bo).1 (fX7_setBound mv sv nv q bo).1 (fX7_setBound mv sv nv q bo).2.1 := by
  obtain ⟨P, C, S, hR, hV⟩ := h
  have hS := hV.S15
  obtain ⟨e1, e2⟩ := sectE hR hV u nv q
  unfold xX5_setBound fX7_setBound rX5_setBound rX7_setBound fX5_setBound
  simp only [e1, e2]
  by_cases h1 : fX7_isIn q (nI 0) (nI (S - 1)) = 0
  · have h1' : ¬ fX5_outside q (nI 0) (nI (S - 1)) = 0 := fun e => outIn.mp e h1
    simp only [if_pos h1, if_neg h1']
    exact ⟨OUT.ex 0 rfl, REL.of (hR.thr 1) hV⟩
  · have h1' : fX5_outside q (nI 0) (nI (S - 1)) = 0 := outIn.mpr h1
    simp only [if_neg h1, if_pos h1']
    by_cases h2 : fX7_isIn bo 1 60 = 0
    · have h2' : ¬ fX5_outside bo 1 60 = 0 := fun e => outIn.mp e h2
      simp only [if_pos h2, if_neg h2']
      exact ⟨OUT.ex 1 rfl, REL.of (hR.thr 2) hV⟩
    · have h2' : fX5_outside bo 1 60 = 0 := outIn.mpr h2
      simp only [if_neg h2, if_pos h2']
      obtain ⟨k, -, hk, rfl⟩ := inN (by omega) h1 (by omega)
      have hkS : k < S := by omega
      have e3 : lAt v 3 (nI k) = sv.2 3 k := hR.2.2.2.rdn 3 k hkS
      refine ⟨OUT.ok (by rw [e3, aAt_n (by omega)]), REL.of (P := P) (C := C) (S := S) ((hR.thr 0).wr 3 k bo bo hkS (by decide) rfl) ?_⟩
      show IV P C S (36000 * j) (lRow sv 3 _)
      exact hV.free (by omega)
theorem s_depot (h : REL j v mv sv) (u nv : LV) (po nn : Int32) : OUT [sIX, sIA, sIS] (xX5_depot v u po nn) ((fX7_depot mv sv nv po nn).1.1 0) (rX5_depot v u po nn) (rX7_depot mv sv nv po nn) ∧ REL (j + 1) (fX5_depot v u po nn).1 (fX7_depot mv sv nv po nn).1 (fX7_depot mv sv nv po nn).2.1 := by
  obtain ⟨P, C, S, hR, hV⟩ := h
  have hP := hV.1
  obtain ⟨e1, e2⟩ := poleE hR hV u nv po
  unfold xX5_depot fX7_depot rX5_depot rX7_depot fX5_depot
  simp only [e1, e2]
  by_cases h1 : fX7_isIn po (nI 0) (nI (P - 1)) = 0
  · have h1' : ¬ fX5_outside po (nI 0) (nI (P - 1)) = 0 := fun e => outIn.mp e h1
    simp only [if_pos h1, if_neg h1']
    exact ⟨OUT.ex 0 rfl, REL.of (hR.thr 1) hV⟩
  · have h1' : fX5_outside po (nI 0) (nI (P - 1)) = 0 := outIn.mpr h1
    simp only [if_neg h1, if_pos h1']
    by_cases h2 : fX7_isIn nn 0 9 = 0
    · have h2' : ¬ fX5_outside nn 0 9 = 0 := fun e => outIn.mp e h2
      simp only [if_pos h2, if_neg h2']
      exact ⟨OUT.ex 1 rfl, REL.of (hR.thr 2) hV⟩
    · have h2' : fX5_outside nn 0 9 = 0 := outIn.mpr h2
      simp only [if_neg h2, if_pos h2']
      obtain ⟨k, -, hk, rfl⟩ := inN (by omega) h1 (by omega)
      have hk16 : k < 16 := by omega
      have e3 : lAt v 8 (nI k) = aAt sv 2 (nI k) := by
        rw [aAt_n (by omega)]
        exact hR.2.2.2.rdn 8 k hk16
      simp only [e3]
      by_cases h3 : aMax 0 (aAt sv 2 (nI k)) + nn ≤ 9
      · simp only [if_pos h3]
        refine ⟨OUT.ok rfl, REL.of (P := P) (C := C) (S := S) ((hR.thr 0).wr 8 k _ _ hk16 (by decide) rfl) ?_⟩
        show IV P C S (36000 * j) (aSet sv 2 (nI k) _)
        rw [aSet_n (by omega)]
        obtain ⟨h0, hc, hw, hs, hd, ha, hy, hr, hb, hp, hn, hg⟩ := hV
        exact ⟨h0, hc, hw, ivS_upd hs (by omega), hd, ha, hy, hr, hb, hp, hn, hg⟩
      · simp only [if_neg h3]
        exact ⟨OUT.ex 2 rfl, REL.of (hR.thr 3) hV⟩
theorem s_come (h : REL j v mv sv) (u nv : LV) (po nn : Int32) : OUT [sIX, sIA] (xX5_come v u po nn) ((fX7_come mv sv nv po nn).1.1 0) (rX5_come v u po nn) (rX7_come mv sv nv po nn) ∧ REL (j + 1) (fX5_come v u po nn).1 (fX7_come mv sv nv po nn).1 (fX7_come mv sv nv po nn).2.1 := by
  obtain ⟨P, C, S, hR, hV⟩ := h
  have hP := hV.1
  obtain ⟨e1, e2⟩ := poleE hR hV u nv po
  unfold xX5_come fX7_come rX5_come rX7_come fX5_come
  simp only [e1, e2]
  by_cases h1 : fX7_isIn po (nI 0) (nI (P - 1)) = 0
  · have h1' : ¬ fX5_outside po (nI 0) (nI (P - 1)) = 0 := fun e => outIn.mp e h1
    simp only [if_pos h1, if_neg h1']
    exact ⟨OUT.ex 0 rfl, REL.of (hR.thr 1) hV⟩
  · have h1' : fX5_outside po (nI 0) (nI (P - 1)) = 0 := outIn.mpr h1
    simp only [if_neg h1, if_pos h1']
    by_cases h2 : fX7_isIn nn 1 99 = 0
    · have h2' : ¬ fX5_outside nn 1 99 = 0 := fun e => outIn.mp e h2
      simp only [if_pos h2, if_neg h2']
      exact ⟨OUT.ex 1 rfl, REL.of (hR.thr 2) hV⟩
    · have h2' : fX5_outside nn 1 99 = 0 := outIn.mpr h2
      simp only [if_neg h2, if_pos h2']
      obtain ⟨k, -, hk, rfl⟩ := inN (by omega) h1 (by omega)
      obtain ⟨n, n1, n2, rfl⟩ := inN (a := 1) (b := 99) (by omega) h2 (by omega)
      have hk16 : k < 16 := by omega
      have e3 : lAt v 7 (nI k) = aAt sv 0 (nI k) := by
        rw [aAt_n (by omega)]
        exact hR.2.2.2.rdn 7 k hk16
      unfold fX3_welcome
      rw [lAt_same (by exact hk16), e3]
      refine ⟨OUT.ok rfl, REL.of (P := P) (C := C) (S := S) ((hR.thr 0).wr 7 k _ _ hk16 (by decide) rfl) ?_⟩
      show IV P C S (36000 * j) (aSet sv 0 (nI k) _)
      rw [aSet_n (by omega), aAt_n (by omega)]
      obtain ⟨m, m1, m2, -⟩ := hV.2.2.1 k hk16
      refine hV.w (ivW_upd hV.2.2.1 (by omega) ⟨min 99 (m + n), by omega, ?_⟩)
      rw [m2, nI_add]
      exact aMinN (a := 99) (by omega) (by omega)
theorem cn_updC (f : Nat → Int32) (c : Nat) (y x : Int32) : cn (upd f c y) x (c + 1) ≤ cn f x c + (if y = x then 1 else 0) := by
  have h := cn_upd f c y x c
  show cn (upd f c y) x c + (if upd f c y c = x then 1 else 0) ≤ _
  rw [upd_same]
  rw [if_neg (Nat.lt_irrefl c)] at h
  have : (if y = x then 0 else 0) = 0 := by split <;> rfl
  omega
set_option maxHeartbeats 4000000 in
theorem s_put (h : REL j v mv sv) (u nv : LV) (po up wr : Int32) : OUT [sIX, sIA, sIS] (xX5_put v u po up wr) ((fX7_put mv sv nv po up wr).1.1 0) (rX5_put v u po up wr) (rX7_put mv sv nv po up wr) ∧ REL (j + 1) (fX5_put v u po up wr).1 (fX7_put mv sv nv po up wr).1 (fX7_put mv sv nv po up wr).2.1 := by
  obtain ⟨P, C, S, hR, hV⟩ := h
  have hP := hV.1
  obtain ⟨e1, e2⟩ := poleE hR hV u nv po
  have vC := hR.1.2.2.1
  have hC := hR.hC
  unfold xX5_put fX7_put rX5_put rX7_put fX5_put
  simp only [e1, e2, vC, hC]
  by_cases h1 : fX7_isIn po (nI 0) (nI (P - 1)) = 0
  · have h1' : ¬ fX5_outside po (nI 0) (nI (P - 1)) = 0 := fun e => outIn.mp e h1
    simp only [if_pos h1, if_neg h1']
    exact ⟨OUT.ex 0 rfl, REL.of (hR.thr 1) hV⟩
  · have h1' : fX5_outside po (nI 0) (nI (P - 1)) = 0 := outIn.mpr h1
    simp only [if_neg h1, if_pos h1']
    by_cases h2 : fX7_isIn wr 0 99 = 0
    · have h2' : ¬ fX5_outside wr 0 99 = 0 := fun e => outIn.mp e h2
      simp only [if_pos h2, if_neg h2']
      exact ⟨OUT.ex 1 rfl, REL.of (hR.thr 2) hV⟩
    · have h2' : fX5_outside wr 0 99 = 0 := outIn.mpr h2
      simp only [if_neg h2, if_pos h2']
      obtain ⟨k, -, hk, rfl⟩ := inN (by omega) h1 (by omega)
      have c1 := carsV hR (by omega) (nI k)
      have c2 : fX6_carsAt (lSc mv 0 0) sv (nI k) = nI (cn (sv.2 6) (nI k) C) := carsM (mv := lSc mv 0 0) (sv := sv) hC (by omega) (nI k)
      simp only [c1, c2]
      have hn2 := hV.2.2.2.2.2.2.2.2.2.2.1 (nI k)
      by_cases h3 : C = 6
      · have a1 : nI C = 6 := by rw [h3]; rfl
        have a2 : (6 : Int32) ≤ nI C := by rw [h3]; decide
        simp only [if_pos a1, if_pos a2]
        exact ⟨OUT.ex 2 rfl, REL.of (hR.thr 3) hV⟩
      · have a1 : ¬ nI C = 6 := nI_ne (b := 6) (by omega) (by omega) h3
        have a2 : ¬ (6 : Int32) ≤ nI C := nI_ge (b := 6) (by omega) (by omega)
        simp only [if_neg a1, if_neg a2]
        by_cases h4 : cn (sv.2 6) (nI k) C = 2
        · have b1 : nI (cn (sv.2 6) (nI k) C) = 2 := by rw [h4]; rfl
          have b2 : ¬ nI (cn (sv.2 6) (nI k) C) < 2 := by rw [h4]; decide
          simp only [if_pos b1, if_neg b2]
          exact ⟨OUT.ex 2 rfl, REL.of (hR.thr 3) hV⟩
        · have b1 : ¬ nI (cn (sv.2 6) (nI k) C) = 2 := nI_ne (b := 2) (by omega) (by omega) h4
          have b2 : nI (cn (sv.2 6) (nI k) C) < 2 := nI_lt (b := 2) (by omega) (by omega)
          simp only [if_neg b1, if_pos b2]
          have hC6 : C < 6 := by omega
          have key : ∀ (y a : Int32), (y = 1 ∨ y = -1) → a = gv 10 y → REL (j + 1) (lSc (lSet (lSet (lSet (lSet v 9 (nI C) (nI k)) 10 (nI C) a) 12 (nI C) wr) 14 (nI C) (-1)) 2 (nI C + 1)) (lSc (lSc mv 0 0) 2 (nI C + 1)) (aSet (aSet (aSet (aSet sv 6 (nI C) (nI k)) 7 (nI C) y) 9 (nI C) wr) 11 (nI C) (-1)) := by
            intro y a hy ha
            have k1 : ZL P C S 0 (lSet v 9 (nI C) (nI k)) mv (aSet sv 6 (nI C) (nI k)) := hR.wr 9 C _ _ hC6 (by decide) rfl
            have k2 : ZL P C S 0 (lSet (lSet v 9 (nI C) (nI k)) 10 (nI C) a) mv (aSet (aSet sv 6 (nI C) (nI k)) 7 (nI C) y) := k1.wr 10 C _ _ hC6 (by decide) ha
            have k3 : ZL P C S 0 (lSet (lSet (lSet v 9 (nI C) (nI k)) 10 (nI C) a) 12 (nI C) wr) mv (aSet (aSet (aSet sv 6 (nI C) (nI k)) 7 (nI C) y) 9 (nI C) wr) := k2.wr 12 C _ _ hC6 (by decide) rfl
            have k4 : ZL P C S 0 (lSet (lSet (lSet (lSet v 9 (nI C) (nI k)) 10 (nI C) a) 12 (nI C) wr) 14 (nI C) (-1)) mv (aSet (aSet (aSet (aSet sv 6 (nI C) (nI k)) 7 (nI C) y) 9 (nI C) wr) 11 (nI C) (-1)) := k3.wr 14 C _ _ hC6 (by decide) rfl
            refine REL.of (P := P) (C := C + 1) (S := S) ?_ ?_
            · obtain ⟨⟨g1, g2, g3, g4, g5, g6, g7, g8, g9⟩, s2, s3, s4⟩ := k4
              exact ⟨⟨g1, g2, nI_1 C, g4, g5, g6, g7, nI_1 C, g9⟩, s2, s3, s4⟩
            · obtain ⟨⟨q3, q16, qC6, qS⟩, hc, hw, hs, hd, ha2, hy2, hr, hb, hp, hn, hg⟩ := hV
              rw [aSet_n (r := 6) (by omega), aSet_n (r := 7) (by omega), aSet_n (r := 9) (by omega), aSet_n (r := 11) (by omega)]
              refine ⟨⟨q3, q16, by omega, qS⟩, hc, hw, hs, hd, ?_, ?_, ?_, ?_, ⟨?_, ?_, ?_⟩, ?_, hg⟩
              · intro c hc6
                show ∃ q, q < P ∧ upd (sv.2 6) C (nI k) c = nI q ∧ (C + 1 ≤ c → q = 0)
                by_cases e : c = C
                · subst e
                  rw [upd_same]
                  exact ⟨k, by omega, rfl, fun z => absurd z (by omega)⟩
                · rw [upd_ne e]
                  obtain ⟨q, z1, z2, z3⟩ := ha2 c hc6
                  exact ⟨q, z1, z2, fun z => z3 (by omega)⟩
              · intro c hcC
                show upd (sv.2 7) C y c = 1 ∨ upd (sv.2 7) C y c = -1
                by_cases e : c = C
                · subst e
                  rw [upd_same]; exact hy
                · rw [upd_ne e]
                  exact hy2 c (by omega)
              · intro c hc6
                obtain ⟨q, z1, z2, z3⟩ := hr c hc6
                exact ⟨q, z1, z2, fun z => z3 (by omega)⟩
              · intro c hc6
                rcases hb c hc6 with z | ⟨z, z2⟩
                · exact Or.inl z
                · exact Or.inr ⟨z, by omega⟩
              · intro c hc6
                show upd (sv.2 11) C (-1) c = -1 ∨ ∃ p, p < 6 ∧ upd (sv.2 11) C (-1) c = nI p
                by_cases e : c = C
                · subst e
                  rw [upd_same]; exact Or.inl rfl
                · rw [upd_ne e]
                  exact hp.1 c hc6
              · intro c hcC
                show upd (sv.2 11) C (-1) c = -1 ∨ ∃ p, p < C + 1 ∧ upd (sv.2 11) C (-1) c = nI p ∧ sv.2 10 p = 1 ∧ sv.2 10 c = 0
                by_cases e : c = C
                · subst e
                  rw [upd_same]; exact Or.inl rfl
                · rw [upd_ne e]
                  rcases hp.2.1 c (by omega) with z | ⟨p, z1, z2, z3, z4⟩
                  · exact Or.inl z
                  · exact Or.inr ⟨p, by omega, z2, z3, z4⟩
              · intro c d hc1 hd1 e
                have e : upd (sv.2 11) C (-1) c = upd (sv.2 11) C (-1) d := e
                show upd (sv.2 11) C (-1) c = -1 ∨ c = d
                by_cases ec : c = C
                · subst ec
                  rw [upd_same]; exact Or.inl rfl
                · by_cases ed : d = C
                  · subst ed
                    rw [upd_same] at e
                    exact Or.inl e
                  · rw [upd_ne ec, upd_ne ed] at e
                    rw [upd_ne ec]
                    exact hp.2.2 c d (by omega) (by omega) e
              · intro x
                show cn (upd (sv.2 6) C (nI k)) x (C + 1) ≤ 2
                have h5 := cn_updC (sv.2 6) C (nI k) x
                have h6 := hn x
                by_cases e : nI k = x
                · subst e
                  rw [if_pos rfl] at h5
                  omega
                · rw [if_neg e] at h5
                  omega
          have er : (if up = 0 then nI C + 1 - 1 else nI C + 1 - 1) = nI C := by
            rw [nI_1, nI_pred]
            split <;> rfl
          have er2 : rX0_enter v (nI k) up wr = nI C := by
            unfold rX0_enter
            rw [vC]
            split <;> rfl
          unfold fX0_enter
          rw [er, er2, vC]
          by_cases h5 : up = 0
          · simp only [if_pos h5]
            exact ⟨OUT.ok rfl, key (-1) 0 (Or.inr rfl) (by decide)⟩
          · simp only [if_neg h5]
            exact ⟨OUT.ok rfl, key 1 1 (Or.inl rfl) (by decide)⟩
theorem s_pole (h : REL j v mv sv) (u nv : LV) (po wh : Int32) : OUT [sIX] (xX5_pole v u po wh) ((fX7_pole mv sv nv po wh).1.1 0) (rX5_pole v u po wh) (rX7_pole mv sv nv po wh) ∧ REL (j + 1) (fX5_pole v u po wh).1 (fX7_pole mv sv nv po wh).1 (fX7_pole mv sv nv po wh).2.1 := by
  obtain ⟨P, C, S, hR, hV⟩ := h
  have hP := hV.1
  obtain ⟨e1, e2⟩ := poleE hR hV u nv po
  unfold xX5_pole fX7_pole rX5_pole rX7_pole fX5_pole
  simp only [e1, e2]
  by_cases h1 : fX7_isIn po (nI 0) (nI (P - 1)) = 0
  · have h1' : ¬ fX5_outside po (nI 0) (nI (P - 1)) = 0 := fun e => outIn.mp e h1
    simp only [if_pos h1, if_neg h1']
    exact ⟨OUT.ex 0 rfl, REL.of (hR.thr 1) hV⟩
  · have h1' : fX5_outside po (nI 0) (nI (P - 1)) = 0 := outIn.mpr h1
    simp only [if_neg h1, if_pos h1']
    by_cases h2 : fX7_isIn wh 0 3 = 0
    · have h2' : ¬ fX5_outside wh 0 3 = 0 := fun e => outIn.mp e h2
      simp only [if_pos h2, if_neg h2']
      exact ⟨OUT.ex 0 rfl, REL.of (hR.thr 1) hV⟩
    · have h2' : fX5_outside wh 0 3 = 0 := outIn.mpr h2
      simp only [if_neg h2, if_pos h2']
      obtain ⟨k, -, hk, rfl⟩ := inN (by omega) h1 (by omega)
      exact ⟨OUT.ok (toldPole (hR.thr 0) hV nv (by omega) wh), REL.of (hR.thr 0) hV⟩
theorem s_sectionOf (h : REL j v mv sv) (u nv : LV) (sp : Int32) : OUT [sIX] (xX5_sectionOf v u sp) ((fX7_sectionOf mv sv nv sp).1.1 0) (rX5_sectionOf v u sp) (rX7_sectionOf mv sv nv sp) ∧ REL (j + 1) (fX5_sectionOf v u sp).1 (fX7_sectionOf mv sv nv sp).1 (fX7_sectionOf mv sv nv sp).2.1 := by
  obtain ⟨P, C, S, hR, hV⟩ := h
  have hP := hV.1
  obtain ⟨e1, e2⟩ := spanE hR hV u nv sp
  unfold xX5_sectionOf fX7_sectionOf rX5_sectionOf rX7_sectionOf fX5_sectionOf
  simp only [e1, e2]
  by_cases h1 : fX7_isIn sp (nI 0) (nI (P - 2)) = 0
  · have h1' : ¬ fX5_outside sp (nI 0) (nI (P - 2)) = 0 := fun e => outIn.mp e h1
    simp only [if_pos h1, if_neg h1']
    exact ⟨OUT.ex 0 rfl, REL.of (hR.thr 1) hV⟩
  · have h1' : fX5_outside sp (nI 0) (nI (P - 2)) = 0 := outIn.mpr h1
    simp only [if_neg h1, if_pos h1']
    obtain ⟨k, -, hk, rfl⟩ := inN (by omega) h1 (by omega)
    exact ⟨OUT.ok (by rw [secN hV.2.1 k (by omega), lAt_n (by show k < 15; omega), hR.2.2.1 k (by omega)]), REL.of (hR.thr 0) hV⟩
theorem s_section (h : REL j v mv sv) (u nv : LV) (q wh : Int32) : OUT [sIX] (xX5_section v u q wh) ((fX7_section mv sv nv q wh).1.1 0) (rX5_section v u q wh) (rX7_section mv sv nv q wh) ∧ REL (j + 1) (fX5_section v u q wh).1 (fX7_section mv sv nv q wh).1 (fX7_section mv sv nv q wh).2.1 := by
  obtain ⟨P, C, S, hR, hV⟩ := h
  have hS := hV.S15
  obtain ⟨e1, e2⟩ := sectE hR hV u nv q
  unfold xX5_section fX7_section rX5_section rX7_section fX5_section
  simp only [e1, e2]
  by_cases h1 : fX7_isIn q (nI 0) (nI (S - 1)) = 0
  · have h1' : ¬ fX5_outside q (nI 0) (nI (S - 1)) = 0 := fun e => outIn.mp e h1
    simp only [if_pos h1, if_neg h1']
    exact ⟨OUT.ex 0 rfl, REL.of (hR.thr 1) hV⟩
  · have h1' : fX5_outside q (nI 0) (nI (S - 1)) = 0 := outIn.mpr h1
    simp only [if_neg h1, if_pos h1']
    by_cases h2 : fX7_isIn wh 0 5 = 0
    · have h2' : ¬ fX5_outside wh 0 5 = 0 := fun e => outIn.mp e h2
      simp only [if_pos h2, if_neg h2']
      exact ⟨OUT.ex 0 rfl, REL.of (hR.thr 1) hV⟩
    · have h2' : fX5_outside wh 0 5 = 0 := outIn.mpr h2
      simp only [if_neg h2, if_pos h2']
      obtain ⟨k, -, hk, rfl⟩ := inN (by omega) h1 (by omega)
      obtain ⟨n, -, hn, rfl⟩ := inN (a := 0) (b := 5) (by omega) h2 (by omega)
      exact ⟨OUT.ok (toldSection (hR.thr 0) hV nv (by omega) (by omega)), REL.of (hR.thr 0) hV⟩
theorem s_car (h : REL j v mv sv) (u nv : LV) (cr wh : Int32) : OUT [sIX] (xX5_car v u cr wh) ((fX7_car mv sv nv cr wh).1.1 0) (rX5_car v u cr wh) (rX7_car mv sv nv cr wh) ∧ REL (j + 1) (fX5_car v u cr wh).1 (fX7_car mv sv nv cr wh).1 (fX7_car mv sv nv cr wh).2.1 := by
  obtain ⟨P, C, S, hR, hV⟩ := h
  have hP := hV.1
  have vC := hR.1.2.2.1
  have hC := hR.hC
  unfold xX5_car fX7_car rX5_car rX7_car fX5_car
  simp only [vC, hC]
  by_cases h1 : fX7_isIn cr 0 (nI C - 1) = 0
  · have h1' : ¬ fX5_outside cr 0 (nI C - 1) = 0 := fun e => outIn.mp e h1
    simp only [if_pos h1, if_neg h1']
    exact ⟨OUT.ex 0 rfl, REL.of (hR.thr 1) hV⟩
  · have h1' : fX5_outside cr 0 (nI C - 1) = 0 := outIn.mpr h1
    simp only [if_neg h1, if_pos h1']
    by_cases h2 : fX7_isIn wh 0 7 = 0
    · have h2' : ¬ fX5_outside wh 0 7 = 0 := fun e => outIn.mp e h2
      simp only [if_pos h2, if_neg h2']
      exact ⟨OUT.ex 0 rfl, REL.of (hR.thr 1) hV⟩
    · have h2' : fX5_outside wh 0 7 = 0 := outIn.mpr h2
      simp only [if_neg h2, if_pos h2']
      have hC1 : 1 ≤ C := by
        rcases Nat.eq_zero_or_pos C with z | z
        · exfalso
          subst z
          refine h1 ?_
          unfold fX7_isIn
          by_cases z1 : cr < 0
          · rw [if_pos z1]
          · rw [if_neg z1, if_pos]
            have : nI 0 - 1 = -1 := by decide
            rw [this, Int32.lt_iff_toInt_lt, show (-1 : Int32).toInt = -1 by decide]
            rw [Int32.lt_iff_toInt_lt, show (0 : Int32).toInt = 0 by decide] at z1
            omega
        · exact z
      rw [show nI C - 1 = nI (C - 1) from pk_sub (b := 1) hC1] at h1
      obtain ⟨k, -, hk, rfl⟩ := inN (a := 0) (by omega) h1 (by omega)
      obtain ⟨n, -, hn, rfl⟩ := inN (a := 0) (b := 7) (by omega) h2 (by omega)
      exact ⟨OUT.ok (toldCar (hR.thr 0) hV nv (by omega) (by omega)), REL.of (hR.thr 0) hV⟩
theorem s_count (h : REL j v mv sv) (u nv : LV) (wh : Int32) : OUT [sIX] (xX5_count v u wh) ((fX7_count mv sv nv wh).1.1 0) (rX5_count v u wh) (rX7_count mv sv nv wh) ∧ REL (j + 1) (fX5_count v u wh).1 (fX7_count mv sv nv wh).1 (fX7_count mv sv nv wh).2.1 := by
  obtain ⟨P, C, S, hR, hV⟩ := h
  unfold xX5_count fX7_count rX5_count rX7_count fX5_count
  by_cases h2 : fX7_isIn wh 0 10 = 0
  · have h2' : ¬ fX5_outside wh 0 10 = 0 := fun e => outIn.mp e h2
    simp only [if_pos h2, if_neg h2']
    exact ⟨OUT.ex 0 rfl, REL.of (hR.thr 1) hV⟩
  · have h2' : fX5_outside wh 0 10 = 0 := outIn.mpr h2
    simp only [if_neg h2, if_pos h2']
    obtain ⟨n, -, hn, rfl⟩ := inN (a := 0) (b := 10) (by omega) h2 (by omega)
    exact ⟨OUT.ok (toldCount (hR.thr 0) hV nv (by omega)), REL.of (hR.thr 0) hV⟩
end ZAL
