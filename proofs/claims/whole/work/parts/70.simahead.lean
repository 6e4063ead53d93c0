/-! THE SIMULATION, 11: ticks, and looking ahead -/
section ZAH
variable {P C S g w j : Nat} {v mv sv : LV}
/-- n ticks of both, by any names -/
theorem ticksE (h : ZL P C S 0 v mv sv) (hv : IV P C S g sv) (n : Nat) {f : Nat → LV → LV} {F : Nat → LV → LV} (hf : f = fun _ a => fX1_tickOnce a) (hF : F = fun _ b => fX6_pass (lSc mv 0 0) (fX6_turn (lSc mv 0 0) b)) : ZL P C S 0 (itI n f v) (lSc mv 0 0) (itI n F sv) ∧ IV P C S (g + 180 * n) (itI n F sv) := by
  subst hf hF
  exact rl_ticks n (fun _ _ => rfl) (fun _ _ => rfl) (h.thr 0) hv
theorem gotE (h : ZL P C S w v mv sv) (hv : IV P C S g sv) (hg : g < 2 ^ 30) : ∃ x, x < 2 ^ 30 ∧ v.1 4 = nI x ∧ sv.1 1 = nI x := by
  obtain ⟨x, h1, h2⟩ := hv.2.2.2.2.2.2.2.2.2.2.2 (by omega)
  exact ⟨x, by omega, h.1.2.2.2.2.1.trans h2, h2⟩
theorem s_pass (h : REL j v mv sv) (u nv : LV) (tk : Int32) : OUT [sIA] (xX5_pass v u tk) ((fX7_pass mv sv nv tk).1.1 0) (rX5_pass v u tk) (rX7_pass mv sv nv tk) ∧ REL (j + 1) (fX5_pass v u tk).1 (fX7_pass mv sv nv tk).1 (fX7_pass mv sv nv tk).2.1 := by
  obtain ⟨P, C, S, hR, hV⟩ := h
  unfold xX5_pass fX7_pass rX5_pass rX7_pass fX5_pass
  by_cases h2 : fX7_isIn tk 1 200 = 0
  · have h2' : ¬ fX5_outside tk 1 200 = 0 := fun e => outIn.mp e h2
    simp only [if_pos h2, if_neg h2']
    exact ⟨OUT.ex 0 rfl, REL.of (hR.thr 1) hV⟩
  · have h2' : fX5_outside tk 1 200 = 0 := outIn.mpr h2
    simp only [if_neg h2, if_pos h2']
    obtain ⟨n, n1, n2, rfl⟩ := inN (a := 1) (b := 200) (by omega) h2 (by omega)
    unfold rX1_run fX1_run
    rw [nI_clamp (by omega)]
    have k := ticksE hR hV n (f := bX1_run_7 v (nI n)) (F := bX7_pass_32 mv sv nv (nI n)) rfl rfl
    exact ⟨OUT.ok (by rw [k.1.1.2.2.2.2.1, hR.1.2.2.2.2.1]), P, C, S, k.1, k.2.up (by omega)⟩
theorem s_foresee (h : REL j v mv sv) (u nv : LV) (tk wh : Int32) : OUT [sIA, sIX] (xX5_foresee v u tk wh) ((fX7_foresee mv sv nv tk wh).1.1 0) (rX5_foresee v u tk wh) (rX7_foresee mv sv nv tk wh) ∧ REL (j + 1) (fX5_foresee v u tk wh) (fX7_foresee mv sv nv tk wh).1 (fX7_foresee mv sv nv tk wh).2.1 := by
  obtain ⟨P, C, S, hR, hV⟩ := h
  unfold xX5_foresee fX7_foresee rX5_foresee rX7_foresee fX5_foresee
  by_cases h1 : fX7_isIn tk 1 150 = 0
  · have h1' : ¬ fX5_outside tk 1 150 = 0 := fun e => outIn.mp e h1
    simp only [if_pos h1, if_neg h1']
    exact ⟨OUT.ex 0 rfl, REL.of (hR.thr 1) hV⟩
  · have h1' : fX5_outside tk 1 150 = 0 := outIn.mpr h1
    simp only [if_neg h1, if_pos h1']
    by_cases h2 : fX7_isIn wh 0 2 = 0
    · have h2' : ¬ fX5_outside wh 0 2 = 0 := fun e => outIn.mp e h2
      simp only [if_pos h2, if_neg h2']
      exact ⟨OUT.ex 1 rfl, REL.of (hR.thr 2) hV⟩
    · have h2' : fX5_outside wh 0 2 = 0 := outIn.mpr h2
      simp only [if_neg h2, if_pos h2']
      obtain ⟨n, n1, n2, rfl⟩ := inN (a := 1) (b := 150) (by omega) h1 (by omega)
      have b := rl_become hR hV (lSc mv 0 0) nv
      have k := ticksE b.1 b.2 n (f := bX1_run_7 v (nI n)) (F := tickM (lSc mv 0 0)) rfl rfl
      unfold rX1_run fX1_run
      rw [nI_clamp (by omega)]
      by_cases e0 : wh = 0
      · simp only [if_pos e0]
        exact ⟨OUT.ok (by rw [k.1.1.2.2.2.2.1, hR.1.2.2.2.2.1]), REL.of (hR.thr 0) hV⟩
      · simp only [if_neg e0]
        by_cases e1 : wh = 1
        · simp only [if_pos e1]
          exact ⟨OUT.ok (toldWait k.1 k.2), REL.of (hR.thr 0) hV⟩
        · simp only [if_neg e1]
          exact ⟨OUT.ok (toldBroken k.1 k.2), REL.of (hR.thr 0) hV⟩
theorem s_needs (h : REL j v mv sv) (u nv : LV) (q tk : Int32) : OUT [sIX, sIA] (xX5_needs v u q tk) ((fX7_needs mv sv nv q tk).1.1 0) (rX5_needs v u q tk) (rX7_needs mv sv nv q tk) ∧ REL (j + 1) (fX5_needs v u q tk) (fX7_needs mv sv nv q tk).1 (fX7_needs mv sv nv q tk).2.1 := by
  obtain ⟨P, C, S, hR, hV⟩ := h
  have hS := hV.S15
  obtain ⟨e1, e2⟩ := sectE hR hV u nv q
  unfold xX5_needs fX7_needs rX5_needs rX7_needs fX5_needs
  simp only [e1, e2]
  by_cases h1 : fX7_isIn q (nI 0) (nI (S - 1)) = 0
  · have h1' : ¬ fX5_outside q (nI 0) (nI (S - 1)) = 0 := fun e => outIn.mp e h1
    simp only [if_pos h1, if_neg h1']
    exact ⟨OUT.ex 0 rfl, REL.of (hR.thr 1) hV⟩
  · have h1' : fX5_outside q (nI 0) (nI (S - 1)) = 0 := outIn.mpr h1
    simp only [if_neg h1, if_pos h1']
    by_cases h2 : fX7_isIn tk 1 100 = 0
    · have h2' : ¬ fX5_outside tk 1 100 = 0 := fun e => outIn.mp e h2
      simp only [if_pos h2, if_neg h2']
      exact ⟨OUT.ex 1 rfl, REL.of (hR.thr 2) hV⟩
    · have h2' : fX5_outside tk 1 100 = 0 := outIn.mpr h2
      simp only [if_neg h2, if_pos h2']
      obtain ⟨k, -, hk, rfl⟩ := inN (by omega) h1 (by omega)
      have b := rl_become hR hV (lSc mv 0 0) nv
      refine ⟨OUT.ok (itI_cong _ _ (fun i a _ => ?_)), REL.of (hR.thr 0) hV⟩
      have z := ticksE b.1 b.2 i (f := bX5_needs_54 v u (nI k) tk) (F := bX7_needs_51 mv sv nv (nI k) tk) rfl rfl
      unfold bX5_needs_54_3 bX7_needs_51_3
      rw [lAt_n (by show k < 15; omega), (rl_tick z.1 z.2).1.2.2.2 k (by omega)]
theorem s_next (h : REL j v mv sv) (u nv : LV) (po : Int32) : OUT [sIX] (xX5_next v u po) ((fX7_next mv sv nv po).1 0) (rX5_next v u po) (rX7_next mv sv nv po) ∧ REL (j + 1) (fX5_next v u po) (fX7_next mv sv nv po) sv := by
  obtain ⟨P, C, S, hR, hV⟩ := h
  have hP := hV.1
  have hC := hR.hC
  obtain ⟨e1, e2⟩ := poleE hR hV u nv po
  unfold xX5_next fX7_next rX5_next rX7_next fX5_next
  simp only [e1, e2]
  by_cases h1 : fX7_isIn po (nI 0) (nI (P - 1)) = 0
  · have h1' : ¬ fX5_outside po (nI 0) (nI (P - 1)) = 0 := fun e => outIn.mp e h1
    simp only [if_pos h1, if_neg h1']
    exact ⟨OUT.ex 0 rfl, REL.of (hR.thr 1) hV⟩
  · have h1' : fX5_outside po (nI 0) (nI (P - 1)) = 0 := outIn.mpr h1
    simp only [if_neg h1, if_pos h1']
    have b := rl_become hR hV (lSc mv 0 0) nv
    have key : fstI 150 (bX5_next_31_g v u po) = fstI 150 (bX7_next_32_g mv sv nv po) := by
      have q : ∀ i, bX5_next_31_g v u po i = bX7_next_32_g mv sv nv po i := by
        intro i
        have z := ticksE b.1 b.2 i (f := bX5_next_31 v u po) (F := bX7_next_32 mv sv nv po) rfl rfl
        have t := (rl_tick z.1 z.2).1
        obtain ⟨A, eA⟩ : ∃ A, A = fX1_tickOnce (itI i (bX5_next_31 v u po) v) := ⟨_, rfl⟩
        obtain ⟨B, eB⟩ : ∃ B, B = fX6_pass (lSc mv 0 0) (fX6_turn (lSc mv 0 0) (itI i (bX7_next_32 mv sv nv po) (fX6_become (lSc mv 0 0) nv sv))) := ⟨_, rfl⟩
        rw [← eA, ← eB] at t
        have rel := fstI_rel (f := bX0_hasComeTo_2 A po) (g := bX7_next_55 mv sv nv po i) (fun x y => x = 1 ∧ y = nI (i + 1)) C (fun c hc => by
          have r16 : lAt A 16 (nI c) = B.2 13 c := t.1.2.2.2.rdn 16 c hc
          have r9 : lAt A 9 (nI c) = B.2 6 c := t.1.2.2.2.rdn 9 c (by show c < 6; omega)
          unfold bX0_hasComeTo_2 bX7_next_55
          rw [← eB, r16, r9, aAt_n (by omega), aAt_n (by omega)]
          by_cases h3 : B.2 13 c = 1
          · rw [if_pos h3, if_pos h3]
            by_cases h4 : B.2 6 c = po
            · rw [if_pos h4, if_pos h4]
              exact Or.inr ⟨_, _, rfl, rfl, rfl, rfl⟩
            · rw [if_neg h4, if_neg h4]
              exact Or.inl ⟨rfl, rfl⟩
          · rw [if_neg h3, if_neg h3]
            exact Or.inl ⟨rfl, rfl⟩)
        unfold bX5_next_31_g bX7_next_32_g fX0_hasComeTo
        rw [← eA, t.1.1.2.2.1, hC, nI_clamp (by omega)]
        rcases rel with ⟨r1, r2⟩ | ⟨x, y, r1, r2, rfl, rfl⟩
        · rw [r1, r2]
          show (if (0 : Int32) = 0 then none else some (nI (i + 1))) = _
          rw [if_pos rfl]
        · rw [r1, r2]
          show (if (1 : Int32) = 0 then none else some (nI (i + 1))) = _
          rw [if_neg d10]
      rw [show bX5_next_31_g v u po = bX7_next_32_g mv sv nv po from funext q]
    exact ⟨OUT.ok (by rw [key]), REL.of (hR.thr 0) hV⟩
def aB1 (can RI : Nat → Int32) (i : Nat) (a : Int32) : Int32 := if can i = 0 then a else if RI i ≤ a then a else RI i
def aB2 (can H : Nat → Int32) (i : Nat) (a : Int32) : Int32 := if can i = 0 then a else if a < H i then H i else a
def aB3 (can RI : Nat → Int32) (r0 : Int32) (i : Nat) (a : Int32) : Int32 := if can i = 0 then a else if RI i ≤ itI i (aB1 can RI) r0 then a else nI i
def aB4 (can H : Nat → Int32) (h0 : Int32) (i : Nat) (a : Int32) : Int32 := if can i = 0 then a else if itI i (aB2 can H) h0 < H i then nI i else a
theorem adv_le {G y y' : Nat} {r a : Int32} (h1 : r.toInt = (y' : Int) - G) (h2 : a.toInt = (y : Int) - G) (hy : y < 2 ^ 30) (hy' : y' < 2 ^ 30) : r ≤ a ↔ ¬ nI y < nI y' := by
  rw [Int32.le_iff_toInt_le, h1, h2, nI_ltI (by omega) (by omega)]
  omega
theorem adv_most {can RI H : Nat → Int32} {G : Nat} (hh : ∀ i, ¬ can i = 0 → ∃ y, y < 2 ^ 30 ∧ H i = nI y ∧ (RI i).toInt = (y : Int) - G) {r0 h0 : Int32} (hs : ∃ y, y < 2 ^ 30 ∧ h0 = nI y ∧ r0.toInt = (y : Int) - G) (i : Nat) : ∃ y, y < 2 ^ 30 ∧ itI i (aB2 can H) h0 = nI y ∧ (itI i (aB1 can RI) r0).toInt = (y : Int) - G := by
  induction i with
  | zero => exact hs
  | succ i ih =>
    obtain ⟨y, hy, z1, z2⟩ := ih
    rw [itI_s, itI_s, z1]
    generalize itI i (aB1 can RI) r0 = a at z2 ⊢
    unfold aB2 aB1
    by_cases hc : can i = 0
    · rw [if_pos hc, if_pos hc]
      exact ⟨y, hy, rfl, z2⟩
    · rw [if_neg hc, if_neg hc]
      obtain ⟨y', hy', q1, q2⟩ := hh i hc
      have le := adv_le q2 z2 hy hy'
      rw [q1]
      by_cases hl : nI y < nI y'
      · rw [if_pos hl, if_neg (fun z => le.mp z hl)]
        exact ⟨y', hy', rfl, q2⟩
      · rw [if_neg hl, if_pos (le.mpr hl)]
        exact ⟨y, hy, rfl, z2⟩
theorem adv_best {can RI H : Nat → Int32} {G : Nat} (hh : ∀ i, ¬ can i = 0 → ∃ y, y < 2 ^ 30 ∧ H i = nI y ∧ (RI i).toInt = (y : Int) - G) {r0 h0 : Int32} (hs : ∃ y, y < 2 ^ 30 ∧ h0 = nI y ∧ r0.toInt = (y : Int) - G) (n : Nat) (x : Int32) : itI n (aB3 can RI r0) x = itI n (aB4 can H h0) x := by
  refine itI_cong _ _ (fun i a _ => ?_)
  obtain ⟨y, hy, z1, z2⟩ := adv_most hh hs i
  unfold aB3 aB4
  rw [z1]
  by_cases hc : can i = 0
  · rw [if_pos hc, if_pos hc]
  · rw [if_neg hc, if_neg hc]
    obtain ⟨y', hy', q1, q2⟩ := hh i hc
    have le := adv_le q2 z2 hy hy'
    rw [q1]
    by_cases hl : nI y < nI y'
    · rw [if_pos hl, if_neg (fun z => le.mp z hl)]
    · rw [if_neg hl, if_pos (le.mpr hl)]
theorem insK (v : LV) (k : Int32) : (fX4_insulate v k).1 4 = v.1 4 := by
  have l1 : ∀ (m : Nat) (f : LV), (itI m (bX4_insulate_14 v k) f).1 4 = f.1 4 := fun m f => itI_inv (f := bX4_insulate_14 v k) (fun _ (a : LV) => a.1 4 = f.1 4) m rfl (fun _ _ _ h => h)
  have l2 : ∀ (m : Nat) (f : LV), (itI m (bX4_insulate_92 v k) f).1 4 = f.1 4 := fun m f => itI_inv (f := bX4_insulate_92 v k) (fun _ (a : LV) => a.1 4 = f.1 4) m rfl (fun _ _ _ h => h)
  unfold fX4_insulate
  show (itI _ (bX4_insulate_92 v k) _).1 4 = _
  rw [l2]
  show (itI _ (bX4_insulate_14 v k) _).1 4 = _
  rw [l1]
theorem s_advise (hj : j < 600) (h : REL j v mv sv) (u nv : LV) (tk : Int32) : OUT [sIA] (xX5_advise v u tk) ((fX7_advise mv sv nv tk).1.1 0) (rX5_advise v u tk) (rX7_advise mv sv nv tk) ∧ REL (j + 1) (fX5_advise v u tk) (fX7_advise mv sv nv tk).1 (fX7_advise mv sv nv tk).2.1 := by
  obtain ⟨P, C, S, hR, hV⟩ := h
  have hP := hV.1
  have vP := hR.1.1
  have mP := hR.hP
  unfold xX5_advise fX7_advise rX5_advise rX7_advise fX5_advise
  by_cases h2 : fX7_isIn tk 1 100 = 0
  · have h2' : ¬ fX5_outside tk 1 100 = 0 := fun e => outIn.mp e h2
    simp only [if_pos h2, if_neg h2']
    exact ⟨OUT.ex 0 rfl, REL.of (hR.thr 1) hV⟩
  · have h2' : fX5_outside tk 1 100 = 0 := outIn.mpr h2
    simp only [if_neg h2, if_pos h2', vP, mP]
    obtain ⟨n, n1, n2, rfl⟩ := inN (a := 1) (b := 100) (by omega) h2 (by omega)
    obtain ⟨G, hG, eG, eG2⟩ := gotE hR hV (by omega)
    -- what a run of n ticks tells on either side
    have run : ∀ {S' : Nat} {A B : LV}, ZL P C S' 0 A mv B → IV P C S' (36000 * j) B → A.1 4 = nI G → ∃ y, y < 2 ^ 30 ∧ (itI (nI n).toNatClampNeg (tickM (lSc mv 0 0)) B).1 1 = nI y ∧ (rX1_run A (nI n)).toInt = (y : Int) - G := by
      intro S' A B hA hB eA
      have k := ticksE hA hB n (f := bX1_run_7 A (nI n)) (F := tickM (lSc mv 0 0)) rfl rfl
      obtain ⟨y, hy, y1, y2⟩ := gotE k.1 k.2 (by omega)
      unfold rX1_run
      rw [nI_clamp (by omega), y1, eA]
      exact ⟨y, hy, y2, pk_sub_toInt hy hG⟩
    have cutE : ∀ (a : LV) (i : Nat), ¬ fX7_canCut (lSc mv 0 0) sv a (nI i) = 0 → ∃ y, y < 2 ^ 30 ∧ (itI (nI n).toNatClampNeg (tickM (lSc mv 0 0)) (fX6_cut (lSc mv 0 0) (fX6_become (lSc mv 0 0) a sv) (nI i))).1 1 = nI y ∧ (rX1_run (fX4_insulate v (nI i)) (nI n)).toInt = (y : Int) - G := by
      intro a i hc
      have b := rl_become (hR.thr 0) hV (lSc mv 0 0) a
      obtain ⟨k, k1, k2, k3, k4⟩ := (canE hR hV a (nI i)).2 hc
      rw [k3]
      have c := rl_cut b.1 b.2 k1 k2 (by rw [becomeR _ _ _ 1 (by decide)]; exact k4)
      exact run (show ZL P C (S + 1) 0 _ mv _ from c.1) c.2 ((insK v (nI k)).trans eG)
    have b := rl_become hR hV (lSc mv 0 0) nv
    have f1 : bX5_advise_45_3 v u (nI n) = aB3 (fun i => fX4_canInsulate v (nI i)) (fun i => rX1_run (fX4_insulate v (nI i)) (nI n)) (rX1_run v (nI n)) := rfl
    have f2 : bX7_advise_50_3 mv sv nv (nI n) = aB4 (fun i => fX7_canCut (lSc mv 0 0) sv (itI i (bX7_advise_50 mv sv nv (nI n)) (itI (nI n).toNatClampNeg (tickM (lSc mv 0 0)) (fX6_become (lSc mv 0 0) nv sv))) (nI i)) (fun i => (itI (nI n).toNatClampNeg (tickM (lSc mv 0 0)) (fX6_cut (lSc mv 0 0) (fX6_become (lSc mv 0 0) (itI i (bX7_advise_50 mv sv nv (nI n)) (itI (nI n).toNatClampNeg (tickM (lSc mv 0 0)) (fX6_become (lSc mv 0 0) nv sv))) sv) (nI i))).1 1) ((itI (nI n).toNatClampNeg (tickM (lSc mv 0 0)) (fX6_become (lSc mv 0 0) nv sv)).1 1) := rfl
    have fc : (fun i => fX4_canInsulate v (nI i)) = (fun i => fX7_canCut (lSc mv 0 0) sv (itI i (bX7_advise_50 mv sv nv (nI n)) (itI (nI n).toNatClampNeg (tickM (lSc mv 0 0)) (fX6_become (lSc mv 0 0) nv sv))) (nI i)) := funext (fun i => (canE hR hV _ (nI i)).1)
    rw [f1, f2, fc]
    exact ⟨OUT.ok (adv_best (G := G) (fun i hc => cutE _ i hc) (run b.1 b.2 eG) _ _), REL.of (hR.thr 0) hV⟩
theorem s_mean (h : REL j v mv sv) (u nv : LV) : fX5_mean v u = rX7_mean mv sv nv ∧ REL (j + 1) v (fX7_mean mv sv nv).1 (fX7_mean mv sv nv).2.1 := by
  obtain ⟨P, C, S, hR, hV⟩ := h
  exact ⟨toldMean (hR.thr 0) hV u nv, REL.of (hR.thr 0) hV⟩
theorem s_digest (h : REL j v mv sv) (u nv : LV) : fX5_digest v u = rX7_digest mv sv nv ∧ REL (j + 1) v (fX7_digest mv sv nv).1 (fX7_digest mv sv nv).2.1 := by
  obtain ⟨P, C, S, hR, hV⟩ := h
  exact ⟨toldDigest (hR.thr 0) hV u nv, REL.of (hR.thr 0) hV⟩
end ZAH
