/-! THE SIMULATION, 2: turning, and what is drawn -/
theorem lAt_ne {v : LV} {r k : Nat} {x y z : Int32} (h : r ≠ k) : lAt (lSet v k x y) r z = lAt v r z := by
  unfold lAt lSet
  rw [lRow_ne h]
theorem lAt_same {v : LV} {r i : Nat} {y : Int32} (h : i < lLen r) : lAt (lSet v r (nI i) y) r (nI i) = y := by
  rw [lAt_n h, lSet_n h, lRow_same, upd_same]
theorem lAt_addne {v : LV} {r k : Nat} {x y z : Int32} (h : r ≠ k) : lAt (lAdd v k x y) r z = lAt v r z := by
  unfold lAt lAdd
  rw [lRow_ne h]
theorem aAt_ne {v : LV} {r k : Nat} {x y z : Int32} (h : r ≠ k) : aAt (aSet v k x y) r z = aAt v r z := by
  unfold aAt aSet
  rw [lRow_ne h]
theorem d01 : ¬ (0 : Int32) = 1 := by decide
theorem d10 : ¬ (1 : Int32) = 0 := by decide
theorem d0m : ¬ (0 : Int32) = -1 := by decide
theorem d1m : ¬ (1 : Int32) = -1 := by decide
theorem lRow_self (v : LV) (r : Nat) : lRow v r (v.2 r) = v := by
  have : (fun k => if k = r then v.2 r else v.2 k) = v.2 := by
    funext k
    by_cases e : k = r
    · subst e; rw [if_pos rfl]
    · rw [if_neg e]
  show (v.1, (fun k => if k = r then v.2 r else v.2 k)) = v
  rw [this]
theorem lRow_idem (v : LV) (r : Nat) (f g : Nat → Int32) : lRow (lRow v r f) r g = lRow v r g := by
  have : (fun k => if k = r then g else if k = r then f else v.2 k) = (fun k => if k = r then g else v.2 k) := by
    funext k
    by_cases e : k = r
    · rw [if_pos e, if_pos e]
    · rw [if_neg e, if_neg e, if_neg e]
  show (v.1, (fun k => if k = r then g else if k = r then f else v.2 k)) = (v.1, (fun k => if k = r then g else v.2 k))
  rw [this]
theorem aSet_idem {v : LV} {r : Nat} {x y z : Int32} : aSet (aSet v r x y) r x z = aSet v r x z := by
  unfold aSet
  rw [lRow_same, lRow_idem]
  congr 1
  funext j
  unfold upd
  by_cases e2 : j = x.toNatClampNeg
  · rw [if_pos e2, if_pos e2]
  · rw [if_neg e2, if_neg e2, if_neg e2]
section ZRL
variable {P C S w : Nat} {v mv sv : LV}
theorem ZL.wr (h : ZL P C S w v mv sv) (r i : Nat) (y y' : Int32) (hi : i < qLen S w r) (h1 : prt r ≠ 1) (hy : y' = gv r y) : ZL P C S w (lSet v r (nI i) y') mv (aSet sv (prt r) (nI i) y) := by
  have hr := qLen_prt (Nat.lt_of_le_of_lt (Nat.zero_le _) hi)
  have hr0 : r ≠ 0 := fun e => by subst e; exact hr.2 rfl
  have hr1 : r ≠ 1 := fun e => by subst e; exact hr.2 rfl
  refine ⟨h.1, fun k hk => ?_, fun k hk => ?_, h.2.2.2.wrn r i y y' hi hy⟩
  · show (lRow v r _).2 0 k = _
    rw [lRow_ne (Ne.symm hr0)]
    exact h.2.1 k hk
  · show (lRow v r _).2 1 k = nI (sn ((lRow sv (prt r) _).2 1) k)
    rw [lRow_ne (Ne.symm hr1), lRow_ne (Ne.symm h1)]
    exact h.2.2.1 k hk
theorem ZL.wl (h : ZL P C S w v mv sv) (r : Nat) (f : Nat → Int32) (hr : qLen S w r = 0) (h0 : r ≠ 0) (h1 : r ≠ 1) : ZL P C S w (lRow v r f) mv sv := by
  refine ⟨h.1, fun k hk => ?_, fun k hk => ?_, h.2.2.2.wl r f hr⟩
  · rw [lRow_ne (Ne.symm h0)]
    exact h.2.1 k hk
  · rw [lRow_ne (Ne.symm h1)]
    exact h.2.2.1 k hk
theorem ZL.hP (h : ZL P C S w v mv sv) : mv.1 1 = nI P := h.1.2.2.2.2.2.2.1
theorem ZL.hC (h : ZL P C S w v mv sv) : mv.1 2 = nI C := h.1.2.2.2.2.2.2.2.1
theorem ZL.hS (h : ZL P C S w v mv sv) : sv.1 3 = nI S := h.1.2.2.2.2.2.2.2.2
end ZRL
/-- cars that run, of those below n, have a span ahead -/
def TD (P n : Nat) (b : LV) : Prop := ∀ c, c < n → b.2 10 c = 0 → ∀ q, q < P → b.2 6 c = nI q → ¬ sah P q (b.2 7 c) = -1
theorem gvn {y : Int32} (h : y = 1 ∨ y = -1) : 1 - gv 10 y = gv 10 (-y) := by
  rcases h with rfl | rfl <;> decide
theorem neg1 {y : Int32} (h : y = 1 ∨ y = -1) : -y = 1 ∨ -y = -1 := by
  rcases h with rfl | rfl
  · exact Or.inr rfl
  · exact Or.inl (by decide)
theorem sah_turn {P q : Nat} {y : Int32} (hP : 3 ≤ P ∧ P ≤ 16) (hq : q < P) (hy : y = 1 ∨ y = -1) (h : sah P q y = -1) : ¬ sah P q (-y) = -1 := by
  have e1 : ¬ (1 : Int32) ≤ 0 := by decide
  have e2 : (-1 : Int32) ≤ 0 := by decide
  unfold sah at h ⊢
  rcases hy with rfl | rfl
  · rw [if_neg e1] at h
    rw [if_pos e2]
    by_cases hq1 : q + 1 < P
    · rw [if_pos hq1] at h; exact absurd h (nI_m1 (by omega))
    · rw [if_neg (by omega)]
      exact nI_m1 (by omega)
  · rw [if_pos e2] at h
    rw [show -(-1 : Int32) = 1 by decide, if_neg e1]
    by_cases hq0 : q = 0
    · subst hq0
      rw [if_pos (by omega)]
      exact nI_m1 (by decide)
    · rw [if_neg hq0] at h
      exact absurd h (nI_m1 (by omega))
theorem ivY_upd {C c : Nat} {f : Nat → Int32} {y : Int32} (h : ivY C f) (hy : y = 1 ∨ y = -1) : ivY C (upd f c y) := by
  intro k hk
  by_cases e : k = c
  · subst e; rw [upd_same]; exact hy
  · rw [upd_ne e]; exact h k hk
theorem IV.y {P C S g : Nat} {b : LV} {f : Nat → Int32} (h : IV P C S g b) (hf : ivY C f) : IV P C S g (lRow b 7 f) := by
  obtain ⟨h0, hc, hw, hs, hd, ha, hy, hr, hb, hp, hn, hg⟩ := h
  exact ⟨h0, hc, hw, hs, hd, ha, hf, hr, hb, hp, hn, hg⟩
theorem nI_ne {a b : Nat} (ha : a < 2 ^ 31) (hb : b < 2 ^ 31) (h : a ≠ b) : ¬ nI a = nI b := fun e => h ((nI_eq ha hb).mp e)
set_option maxHeartbeats 4000000 in
theorem st_turn {P C S g w : Nat} {v0 sv0 a mv b : LV} {i : Nat} (hi : i < C) (h : ZL P C S w a mv b) (hv : IV P C S g b) (ht : TD P i b) : ZL P C S w (bX1_turnCars_2 v0 i a) mv (bX6_turn_2 mv sv0 i b) ∧ IV P C S g (bX6_turn_2 mv sv0 i b) ∧ TD P (i + 1) (bX6_turn_2 mv sv0 i b) := by
  obtain ⟨⟨hP3, hP16, hC6, hS⟩, hc, hw, hs, hd, ha, hy, hr, hb, hp, hn, hg⟩ := id hv
  have hi6 : i < 6 := by omega
  obtain ⟨q, hq, e6, -⟩ := ha i hi6
  have r13 : lAt a 13 (nI i) = b.2 10 i := h.2.2.2.rdn 13 i hi6
  have r14 : lAt a 14 (nI i) = b.2 11 i := h.2.2.2.rdn 14 i hi6
  have r9 : lAt a 9 (nI i) = nI q := (h.2.2.2.rdn 9 i hi6).trans e6
  have r10 : lAt a 10 (nI i) = gv 10 (b.2 7 i) := h.2.2.2.rdn 10 i hi6
  have rs := aheadV ⟨hP3, hP16⟩ h.1.1 r9 r10 hq
  have rm := aheadM (mv := mv) ⟨hP3, hP16⟩ h.hP hi6 e6 hq
  have yy := hy i hi
  unfold bX1_turnCars_2 bX6_turn_2 fX0_runs
  rw [r13, rs, rm, aAt_n (r := 10) (by omega), aAt_n (r := 11) (by omega), aAt_n (r := 7) (by omega)]
  rcases hb i hi6 with e | ⟨e, -⟩
  · rw [e, if_pos rfl, if_neg d10, if_neg d01]
    by_cases hh : sah P q (b.2 7 i) = -1
    · rw [if_pos hh, if_pos hh]
      have tc : fX0_turn a (nI i) = if b.2 11 i = -1 then lSet a 10 (nI i) (gv 10 (-(b.2 7 i))) else lSet (lSet a 10 (nI i) (gv 10 (-(b.2 7 i)))) 10 (b.2 11 i) (gv 10 (-(b.2 7 i))) := by
        unfold fX0_turn fX0_pushes
        rw [lAt_ne (by decide), r14, r10, gvn yy, lAt_same (by exact hi6)]
        by_cases e11 : b.2 11 i = -1
        · rw [if_pos e11, if_pos rfl, if_pos e11]
        · rw [if_neg e11, if_neg d10, if_neg e11]
      rw [tc]
      have h1 : ZL P C S w (lSet a 10 (nI i) (gv 10 (-(b.2 7 i)))) mv (aSet b 7 (nI i) (-(b.2 7 i))) := h.wr 10 i _ _ hi6 (by decide) rfl
      have v1 : IV P C S g (aSet b 7 (nI i) (-(b.2 7 i))) := hv.y (ivY_upd hy (neg1 yy))
      have t1 : TD P (i + 1) (aSet b 7 (nI i) (-(b.2 7 i))) := by
        rw [aSet_n (by omega)]
        intro c hc1 hc2 q2 hq2 e2
        show ¬ sah P q2 (upd (b.2 7) i _ c) = -1
        have e2 : b.2 6 c = nI q2 := e2
        have hc2 : b.2 10 c = 0 := hc2
        by_cases ec : c = i
        · subst ec
          rw [upd_same]
          have : q2 = q := (nI_eq (by omega) (by omega)).mp (e2.symm.trans e6)
          subst this
          exact sah_turn ⟨hP3, hP16⟩ hq2 yy hh
        · rw [upd_ne ec]
          exact ht c (by omega) hc2 q2 hq2 e2
      by_cases e11 : b.2 11 i = -1
      · rw [if_pos e11, if_pos e11]
        exact ⟨h1, v1, t1⟩
      · rw [if_neg e11, if_neg e11]
        rcases hp.2.1 i hi with k | ⟨p, hpC, ep, ep1, -⟩
        · exact absurd k e11
        · rw [ep]
          refine ⟨h1.wr 10 p _ _ (by show p < 6; omega) (by decide) rfl, v1.y (ivY_upd v1.2.2.2.2.2.2.1 (neg1 yy)), ?_⟩
          rw [aSet_n (i := p) (by omega)]
          intro c hc1 hc2 q2 hq2 e2
          have hc3 : b.2 10 c = 0 := hc2
          show ¬ sah P q2 (upd ((aSet b 7 (nI i) (-(b.2 7 i))).2 7) p _ c) = -1
          have : c ≠ p := fun e => by
            rw [e, ep1] at hc3
            exact absurd hc3 (by decide)
          rw [upd_ne this]
          exact t1 c hc1 hc2 q2 hq2 e2
    · rw [if_neg hh, if_neg hh]
      refine ⟨h, hv, fun c hc1 hc2 q2 hq2 e2 => ?_⟩
      by_cases ec : c = i
      · subst ec
        have : q2 = q := (nI_eq (by omega) (by omega)).mp (e2.symm.trans e6)
        subst this
        exact hh
      · exact ht c (by omega) hc2 q2 hq2 e2
  · rw [e, if_neg d10, if_pos rfl, if_pos rfl]
    refine ⟨h, hv, fun c hc1 hc2 q2 hq2 e2 => ?_⟩
    by_cases ec : c = i
    · subst ec
      rw [e] at hc2
      exact absurd hc2 (by decide)
    · exact ht c (by omega) hc2 q2 hq2 e2
theorem rl_turn {P C S g w : Nat} {v mv sv : LV} (h : ZL P C S w v mv sv) (hv : IV P C S g sv) : ZL P C S w (fX1_turnCars v) mv (fX6_turn mv sv) ∧ IV P C S g (fX6_turn mv sv) ∧ TD P C (fX6_turn mv sv) := by
  have hC6 := hv.1.2.2.1
  unfold fX1_turnCars fX6_turn
  rw [h.1.2.2.1, h.hC, nI_clamp (by omega)]
  exact itI_rel (fun n a b => ZL P C S w a mv b ∧ IV P C S g b ∧ TD P n b) C ⟨h, hv, fun c hc => absurd hc (by omega)⟩ (fun i a b hi q => st_turn hi q.1 q.2.1 q.2.2)
/-! what is drawn -/
theorem lAdd_m1 {v : LV} {r : Nat} {y : Int32} : lAdd v r (-1) y = lRow v r (v.2 r) := by
  unfold lAdd rAdd
  rw [if_pos (by decide)]
theorem drawV {P C S g w : Nat} {v mv sv : LV} (h : ZL P C S w v mv sv) (hv : IV P C S g sv) {i : Nat} (hi : i < C) : fX1_drawOf v (nI i) = fX6_draws mv sv (nI i) := by
  obtain ⟨⟨hP3, hP16, hC6, hS⟩, hc, hw, hs, hd, ha, hy, hr, hb, hp, hn, hg⟩ := id hv
  have hi6 : i < 6 := by omega
  obtain ⟨q, hq, e6, -⟩ := ha i hi6
  have r13 : lAt v 13 (nI i) = sv.2 10 i := h.2.2.2.rdn 13 i hi6
  have r14 : lAt v 14 (nI i) = sv.2 11 i := h.2.2.2.rdn 14 i hi6
  have r11 : lAt v 11 (nI i) = sv.2 8 i := h.2.2.2.rdn 11 i hi6
  have r9 : lAt v 9 (nI i) = nI q := (h.2.2.2.rdn 9 i hi6).trans e6
  have r10 : lAt v 10 (nI i) = gv 10 (sv.2 7 i) := h.2.2.2.rdn 10 i hi6
  have rs := aheadV ⟨hP3, hP16⟩ h.1.1 r9 r10 hq
  have rm := aheadM (mv := mv) ⟨hP3, hP16⟩ h.hP hi6 e6 hq
  have yy := hy i hi
  unfold fX1_drawOf fX6_draws fX0_runs fX0_pushes
  rw [r13, r14, r11, rs, rm, r10, aAt_n (r := 10) (by omega), aAt_n (r := 11) (by omega), aAt_n (r := 8) (by omega), aAt_n (r := 7) (by omega)]
  rcases sah_cases ⟨hP3, hP16⟩ hq (sv.2 7 i) with e | ⟨k, hk, e⟩
  · rw [e, if_pos rfl, if_pos rfl]
    split <;> rfl
  · rw [e, if_neg (nI_m1 (by omega)), if_neg (nI_m1 (by omega)), lAt_n (r := 0) (by show k < 15; omega), aAt_n (r := 0) (by omega), h.2.1 k (by omega)]
    rcases hb i hi6 with e2 | ⟨e2, -⟩
    · rw [e2, if_pos rfl, if_neg d10, if_neg d01]
      rcases yy with e3 | e3
      · rw [e3, if_pos (show gv 10 1 = 1 by decide), show (1 : Int32) * mv.2 0 k = mv.2 0 k by simp]
        by_cases e4 : sv.2 11 i = -1
        · rw [if_pos e4, if_pos rfl, if_pos e4]
        · rw [if_neg e4, if_neg d10, if_neg e4]
      · rw [e3, if_neg (show ¬ gv 10 (-1) = 1 by decide), show (-1 : Int32) * mv.2 0 k = -mv.2 0 k by rw [Int32.neg_mul, Int32.one_mul]]
        by_cases e4 : sv.2 11 i = -1
        · rw [if_pos e4, if_pos rfl, if_pos e4]
        · rw [if_neg e4, if_neg d10, if_neg e4]
    · rw [e2, if_neg d10, if_pos rfl, if_pos rfl]
/-- the section ahead of a car -/
theorem secV {P C S g w : Nat} {v mv sv : LV} (h : ZL P C S w v mv sv) (hv : IV P C S g sv) {i : Nat} (hi : i < C) : (fX1_sectionAhead v (nI i) = -1 ∧ fX6_ahead mv sv (nI i) = -1) ∨ ∃ k n, k + 1 < P ∧ n < S ∧ fX1_sectionAhead v (nI i) = nI n ∧ fX6_ahead mv sv (nI i) = nI k ∧ fX6_sectionOf mv sv (nI k) = nI n := by
  obtain ⟨⟨hP3, hP16, hC6, hS⟩, hc, hw, hs, hd, ha, hy, hr, hb, hp, hn, hg⟩ := id hv
  have hi6 : i < 6 := by omega
  obtain ⟨q, hq, e6, -⟩ := ha i hi6
  have r9 : lAt v 9 (nI i) = nI q := (h.2.2.2.rdn 9 i hi6).trans e6
  have r10 : lAt v 10 (nI i) = gv 10 (sv.2 7 i) := h.2.2.2.rdn 10 i hi6
  have rs := aheadV ⟨hP3, hP16⟩ h.1.1 r9 r10 hq
  have rm := aheadM (mv := mv) ⟨hP3, hP16⟩ h.hP hi6 e6 hq
  unfold fX1_sectionAhead
  rw [rs, rm]
  rcases sah_cases ⟨hP3, hP16⟩ hq (sv.2 7 i) with e | ⟨k, hk, e⟩
  · rw [e, if_pos rfl]
    exact Or.inl ⟨rfl, rfl⟩
  · rw [e, if_neg (nI_m1 (by omega)), lAt_n (r := 1) (by show k < 15; omega), h.2.2.1 k hk]
    have := sn_all hP16 hc k
    exact Or.inr ⟨k, sn (sv.2 1) k, hk, by omega, rfl, rfl, secN hc k (by omega)⟩
theorem drawn_cg {mv b b' : LV} {q : Int32} (h1 : b'.2 1 = b.2 1) (h6 : b'.2 6 = b.2 6) (h7 : b'.2 7 = b.2 7) (h8 : b'.2 8 = b.2 8) (h10 : b'.2 10 = b.2 10) (h11 : b'.2 11 = b.2 11) : fX6_drawn mv b' q = fX6_drawn mv b q := by
  have ha : ∀ x, fX6_ahead mv b' x = fX6_ahead mv b x := fun x => by
    unfold fX6_ahead aAt
    rw [h6, h7]
  have hs : ∀ x, fX6_sectionOf mv b' x = fX6_sectionOf mv b x := fun x => by
    unfold fX6_sectionOf
    refine itI_cong _ _ (fun i a _ => ?_)
    unfold bX6_sectionOf_4 aAt
    rw [h1]
  have hd : ∀ x, fX6_draws mv b' x = fX6_draws mv b x := fun x => by
    unfold fX6_draws
    rw [ha]
    unfold aAt
    rw [h7, h8, h10, h11]
  unfold fX6_drawn
  refine itI_cong _ _ (fun i a _ => ?_)
  unfold bX6_drawn_4
  rw [ha, hs, hd]
theorem rl_sums {P C S g w : Nat} {v0 v mv sv : LV} (h : ZL P C S w v mv sv) (hv : IV P C S g sv) (h0 : ∀ k, k < S → v.2 6 k = 0) : ZL P C S w (itI C (bX1_drawCurrent_13 v0) v) mv sv ∧ ∀ k, k < S → (itI C (bX1_drawCurrent_13 v0) v).2 6 k = fX6_drawn mv sv (nI k) := by
  have hC6 := hv.1.2.2.1
  have hP16 := hv.1.2.1
  have hS15 := hv.S15
  have key : ZL P C S w (itI C (bX1_drawCurrent_13 v0) v) mv sv ∧ ∀ k, k < S → (itI C (bX1_drawCurrent_13 v0) v).2 6 k = itI C (bX6_drawn_4 mv sv (nI k)) 0 := by
    refine itI_inv (fun n a => ZL P C S w a mv sv ∧ ∀ k, k < S → a.2 6 k = itI n (bX6_drawn_4 mv sv (nI k)) 0) C ⟨h, h0⟩ (fun i a hi q => ?_)
    unfold bX1_drawCurrent_13
    rw [drawV q.1 hv hi]
    rcases secV q.1 hv hi with ⟨e1, e2⟩ | ⟨k, n, hk, hn, e1, e2, e3⟩
    · rw [e1, lAdd_m1]
      refine ⟨q.1.wl 6 _ rfl (by decide) (by decide), fun j hj => ?_⟩
      rw [lRow_same, itI_s]
      unfold bX6_drawn_4
      rw [e2, if_pos rfl]
      exact q.2 j hj
    · rw [e1, lAdd_n (by show n < 15; omega), lSet_n (by show n < 15; omega)]
      refine ⟨q.1.wl 6 _ rfl (by decide) (by decide), fun j hj => ?_⟩
      rw [lRow_same, itI_s]
      unfold bX6_drawn_4
      rw [e2, if_neg (nI_m1 (by omega)), e3]
      by_cases ej : j = n
      · subst ej
        rw [upd_same, if_pos rfl, lAt_n (by show j < 15; omega), q.2 j hj]
        rfl
      · rw [upd_ne ej, if_neg (nI_ne (by omega) (by omega) (Ne.symm ej)), q.2 j hj]
        rfl
  refine ⟨key.1, fun k hk => ?_⟩
  rw [key.2 k hk]
  unfold fX6_drawn
  rw [h.hC, nI_clamp (by omega)]
theorem IV.d {P C S g : Nat} {b : LV} {f : Nat → Int32} (h : IV P C S g b) (hf : ivD f) : IV P C S g (lRow b 4 f) := by
  obtain ⟨h0, hc, hw, hs, hd, ha, hy, hr, hb, hp, hn, hg⟩ := h
  exact ⟨h0, hc, hw, hs, hf, ha, hy, hr, hb, hp, hn, hg⟩
theorem IV.free {P C S g : Nat} {b : LV} {r : Nat} {f : Nat → Int32} (h : IV P C S g b) (hr : r = 3 ∨ r = 5 ∨ r = 9 ∨ r = 12 ∨ r = 13) : IV P C S g (lRow b r f) := by
  obtain ⟨h0, hc, hw, hs, hd, ha, hy, hr2, hb, hp, hn, hg⟩ := h
  rcases hr with rfl | rfl | rfl | rfl | rfl <;> exact ⟨h0, hc, hw, hs, hd, ha, hy, hr2, hb, hp, hn, hg⟩
theorem ivD_upd {f : Nat → Int32} {c : Nat} {y : Int32} (h : ivD f) (hy : ∃ q, q < 2 ^ 31 ∧ y = nI q) : ivD (upd f c y) := by
  intro k hk
  by_cases e : k = c
  · subst e; rw [upd_same]; exact hy
  · rw [upd_ne e]; exact h k hk
theorem TD.kept {P n : Nat} {b b' : LV} (h : TD P n b) (h6 : b'.2 6 = b.2 6) (h7 : b'.2 7 = b.2 7) (h10 : b'.2 10 = b.2 10) : TD P n b' := by
  intro c hc1 hc2 q hq e
  rw [h7]
  rw [h10] at hc2
  rw [h6] at e
  exact h c hc1 hc2 q hq e
set_option maxHeartbeats 4000000 in
theorem st_dead {P C S g w : Nat} {v0 sv0 a mv b : LV} {D : Nat → Int32} {i : Nat} (hi : i < S) (h : ZL P C S w a mv b) (hv : IV P C S g b) (ht : TD P C b) (h6 : a.2 6 = D) (hD : ∀ k, k < S → D k = fX6_drawn mv b (nI k)) : ZL P C S w (bX4_breakOverdrawn_2 v0 i a) mv (bX6_pass_2 mv sv0 i b) ∧ IV P C S g (bX6_pass_2 mv sv0 i b) ∧ TD P C (bX6_pass_2 mv sv0 i b) ∧ (bX4_breakOverdrawn_2 v0 i a).2 6 = D ∧ ∀ k, k < S → D k = fX6_drawn mv (bX6_pass_2 mv sv0 i b) (nI k) := by
  have hS15 := hv.S15
  have r4 : lAt a 4 (nI i) = b.2 4 i := h.2.2.2.rdn 4 i hi
  have r3 : lAt a 3 (nI i) = b.2 3 i := h.2.2.2.rdn 3 i hi
  have r5 : lAt a 5 (nI i) = b.2 5 i := h.2.2.2.rdn 5 i hi
  have r6 : lAt a 6 (nI i) = fX6_drawn mv b (nI i) := by rw [lAt_n (by show i < 15; omega), h6, hD i hi]
  obtain ⟨q, hq, e4⟩ := hv.2.2.2.2.1 i (by omega)
  unfold bX4_breakOverdrawn_2 bX6_pass_2
  rw [r4, r3, r6, aAt_n (r := 4) (by omega), aAt_n (r := 3) (by omega), aAt_n (r := 5) (by omega), e4]
  by_cases h0 : q = 0
  · subst h0
    rw [if_pos (show nI 0 = 0 from rfl), if_neg (show ¬ (0 : Int32) < nI 0 by decide)]
    by_cases h1 : fX6_drawn mv b (nI i) ≤ b.2 3 i
    · rw [if_pos h1, if_neg (Int32.not_lt.mpr h1)]
      exact ⟨h, hv, ht, h6, hD⟩
    · rw [if_neg h1, if_pos (Int32.not_le.mp h1), lAdd_n (by show i < 15; omega), lAt_ne (by decide), r5]
      refine ⟨(h.wr 4 i 3 3 hi (by decide) rfl).wr 5 i _ _ hi (by decide) rfl, ?_, ?_, ?_, ?_⟩
      · exact (hv.d (ivD_upd hv.2.2.2.2.1 ⟨3, by decide, rfl⟩)).free (r := 5) (Or.inr (Or.inl rfl))
      · exact ht.kept rfl rfl rfl
      · exact h6
      · intro k hk
        rw [hD k hk]
        exact (drawn_cg rfl rfl rfl rfl rfl rfl).symm
  · rw [if_neg (nI_ne0 (by omega) hq), if_pos (show (0 : Int32) < nI q from nI_lt (a := 0) (by omega) hq)]
    exact ⟨h, hv, ht, h6, hD⟩
theorem rl_draw {P C S g w : Nat} {v mv sv sv0 : LV} (h : ZL P C S w v mv sv) (hv : IV P C S g sv) (ht : TD P C sv) : ZL P C S w (fX1_drawCurrent v) mv (itI S (bX6_pass_2 mv sv0) sv) ∧ IV P C S g (itI S (bX6_pass_2 mv sv0) sv) ∧ TD P C (itI S (bX6_pass_2 mv sv0) sv) ∧ ∀ k, k < S → (fX1_drawCurrent v).2 6 k = fX6_drawn mv sv (nI k) := by
  have hC6 := hv.1.2.2.1
  have hS15 := hv.S15
  have h0 : ZL P C S w (lFill v 6 0) mv sv := h.wl 6 _ rfl (by decide) (by decide)
  have h1 := rl_sums (v0 := v) h0 hv (fun k _ => by unfold lFill; rw [lRow_same])
  unfold fX1_drawCurrent fX4_breakOverdrawn
  rw [h.1.2.2.1, nI_clamp (n := C) (by omega), h1.1.1.2.1, nI_clamp (n := S) (by omega)]
  obtain ⟨D, eD⟩ : ∃ D, D = (itI C (bX1_drawCurrent_13 v) (lFill v 6 0)).2 6 := ⟨_, rfl⟩
  have key := itI_rel (f := bX4_breakOverdrawn_2 (itI C (bX1_drawCurrent_13 v) (lFill v 6 0))) (g := bX6_pass_2 mv sv0) (fun _ a b => ZL P C S w a mv b ∧ IV P C S g b ∧ TD P C b ∧ a.2 6 = D ∧ ∀ k, k < S → D k = fX6_drawn mv b (nI k)) S ⟨h1.1, hv, ht, eD.symm, fun k hk => by rw [eD]; exact h1.2 k hk⟩ (fun i a b hi q => st_dead hi q.1 q.2.1 q.2.2.1 q.2.2.2.1 q.2.2.2.2)
  exact ⟨key.1, key.2.1, key.2.2.1, fun k hk => by rw [key.2.2.2.1, eD]; exact h1.2 k hk⟩
