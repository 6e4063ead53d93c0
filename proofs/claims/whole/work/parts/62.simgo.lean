/-! THE SIMULATION, 3: going -/
theorem carsV {P C S w : Nat} {v mv sv : LV} (h : ZL P C S w v mv sv) (hC6 : C ≤ 6) (x : Int32) : fX0_carsAt v x = nI (cn (sv.2 6) x C) := by
  unfold fX0_carsAt
  rw [h.1.2.2.1, nI_clamp (by omega)]
  refine itI_inv (P := fun n a => n ≤ C → a = nI (cn (sv.2 6) x n)) C (fun _ => rfl) (fun i a hi hh hn => ?_) (Nat.le_refl C)
  rw [hh (by omega)]
  show (if lAt v 9 (nI i) = x then _ else _) = nI (cn (sv.2 6) x i + (if sv.2 6 i = x then 1 else 0))
  have r9 : lAt v 9 (nI i) = sv.2 6 i := h.2.2.2.rdn 9 i (by show i < 6; omega)
  rw [r9, ← nI_add]
  split <;> rfl
theorem go_pl {P q : Nat} {y : Int32} (hP : 3 ≤ P ∧ P ≤ 16) (hq : q < P) (hy : y = 1 ∨ y = -1) (h : ¬ sah P q y = -1) : ∃ p, p < P ∧ nI q + y = nI p := by
  unfold sah at h
  rcases hy with rfl | rfl
  · rw [if_neg (by decide)] at h
    by_cases h1 : q + 1 < P
    · exact ⟨q + 1, h1, nI_1 q⟩
    · rw [if_neg h1] at h; exact absurd rfl h
  · rw [if_pos (by decide)] at h
    by_cases h1 : q = 0
    · rw [if_pos h1] at h; exact absurd rfl h
    · obtain ⟨j, rfl⟩ : ∃ j, q = j + 1 := ⟨q - 1, by omega⟩
      exact ⟨j, by omega, pk_m1 j⟩
theorem IV.a {P C S g : Nat} {b : LV} {f : Nat → Int32} (h : IV P C S g b) (hf : ivA P C f) (hf2 : ivN C f) : IV P C S g (lRow b 6 f) := by
  obtain ⟨h0, hc, hw, hs, hd, ha, hy, hr, hb, hp, hn, hg⟩ := h
  exact ⟨h0, hc, hw, hs, hd, hf, hy, hr, hb, hp, hf2, hg⟩
theorem ivA_upd {P C c p : Nat} {f : Nat → Int32} (h : ivA P C f) (hc : c < C) (hp : p < P) : ivA P C (upd f c (nI p)) := by
  intro k hk
  by_cases e : k = c
  · subst e
    rw [upd_same]
    exact ⟨p, hp, rfl, fun q => absurd q (by omega)⟩
  · rw [upd_ne e]; exact h k hk
theorem ivN_upd1 {C c : Nat} {x : Int32} {f : Nat → Int32} (h : ivN C f) (hx : cn f x C < 2) : ivN C (upd f c x) := by
  intro z
  have h1 := cn_upd f c x z C
  have h2 := h z
  by_cases e : x = z
  · subst e
    rw [if_pos rfl] at h1
    split at h1 <;> omega
  · rw [if_neg e] at h1
    omega
theorem ivN_upd2 {C c d : Nat} {x : Int32} {f : Nat → Int32} (h : ivN C f) (hx : cn f x C = 0) : ivN C (upd (upd f c x) d x) := by
  intro z
  have h1 := cn_upd f c x z C
  have h3 := cn_upd (upd f c x) d x z C
  have h2 := h z
  by_cases e : x = z
  · subst e
    rw [if_pos rfl] at h1 h3
    split at h1 <;> split at h3 <;> omega
  · rw [if_neg e] at h1 h3
    omega
theorem qLen_w {s w w' r : Nat} (h : r ≠ 16) : qLen s w r = qLen s w' r := by
  rcases Nat.lt_or_ge r 17 with q | q
  · rcases r17 q with rfl | rfl | rfl | rfl | rfl | rfl | rfl | rfl | rfl | rfl | rfl | rfl | rfl | rfl | rfl | rfl | rfl
    all_goals first | rfl | exact absurd rfl h
  · rw [qLen_big q, qLen_big q]
theorem ZL.w13 {P C S n : Nat} {v mv sv : LV} (h : ZL P C S n v mv sv) (hn : n < 6) (h0 : v.2 16 n = 0) : ZL P C S (n + 1) v mv (aSet sv 13 (nI n) 0) := by
  refine ⟨h.1, h.2.1, h.2.2.1, ⟨h.2.2.2.1.1, by omega⟩, fun r k hk => ?_⟩
  rw [aSet_n (by omega)]
  by_cases e : r = 16
  · subst e
    have hk : k < n + 1 := hk
    show v.2 16 k = upd (sv.2 13) n 0 k
    by_cases e2 : k = n
    · subst e2; rw [upd_same]; exact h0
    · rw [upd_ne e2]
      exact h.2.2.2.2 16 k (show k < n by omega)
  · rw [qLen_w (w' := n) e] at hk
    have hr := qLen_prt (Nat.lt_of_le_of_lt (Nat.zero_le _) hk)
    rw [lRow_ne (r := 13) (k := prt r) (fun e2 => e (prt_inj r hr.1 16 (by decide) e2 hr.2))]
    exact h.2.2.2.2 r k hk
theorem ZL.w0 {P C S n : Nat} {v mv sv : LV} (h : ZL P C S n v mv sv) : ZL P C S 0 v mv sv := by
  refine ⟨h.1, h.2.1, h.2.2.1, ⟨h.2.2.2.1.1, by omega⟩, fun r k hk => ?_⟩
  by_cases e : r = 16
  · subst e
    exact absurd hk (Nat.not_lt_zero _)
  · rw [qLen_w (w' := n) e] at hk
    exact h.2.2.2.2 r k hk
theorem lSet_r {v : LV} {r k : Nat} {x y : Int32} (h : k ≠ r) : (lSet v r x y).2 k = v.2 k := lRow_ne h
theorem aSet_r {v : LV} {r k : Nat} {x y : Int32} (h : k ≠ r) : (aSet v r x y).2 k = v.2 k := lRow_ne h
def TG (P i C : Nat) (b : LV) : Prop := ∀ c, i ≤ c → c < C → b.2 10 c = 0 → ∀ q, q < P → b.2 6 c = nI q → ¬ sah P q (b.2 7 c) = -1
def GO (P C S g i : Nat) (D : Nat → Int32) (a mv b : LV) : Prop := ZL P C S i a mv b ∧ IV P C S g b ∧ TG P i C b ∧ (∀ k, i ≤ k → k < 6 → a.2 16 k = 0) ∧ (∀ c, c < i → b.2 13 c = 0 ∨ b.2 13 c = 1) ∧ a.2 6 = D
theorem moveN {a : LV} {i : Nat} {po : Int32} (hi : i < 6) (e : lAt a 14 (nI i) = -1) : fX0_moveTo a (nI i) po = lSet (lSet (lSet a 16 (nI i) 1) 9 (nI i) po) 15 (nI i) (lAt a 15 (nI i) + 1) := by
  unfold fX0_moveTo fX0_pushes fX0_arrive
  rw [lAt_addne (by decide), lAt_ne (by decide), lAt_ne (by decide), e, if_pos rfl, if_pos rfl, lAdd_n (by exact hi), lAt_ne (by decide), lAt_ne (by decide)]
theorem moveP {a : LV} {i p : Nat} {po : Int32} (hi : i < 6) (hp : p < 6) (e : lAt a 14 (nI i) = nI p) : fX0_moveTo a (nI i) po = lSet (lSet (lSet (lSet (lSet a 16 (nI i) 1) 9 (nI i) po) 15 (nI i) (lAt a 15 (nI i) + 1)) 9 (nI p) po) 15 (nI p) (lAt (lSet (lSet (lSet a 16 (nI i) 1) 9 (nI i) po) 15 (nI i) (lAt a 15 (nI i) + 1)) 15 (nI p) + 1) := by
  unfold fX0_moveTo fX0_pushes fX0_arrive
  rw [lAt_addne (by decide), lAt_ne (by decide), lAt_ne (by decide), e, if_neg (nI_m1 (by omega)), if_neg d10, lAdd_n (i := i) (by exact hi), lAt_ne (r := 15) (by decide), lAt_ne (r := 15) (by decide), lAdd_n (i := p) (by exact hp), lAt_ne (r := 15) (k := 9) (by decide)]
set_option maxHeartbeats 8000000 in
theorem st_go {P C S g : Nat} {v0 sv0 a mv b : LV} {D : Nat → Int32} {i : Nat} (hi : i < C) (hh : GO P C S g i D a mv b) : GO P C S g (i + 1) D (bX1_moveCars_13 v0 i a) mv (bX6_pass_61 mv sv0 i b) := by
  obtain ⟨h, hv, ht, hz, hwn, h6⟩ := hh
  obtain ⟨⟨hP3, hP16, hC6, hS⟩, hc, hw, hs, hd, ha, hy, hr, hb, hp, hn, hg⟩ := id hv
  have hi6 : i < 6 := by omega
  have hS15 := hv.S15
  obtain ⟨q, hq, e6, -⟩ := ha i hi6
  have yy := hy i hi
  have r13 : lAt a 13 (nI i) = b.2 10 i := h.2.2.2.rdn 13 i hi6
  have r14 : lAt a 14 (nI i) = b.2 11 i := h.2.2.2.rdn 14 i hi6
  have r15 : lAt a 15 (nI i) = b.2 12 i := h.2.2.2.rdn 15 i hi6
  have r9 : lAt a 9 (nI i) = nI q := (h.2.2.2.rdn 9 i hi6).trans e6
  have r10 : lAt a 10 (nI i) = gv 10 (b.2 7 i) := h.2.2.2.rdn 10 i hi6
  have rs := aheadV ⟨hP3, hP16⟩ h.1.1 r9 r10 hq
  have h1 : ZL P C S (i + 1) a mv (aSet b 13 (nI i) 0) := h.w13 hi6 (hz i (Nat.le_refl i) hi6)
  have hv1 : IV P C S g (aSet b 13 (nI i) 0) := hv.free (by omega)
  have rm := aheadM (mv := mv) (sv := aSet b 13 (nI i) 0) ⟨hP3, hP16⟩ h.hP hi6 e6 hq
  have w1 : ∀ c, c < i + 1 → (aSet b 13 (nI i) 0).2 13 c = 0 ∨ (aSet b 13 (nI i) 0).2 13 c = 1 := by
    intro c hc1
    rw [aSet_n (by omega), lRow_same]
    by_cases e : c = i
    · subst e; rw [upd_same]; exact Or.inl rfl
    · rw [upd_ne e]; exact hwn c (by omega)
  have t1 : TG P (i + 1) C (aSet b 13 (nI i) 0) := fun c hc1 hc2 => ht c (by omega) hc2
  have stay : GO P C S g (i + 1) D a mv (aSet b 13 (nI i) 0) := ⟨h1, hv1, t1, fun k hk => hz k (by omega), w1, h6⟩
  have e7 : (aSet b 13 (nI i) 0).2 7 = b.2 7 := rfl
  have e66 : (aSet b 13 (nI i) 0).2 6 = b.2 6 := rfl
  have e11a : (aSet b 13 (nI i) 0).2 11 = b.2 11 := rfl
  have e10a : (aSet b 13 (nI i) 0).2 10 = b.2 10 := rfl
  have e12a : (aSet b 13 (nI i) 0).2 12 = b.2 12 := rfl
  have e1a : (aSet b 13 (nI i) 0).2 1 = b.2 1 := rfl
  have e0a : (aSet b 13 (nI i) 0).1 0 = b.1 0 := rfl
  unfold bX1_moveCars_13 bX6_pass_61 fX6_go fX0_runs
  rw [r13, aAt_n (r := 10) (by omega)]
  obtain ⟨b1, eb1⟩ : ∃ x, x = aSet b 13 (nI i) 0 := ⟨_, rfl⟩
  rw [← eb1] at h1 hv1 rm w1 t1 stay e7 e66 e11a e10a e12a e1a e0a ⊢
  rcases hb i hi6 with eb | ⟨eb, -⟩
  · rw [eb, if_pos rfl, if_neg d10, if_neg d01]
    have hsa : ¬ sah P q (b.2 7 i) = -1 := ht i (Nat.le_refl i) hi eb q hq e6
    rcases sah_cases ⟨hP3, hP16⟩ hq (b.2 7 i) with e | ⟨k, hk, e⟩
    · exact absurd e hsa
    · rw [e7, e] at rm
      rw [e] at rs
      have hsn : sn (b.2 1) k < S := by
        have := sn_all hP16 hc k
        omega
      have rsec : fX6_sectionOf mv b1 (nI k) = nI (sn (b.2 1) k) := by
        have := secN (mv := mv) (sv := b1) (P := P) (by rw [e1a]; exact hc) k (by omega)
        rw [this, e1a]
      have r1 : lAt a 1 (nI k) = nI (sn (b.2 1) k) := by rw [lAt_n (by show k < 15; omega), h.2.2.1 k hk]
      have r4 : lAt a 4 (nI (sn (b.2 1) k)) = b.2 4 (sn (b.2 1) k) := h.2.2.2.rdn 4 _ hsn
      have rpa : fX1_poleAhead a (nI i) = nI q + b.2 7 i := by
        unfold fX1_poleAhead
        rw [r10, r9]
        rcases yy with ey | ey
        · rw [ey, if_pos (show gv 10 1 = 1 by decide)]
        · rw [ey, if_neg (show ¬ gv 10 (-1) = 1 by decide)]
      obtain ⟨po, hpo, epo⟩ := go_pl ⟨hP3, hP16⟩ hq yy hsa
      have cv := carsV h hC6 (nI po)
      have cm : fX6_carsAt mv b1 (nI po) = nI (cn (b.2 6) (nI po) C) := by
        rw [carsM h.hC hC6, e66]
      have cle := cn_le (b.2 6) (nI po) C
      unfold fX1_canGo fX0_pushes
      rw [rm, rsec, aAt_n (r := 4) (by omega), aAt_n (r := 11) (by omega), aAt_n (r := 6) (by omega), aAt_n (r := 7) (by omega), aAt_n (r := 12) (i := i) (by omega), e6, epo, cm, rs, r1, r4, r14, rpa, epo, cv, if_neg (nI_m1 (k := k) (by omega)), h.1.2.2.2.1]
      by_cases hdead : b.2 4 (sn (b.2 1) k) ≤ 0
      · rw [if_pos hdead, if_pos hdead]
        have k1 : ZL P C S (i + 1) (lSet a 16 (nI i) 1) mv (aSet b1 13 (nI i) 1) := h1.wr 16 i 1 1 (by show i < i + 1; omega) (by decide) rfl
        have k2 : ZL P C S (i + 1) (lSet (lSet a 16 (nI i) 1) 9 (nI i) (nI po)) mv (aSet (aSet b1 13 (nI i) 1) 6 (nI i) (nI po)) := k1.wr 9 i _ _ hi6 (by decide) rfl
        have k3 : ZL P C S (i + 1) (lSet (lSet (lSet a 16 (nI i) 1) 9 (nI i) (nI po)) 15 (nI i) (lAt a 15 (nI i) + 1)) mv (aSet (aSet (aSet b1 13 (nI i) 1) 6 (nI i) (nI po)) 12 (nI i) (b.2 12 i + 1)) := k2.wr 15 i _ _ hi6 (by decide) (by rw [r15]; rfl)
        rw [aSet_comm (r := 6) (k := 12) (by decide)] at k3
        have ww : ∀ (c : Nat), c < i + 1 → (aSet b1 13 (nI i) 1).2 13 c = 0 ∨ (aSet b1 13 (nI i) 1).2 13 c = 1 := by
          intro c hc1
          rw [aSet_n (by omega), lRow_same]
          by_cases e : c = i
          · subst e; rw [upd_same]; exact Or.inr rfl
          · rw [upd_ne e]; exact w1 c hc1
        have zz : ∀ k, i + 1 ≤ k → k < 6 → (lSet a 16 (nI i) 1).2 16 k = 0 := by
          intro k hk1 hk2
          rw [lSet_n (by exact hi6), lRow_same, upd_ne (by omega)]
          exact hz k (by omega) hk2
        by_cases e11 : b.2 11 i = -1
        · rw [if_pos e11, if_pos e11, if_pos e11, if_pos rfl]
          by_cases h2 : (2 : Int32) ≤ nI (cn (b.2 6) (nI po) C)
          · rw [if_pos h2, if_pos h2, if_pos rfl]
            exact stay
          · rw [if_neg h2, if_neg h2, if_neg d10, moveN hi6 (r14.trans e11)]
            have hlt : cn (b.2 6) (nI po) C < 2 := by
              rcases Nat.lt_or_ge (cn (b.2 6) (nI po) C) 2 with z | z
              · exact z
              · exact absurd (nI_le z (by omega)) h2
            refine ⟨k3, ?_, ?_, fun k hk1 hk2 => by rw [lSet_r (by decide), lSet_r (by decide)]; exact zz k hk1 hk2, fun c hc1 => by rw [aSet_r (by decide), aSet_r (by decide)]; exact ww c hc1, by rw [lSet_r (by decide), lSet_r (by decide), lSet_r (by decide)]; exact h6⟩
            · have i2 : IV P C S g (aSet (aSet b1 13 (nI i) 1) 12 (nI i) (b.2 12 i + 1)) := (hv1.free (r := 13) (by omega)).free (by omega)
              rw [aSet_n (r := 6) (i := i) (by omega), aSet_r (by decide), aSet_r (by decide), e66]
              exact i2.a (ivA_upd ha hi hpo) (ivN_upd1 hn hlt)
            · intro c hc1 hc2 hc3 q2 hq2 eq2
              rw [aSet_n (r := 6) (i := i) (by omega), lRow_same, upd_ne (by omega), aSet_r (by decide), aSet_r (by decide)] at eq2
              rw [aSet_r (by decide), aSet_r (by decide), aSet_r (by decide)] at hc3 ⊢
              exact t1 c hc1 hc2 hc3 q2 hq2 eq2
        · rcases hp.2.1 i hi with z | ⟨p, hpC, ep, ep1, -⟩
          · exact absurd z e11
          · have hp6 : p < 6 := by omega
            rw [if_neg e11, if_neg e11, if_neg e11, if_neg d10, ep]
            have heq : (nI (cn (b.2 6) (nI po) C) = 0) ↔ cn (b.2 6) (nI po) C = 0 := nI_eq (b := 0) (by omega) (by omega)
            by_cases htk : b.1 0 - b.1 0 / 2 * 2 = 0
            · rw [if_pos htk, if_pos htk]
              by_cases h2 : nI (cn (b.2 6) (nI po) C) = 0
              · rw [if_pos h2, if_pos h2, if_neg d10, moveP hi6 hp6 (r14.trans ep)]
                have hz0 := heq.mp h2
                have k4 : ZL P C S (i + 1) (lSet (lSet (lSet (lSet a 16 (nI i) 1) 9 (nI i) (nI po)) 15 (nI i) (lAt a 15 (nI i) + 1)) 9 (nI p) (nI po)) mv (aSet (aSet (aSet (aSet b1 13 (nI i) 1) 12 (nI i) (b.2 12 i + 1)) 6 (nI i) (nI po)) 6 (nI p) (nI po)) := k3.wr 9 p _ _ hp6 (by decide) rfl
                have rd : lAt (lSet (lSet (lSet a 16 (nI i) 1) 9 (nI i) (nI po)) 15 (nI i) (lAt a 15 (nI i) + 1)) 15 (nI p) = aAt (aSet (aSet b1 13 (nI i) 1) 12 (nI i) (b.2 12 i + 1)) 12 (nI p) := by
                  rw [aAt_n (by omega)]
                  exact k3.2.2.2.rdn 15 p hp6
                have k5 : ZL P C S (i + 1) _ mv (aSet (aSet (aSet (aSet (aSet b1 13 (nI i) 1) 12 (nI i) (b.2 12 i + 1)) 6 (nI i) (nI po)) 6 (nI p) (nI po)) 12 (nI p) (aAt (aSet (aSet b1 13 (nI i) 1) 12 (nI i) (b.2 12 i + 1)) 12 (nI p) + 1)) := k4.wr 15 p (aAt (aSet (aSet b1 13 (nI i) 1) 12 (nI i) (b.2 12 i + 1)) 12 (nI p) + 1) (lAt (lSet (lSet (lSet a 16 (nI i) 1) 9 (nI i) (nI po)) 15 (nI i) (lAt a 15 (nI i) + 1)) 15 (nI p) + 1) hp6 (by decide) (by rw [rd]; rfl)
                refine ⟨k5, ?_, ?_, fun k hk1 hk2 => by rw [lSet_r (by decide), lSet_r (by decide), lSet_r (by decide), lSet_r (by decide)]; exact zz k hk1 hk2, fun c hc1 => by rw [aSet_r (by decide), aSet_r (by decide), aSet_r (by decide), aSet_r (by decide)]; exact ww c hc1, by rw [lSet_r (by decide), lSet_r (by decide), lSet_r (by decide), lSet_r (by decide), lSet_r (by decide)]; exact h6⟩
                · have i2 : IV P C S g (aSet (aSet b1 13 (nI i) 1) 12 (nI i) (b.2 12 i + 1)) := (hv1.free (r := 13) (by omega)).free (by omega)
                  have i3 : IV P C S g (lRow (aSet (aSet b1 13 (nI i) 1) 12 (nI i) (b.2 12 i + 1)) 6 (upd (upd (b.2 6) i (nI po)) p (nI po))) := i2.a (ivA_upd (ivA_upd ha hi hpo) hpC hpo) (ivN_upd2 hn hz0)
                  have ee : lRow (aSet (aSet b1 13 (nI i) 1) 12 (nI i) (b.2 12 i + 1)) 6 (upd (upd (b.2 6) i (nI po)) p (nI po)) = aSet (aSet (aSet (aSet b1 13 (nI i) 1) 12 (nI i) (b.2 12 i + 1)) 6 (nI i) (nI po)) 6 (nI p) (nI po) := by
                    rw [aSet_n (r := 6) (i := p) (by omega), aSet_n (r := 6) (i := i) (by omega), lRow_same]
                    have : (aSet (aSet b1 13 (nI i) 1) 12 (nI i) (b.2 12 i + 1)).2 6 = b.2 6 := by rw [aSet_r (by decide), aSet_r (by decide)]; exact e66
                    rw [this, lRow_idem]
                  rw [ee] at i3
                  exact i3.free (r := 12) (by omega)
                · intro c hc1 hc2 hc3 q2 hq2 eq2
                  have hc3b : b1.2 10 c = 0 := by
                    rw [aSet_r (by decide), aSet_r (by decide), aSet_r (by decide), aSet_r (by decide), aSet_r (by decide)] at hc3
                    exact hc3
                  have hcp : c ≠ p := fun e => by
                    rw [e10a, e, ep1] at hc3b
                    exact absurd hc3b (by decide)
                  rw [aSet_r (by decide), aSet_n (r := 6) (i := p) (by omega), lRow_same, upd_ne hcp, aSet_n (r := 6) (i := i) (by omega), lRow_same, upd_ne (by omega), aSet_r (by decide), aSet_r (by decide)] at eq2
                  rw [aSet_r (by decide), aSet_r (by decide), aSet_r (by decide), aSet_r (by decide), aSet_r (by decide)]
                  exact t1 c hc1 hc2 hc3b q2 hq2 eq2
              · rw [if_neg h2, if_neg h2, if_pos rfl]
                exact stay
            · rw [if_neg htk, if_neg htk, if_pos rfl]
              by_cases h2 : nI (cn (b.2 6) (nI po) C) = 0
              · rw [if_pos h2]; exact stay
              · rw [if_neg h2]; exact stay
      · rw [if_neg hdead, if_neg hdead, if_pos rfl]
        exact stay
  · rw [eb, if_neg d10, if_pos rfl, if_pos rfl]
    exact stay
theorem rl_go {P C S g w : Nat} {v mv sv sv0 : LV} {D : Nat → Int32} (h : ZL P C S w v mv sv) (hv : IV P C S g sv) (ht : TD P C sv) (h6 : v.2 6 = D) : GO P C S g C D (fX1_moveCars v) mv (itI C (bX6_pass_61 mv sv0) sv) := by
  have hC6 := hv.1.2.2.1
  unfold fX1_moveCars
  rw [h.1.2.2.1, nI_clamp (by omega)]
  exact itI_rel (fun n a b => GO P C S g n D a mv b) C ⟨h.w0.wl 16 _ rfl (by decide) (by decide), hv, fun c _ hc => ht c hc, fun k _ _ => by unfold lFill; rw [lRow_same], fun c hc => absurd hc (by omega), h6⟩ (fun i a b hi q => st_go hi q)
