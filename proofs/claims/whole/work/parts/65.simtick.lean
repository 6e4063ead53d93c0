/-! THE SIMULATION, 6: the end of a tick; a tick; many -/
theorem IV.w {P C S g : Nat} {b : LV} {f : Nat → Int32} (h : IV P C S g b) (hf : ivW P f) : IV P C S g (lRow b 0 f) := by
  obtain ⟨h0, hc, hw, hs, hd, ha, hy, hr, hb, hp, hn, hg⟩ := h
  exact ⟨h0, hc, hf, hs, hd, ha, hy, hr, hb, hp, hn, hg⟩
theorem st_wait {P C S g w : Nat} {v0 sv0 a mv b : LV} {D : Nat → Int32} {i : Nat} (hi : i < P) (hh : HA P C S g w D a mv b) : HA P C S g w D (bX1_closeTick_2 v0 i a) mv (bX6_pass_133 mv sv0 i b) := by
  obtain ⟨h, hv, hwn, h6⟩ := hh
  have hP16 := hv.1.2.1
  have r7 : lAt a 7 (nI i) = b.2 0 i := h.2.2.2.rdn 7 i (by show i < 16; omega)
  unfold bX1_closeTick_2 bX6_pass_133 fX3_welcome
  rw [h.1.2.2.2.1, r7, aAt_n (r := 0) (by omega)]
  by_cases e : b.1 0 - b.1 0 / (nI i + 2) * (nI i + 2) = 0
  · rw [if_pos e, if_pos e]
    refine ⟨h.wr 7 i _ _ (by show i < 16; omega) (by decide) rfl, ?_, hwn, h6⟩
    rw [aSet_n (by omega)]
    obtain ⟨m, h1, h2, -⟩ := hv.2.2.1 i (by omega)
    refine hv.w (ivW_upd hv.2.2.1 hi ⟨min 99 (m + 1), by omega, ?_⟩)
    rw [h2, nI_1]
    exact aMinN (a := 99) (by omega) (by omega)
  · rw [if_neg e, if_neg e]
    exact ⟨h, hv, hwn, h6⟩
theorem st_rec {P C S g w : Nat} {v0 sv0 a mv b : LV} {D : Nat → Int32} {i : Nat} (hi : i < S) (hh : HA P C S g w D a mv b) : HA P C S g w D (bX4_recover_2 v0 i a) mv (bX6_pass_182 mv sv0 i b) := by
  obtain ⟨h, hv, hwn, h6⟩ := hh
  have hS15 := hv.S15
  have r4 : lAt a 4 (nI i) = b.2 4 i := h.2.2.2.rdn 4 i hi
  obtain ⟨q, hq, e4⟩ := hv.2.2.2.2.1 i (by omega)
  unfold bX4_recover_2 bX6_pass_182
  rw [r4, aAt_n (r := 4) (by omega), e4]
  by_cases h0 : q = 0
  · subst h0
    rw [if_pos (show nI 0 ≤ 0 by decide), show aMax 0 (nI 0 - 1) = 0 by decide]
    have e : aSet b 4 (nI i) 0 = b := by
      rw [aSet_n (by omega)]
      have : upd (b.2 4) i 0 = b.2 4 := by
        funext k
        by_cases e : k = i
        · subst e; rw [upd_same, e4]; rfl
        · rw [upd_ne e]
      rw [this, lRow_self]
    rw [e]
    exact ⟨h, hv, hwn, h6⟩
  · obtain ⟨j, rfl⟩ : ∃ j, q = j + 1 := ⟨q - 1, by omega⟩
    have em : aMax 0 (nI j) = nI j := by
      have := aMaxN (a := 0) (b := j) (by omega) (by omega)
      rw [Nat.max_eq_right (Nat.zero_le j)] at this
      exact this
    rw [if_neg (nI_nle (by omega) hq), lAdd_n (by show i < 15; omega), r4, e4, pk_m1, nI_pred, em]
    refine ⟨h.wr 4 i _ _ hi (by decide) rfl, ?_, hwn, h6⟩
    rw [aSet_n (by omega)]
    exact hv.d (ivD_upd hv.2.2.2.2.1 ⟨j, by omega, rfl⟩)
theorem rl_close {P C S g w : Nat} {v mv sv sv0 sv1 : LV} {D : Nat → Int32} (hh : HA P C S g w D v mv sv) : HA P C S g w D (fX1_closeTick v) mv (lSc (itI S (bX6_pass_182 mv sv0) (itI P (bX6_pass_133 mv sv1) sv)) 0 ((itI S (bX6_pass_182 mv sv0) (itI P (bX6_pass_133 mv sv1) sv)).1 0 + 1)) := by
  have hP16 := hh.2.1.1.2.1
  have hS15 := hh.2.1.S15
  have k1 : HA P C S g w D (itI P (bX1_closeTick_2 v) v) mv (itI P (bX6_pass_133 mv sv1) sv) := itI_rel (fun _ a b => HA P C S g w D a mv b) P hh (fun i a b hi q => st_wait hi q)
  unfold fX1_closeTick fX4_recover
  rw [hh.1.1.1, nI_clamp (by omega), k1.1.1.2.1, nI_clamp (by omega)]
  have k2 : HA P C S g w D (itI S (bX4_recover_2 (itI P (bX1_closeTick_2 v) v)) (itI P (bX1_closeTick_2 v) v)) mv (itI S (bX6_pass_182 mv sv0) (itI P (bX6_pass_133 mv sv1) sv)) := itI_rel (fun _ a b => HA P C S g w D a mv b) S k1 (fun i a b hi q => st_rec hi q)
  obtain ⟨⟨⟨h1, h2, h3, h4, h5, h6, h7, h8, h9⟩, s2, s3, s4⟩, hv, hwn, h6d⟩ := k2
  exact ⟨⟨⟨h1, h2, h3, by show _ + (1 : Int32) = _ + 1; rw [h4], h5, h6, h7, h8, h9⟩, s2, s3, s4⟩, hv, hwn, h6d⟩
/-- one tick -/
theorem rl_tick {P C S g w : Nat} {v mv sv : LV} (h : ZL P C S w v mv sv) (hv : IV P C S g sv) : (ZL P C S C (fX1_tickOnce v) mv (fX6_pass mv (fX6_turn mv sv)) ∧ IV P C S (g + 180) (fX6_pass mv (fX6_turn mv sv)) ∧ (∀ c, c < C → (fX6_pass mv (fX6_turn mv sv)).2 13 c = 0 ∨ (fX6_pass mv (fX6_turn mv sv)).2 13 c = 1) ∧ ∀ k, k < S → (fX1_tickOnce v).2 6 k = fX6_drawn mv (fX6_turn mv sv) (nI k)) ∧ IV P C S g (kX6_pass_83 mv (fX6_turn mv sv)) := by
  have hC6 := hv.1.2.2.1
  have hS15 := hv.S15
  have hP16 := hv.1.2.1
  have k1 := rl_turn h hv
  have k2 := rl_draw (sv0 := fX6_turn mv sv) k1.1 k1.2.1 k1.2.2
  have k3 := rl_go (sv0 := fX6_turn mv sv) k2.1 k2.2.1 k2.2.2.1 rfl
  have eS : ((fX6_turn mv sv).1 3).toNatClampNeg = S := by rw [k1.1.hS, nI_clamp (by omega)]
  have eC : (mv.1 2).toNatClampNeg = C := by rw [h.hC, nI_clamp (by omega)]
  have eP : (mv.1 1).toNatClampNeg = P := by rw [h.hP, nI_clamp (by omega)]
  have e83 : kX6_pass_83 mv (fX6_turn mv sv) = itI C (bX6_pass_61 mv (fX6_turn mv sv)) (itI S (bX6_pass_2 mv (fX6_turn mv sv)) (fX6_turn mv sv)) := by
    unfold kX6_pass_83
    rw [eS, eC]
  have k4 := rl_halt (sv0 := fX6_turn mv sv) (show HA P C S g C _ _ mv _ from ⟨k3.1, k3.2.1, k3.2.2.2.2.1, k3.2.2.2.2.2⟩)
  have k5 := rl_mend (sv0 := fX6_turn mv sv) k4
  have k6 := rl_close (sv0 := fX6_turn mv sv) (sv1 := fX6_turn mv sv) k5
  have ep : fX6_pass mv (fX6_turn mv sv) = lSc (itI S (bX6_pass_182 mv (fX6_turn mv sv)) (itI P (bX6_pass_133 mv (fX6_turn mv sv)) (itI C (bX6_pass_109 mv (fX6_turn mv sv)) (itI C (bX6_pass_85 mv (fX6_turn mv sv)) (itI C (bX6_pass_61 mv (fX6_turn mv sv)) (itI S (bX6_pass_2 mv (fX6_turn mv sv)) (fX6_turn mv sv))))))) 0 ((itI S (bX6_pass_182 mv (fX6_turn mv sv)) (itI P (bX6_pass_133 mv (fX6_turn mv sv)) (itI C (bX6_pass_109 mv (fX6_turn mv sv)) (itI C (bX6_pass_85 mv (fX6_turn mv sv)) (itI C (bX6_pass_61 mv (fX6_turn mv sv)) (itI S (bX6_pass_2 mv (fX6_turn mv sv)) (fX6_turn mv sv))))))).1 0 + 1) := by
    unfold fX6_pass kX6_pass_180 kX6_pass_131 kX6_pass_107
    rw [e83, eS, eC, eP]
  rw [ep, e83]
  unfold fX1_tickOnce
  exact ⟨⟨k6.1, k6.2.1, k6.2.2.1, fun k hk => by rw [k6.2.2.2]; exact k2.2.2.2 k hk⟩, k3.2.1⟩
theorem IV.pOK {P C S g : Nat} {b : LV} (h : IV P C S g b) : pOK b := by
  intro x hx hne
  obtain ⟨j, hj, rfl⟩ := vp_in_of hx (by decide)
  rw [aAt_n (by omega)] at hne ⊢
  rcases h.2.2.2.2.2.2.2.2.2.1.1 j hj with e | ⟨p, hp, e⟩
  · exact absurd e hne
  · rw [e]; exact vp_in_nI hp (by decide)
theorem IV.cOK {P C S g : Nat} {b : LV} (h : IV P C S g b) : cOK b := fun k _ => by
  rcases h.2.1 k with e | ⟨e, -⟩
  · exact Or.inl e
  · exact Or.inr e
/-- a tick is safe -/
theorem rl_safe {P C S g w : Nat} {v mv sv : LV} (h : ZL P C S w v mv sv) (hv : IV P C S g sv) : TSafe mv sv := by
  have k1 := rl_turn h hv
  have hS15 := hv.S15
  have hP16 := hv.1.2.1
  refine ⟨hv.pOK, k1.2.1.cOK, k1.2.1.pOK, ?_, fun x hx => ?_⟩
  · rw [k1.1.hS, nI_toInt (by omega)]
    omega
  · obtain ⟨j, hj, rfl⟩ := vp_in_of hx (by decide)
    rw [aAt_n (by omega)]
    obtain ⟨q, hq, e, -⟩ := (rl_tick h hv).2.2.2.2.2.2.1 j hj
    rw [e]
    exact vp_in_nI (by omega) (by decide)
/-- n ticks -/
theorem rl_ticks {P C S g w : Nat} {v mv sv : LV} (n : Nat) {f : Nat → LV → LV} {F : Nat → LV → LV} (hf : ∀ i a, f i a = fX1_tickOnce a) (hF : ∀ i b, F i b = fX6_pass mv (fX6_turn mv b)) (h : ZL P C S w v mv sv) (hv : IV P C S g sv) : ZL P C S 0 (itI n f v) mv (itI n F sv) ∧ IV P C S (g + 180 * n) (itI n F sv) := by
  have key := itI_rel (f := f) (g := F) (fun k a b => k ≤ n → ZL P C S 0 a mv b ∧ IV P C S (g + 180 * k) b) n (fun _ => ⟨h.w0, hv⟩) (fun i a b hi q hn => by
    rw [hf, hF]
    have q2 := q (by omega)
    have := (rl_tick q2.1 q2.2).1
    rw [show g + 180 * (i + 1) = g + 180 * i + 180 by omega]
    exact ⟨this.1.w0, this.2.1⟩) (Nat.le_refl n)
  exact key
