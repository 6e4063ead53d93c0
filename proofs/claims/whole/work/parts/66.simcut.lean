/-! THE SIMULATION, 7: an insulator more -/
theorem sn_upd {f : Nat → Int32} {k : Nat} (h0 : f k = 0) (hk : 0 < k) (n : Nat) : sn (upd f k 1) n = sn f n + (if k ≤ n then 1 else 0) := by
  induction n with
  | zero => rw [if_neg (by omega)]; rfl
  | succ n ih =>
    show sn (upd f k 1) n + (if upd f k 1 (n + 1) = 1 then 1 else 0) = (sn f n + (if f (n + 1) = 1 then 1 else 0)) + (if k ≤ n + 1 then 1 else 0)
    rw [ih]
    by_cases e : n + 1 = k
    · rw [e, upd_same, if_pos rfl, h0, if_neg (show ¬ (0 : Int32) = 1 by decide), if_neg (show ¬ k ≤ n by omega), if_pos (Nat.le_refl k)]
    · rw [upd_ne e]
      by_cases e2 : k ≤ n
      · rw [if_pos e2, if_pos (show k ≤ n + 1 by omega)]
        omega
      · rw [if_neg e2, if_neg (show ¬ k ≤ n + 1 by omega)]
        rfl
theorem ivC_upd {P k : Nat} {f : Nat → Int32} (h : ivC P f) (hk : 0 < k) (hk2 : k + 1 < P) : ivC P (upd f k 1) := by
  intro j
  by_cases e : j = k
  · subst e; rw [upd_same]; exact Or.inr ⟨rfl, hk, hk2⟩
  · rw [upd_ne e]; exact h j
/-- the rows of the sections move up by one -/
def CQ (S i : Nat) (v sv a b : LV) : Prop := a.1 = v.1 ∧ b.1 = sv.1 ∧ (∀ r, r ≠ 3 → r ≠ 4 → r ≠ 5 → a.2 r = v.2 r ∧ b.2 r = sv.2 r) ∧ (∀ r, r = 3 ∨ r = 4 ∨ r = 5 → ∀ k, k < S + (if i = 0 then 0 else 1) → a.2 r k = b.2 r k) ∧ ivD (b.2 4)
theorem CQ_row {S i r x y : Nat} {v sv a b : LV} (hS : S ≤ 14) (hx : x ≤ S) (hr : r = 3 ∨ r = 4 ∨ r = 5) (h : CQ S i v sv a b) (hy : y < S) (hxi : x = S ∨ i ≠ 0) : (lSet a r (nI x) (lAt a r (nI y))) = lRow a r (upd (a.2 r) x (a.2 r y)) ∧ aSet b r (nI x) (aAt b r (nI y)) = lRow b r (upd (b.2 r) x (b.2 r y)) ∧ ∀ k, k < S + 1 → (k = S → x = S ∨ i ≠ 0) → upd (a.2 r) x (a.2 r y) k = upd (b.2 r) x (b.2 r y) k := by
  have hl : lLen r = 15 := by rcases hr with rfl | rfl | rfl <;> rfl
  refine ⟨?_, ?_, fun k hk hk2 => ?_⟩
  · rw [lSet_n (by omega), lAt_n (by omega)]
  · rw [aSet_n (by omega), aAt_n (by omega)]
  · by_cases e : k = x
    · subst e
      rw [upd_same, upd_same]
      exact h.2.2.2.1 r hr y (by omega)
    · rw [upd_ne e, upd_ne e]
      refine h.2.2.2.1 r hr k ?_
      by_cases e2 : i = 0
      · rw [if_pos e2]
        rcases Nat.lt_or_ge k S with z | z
        · omega
        · exfalso
          rcases hxi with z2 | z2
          · omega
          · exact z2 e2
      · rw [if_neg e2]; omega
theorem lRow3 {a : LV} {f g h : Nat → Int32} : ∀ r, r ≠ 3 → r ≠ 4 → r ≠ 5 → (lRow (lRow (lRow a 3 f) 4 g) 5 h).2 r = a.2 r := fun r h3 h4 h5 => by
  rw [lRow_ne h5, lRow_ne h4, lRow_ne h3]
theorem st_shift {S i : Nat} {v0 sv0 mv v sv a b : LV} {po : Int32} (hS : S ≤ 14) (hi : i < S) (e1 : v0.1 1 = nI S) (e2 : sv0.1 3 = nI S) (h : CQ S i v sv a b) : CQ S (i + 1) v sv (bX4_insulate_14 v0 po i a) (bX6_cut_11 mv sv0 po i b) := by
  unfold bX4_insulate_14 bX6_cut_11
  rw [e1, e2, show nI S - nI i = nI (S - i) from pk_sub (by omega), show nI (S - i) - 1 = nI (S - i - 1) from pk_sub (b := 1) (by omega)]
  have hxi : S - i = S ∨ i ≠ 0 := by omega
  obtain ⟨a1, b1, c1⟩ := CQ_row (r := 3) (x := S - i) (y := S - i - 1) hS (by omega) (by omega) h (by omega) hxi
  obtain ⟨a2, b2, c2⟩ := CQ_row (r := 4) (x := S - i) (y := S - i - 1) hS (by omega) (by omega) h (by omega) hxi
  obtain ⟨a3, b3, c3⟩ := CQ_row (r := 5) (x := S - i) (y := S - i - 1) hS (by omega) (by omega) h (by omega) hxi
  have ea : lSet (lSet (lSet a 3 (nI (S - i)) (lAt a 3 (nI (S - i - 1)))) 4 (nI (S - i)) (lAt a 4 (nI (S - i - 1)))) 5 (nI (S - i)) (lAt a 5 (nI (S - i - 1))) = lRow (lRow (lRow a 3 (upd (a.2 3) (S - i) (a.2 3 (S - i - 1)))) 4 (upd (a.2 4) (S - i) (a.2 4 (S - i - 1)))) 5 (upd (a.2 5) (S - i) (a.2 5 (S - i - 1))) := by
    rw [lSet_n (r := 3) (by show S - i < 15; omega), lSet_n (r := 4) (by show S - i < 15; omega), lSet_n (r := 5) (by show S - i < 15; omega), lAt_n (r := 3) (by show S - i - 1 < 15; omega), lAt_n (r := 4) (by show S - i - 1 < 15; omega), lAt_n (r := 5) (by show S - i - 1 < 15; omega)]
    rfl
  have eb : aSet (aSet (aSet b 3 (nI (S - i)) (aAt b 3 (nI (S - i - 1)))) 4 (nI (S - i)) (aAt b 4 (nI (S - i - 1)))) 5 (nI (S - i)) (aAt b 5 (nI (S - i - 1))) = lRow (lRow (lRow b 3 (upd (b.2 3) (S - i) (b.2 3 (S - i - 1)))) 4 (upd (b.2 4) (S - i) (b.2 4 (S - i - 1)))) 5 (upd (b.2 5) (S - i) (b.2 5 (S - i - 1))) := by
    rw [aSet_n (r := 3) (by omega), aSet_n (r := 4) (by omega), aSet_n (r := 5) (by omega), aAt_n (r := 3) (by omega), aAt_n (r := 4) (by omega), aAt_n (r := 5) (by omega)]
    rfl
  rw [ea, eb]
  obtain ⟨h1, h2, h3, h4, h5⟩ := h
  refine ⟨h1, h2, fun r r3 r4 r5 => ?_, fun r hr k hk => ?_, ?_⟩
  · rw [lRow3 r r3 r4 r5, lRow3 r r3 r4 r5]
    exact h3 r r3 r4 r5
  · rw [if_neg (Nat.succ_ne_zero i)] at hk
    have hk2 : k = S → S - i = S ∨ i ≠ 0 := fun _ => hxi
    rcases hr with rfl | rfl | rfl
    · exact c1 k hk hk2
    · exact c2 k hk hk2
    · exact c3 k hk hk2
  · show ivD (upd (b.2 4) (S - i) (b.2 4 (S - i - 1)))
    exact ivD_upd h5 (h5 (S - i - 1) (by omega))
/-- the spans behind the pole are of the next section -/
theorem spansC {w a : LV} {k n : Nat} (hn : k + n ≤ 15) : itI n (bX4_insulate_92 w (nI k)) a = lRow a 1 (fun j => if k ≤ j ∧ j < k + n then a.2 1 j + 1 else a.2 1 j) := by
  refine itI_inv (fun m b => m ≤ n → b = lRow a 1 (fun j => if k ≤ j ∧ j < k + m then a.2 1 j + 1 else a.2 1 j)) n (fun _ => ?_) (fun i b hi h hm => ?_) (Nat.le_refl n)
  · have : (fun j => if k ≤ j ∧ j < k + 0 then a.2 1 j + 1 else a.2 1 j) = a.2 1 := by
      funext j
      rw [if_neg (by omega)]
    rw [this, lRow_self]
  · have e := h (by omega)
    unfold bX4_insulate_92
    rw [nI_add, lAdd_n (by show k + i < 15; omega), lSet_n (by show k + i < 15; omega), lAt_n (by show k + i < 15; omega), e, lRow_same, lRow_idem]
    congr 1
    funext j
    show (if j = k + i then (if k ≤ k + i ∧ k + i < k + i then a.2 1 (k + i) + 1 else a.2 1 (k + i)) + 1 else (if k ≤ j ∧ j < k + i then a.2 1 j + 1 else a.2 1 j)) = (if k ≤ j ∧ j < k + (i + 1) then a.2 1 j + 1 else a.2 1 j)
    by_cases e2 : j = k + i
    · rw [if_pos e2, if_neg (show ¬ (k ≤ k + i ∧ k + i < k + i) by omega), if_pos (show k ≤ j ∧ j < k + (i + 1) by omega), e2]
    · rw [if_neg e2]
      by_cases e3 : k ≤ j ∧ j < k + i
      · rw [if_pos e3, if_pos (show k ≤ j ∧ j < k + (i + 1) by omega)]
      · rw [if_neg e3, if_neg (show ¬ (k ≤ j ∧ j < k + (i + 1)) by omega)]
set_option maxHeartbeats 4000000 in
theorem rl_cut {P C S g w k : Nat} {v mv sv : LV} (h : ZL P C S w v mv sv) (hv : IV P C S g sv) (hk : 0 < k) (hk2 : k + 1 < P) (h0 : sv.2 1 k = 0) : ZL P C (S + 1) w (fX4_insulate v (nI k)) mv (fX6_cut mv sv (nI k)) ∧ IV P C (S + 1) g (fX6_cut mv sv (nI k)) := by
  obtain ⟨⟨hP3, hP16, hC6, hS⟩, hc, hw, hs, hd, ha, hy, hr, hb, hp, hn, hg⟩ := id hv
  have hc' := ivC_upd hc hk hk2
  have s15 := sn_upd h0 hk 15
  rw [if_pos (by omega)] at s15
  have sP := sn_P ⟨hP3, hP16⟩ hc'
  have hS14 : S ≤ 14 := by omega
  obtain ⟨m, em⟩ : ∃ m, m = sn (sv.2 1) k := ⟨_, rfl⟩
  have hm : m < S := by
    have := sn_all hP16 hc k
    omega
  have e1 : v.1 1 = nI S := h.1.2.1
  have e3 := h.hS
  have rM : fX6_sectionOf mv sv (nI k) = nI m := by rw [em]; exact secN hc k (by omega)
  have rV : lAt v 1 (nI k) = nI m := by rw [lAt_n (by show k < 15; omega), h.2.2.1 k hk2, em]
  have dn1 : tr_dn (nI S) (nI m) = S - m := by
    unfold tr_dn
    rw [nI_toInt (by omega), nI_toInt (by omega)]
    omega
  have sp : fX4_spans v = nI (P - 1) := by
    unfold fX4_spans
    rw [h.1.1]
    exact pk_sub (b := 1) (by omega)
  have dn2 : tr_dn (nI (P - 1)) (nI k) = P - 1 - k := by
    unfold tr_dn
    rw [nI_toInt (by omega), nI_toInt (by omega)]
    omega
  have q : CQ S (S - m) v sv (itI (S - m) (bX4_insulate_14 v (nI k)) v) (itI (S - m) (bX6_cut_11 mv sv (nI k)) sv) := itI_rel (fun i a b => CQ S i v sv a b) (S - m) ⟨rfl, rfl, fun r _ _ _ => ⟨rfl, rfl⟩, fun r hr j hj => by
    rw [if_pos rfl] at hj
    rcases hr with rfl | rfl | rfl
    · exact h.2.2.2.2 3 j (show j < S by omega)
    · exact h.2.2.2.2 4 j (show j < S by omega)
    · exact h.2.2.2.2 5 j (show j < S by omega), hd⟩ (fun i a b hi q => st_shift hS14 (by omega) e1 e3 q)
  unfold fX4_insulate fX6_cut
  rw [e1, e3, rV, rM, dn1, sp, dn2]
  obtain ⟨A, eA⟩ : ∃ A, A = itI (S - m) (bX4_insulate_14 v (nI k)) v := ⟨_, rfl⟩
  obtain ⟨B, eB⟩ : ∃ B, B = itI (S - m) (bX6_cut_11 mv sv (nI k)) sv := ⟨_, rfl⟩
  rw [← eA, ← eB] at q ⊢
  obtain ⟨q1, q2, q3, q4, q5⟩ := q
  rw [if_neg (show ¬ S - m = 0 by omega)] at q4
  rw [nI_1, spansC (by omega), lSet_n (r := 5) (by show m + 1 < 15; omega), lSet_n (r := 2) (by show k < 16; omega), aSet_n (r := 5) (by omega), aSet_n (r := 1) (by omega)]
  have A1 := (q3 1 (by decide) (by decide) (by decide)).1
  have B1 := (q3 1 (by decide) (by decide) (by decide)).2
  constructor
  · refine ⟨⟨?_, ?_, ?_, ?_, ?_, ?_, h.hP, h.hC, ?_⟩, fun j hj => ?_, fun j hj => ?_, ⟨by omega, h.2.2.2.1.2⟩, fun r j hj => ?_⟩
    · show A.1 0 = _; rw [q1]; exact h.1.1
    · show A.1 1 + 1 = _; rw [q1, e1, nI_1]
    · show A.1 2 = _; rw [q1]; exact h.1.2.2.1
    · show A.1 3 = B.1 0; rw [q1, q2]; exact h.1.2.2.2.1
    · show A.1 4 = B.1 1; rw [q1, q2]; exact h.1.2.2.2.2.1
    · show A.1 5 = B.1 2; rw [q1, q2]; exact h.1.2.2.2.2.2.1
    · show B.1 3 + 1 = _; rw [q2, e3, nI_1]
    · show A.2 0 j = mv.2 0 j
      rw [(q3 0 (by decide) (by decide) (by decide)).1]
      exact h.2.1 j hj
    · show (if k ≤ j ∧ j < k + (P - 1 - k) then A.2 1 j + 1 else A.2 1 j) = nI (sn (upd (B.2 1) k 1) j)
      rw [A1, B1, sn_upd h0 hk, h.2.2.1 j hj]
      by_cases e : k ≤ j
      · rw [if_pos (by omega), if_pos e, nI_1]
      · rw [if_neg (by omega), if_neg e, Nat.add_zero]
    · have hr := qLen_prt (Nat.lt_of_le_of_lt (Nat.zero_le _) hj)
      by_cases r2 : r = 2
      · subst r2
        show upd (A.2 2) k 1 j = upd (B.2 1) k 1 j
        rw [B1, (q3 2 (by decide) (by decide) (by decide)).1]
        unfold upd
        by_cases e : j = k
        · rw [if_pos e, if_pos e]
        · rw [if_neg e, if_neg e]
          exact h.2.2.2.2 2 j hj
      · by_cases r3 : r = 3
        · subst r3
          exact q4 3 (by omega) j hj
        · by_cases r4 : r = 4
          · subst r4
            exact q4 4 (by omega) j hj
          · by_cases r5 : r = 5
            · subst r5
              show upd (A.2 5) (m + 1) 0 j = upd (B.2 5) (m + 1) 0 j
              unfold upd
              by_cases e : j = m + 1
              · rw [if_pos e, if_pos e]
              · rw [if_neg e, if_neg e]
                exact q4 5 (by omega) j hj
            · have r0 : r ≠ 0 := fun e => by subst e; exact hr.2 rfl
              have r1 : r ≠ 1 := fun e => by subst e; exact hr.2 rfl
              have p3 : prt r ≠ 3 := fun e => r3 (prt_inj r hr.1 3 (by decide) e hr.2)
              have p4 : prt r ≠ 4 := fun e => r4 (prt_inj r hr.1 4 (by decide) e hr.2)
              have p5 : prt r ≠ 5 := fun e => r5 (prt_inj r hr.1 5 (by decide) e hr.2)
              have p1 : prt r ≠ 1 := fun e => r2 (prt_inj r hr.1 2 (by decide) e hr.2)
              have hj2 : j < qLen S w r := by
                rcases r17 hr.1 with rfl | rfl | rfl | rfl | rfl | rfl | rfl | rfl | rfl | rfl | rfl | rfl | rfl | rfl | rfl | rfl | rfl
                all_goals first | exact hj | exact absurd rfl r3 | exact absurd rfl r4 | exact absurd rfl r5
              show (lRow (lRow (lRow A 5 _) 1 _) 2 _).2 r j = gv r ((lRow (lRow B 5 _) 1 _).2 (prt r) j)
              rw [lRow_ne r2, lRow_ne r1, lRow_ne r5, lRow_ne p1, lRow_ne p5, (q3 r r3 r4 r5).1, (q3 (prt r) p3 p4 p5).2]
              exact h.2.2.2.2 r j hj2
  · refine ⟨⟨hP3, hP16, hC6, ?_⟩, ?_, ?_, ?_, ?_, ?_, ?_, ?_, ?_, ?_, ?_, ?_⟩
    · show S + 1 = sn (upd (B.2 1) k 1) 15 + 1
      rw [B1, s15]; omega
    · show ivC P (upd (B.2 1) k 1)
      rw [B1]; exact hc'
    · show ivW P (B.2 0)
      rw [(q3 0 (by decide) (by decide) (by decide)).2]; exact hw
    · show ivS P (B.2 2)
      rw [(q3 2 (by decide) (by decide) (by decide)).2]; exact hs
    · exact q5
    · show ivA P C (B.2 6)
      rw [(q3 6 (by decide) (by decide) (by decide)).2]; exact ha
    · show ivY C (B.2 7)
      rw [(q3 7 (by decide) (by decide) (by decide)).2]; exact hy
    · show ivR C (B.2 8)
      rw [(q3 8 (by decide) (by decide) (by decide)).2]; exact hr
    · show ivB C (B.2 10)
      rw [(q3 10 (by decide) (by decide) (by decide)).2]; exact hb
    · show ivP C (B.2 10) (B.2 11)
      rw [(q3 10 (by decide) (by decide) (by decide)).2, (q3 11 (by decide) (by decide) (by decide)).2]; exact hp
    · show ivN C (B.2 6)
      rw [(q3 6 (by decide) (by decide) (by decide)).2]; exact hn
    · show ivG g (B.1 1)
      rw [q2]; exact hg
