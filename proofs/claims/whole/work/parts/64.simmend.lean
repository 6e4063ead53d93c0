/-! THE SIMULATION, 5: swaps and pushing -/
/-- nobody pushes the renewed one -/
theorem renewC {V w : LV} {i C : Nat} (hC : C ≤ 6) : itI C (bX0_renew_20 w (nI i)) V = lRow V 14 (fun k => if k < C then (if V.2 14 k = nI i then -1 else V.2 14 k) else V.2 14 k) := by
  refine itI_inv (fun n a => n ≤ C → a = lRow V 14 (fun k => if k < n then (if V.2 14 k = nI i then -1 else V.2 14 k) else V.2 14 k)) C (fun _ => ?_) (fun j a hj h hn => ?_) (Nat.le_refl C)
  · have : (fun k => if k < 0 then (if V.2 14 k = nI i then -1 else V.2 14 k) else V.2 14 k) = V.2 14 := by
      funext k
      rw [if_neg (by omega)]
    rw [this, lRow_self]
  · have e := h (by omega)
    have hj6 : j < lLen 14 := by show j < 6; omega
    unfold bX0_renew_20
    have r14 : lAt a 14 (nI j) = V.2 14 j := by
      rw [lAt_n hj6, e, lRow_same]
      show (if j < j then _ else V.2 14 j) = V.2 14 j
      rw [if_neg (by omega)]
    rw [r14]
    by_cases h1 : V.2 14 j = nI i
    · rw [if_pos h1, lSet_n hj6, e, lRow_same, lRow_idem]
      congr 1
      funext k
      show (if k = j then (-1 : Int32) else (if k < j then (if V.2 14 k = nI i then -1 else V.2 14 k) else V.2 14 k)) = (if k < j + 1 then (if V.2 14 k = nI i then -1 else V.2 14 k) else V.2 14 k)
      by_cases e2 : k = j
      · rw [if_pos e2, if_pos (show k < j + 1 by omega), e2, if_pos h1]
      · rw [if_neg e2]
        by_cases e3 : k < j
        · rw [if_pos e3, if_pos (show k < j + 1 by omega)]
        · rw [if_neg e3, if_neg (show ¬ k < j + 1 by omega)]
    · rw [if_neg h1, e]
      congr 1
      funext k
      by_cases e2 : k = j
      · rw [if_neg (show ¬ k < j by omega), if_pos (show k < j + 1 by omega), e2, if_neg h1]
      · by_cases e3 : k < j
        · rw [if_pos e3, if_pos (show k < j + 1 by omega)]
        · rw [if_neg e3, if_neg (show ¬ k < j + 1 by omega)]
section ZME
variable {P C S g w : Nat} {v a mv b B V : LV} {i q : Nat}
theorem ZL.r14 (h : ZL P C S w V mv B) (f k : Nat → Int32) (e : ∀ j, j < 6 → f j = k j) : ZL P C S w (lRow V 14 f) mv (lRow B 11 k) := by
  refine ⟨h.1, h.2.1, h.2.2.1, h.2.2.2.1, fun r j hj => ?_⟩
  by_cases er : r = 14
  · subst er
    exact e j hj
  · have hr := qLen_prt (Nat.lt_of_le_of_lt (Nat.zero_le _) hj)
    rw [lRow_ne er, lRow_ne (r := 11) (k := prt r) (fun e2 => er (prt_inj r hr.1 14 (by decide) e2 hr.2))]
    exact h.2.2.2.2 r j hj
theorem pushY (hC6 : C ≤ 6) (hC : mv.1 2 = nI C) {j : Nat} (hj : j < C) (e : b.2 11 j = nI i) (h0 : ∀ k, k < j → ¬ b.2 11 k = nI i) : fX6_pusher mv b (nI i) = nI j := by
  unfold fX6_pusher
  rw [hC, nI_clamp (by omega), fstI_at (i := j) (r := nI j) hj (by unfold bX6_pusher_2; rw [aAt_n (by omega), if_pos e]) (fun k hk => by unfold bX6_pusher_2; rw [aAt_n (by omega), if_neg (h0 k hk)])]
  rfl
theorem pushN (hC6 : C ≤ 6) (hC : mv.1 2 = nI C) (h0 : ∀ k, k < C → ¬ b.2 11 k = nI i) : fX6_pusher mv b (nI i) = -1 := by
  unfold fX6_pusher
  rw [hC, nI_clamp (by omega), fstI_nn.mpr (fun k hk => by unfold bX6_pusher_2; rw [aAt_n (by omega), if_neg (h0 k hk)])]
  rfl
theorem push_or (C : Nat) (f : Nat → Int32) (x : Int32) : (∀ k, k < C → ¬ f k = x) ∨ ∃ j, j < C ∧ f j = x ∧ ∀ k, k < j → ¬ f k = x := by
  induction C with
  | zero => exact Or.inl (fun k hk => absurd hk (by omega))
  | succ n ih =>
    rcases ih with h | ⟨j, h1, h2, h3⟩
    · by_cases e : f n = x
      · exact Or.inr ⟨n, by omega, e, fun k hk => h k hk⟩
      · refine Or.inl (fun k hk => ?_)
        by_cases e2 : k = n
        · subst e2; exact e
        · exact h k (by omega)
    · exact Or.inr ⟨j, by omega, h2, h3⟩
theorem gv_inj {x y : Int32} (hx : x = 1 ∨ x = -1) (hy : y = 1 ∨ y = -1) : gv 10 x = gv 10 y ↔ x = y := by
  rcases hx with rfl | rfl <;> rcases hy with rfl | rfl <;> decide
theorem ivP_push {j : Nat} {fb fp : Nat → Int32} (hC6 : C ≤ 6) (hi : i < C) (hj : j < C) (h : ivP C fb fp) (hb : fb i = 1) (hbj : fb j = 0) (h0 : ∀ k, k < C → ¬ fp k = nI i) : ivP C fb (upd fp j (nI i)) := by
  refine ⟨fun c hc => ?_, fun c hc => ?_, fun c d hc hd e => ?_⟩
  · by_cases e : c = j
    · subst e; rw [upd_same]; exact Or.inr ⟨i, by omega, rfl⟩
    · rw [upd_ne e]; exact h.1 c hc
  · by_cases e : c = j
    · subst e; rw [upd_same]; exact Or.inr ⟨i, hi, rfl, hb, hbj⟩
    · rw [upd_ne e]; exact h.2.1 c hc
  · by_cases e1 : c = j
    · by_cases e2 : d = j
      · exact Or.inr (e1.trans e2.symm)
      · subst e1
        rw [upd_same, upd_ne e2] at e
        exact absurd e.symm (h0 d hd)
    · by_cases e2 : d = j
      · subst e2
        rw [upd_same, upd_ne e1] at e
        exact absurd e (h0 c hc)
      · rw [upd_ne e1, upd_ne e2] at e
        rw [upd_ne e1]
        exact h.2.2 c d hc hd e
theorem IV.p (h : IV P C S g b) {f : Nat → Int32} (hf : ivP C (b.2 10) f) : IV P C S g (lRow b 11 f) := by
  obtain ⟨h0, hc, hw, hs, hd, ha, hy, hr, hb, hp, hn, hg⟩ := h
  exact ⟨h0, hc, hw, hs, hd, ha, hy, hr, hb, hf, hn, hg⟩
theorem ivP_ren0 {fb fp : Nat → Int32} (h : ivP C fb fp) (h0 : ∀ k, k < C → ¬ fp k = nI i) : ivP C (upd fb i 0) fp := by
  refine ⟨h.1, fun c hc => ?_, h.2.2⟩
  rcases h.2.1 c hc with z | ⟨p, h1, h2, h3, h4⟩
  · exact Or.inl z
  · refine Or.inr ⟨p, h1, h2, ?_, ?_⟩
    · rw [upd_ne (fun e => h0 c hc (by rw [h2, e]))]; exact h3
    · by_cases e : c = i
      · subst e; exact upd_same _ _ _
      · rw [upd_ne e]; exact h4
theorem ivP_ren1 {j : Nat} {fb fp : Nat → Int32} (h : ivP C fb fp) (hj : j < C) (ej : fp j = nI i) : ivP C (upd fb i 0) (upd fp j (-1)) := by
  have one : ∀ k, k < C → fp k = nI i → fp k = -1 ∨ k = j := fun k hk e => h.2.2 k j hk hj (e.trans ej.symm)
  refine ⟨fun c hc => ?_, fun c hc => ?_, fun c d hc hd e => ?_⟩
  · by_cases e : c = j
    · subst e; rw [upd_same]; exact Or.inl rfl
    · rw [upd_ne e]; exact h.1 c hc
  · by_cases e : c = j
    · subst e; rw [upd_same]; exact Or.inl rfl
    · rw [upd_ne e]
      rcases h.2.1 c hc with z | ⟨p, h1, h2, h3, h4⟩
      · exact Or.inl z
      · by_cases ep : p = i
        · rcases one c hc (by rw [h2, ep]) with z | z
          · exact Or.inl z
          · exact absurd z e
        · refine Or.inr ⟨p, h1, h2, ?_, ?_⟩
          · rw [upd_ne ep]; exact h3
          · by_cases e4 : c = i
            · subst e4; exact upd_same _ _ _
            · rw [upd_ne e4]; exact h4
  · by_cases e1 : c = j
    · subst e1; rw [upd_same]; exact Or.inl rfl
    · by_cases e2 : d = j
      · subst e2
        rw [upd_same] at e
        exact Or.inl e
      · rw [upd_ne e1, upd_ne e2] at e
        rw [upd_ne e1]
        exact h.2.2 c d hc hd e
theorem ivS_upd {f : Nat → Int32} {y : Int32} (h : ivS P f) (hq : q < P) : ivS P (upd f q y) := by
  intro k hk hk2
  rw [upd_ne (by omega)]
  exact h k hk hk2
theorem ZL.sc5 (h : ZL P C S w V mv B) {x y : Int32} (e : x = y) : ZL P C S w (lSc V 5 x) mv (lSc B 2 y) := by
  subst e
  obtain ⟨⟨h1, h2, h3, h4, h5, h6, h7, h8, h9⟩, s2, s3, s4⟩ := h
  exact ⟨⟨h1, h2, h3, h4, h5, rfl, h7, h8, h9⟩, s2, s3, s4⟩
set_option maxHeartbeats 8000000 in
theorem st_mend {v0 sv0 : LV} {D : Nat → Int32} (hi : i < C) (h : ZL P C S w a mv b) (hv : IV P C S g b) (h6 : a.2 6 = D) : ZL P C S w (bX1_mendCars_2 v0 i a) mv (bX6_pass_109 mv sv0 i b) ∧ IV P C S g (bX6_pass_109 mv sv0 i b) ∧ (bX6_pass_109 mv sv0 i b).2 13 = b.2 13 ∧ (bX1_mendCars_2 v0 i a).2 6 = D := by
  obtain ⟨⟨hP3, hP16, hC6, hS⟩, hc, hw, hs, hd, ha, hy, hr, hb, hp, hn, hg⟩ := id hv
  have hi6 : i < 6 := by omega
  obtain ⟨q, hq, e6, -⟩ := ha i hi6
  have r13 : lAt a 13 (nI i) = b.2 10 i := h.2.2.2.rdn 13 i hi6
  have r9 : lAt a 9 (nI i) = nI q := (h.2.2.2.rdn 9 i hi6).trans e6
  have r8 : lAt a 8 (nI q) = b.2 2 q := h.2.2.2.rdn 8 q (by show q < 16; omega)
  unfold bX1_mendCars_2 bX6_pass_109 fX6_mend fX0_runs
  rw [r13, aAt_n (r := 10) (by omega), aAt_n (r := 6) (by omega), e6, aAt_n (r := 2) (by omega)]
  rcases hb i hi6 with eb | ⟨eb, -⟩
  · rw [eb, if_pos rfl, if_neg d10, if_pos rfl]
    exact ⟨h, hv, rfl, h6⟩
  · rw [eb, if_neg d10, if_pos rfl, if_neg d10]
    unfold fX1_mend
    rw [r9, r8]
    by_cases hsp : b.2 2 q ≤ 0
    · rw [if_pos hsp, if_pos hsp, h.hC, nI_clamp (by omega)]
      rcases push_or C (b.2 11) (nI i) with h0 | ⟨j, hj, ej, hj0⟩
      · have ip : fX0_isPushed a (nI i) = 0 := by
          unfold fX0_isPushed
          rw [h.1.2.2.1, nI_clamp (by omega), fstI_nn.mpr (fun k hk => ?_)]
          · rfl
          · have rk : lAt a 14 (nI k) = b.2 11 k := h.2.2.2.rdn 14 k (by show k < 6; omega)
            unfold bX0_isPushed_2
            rw [rk, if_neg (h0 k hk)]
        rw [ip, if_pos rfl]
        unfold fX0_findPusherFor
        rw [h.1.2.2.1, nI_clamp (by omega)]
        have key := fstI_rel (f := bX0_findPusherFor_2 a (nI i)) (g := bX6_mend_84 mv b (nI i)) (fun x y => ZL P C S w x mv y ∧ IV P C S g y ∧ y.2 13 = b.2 13 ∧ x.2 6 = D) C (fun j hj => by
          have hj6 : j < 6 := by omega
          have s13 : lAt a 13 (nI j) = b.2 10 j := h.2.2.2.rdn 13 j hj6
          have s14 : lAt a 14 (nI j) = b.2 11 j := h.2.2.2.rdn 14 j hj6
          have s9 : lAt a 9 (nI j) = b.2 6 j := h.2.2.2.rdn 9 j hj6
          have s10 : lAt a 10 (nI j) = gv 10 (b.2 7 j) := h.2.2.2.rdn 10 j hj6
          have i10 : lAt a 10 (nI i) = gv 10 (b.2 7 i) := h.2.2.2.rdn 10 i hi6
          have hgv := gv_inj (hy j hj) (hy i hi)
          unfold bX0_findPusherFor_2 bX6_mend_84
          rw [s13, s14, s9, s10, i10, r9, pushN hC6 h.hC h0, if_pos rfl, aAt_n (r := 10) (by omega), aAt_n (r := 11) (by omega), aAt_n (r := 7) (i := j) (by omega), aAt_n (r := 7) (i := i) (by omega), aAt_n (r := 6) (i := j) (by omega), aAt_n (r := 6) (i := i) (by omega), e6]
          rcases hb j hj6 with f0 | ⟨f0, -⟩
          · rw [f0, if_pos rfl, if_neg d01]
            by_cases f1 : b.2 11 j = -1
            · rw [if_pos f1, if_pos f1]
              by_cases f2 : b.2 7 j = b.2 7 i
              · rw [if_pos f2, if_pos (hgv.mpr f2)]
                by_cases f3 : b.2 6 j = nI q
                · rw [if_pos f3, if_pos f3]
                  refine Or.inr ⟨_, _, rfl, rfl, h.wr 14 j _ _ hj6 (by decide) rfl, ?_, rfl, h6⟩
                  rw [aSet_n (by omega)]
                  exact hv.p (ivP_push hC6 hi hj hp eb f0 h0)
                · rw [if_neg f3, if_neg f3]
                  exact Or.inl ⟨rfl, rfl⟩
              · rw [if_neg f2, if_neg (fun z => f2 (hgv.mp z))]
                exact Or.inl ⟨rfl, rfl⟩
            · rw [if_neg f1, if_neg f1]
              exact Or.inl ⟨rfl, rfl⟩
          · rw [f0, if_neg d10, if_pos rfl]
            exact Or.inl ⟨rfl, rfl⟩)
        rcases key with ⟨k1, k2⟩ | ⟨x, y, k1, k2, k3⟩
        · rw [k1, k2]
          exact ⟨h, hv, rfl, h6⟩
        · rw [k1, k2]
          exact k3
      · have ip : fX0_isPushed a (nI i) = 1 := by
          have rk : ∀ k, k < C → lAt a 14 (nI k) = b.2 11 k := fun k hk => h.2.2.2.rdn 14 k (by show k < 6; omega)
          unfold fX0_isPushed
          rw [h.1.2.2.1, nI_clamp (by omega), fstI_at (i := j) (r := 1) hj (by unfold bX0_isPushed_2; rw [rk j hj, if_pos ej]) (fun k hk => by unfold bX0_isPushed_2; rw [rk k (by omega), if_neg (hj0 k hk)])]
          rfl
        rw [ip, if_neg d10]
        have key : fstI C (bX6_mend_84 mv b (nI i)) = some b := fstI_at (i := 0) (by omega) (by
          unfold bX6_mend_84
          rw [pushY hC6 h.hC hj ej hj0, if_neg (nI_m1 (by omega))]) (fun k hk => absurd hk (by omega))
        rw [key]
        exact ⟨h, hv, rfl, h6⟩
    · rw [if_neg hsp, if_neg hsp]
      have k1 : ZL P C S w (lAdd a 8 (nI q) (-1)) mv (aSet b 2 (nI q) (b.2 2 q - 1)) := by
        rw [lAdd_n (by show q < 16; omega), r8]
        exact h.wr 8 q _ _ (by show q < 16; omega) (by decide) (Int32.sub_eq_add_neg _ _).symm
      have k2 : ZL P C S w (lSet (lAdd a 8 (nI q) (-1)) 13 (nI i) 0) mv (aSet (aSet b 2 (nI q) (b.2 2 q - 1)) 10 (nI i) 0) := k1.wr 13 i 0 0 hi6 (by decide) rfl
      have k3 : ZL P C S w (lSet (lSet (lAdd a 8 (nI q) (-1)) 13 (nI i) 0) 12 (nI i) 0) mv (aSet (aSet (aSet b 2 (nI q) (b.2 2 q - 1)) 10 (nI i) 0) 9 (nI i) 0) := k2.wr 12 i 0 0 hi6 (by decide) rfl
      obtain ⟨V, eV⟩ : ∃ x, x = lSet (lSet (lAdd a 8 (nI q) (-1)) 13 (nI i) 0) 12 (nI i) 0 := ⟨_, rfl⟩
      have rn : fX0_renew (lAdd a 8 (nI q) (-1)) (nI i) = lRow V 14 (fun k => if k < C then (if V.2 14 k = nI i then -1 else V.2 14 k) else V.2 14 k) := by
        unfold fX0_renew
        rw [show (lAdd a 8 (nI q) (-1)).1 2 = nI C from h.1.2.2.1, nI_clamp (by omega), ← eV]
        exact renewC hC6
      rw [← eV] at k3
      have V14 : ∀ k, k < 6 → V.2 14 k = b.2 11 k := fun k hk => by
        rw [eV]
        exact h.2.2.2.2 14 k hk
      have a5 : V.1 5 = b.1 2 := by rw [eV]; exact h.1.2.2.2.2.2.1
      have V6 : V.2 6 = D := by rw [eV]; exact h6
      rw [rn]
      have sc : (lRow V 14 (fun k => if k < C then (if V.2 14 k = nI i then -1 else V.2 14 k) else V.2 14 k)).1 5 = b.1 2 := a5
      rw [sc]
      rcases push_or C (b.2 11) (nI i) with h0 | ⟨j, hj, ej, hj0⟩
      · rw [pushN hC6 h.hC h0, if_pos rfl]
        refine ⟨?_, ?_, rfl, V6⟩
        · have := (k3.r14 (fun k => if k < C then (if V.2 14 k = nI i then -1 else V.2 14 k) else V.2 14 k) (b.2 11) (fun k hk => by
            show (if k < C then (if V.2 14 k = nI i then -1 else V.2 14 k) else V.2 14 k) = b.2 11 k
            rw [V14 k hk]
            by_cases e1 : k < C
            · rw [if_pos e1, if_neg (h0 k e1)]
            · rw [if_neg e1])).sc5 (x := b.1 2 + 1) rfl
          have ee : lRow (aSet (aSet (aSet b 2 (nI q) (b.2 2 q - 1)) 10 (nI i) 0) 9 (nI i) 0) 11 (b.2 11) = aSet (aSet (aSet b 2 (nI q) (b.2 2 q - 1)) 10 (nI i) 0) 9 (nI i) 0 := lRow_self (aSet (aSet (aSet b 2 (nI q) (b.2 2 q - 1)) 10 (nI i) 0) 9 (nI i) 0) 11
          rw [ee] at this
          exact this
        · rw [aSet_n (r := 2) (by omega), aSet_n (r := 10) (by omega), aSet_n (r := 9) (by omega)]
          exact ⟨⟨hP3, hP16, hC6, hS⟩, hc, hw, ivS_upd hs hq, hd, ha, hy, hr, ivB_upd0 hb, ivP_ren0 hp h0, hn, hg⟩
      · rw [pushY hC6 h.hC hj ej hj0, if_neg (nI_m1 (by omega))]
        refine ⟨?_, ?_, rfl, V6⟩
        · have := (k3.r14 (fun k => if k < C then (if V.2 14 k = nI i then -1 else V.2 14 k) else V.2 14 k) (upd (b.2 11) j (-1)) (fun k hk => by
            show (if k < C then (if V.2 14 k = nI i then -1 else V.2 14 k) else V.2 14 k) = upd (b.2 11) j (-1) k
            rw [V14 k hk]
            by_cases e1 : k < C
            · rw [if_pos e1]
              by_cases e2 : k = j
              · subst e2
                rw [if_pos ej, upd_same]
              · rw [upd_ne e2]
                by_cases e3 : b.2 11 k = nI i
                · rw [if_pos e3]
                  rcases hp.2.2 k j e1 hj (e3.trans ej.symm) with z | z
                  · exact z.symm
                  · exact absurd z e2
                · rw [if_neg e3]
            · rw [if_neg e1, upd_ne (by omega)])).sc5 (x := b.1 2 + 1) rfl
          rw [aSet_n (r := 11) (by omega)]
          exact this
        · rw [aSet_n (r := 2) (by omega), aSet_n (r := 10) (by omega), aSet_n (r := 9) (by omega), aSet_n (r := 11) (by omega)]
          exact ⟨⟨hP3, hP16, hC6, hS⟩, hc, hw, ivS_upd hs hq, hd, ha, hy, hr, ivB_upd0 hb, ivP_ren1 hp hj ej, hn, hg⟩
end ZME
theorem rl_mend {P C S g w : Nat} {v mv sv sv0 : LV} {D : Nat → Int32} (hh : HA P C S g w D v mv sv) : HA P C S g w D (fX1_mendCars v) mv (itI C (bX6_pass_109 mv sv0) sv) := by
  have hC6 := hh.2.1.1.2.2.1
  unfold fX1_mendCars
  rw [hh.1.1.2.2.1, nI_clamp (by omega)]
  exact itI_rel (fun _ a b => HA P C S g w D a mv b) C hh (fun i a b hi q => by
    have := st_mend (v0 := v) (sv0 := sv0) hi q.1 q.2.1 q.2.2.2
    exact ⟨this.1, this.2.1, fun c hc => by rw [this.2.2.1]; exact q.2.2.1 c hc, this.2.2.2⟩)
