/-! THE SIMULATION, 4: stops -/
theorem aMinN {a b : Nat} (ha : a < 2 ^ 31) (hb : b < 2 ^ 31) : aMin (nI a) (nI b) = nI (min a b) := by
  unfold aMin
  by_cases h : b < a
  · rw [if_pos (nI_lt h ha), Nat.min_eq_right (by omega)]
  · rw [if_neg (nI_nlt (by omega) hb), Nat.min_eq_left (by omega)]
theorem aMaxN {a b : Nat} (ha : a < 2 ^ 31) (hb : b < 2 ^ 31) : aMax (nI a) (nI b) = nI (max a b) := by
  unfold aMax
  by_cases h : a < b
  · rw [if_pos (nI_lt h hb), Nat.max_eq_right (by omega)]
  · rw [if_neg (nI_nlt (by omega) ha), Nat.max_eq_left (by omega)]
theorem ivW_upd {P q : Nat} {f : Nat → Int32} {y : Int32} (h : ivW P f) (hq : q < P) (hy : ∃ m, m ≤ 99 ∧ y = nI m) : ivW P (upd f q y) := by
  intro k hk
  by_cases e : k = q
  · subst e
    rw [upd_same]
    obtain ⟨m, h1, h2⟩ := hy
    exact ⟨m, h1, h2, fun z => absurd z (by omega)⟩
  · rw [upd_ne e]; exact h k hk
theorem ivR_upd {C q : Nat} {f : Nat → Int32} {y : Int32} (h : ivR C f) (hq : q < C) (hy : ∃ m, m ≤ 30 ∧ y = nI m) : ivR C (upd f q y) := by
  intro k hk
  by_cases e : k = q
  · subst e
    rw [upd_same]
    obtain ⟨m, h1, h2⟩ := hy
    exact ⟨m, h1, h2, fun z => absurd z (by omega)⟩
  · rw [upd_ne e]; exact h k hk
theorem ivB_upd1 {C q : Nat} {f : Nat → Int32} (h : ivB C f) (hq : q < C) : ivB C (upd f q 1) := by
  intro k hk
  by_cases e : k = q
  · subst e; rw [upd_same]; exact Or.inr ⟨rfl, hq⟩
  · rw [upd_ne e]; exact h k hk
theorem ivB_upd0 {C q : Nat} {f : Nat → Int32} (h : ivB C f) : ivB C (upd f q 0) := by
  intro k hk
  by_cases e : k = q
  · subst e; rw [upd_same]; exact Or.inl rfl
  · rw [upd_ne e]; exact h k hk
theorem ivP_brk {C i : Nat} {fb fp : Nat → Int32} (h : ivP C fb fp) : ivP C (upd fb i 1) (upd fp i (-1)) := by
  refine ⟨fun c hc => ?_, fun c hc => ?_, fun c d hc hd e => ?_⟩
  · by_cases e : c = i
    · subst e; rw [upd_same]; exact Or.inl rfl
    · rw [upd_ne e]; exact h.1 c hc
  · by_cases e : c = i
    · subst e; rw [upd_same]; exact Or.inl rfl
    · rw [upd_ne e, upd_ne e]
      rcases h.2.1 c hc with q | ⟨p, h1, h2, h3, h4⟩
      · exact Or.inl q
      · refine Or.inr ⟨p, h1, h2, ?_, h4⟩
        by_cases e2 : p = i
        · subst e2; exact upd_same _ _ _
        · rw [upd_ne e2]; exact h3
  · by_cases e1 : c = i
    · subst e1; rw [upd_same]; exact Or.inl rfl
    · by_cases e2 : d = i
      · subst e2
        rw [upd_same] at e
        exact Or.inl e
      · rw [upd_ne e1, upd_ne e2] at e
        rw [upd_ne e1]
        exact h.2.2 c d hc hd e
section ZHA
variable {P C S g w : Nat} {v a mv b X V : LV} {i q : Nat}
theorem ZL.sc (h : ZL P C S w V mv X) {x y : Int32} (e : x = y) : ZL P C S w (lSc V 4 x) mv (lSc X 1 y) := by
  subst e
  obtain ⟨⟨h1, h2, h3, h4, h5, h6, h7, h8, h9⟩, s2, s3, s4⟩ := h
  exact ⟨⟨h1, h2, h3, h4, rfl, h6, h7, h8, h9⟩, s2, s3, s4⟩
def brkM (X : LV) (i q : Nat) : LV := aSet (aSet (aSet (aSet (aSet X 10 (nI i) 1) 9 (nI i) 99) 11 (nI i) (-1)) 0 (nI q) (aMin 99 (X.2 0 q + X.2 8 i))) 8 (nI i) 0
def wearM (X : LV) (i q : Nat) : LV := if X.2 8 i ≤ 20 then (if 100 ≤ X.2 9 i + 3 then brkM (aSet X 9 (nI i) (X.2 9 i + 3)) i q else aSet X 9 (nI i) (X.2 9 i + 3)) else (if 100 ≤ X.2 9 i + 5 then brkM (aSet X 9 (nI i) (X.2 9 i + 5)) i q else aSet X 9 (nI i) (X.2 9 i + 5))
set_option maxHeartbeats 4000000 in
theorem st_brk (hi : i < C) (h : ZL P C S w V mv X) (hv : IV P C S g X) (hq : q < P) : ZL P C S w (fX0_breakDown (fX3_welcome V (nI q) (X.2 8 i)) (nI i)) mv (brkM X i q) ∧ IV P C S g (brkM X i q) ∧ (brkM X i q).2 13 = X.2 13 ∧ (fX0_breakDown (fX3_welcome V (nI q) (X.2 8 i)) (nI i)).2 6 = V.2 6 := by
  obtain ⟨⟨hP3, hP16, hC6, hS⟩, hc, hw, hs, hd, ha, hy, hr, hb, hp, hn, hg⟩ := id hv
  have hi6 : i < 6 := by omega
  have r7 : lAt V 7 (nI q) = X.2 0 q := h.2.2.2.rdn 7 q (by show q < 16; omega)
  have k1 : ZL P C S w (lSet V 7 (nI q) (aMin 99 (lAt V 7 (nI q) + X.2 8 i))) mv (aSet X 0 (nI q) (aMin 99 (X.2 0 q + X.2 8 i))) := h.wr 7 q _ _ (by show q < 16; omega) (by decide) (by rw [r7]; rfl)
  have k2 : ZL P C S w _ mv (aSet (aSet X 0 (nI q) (aMin 99 (X.2 0 q + X.2 8 i))) 10 (nI i) 1) := k1.wr 13 i 1 1 hi6 (by decide) rfl
  have k3 : ZL P C S w _ mv (aSet (aSet (aSet X 0 (nI q) (aMin 99 (X.2 0 q + X.2 8 i))) 10 (nI i) 1) 9 (nI i) 99) := k2.wr 12 i 99 99 hi6 (by decide) rfl
  have k4 : ZL P C S w _ mv (aSet (aSet (aSet (aSet X 0 (nI q) (aMin 99 (X.2 0 q + X.2 8 i))) 10 (nI i) 1) 9 (nI i) 99) 8 (nI i) 0) := k3.wr 11 i 0 0 hi6 (by decide) rfl
  have k5 : ZL P C S w _ mv (aSet (aSet (aSet (aSet (aSet X 0 (nI q) (aMin 99 (X.2 0 q + X.2 8 i))) 10 (nI i) 1) 9 (nI i) 99) 8 (nI i) 0) 11 (nI i) (-1)) := k4.wr 14 i (-1) (-1) hi6 (by decide) rfl
  rw [aSet_comm (r := 8) (k := 11) (by decide), aSet_comm (r := 0) (k := 10) (by decide), aSet_comm (r := 0) (k := 9) (by decide), aSet_comm (r := 0) (k := 11) (by decide)] at k5
  refine ⟨k5, ?_, rfl, rfl⟩
  obtain ⟨a0, ha0, ea0, -⟩ := hw q (by omega)
  obtain ⟨b0, hb0, eb0, -⟩ := hr i hi6
  have em : aMin 99 (X.2 0 q + X.2 8 i) = nI (min 99 (a0 + b0)) := by
    rw [ea0, eb0, nI_add]
    exact aMinN (a := 99) (by omega) (by omega)
  unfold brkM
  rw [aSet_n (r := 10) (by omega), aSet_n (r := 9) (by omega), aSet_n (r := 11) (by omega), aSet_n (r := 0) (by omega), aSet_n (r := 8) (by omega)]
  exact ⟨⟨hP3, hP16, hC6, hS⟩, hc, ivW_upd hw hq ⟨_, by omega, em⟩, hs, hd, ha, hy, ivR_upd hr hi ⟨0, by omega, rfl⟩, ivB_upd1 hb hi, ivP_brk hp, hn, hg⟩
set_option maxHeartbeats 4000000 in
theorem st_wear (hi : i < C) (h : ZL P C S w V mv X) (hv : IV P C S g X) (hq : q < P) (e6 : X.2 6 i = nI q) : ZL P C S w (fX1_wearOut V (nI i)) mv (wearM X i q) ∧ IV P C S g (wearM X i q) ∧ (wearM X i q).2 13 = X.2 13 ∧ (fX1_wearOut V (nI i)).2 6 = V.2 6 := by
  have hC6 := hv.1.2.2.1
  have hi6 : i < 6 := by omega
  have r9 : lAt V 9 (nI i) = nI q := (h.2.2.2.rdn 9 i hi6).trans e6
  have r11 : lAt V 11 (nI i) = X.2 8 i := h.2.2.2.rdn 11 i hi6
  have r12 : lAt V 12 (nI i) = X.2 9 i := h.2.2.2.rdn 12 i hi6
  have key : ∀ d : Int32, ZL P C S w (lSet V 12 (nI i) (X.2 9 i + d)) mv (aSet X 9 (nI i) (X.2 9 i + d)) ∧ IV P C S g (aSet X 9 (nI i) (X.2 9 i + d)) := fun d => ⟨h.wr 12 i _ _ hi6 (by decide) rfl, hv.free (by omega)⟩
  unfold fX1_wearOut wearM
  rw [r11, r9, lAdd_n (by exact hi6), lAdd_n (by exact hi6), r12, lAt_same (by exact hi6), lAt_same (by exact hi6)]
  have le99 : ∀ x : Int32, ¬ x ≤ 99 ↔ 100 ≤ x := by
    intro x
    rw [Int32.le_iff_toInt_le, Int32.le_iff_toInt_le, show (99 : Int32).toInt = 99 by decide, show (100 : Int32).toInt = 100 by decide]
    omega
  by_cases h20 : X.2 8 i ≤ 20
  · rw [if_pos h20, if_pos h20]
    by_cases h99 : X.2 9 i + 3 ≤ 99
    · rw [if_pos h99, if_neg (fun z => (le99 _).mpr z h99)]
      exact ⟨(key 3).1, (key 3).2, rfl, rfl⟩
    · rw [if_neg h99, if_pos ((le99 _).mp h99)]
      exact st_brk hi (key 3).1 (key 3).2 hq
  · rw [if_neg h20, if_neg h20]
    by_cases h99 : X.2 9 i + 5 ≤ 99
    · rw [if_pos h99, if_neg (fun z => (le99 _).mpr z h99)]
      exact ⟨(key 5).1, (key 5).2, rfl, rfl⟩
    · rw [if_neg h99, if_pos ((le99 _).mp h99)]
      exact st_brk hi (key 5).1 (key 5).2 hq
def onM (b : LV) (i q : Nat) : Int32 := aMin (b.2 0 q) (30 - (b.2 8 i - b.2 8 i / 2))
def exchM (b : LV) (i q : Nat) : LV := lSc (aSet (aSet b 0 (nI q) (b.2 0 q - onM b i q)) 8 (nI i) ((b.2 8 i - b.2 8 i / 2) + onM b i q)) 1 (b.1 1 + onM b i q)
theorem haltM (hi6 : i < 6) (hq : q < 16) (e6 : b.2 6 i = nI q) : fX6_halt mv b (nI i) = if b.2 13 i = 0 then b else wearM (exchM b i q) i q := by
  unfold fX6_halt
  rw [aAt_n (r := 13) (by omega), aAt_n (r := 8) (by omega), aAt_n (r := 9) (by omega), aAt_n (r := 6) (by omega), e6, aAt_n (r := 0) (by omega)]
  have x8 : (exchM b i q).2 8 i = (b.2 8 i - b.2 8 i / 2) + onM b i q := by
    show (aSet (aSet b 0 (nI q) (b.2 0 q - onM b i q)) 8 (nI i) ((b.2 8 i - b.2 8 i / 2) + onM b i q)).2 8 i = _
    rw [aSet_n (r := 8) (by omega), lRow_same, upd_same]
  have x0 : (exchM b i q).2 0 q = b.2 0 q - onM b i q := by
    show (aSet b 0 (nI q) (b.2 0 q - onM b i q)).2 0 q = _
    rw [aSet_n (by omega), lRow_same, upd_same]
  have x9 : (exchM b i q).2 9 i = b.2 9 i := rfl
  have eo : aMin (b.2 0 q) (30 - (b.2 8 i - b.2 8 i / 2)) = onM b i q := rfl
  have eX : lSc (aSet (aSet (aSet b 8 (nI i) (b.2 8 i - b.2 8 i / 2)) 0 (nI q) (b.2 0 q - onM b i q)) 8 (nI i) ((b.2 8 i - b.2 8 i / 2) + onM b i q)) 1 (b.1 1 + onM b i q) = exchM b i q := by
    unfold exchM
    rw [aSet_comm (r := 8) (k := 0) (by decide), aSet_idem]
  have y0 : ∀ z, (aSet (exchM b i q) 9 (nI i) z).2 0 q = b.2 0 q - onM b i q := fun z => by rw [show (aSet (exchM b i q) 9 (nI i) z).2 0 = (exchM b i q).2 0 from lRow_ne (by decide)]; exact x0
  have y8 : ∀ z, (aSet (exchM b i q) 9 (nI i) z).2 8 i = (b.2 8 i - b.2 8 i / 2) + onM b i q := fun z => by rw [show (aSet (exchM b i q) 9 (nI i) z).2 8 = (exchM b i q).2 8 from lRow_ne (by decide)]; exact x8
  rw [eo, eX]
  unfold wearM brkM
  rw [x8, x9, y0, y0, y8, y8]
set_option maxHeartbeats 4000000 in
theorem st_exch (hi : i < C) (h : ZL P C S w a mv b) (hv : IV P C S g b) (hq : q < P) (e6 : b.2 6 i = nI q) : ZL P C S w (fX1_exchangeRiders a (nI i)) mv (exchM b i q) ∧ IV P C S (g + 30) (exchM b i q) := by
  obtain ⟨⟨hP3, hP16, hC6, hS⟩, hc, hw, hs, hd, ha, hy, hr, hb, hp, hn, hg⟩ := id hv
  have hi6 : i < 6 := by omega
  have r9 : lAt a 9 (nI i) = nI q := (h.2.2.2.rdn 9 i hi6).trans e6
  have r11 : lAt a 11 (nI i) = b.2 8 i := h.2.2.2.rdn 11 i hi6
  have r7 : lAt a 7 (nI q) = b.2 0 q := h.2.2.2.rdn 7 q (by show q < 16; omega)
  obtain ⟨a0, ha0, ea0, -⟩ := hw q (by omega)
  obtain ⟨b0, hb0, eb0, -⟩ := hr i hi6
  have est : b.2 8 i - b.2 8 i / 2 = nI (b0 - b0 / 2) := by
    rw [eb0, show (2 : Int32) = nI 2 from rfl, pk_div (by omega) (by omega) (by omega)]
    exact pk_sub (by omega)
  have eon : onM b i q = nI (min a0 (30 - (b0 - b0 / 2))) := by
    unfold onM
    rw [est, ea0, show (30 : Int32) - nI (b0 - b0 / 2) = nI (30 - (b0 - b0 / 2)) from pk_sub (a := 30) (by omega)]
    exact aMinN (by omega) (by omega)
  constructor
  · unfold fX1_exchangeRiders
    rw [r9, r11, r7, lAdd_n (by show q < 16; omega), r7]
    have k1 : ZL P C S w (lSet a 7 (nI q) (b.2 0 q + -onM b i q)) mv (aSet b 0 (nI q) (b.2 0 q - onM b i q)) := h.wr 7 q _ _ (by show q < 16; omega) (by decide) (Int32.sub_eq_add_neg _ _).symm
    exact (k1.wr 11 i _ _ hi6 (by decide) rfl).sc (by rw [h.1.2.2.2.2.1]; rfl)
  · unfold exchM
    rw [aSet_n (r := 0) (by omega), aSet_n (r := 8) (by omega)]
    refine ⟨⟨hP3, hP16, hC6, hS⟩, hc, ivW_upd hw hq ⟨a0 - min a0 (30 - (b0 - b0 / 2)), by omega, ?_⟩, hs, hd, ha, hy, ivR_upd hr hi ⟨(b0 - b0 / 2) + min a0 (30 - (b0 - b0 / 2)), by omega, ?_⟩, hb, hp, hn, fun hlt => ?_⟩
    · rw [eon, ea0]; exact pk_sub (by omega)
    · rw [est, eon, nI_add]
    · obtain ⟨j, hj, ej⟩ := hg (by omega)
      refine ⟨j + min a0 (30 - (b0 - b0 / 2)), by omega, ?_⟩
      show b.1 1 + onM b i q = _
      rw [eon, ej, nI_add]
end ZHA
def HA (P C S g w : Nat) (D : Nat → Int32) (a mv b : LV) : Prop := ZL P C S w a mv b ∧ IV P C S g b ∧ (∀ c, c < C → b.2 13 c = 0 ∨ b.2 13 c = 1) ∧ a.2 6 = D
theorem IV.up {P C S g g' : Nat} {b : LV} (h : IV P C S g b) (hg : g ≤ g') : IV P C S g' b := by
  obtain ⟨h0, hc, hw, hs, hd, ha, hy, hr, hb, hp, hn, hz⟩ := h
  refine ⟨h0, hc, hw, hs, hd, ha, hy, hr, hb, hp, hn, fun hlt => ?_⟩
  obtain ⟨j, h1, h2⟩ := hz (by omega)
  exact ⟨j, by omega, h2⟩
theorem st_halt {P C S g : Nat} {v0 sv0 a mv b : LV} {D : Nat → Int32} {i : Nat} (hi : i < C) (hh : HA P C S g C D a mv b) : HA P C S (g + 30) C D (bX1_serveStops_2 v0 i a) mv (bX6_pass_85 mv sv0 i b) := by
  obtain ⟨h, hv, hwn, h6⟩ := hh
  have hC6 := hv.1.2.2.1
  have hP16 := hv.1.2.1
  have hi6 : i < 6 := by omega
  obtain ⟨q, hq, e6, -⟩ := hv.2.2.2.2.2.1 i hi6
  have r16 : lAt a 16 (nI i) = b.2 13 i := h.2.2.2.rdn 16 i hi
  unfold bX1_serveStops_2 bX6_pass_85
  rw [haltM hi6 (by omega) e6, r16]
  rcases hwn i hi with e | e
  · rw [e, if_neg d01, if_pos rfl]
    exact ⟨h, hv.up (by omega), hwn, h6⟩
  · rw [e, if_pos rfl, if_neg d10]
    have k1 := st_exch hi h hv hq e6
    have k2 := st_wear hi k1.1 k1.2 hq (show (exchM b i q).2 6 i = nI q from e6)
    exact ⟨k2.1, k2.2.1, fun c hc => by rw [k2.2.2.1]; exact hwn c hc, by rw [k2.2.2.2]; exact h6⟩
theorem rl_halt {P C S g : Nat} {v mv sv sv0 : LV} {D : Nat → Int32} (h : HA P C S g C D v mv sv) : HA P C S (g + 180) C D (fX1_serveStops v) mv (itI C (bX6_pass_85 mv sv0) sv) := by
  have hC6 := h.2.1.1.2.2.1
  unfold fX1_serveStops
  rw [h.1.1.2.2.1, nI_clamp (by omega)]
  have key := itI_rel (f := bX1_serveStops_2 v) (g := bX6_pass_85 mv sv0) (fun n a b => n ≤ C → HA P C S (g + 30 * n) C D a mv b) C (fun _ => h) (fun i a b hi q hn => by
    have := st_halt (v0 := v) (sv0 := sv0) hi (q (by omega))
    rwa [show g + 30 * i + 30 = g + 30 * (i + 1) by omega] at this) (Nat.le_refl C)
  exact ⟨key.1, key.2.1.up (by omega), key.2.2⟩
