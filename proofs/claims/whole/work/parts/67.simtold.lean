/-! THE SIMULATION, 8: what is told -/
theorem itI_tail {f : Nat → Int32 → Int32} {a b : Nat} (h : a ≤ b) (x : Int32) (h0 : ∀ i y, a ≤ i → i < b → f i y = y) : itI b f x = itI a f x := by
  induction b with
  | zero => rw [show a = 0 by omega]
  | succ b ih =>
    by_cases e : a = b + 1
    · rw [e]
    · rw [itI_s, ih (by omega) (fun i y h1 h2 => h0 i y h1 (by omega)), h0 b _ (by omega) (by omega)]
section ZTO
variable {P C S g w : Nat} {v mv sv : LV}
theorem toldSum (h : ZL P C S w v mv sv) {r n m : Nat} (hl : lLen r = n) (hq : qLen S w r = n) (hg : ∀ x, gv r x = x) (hm : m ≤ n) (h0 : ∀ k, m ≤ k → k < n → sv.2 (prt r) k = 0) (hn : n < 2 ^ 31) : lSum v r = itI m (fun i a => a + aAt sv (prt r) (nI i)) 0 := by
  have e1 : ∀ k, k < n → v.2 r k = sv.2 (prt r) k := fun k hk => by rw [h.2.2.2.2 r k (by omega), hg]
  unfold lSum fX2_sum
  rw [hl, itI_tail hm 0 (fun i y h1 h2 => by
    unfold bX2_sum_13
    rw [nI_clamp (by omega), e1 i h2, h0 i h1 h2]
    exact Int32.add_zero y)]
  refine itI_cong _ _ (fun i a hi => ?_)
  unfold bX2_sum_13
  rw [nI_clamp (by omega), e1 i (by omega), aAt_n (by omega)]
theorem toldWait (h : ZL P C S w v mv sv) (hv : IV P C S g sv) : lSum v 7 = fX6_waiting mv sv := by
  have hP := hv.1
  unfold fX6_waiting
  rw [h.hP, nI_clamp (by omega)]
  exact toldSum h (r := 7) (n := 16) (m := P) rfl rfl (fun _ => rfl) (by omega) (fun k h1 h2 => by
    obtain ⟨q, -, e, z⟩ := hv.2.2.1 k h2
    rw [show prt 7 = 0 from rfl, e, z h1]; rfl) (by decide)
theorem toldBroken (h : ZL P C S w v mv sv) (hv : IV P C S g sv) : lSum v 13 = fX6_brokenOnes mv sv := by
  have hP := hv.1
  unfold fX6_brokenOnes
  rw [h.hC, nI_clamp (by omega)]
  exact toldSum h (r := 13) (n := 6) (m := C) rfl rfl (fun _ => rfl) (by omega) (fun k h1 h2 => by
    rcases hv.2.2.2.2.2.2.2.2.1 k h2 with e | ⟨_, z⟩
    · exact e
    · omega) (by decide)
theorem toldRiders (h : ZL P C S w v mv sv) (hv : IV P C S g sv) (nv : LV) (wh : Int32) : lSum v 11 = itI C (bX7_counted_52 mv sv nv wh) 0 := by
  have hP := hv.1
  exact toldSum h (r := 11) (n := 6) (m := C) rfl rfl (fun _ => rfl) (by omega) (fun k h1 h2 => by
    obtain ⟨q, -, e, z⟩ := hv.2.2.2.2.2.2.2.1 k h2
    rw [show prt 11 = 8 from rfl, e, z h1]; rfl) (by decide)
theorem toldSpares (h : ZL P C S w v mv sv) (hv : IV P C S g sv) (nv : LV) (wh : Int32) : fX3_allSpares v = itI P (bX7_counted_83 mv sv nv wh) 0 := by
  have hP := hv.1
  have e1 : ∀ k, k < 16 → lAt v 8 (nI k) = sv.2 2 k := fun k hk => h.2.2.2.rdn 8 k hk
  unfold fX3_allSpares
  rw [itI_tail (a := P) (b := 16) (by omega) 0 (fun i y h1 h2 => by
    unfold bX3_allSpares_4
    rw [e1 i h2, hv.2.2.2.1 i h2 h1]
    exact Int32.add_zero y)]
  refine itI_cong _ _ (fun i a hi => ?_)
  unfold bX3_allSpares_4 bX7_counted_83
  rw [e1 i (by omega), aAt_n (by omega)]
theorem toldDead (h : ZL P C S w v mv sv) (hv : IV P C S g sv) (nv : LV) (wh : Int32) : fX4_deadSections v = itI S (bX7_counted_10 mv sv nv wh) 0 := by
  have hS := hv.S15
  unfold fX4_deadSections
  rw [h.1.2.1, nI_clamp (by omega)]
  refine itI_cong _ _ (fun i a hi => ?_)
  have e4 : lAt v 4 (nI i) = sv.2 4 i := h.2.2.2.rdn 4 i hi
  unfold bX4_deadSections_4 bX7_counted_10
  rw [e4, aAt_n (by omega)]
theorem w11 {n : Nat} (h : n < 11) : n = 0 ∨ n = 1 ∨ n = 2 ∨ n = 3 ∨ n = 4 ∨ n = 5 ∨ n = 6 ∨ n = 7 ∨ n = 8 ∨ n = 9 ∨ n = 10 := by omega
theorem cl_0 : (0 : Int32).toNatClampNeg = 0 := rfl
theorem cl_1 : (1 : Int32).toNatClampNeg = 1 := rfl
theorem cl_2 : (2 : Int32).toNatClampNeg = 2 := rfl
theorem cl_3 : (3 : Int32).toNatClampNeg = 3 := rfl
theorem cl_4 : (4 : Int32).toNatClampNeg = 4 := rfl
theorem cl_5 : (5 : Int32).toNatClampNeg = 5 := rfl
theorem cl_6 : (6 : Int32).toNatClampNeg = 6 := rfl
theorem cl_7 : (7 : Int32).toNatClampNeg = 7 := rfl
theorem cl_8 : (8 : Int32).toNatClampNeg = 8 := rfl
theorem cl_9 : (9 : Int32).toNatClampNeg = 9 := rfl
theorem cl_10 : (10 : Int32).toNatClampNeg = 10 := rfl
set_option maxHeartbeats 4000000 in
theorem toldCount (h : ZL P C S w v mv sv) (hv : IV P C S g sv) (nv : LV) {n : Nat} (hn : n < 11) : fX1_total v (nI n) = rX7_counted mv sv nv (nI n) := by
  have hP := hv.1
  have hS := hv.S15
  unfold rX7_counted fX1_total
  rw [h.hS, h.hC, h.hP, nI_clamp (n := S) (by omega), nI_clamp (n := C) (by omega), nI_clamp (n := P) (by omega), ← toldDead h hv nv (nI n), ← toldRiders h hv nv (nI n), ← toldSpares h hv nv (nI n), ← toldBroken h hv, ← toldWait h hv, h.1.1, h.1.2.1, h.1.2.2.1, h.1.2.2.2.1, h.1.2.2.2.2.1, h.1.2.2.2.2.2.1, cl_0, cl_1, cl_2, cl_3, cl_4, cl_5, cl_6, cl_7, cl_8, cl_9, cl_10, nI_clamp (n := n) (by omega)]
  generalize fX4_deadSections v = x1
  generalize fX3_allSpares v = x2
  generalize lSum v 13 = x3
  generalize lSum v 7 = x4
  generalize lSum v 11 = x5
  rcases w11 hn with rfl | rfl | rfl | rfl | rfl | rfl | rfl | rfl | rfl | rfl | rfl <;> rfl
theorem toldPole (h : ZL P C S w v mv sv) (hv : IV P C S g sv) (nv : LV) {k : Nat} (hk : k < P) (wh : Int32) : fX1_poleFact v (nI k) wh = fX7_poleTold mv sv nv (nI k) wh := by
  have hP := hv.1
  have e7 : lAt v 7 (nI k) = sv.2 0 k := h.2.2.2.rdn 7 k (by show k < 16; omega)
  have e2 : lAt v 2 (nI k) = sv.2 1 k := h.2.2.2.rdn 2 k (by show k < 16; omega)
  have e8 : lAt v 8 (nI k) = sv.2 2 k := h.2.2.2.rdn 8 k (by show k < 16; omega)
  unfold fX1_poleFact fX7_poleTold
  rw [e7, e2, e8, carsV h (by omega), carsM h.hC (by omega), aAt_n (r := 0) (by omega), aAt_n (r := 1) (by omega), aAt_n (r := 2) (by omega)]
set_option maxHeartbeats 4000000 in
theorem toldCar (h : ZL P C S w v mv sv) (hv : IV P C S g sv) (nv : LV) {k n : Nat} (hk : k < C) (hn : n < 8) : fX1_carFact v (nI k) (nI n) = rX7_carTold mv sv nv (nI k) (nI n) := by
  have hP := hv.1
  have hk6 : k < 6 := by omega
  have e9 : lAt v 9 (nI k) = sv.2 6 k := h.2.2.2.rdn 9 k hk6
  have e10 : lAt v 10 (nI k) = gv 10 (sv.2 7 k) := h.2.2.2.rdn 10 k hk6
  have e11 : lAt v 11 (nI k) = sv.2 8 k := h.2.2.2.rdn 11 k hk6
  have e12 : lAt v 12 (nI k) = sv.2 9 k := h.2.2.2.rdn 12 k hk6
  have e13 : lAt v 13 (nI k) = sv.2 10 k := h.2.2.2.rdn 13 k hk6
  have e14 : lAt v 14 (nI k) = sv.2 11 k := h.2.2.2.rdn 14 k hk6
  have e15 : lAt v 15 (nI k) = sv.2 12 k := h.2.2.2.rdn 15 k hk6
  unfold fX1_carFact rX7_carTold
  rw [e9, e10, e11, e12, e13, e14, e15, drawV h hv hk, aAt_n (r := 6) (by omega), aAt_n (r := 7) (by omega), aAt_n (r := 8) (by omega), aAt_n (r := 9) (by omega), aAt_n (r := 10) (by omega), aAt_n (r := 11) (by omega), aAt_n (r := 12) (by omega), cl_0, cl_1, cl_2, cl_3, cl_4, cl_5, cl_6, cl_7, nI_clamp (n := n) (by omega)]
  generalize fX6_draws mv sv (nI k) = x1
  have hz : ∀ z : Int32, gv 10 z = if z ≤ 0 then 0 else 1 := fun _ => rfl
  rw [hz]
  by_cases hy : sv.2 7 k ≤ 0
  · rw [if_pos hy, if_pos hy]
    rcases w11 (show n < 11 by omega) with rfl | rfl | rfl | rfl | rfl | rfl | rfl | rfl | rfl | rfl | rfl
    all_goals first | (exfalso; omega) | rfl
  · rw [if_neg hy, if_neg hy]
    rcases w11 (show n < 11 by omega) with rfl | rfl | rfl | rfl | rfl | rfl | rfl | rfl | rfl | rfl | rfl
    all_goals first | (exfalso; omega) | rfl
/-! spans of a section -/
theorem fsP (P : Nat) (f : Nat → Int32) (hP : 3 ≤ P ∧ P ≤ 16) (hc : ivC P f) (q : Nat) : ∃ F, F ≤ P - 1 ∧ (∀ k, k < P - 1 → (k < F ↔ sn f k < q)) := by
  have key : ∀ n, n ≤ P - 1 → ∃ F, F ≤ n ∧ ∀ k, k < n → (k < F ↔ sn f k < q) := by
    intro n
    induction n with
    | zero => exact fun _ => ⟨0, Nat.le_refl 0, fun k hk => absurd hk (by omega)⟩
    | succ n ih =>
      intro hn
      obtain ⟨F, h1, h2⟩ := ih (by omega)
      by_cases e : sn f n < q
      · refine ⟨n + 1, Nat.le_refl _, fun k hk => ⟨fun _ => ?_, fun _ => hk⟩⟩
        exact Nat.lt_of_le_of_lt (sn_mono f (by omega)) e
      · refine ⟨F, by omega, fun k hk => ?_⟩
        by_cases e2 : k = n
        · subst e2
          constructor
          · intro z; omega
          · intro z; exact absurd z e
        · exact h2 k (by omega)
  obtain ⟨F, h1, h2⟩ := key (P - 1) (Nat.le_refl _)
  exact ⟨F, h1, h2⟩
theorem firstV (h : ZL P C S w v mv sv) (hv : IV P C S g sv) {q F : Nat} (hq : q ≤ 16) (hF : F ≤ P - 1) (hf : ∀ k, k < P - 1 → (k < F ↔ sn (sv.2 1) k < q)) : fX4_firstSpanOf v (nI q) = nI F := by
  have hP := hv.1
  have sp : (fX4_spans v).toNatClampNeg = P - 1 := by
    unfold fX4_spans
    rw [h.1.1, show nI P - 1 = nI (P - 1) from pk_sub (b := 1) (by omega), nI_clamp (by omega)]
  unfold fX4_firstSpanOf
  rw [sp]
  have row : ∀ k, k < P - 1 → lAt v 1 (nI k) = nI (sn (sv.2 1) k) := fun k hk => by rw [lAt_n (by show k < 15; omega), h.2.2.1 k (by omega)]
  have lek : ∀ k, k < P - 1 → (nI q ≤ nI (sn (sv.2 1) k) ↔ ¬ k < F) := fun k hk => by
    have := sn_le (sv.2 1) k
    rw [nI_leI (by omega) (by omega), hf k hk]
    omega
  by_cases e : F = P - 1
  · rw [fstI_nn.mpr (fun k hk => by
      unfold bX4_firstSpanOf_2
      rw [row k hk, if_neg (fun z => (lek k hk).mp z (by omega))]), e]
    rfl
  · rw [fstI_at (i := F) (r := nI F) (by omega) (by
      unfold bX4_firstSpanOf_2
      rw [row F (by omega), if_pos ((lek F (by omega)).mpr (by omega))]) (fun k hk => by
      unfold bX4_firstSpanOf_2
      rw [row k (by omega), if_neg (fun z => (lek k (by omega)).mp z hk)])]
    rfl
set_option maxHeartbeats 4000000 in
theorem toldSection (h : ZL P C S w v mv sv) (hv : IV P C S g sv) (nv : LV) {q n : Nat} (hq : q < S) (hn : n < 6) : fX1_sectionFact v (nI q) (nI n) = rX7_sectionTold mv sv nv (nI q) (nI n) := by
  have hP := hv.1
  have hS := hv.S15
  have hc := hv.2.1
  obtain ⟨F, hF, hf⟩ := fsP P (sv.2 1) ⟨hP.1, hP.2.1⟩ hc q
  obtain ⟨G, hG, hgg⟩ := fsP P (sv.2 1) ⟨hP.1, hP.2.1⟩ hc (q + 1)
  have fF := firstV h hv (by omega) hF hf
  have fG := firstV h hv (by omega) hG hgg
  have hFG : F < G := by
    -- the last span is of the last section
    have hend : sn (sv.2 1) (P - 2) = S - 1 := by
      have := sn_end hc (a := P - 2) (by omega) 15 (by omega)
      omega
    have hF1 : F < P - 1 := by
      rcases Nat.lt_or_ge F (P - 1) with z | z
      · exact z
      · have := (hf (P - 2) (by omega)).mp (by omega)
        omega
    have hstep : sn (sv.2 1) F ≤ q := by
      by_cases e : F = 0
      · rw [e]; exact Nat.zero_le _
      · have h1 := (hf (F - 1) (by omega)).mp (by omega)
        have h2 : sn (sv.2 1) F = sn (sv.2 1) (F - 1) + (if sv.2 1 (F - 1 + 1) = 1 then 1 else 0) := by
          conv => lhs; rw [show F = F - 1 + 1 by omega]
          rfl
        rw [h2]
        split <;> omega
    exact (hgg F hF1).mpr (by omega)
  have mem : ∀ k, k < P - 1 → (sn (sv.2 1) k = q ↔ F ≤ k ∧ k < G) := fun k hk => by
    have h1 := hf k hk
    have h2 := hgg k hk
    omega
  have e1 : (((mv.1 1) - 2).toInt + 1).toNat = P - 1 := by
    rw [h.hP, show nI P - 2 = nI (P - 2) from pk_sub (b := 2) (by omega), nI_toInt (by omega)]
    omega
  have ix : ∀ i, i < P - 1 → (mv.1 1) - 2 - nI i = nI (P - 2 - i) := fun i hi => by
    rw [h.hP, show nI P - 2 = nI (P - 2) from pk_sub (b := 2) (by omega)]
    exact pk_sub (by omega)
  have l3 : itI (P - 1) (bX7_sectionTold_13_3 mv sv nv (nI q) (nI n)) (-1) = nI F := by
    have := itI_inv (f := bX7_sectionTold_13_3 mv sv nv (nI q) (nI n)) (a := (-1 : Int32)) (fun m a => m ≤ P - 1 → a = if P - 1 - m < G then nI (max (P - 1 - m) F) else -1) (P - 1) (fun _ => by rw [if_neg (by omega)]) (fun i a hi hh hm => by
      unfold bX7_sectionTold_13_3
      rw [ix i hi, secN hc _ (by omega)]
      have hsn := sn_le (sv.2 1) (P - 2 - i)
      by_cases e : sn (sv.2 1) (P - 2 - i) = q
      · have := (mem _ (by omega)).mp e
        rw [e, if_pos rfl, if_pos (by omega), show max (P - 1 - (i + 1)) F = P - 2 - i by omega]
      · have h3 := mt (mem (P - 2 - i) (by omega)).mpr e
        rw [if_neg (nI_ne (by omega) (by omega) e), hh (by omega)]
        by_cases e2 : P - 1 - i < G
        · rw [if_pos e2, if_pos (by omega), show max (P - 1 - (i + 1)) F = max (P - 1 - i) F by omega]
        · rw [if_neg e2, if_neg (by omega)]) (Nat.le_refl _)
    rw [this, if_pos (by omega), show max (P - 1 - (P - 1)) F = F by omega]
  have l4 : itI (P - 1) (bX7_sectionTold_13_4 mv sv nv (nI q) (nI n)) 0 = nI (G - F) := by
    have := itI_inv (f := bX7_sectionTold_13_4 mv sv nv (nI q) (nI n)) (a := (0 : Int32)) (fun m a => m ≤ P - 1 → a = nI (G - max (P - 1 - m) F)) (P - 1) (fun _ => by rw [show G - max (P - 1 - 0) F = 0 by omega]; rfl) (fun i a hi hh hm => by
      unfold bX7_sectionTold_13_4
      rw [ix i hi, secN hc _ (by omega)]
      have hsn := sn_le (sv.2 1) (P - 2 - i)
      by_cases e : sn (sv.2 1) (P - 2 - i) = q
      · have := (mem _ (by omega)).mp e
        rw [e, if_pos rfl, hh (by omega), nI_1, show G - max (P - 1 - i) F + 1 = G - max (P - 1 - (i + 1)) F by omega]
      · have h3 := mt (mem (P - 2 - i) (by omega)).mpr e
        rw [if_neg (nI_ne (by omega) (by omega) e), hh (by omega), show G - max (P - 1 - i) F = G - max (P - 1 - (i + 1)) F by omega]) (Nat.le_refl _)
    rw [this, show G - max (P - 1 - (P - 1)) F = G - F by omega]
  have r3 : lAt v 3 (nI q) = sv.2 3 q := h.2.2.2.rdn 3 q hq
  have r4 : lAt v 4 (nI q) = sv.2 4 q := h.2.2.2.rdn 4 q hq
  have r5 : lAt v 5 (nI q) = sv.2 5 q := h.2.2.2.rdn 5 q hq
  have rdr : fX1_drawnFrom v (nI q) = fX6_drawn mv sv (nI q) := by
    unfold fX1_drawnFrom fX6_drawn
    rw [h.1.2.2.1, h.hC, nI_clamp (by omega)]
    refine itI_cong _ _ (fun i a hi => ?_)
    unfold bX1_drawnFrom_4 bX6_drawn_4
    rw [drawV h hv hi]
    rcases secV h hv hi with ⟨z1, z2⟩ | ⟨k, m, hk, hm, z1, z2, z3⟩
    · rw [z1, z2, if_pos rfl, if_neg (fun z => nI_m1 (k := q) (by omega) z.symm)]
      exact Int32.add_zero a
    · rw [z1, z2, z3, if_neg (nI_m1 (by omega))]
      by_cases e : nI m = nI q
      · rw [if_pos e, if_pos e]
      · rw [if_neg e, if_neg e]
        exact Int32.add_zero a
  unfold fX1_sectionFact rX7_sectionTold
  rw [e1, l3, l4, nI_1, fF, fG, r3, r4, r5, rdr, show nI G - nI F = nI (G - F) from pk_sub (by omega), aAt_n (r := 3) (by omega), aAt_n (r := 4) (by omega), aAt_n (r := 5) (by omega), cl_0, cl_1, cl_2, cl_3, cl_4, cl_5, nI_clamp (n := n) (by omega)]
  generalize fX6_drawn mv sv (nI q) = x1
  rcases w11 (show n < 11 by omega) with rfl | rfl | rfl | rfl | rfl | rfl | rfl | rfl | rfl | rfl | rfl
  all_goals first | (exfalso; omega) | rfl
/-! the checksum -/
theorem itI_add {α : Type} (n m : Nat) (f : Nat → α → α) (a : α) : itI (n + m) f a = itI m (fun k => f (n + k)) (itI n f a) := by
  induction m with
  | zero => rfl
  | succ m ih =>
    show f (n + m) (itI (n + m) f a) = f (n + m) _
    rw [ih]
theorem itI_mul {α : Type} (m : Nat) (f : Nat → α → α) (n : Nat) (a : α) : itI (n * m) f a = itI n (fun i a => itI m (fun k => f (i * m + k)) a) a := by
  induction n with
  | zero => rw [Nat.zero_mul]; rfl
  | succ n ih =>
    rw [Nat.succ_mul, itI_add, ih]
    rfl
theorem toldBlock {n m : Nat} (hm : 0 < m) (hm2 : m ≤ 8) (hn : n ≤ 16) {f1 : Nat → Int64 → Int64} {g2 : Nat → Int64 → Int64} {ff gg : Int32 → Int32 → Int32} (hf : ∀ i a, f1 i a = (a * 31) + (ff ((nI i) / nI m) ((nI i) - (nI i) / nI m * nI m)).toInt64) (hg : ∀ i a, g2 i a = itI m (fun k a => (a * 31) + (gg (nI i) (nI k)).toInt64) a) (he : ∀ i k, i < n → k < m → ff (nI i) (nI k) = gg (nI i) (nI k)) (a : Int64) : itI (n * m) f1 a = itI n g2 a := by
  rw [itI_mul]
  refine itI_cong _ _ (fun i a hi => ?_)
  rw [hg]
  refine itI_cong _ _ (fun k a hk => ?_)
  have hb : i * m + k < 2 ^ 31 := by
    have : i * m ≤ 16 * 8 := Nat.mul_le_mul (by omega) hm2
    omega
  have h1 : (i * m + k) / m = i := by
    rw [Nat.mul_comm, Nat.mul_add_div hm, Nat.div_eq_of_lt hk, Nat.add_zero]
  have h2 : (i * m + k) % m = k := by
    rw [Nat.mul_comm, Nat.mul_add_mod, Nat.mod_eq_of_lt hk]
  rw [hf, pk_rem hb hm (by omega), pk_div hb hm (by omega), h1, h2, he i k hi hk]
theorem toldDigest (h : ZL P C S w v (lSc mv 0 0) sv) (hv : IV P C S g sv) (u nv : LV) : fX5_digest v u = rX7_digest mv sv nv := by
  have hP := hv.1
  have hS := hv.S15
  have mP : mv.1 1 = nI P := h.hP
  have mC : mv.1 2 = nI C := h.hC
  have c4 : (nI P * 4).toNatClampNeg = P * 4 := by rw [show (4 : Int32) = nI 4 from rfl, pk_mul, nI_clamp (by omega)]
  have c6 : (nI S * 6).toNatClampNeg = S * 6 := by rw [show (6 : Int32) = nI 6 from rfl, pk_mul, nI_clamp (by omega)]
  have c8 : (nI C * 8).toNatClampNeg = C * 8 := by rw [show (8 : Int32) = nI 8 from rfl, pk_mul, nI_clamp (by omega)]
  have k1 : kX5_digest_34_1 v u = kX7_digest_36_1 mv sv nv := by
    unfold kX5_digest_34_1 kX7_digest_36_1
    refine itI_cong _ _ (fun i a hi => ?_)
    unfold bX5_digest_6 bX7_digest_11
    rw [toldCount h hv nv hi]
  have k2 : kX5_digest_79_1 v u = kX7_digest_82_1 mv sv nv := by
    unfold kX5_digest_79_1 kX7_digest_82_1
    rw [k1, h.1.1, mP, c4, nI_clamp (n := P) (by omega)]
    exact toldBlock (m := 4) (ff := fX1_poleFact v) (gg := fX7_poleTold (lSc mv 0 0) sv nv) (by decide) (by decide) (by omega) (fun _ _ => rfl) (fun _ _ => rfl) (fun i k hi _ => toldPole h hv nv hi (nI k)) _
  have k3 : kX5_digest_145_1 v u = kX7_digest_128_1 mv sv nv := by
    have sp : fX4_spans v = nI (P - 1) := by
      unfold fX4_spans
      rw [h.1.1]
      exact pk_sub (b := 1) (by omega)
    unfold kX5_digest_145_1 kX7_digest_128_1
    rw [k2, sp, mP, show nI P - 1 = nI (P - 1) from pk_sub (b := 1) (by omega), nI_clamp (by omega)]
    refine itI_cong _ _ (fun i a hi => ?_)
    unfold bX5_digest_81 bX7_digest_84
    rw [lAt_n (r := 0) (by show i < 15; omega), lAt_n (r := 1) (by show i < 15; omega), h.2.1 i (by omega), h.2.2.1 i (by omega), secN hv.2.1 i (by omega), aAt_n (by omega)]
  have k4 : kX5_digest_193_1 v u = kX7_digest_178_1 mv sv nv := by
    unfold kX5_digest_193_1 kX7_digest_178_1
    rw [k3, h.1.2.1, h.hS, c6, nI_clamp (n := S) (by omega)]
    exact toldBlock (m := 6) (ff := fX1_sectionFact v) (gg := rX7_sectionTold (lSc mv 0 0) sv nv) (by decide) (by decide) (by omega) (fun _ _ => rfl) (fun _ _ => rfl) (fun i k hi hk => toldSection h hv nv hi hk) _
  unfold fX5_digest rX7_digest
  rw [k4, h.1.2.2.1, mC, c8, nI_clamp (n := C) (by omega)]
  exact toldBlock (m := 8) (ff := fX1_carFact v) (gg := rX7_carTold (lSc mv 0 0) sv nv) (by decide) (by decide) (by omega) (fun _ _ => rfl) (fun _ _ => rfl) (fun i k hi hk => toldCar h hv nv hi hk) _
theorem toldMean (h : ZL P C S w v (lSc mv 0 0) sv) (hv : IV P C S g sv) (u nv : LV) : fX5_mean v u = rX7_mean mv sv nv := by
  have hP := hv.1
  unfold fX5_mean rX7_mean
  rw [← toldWait h hv, h.1.1, show mv.1 1 = nI P from h.hP, if_neg (nI_nle (by omega) (by omega))]
end ZTO
