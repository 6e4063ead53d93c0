/-! THE SIMULATION, 9: the relation between calls; what the reference asks; the calls that change the line -/
/-- behind at most j calls -/
def REL (j : Nat) (v mv sv : LV) : Prop := ∃ P C S, ZL P C S 0 v mv sv ∧ IV P C S (36000 * j) sv
/-- the class throws the k-th of L just where the reference says k + 1; else both answer alike -/
def OUT (L : List String) (x : Option String) (th r r' : Int32) : Prop := (x = none ∧ th = 0 ∧ r = r') ∨ ∃ k E, L[k]? = some E ∧ x = some E ∧ th = nI (k + 1)
abbrev sIA : String := "java/lang/IllegalArgumentException"
abbrev sIS : String := "java/lang/IllegalStateException"
abbrev sIX : String := "java/lang/IndexOutOfBoundsException"
theorem OUT.ok {L : List String} {r r' : Int32} (h : r = r') : OUT L none 0 r r' := Or.inl ⟨rfl, rfl, h⟩
theorem OUT.ex {L : List String} {r r' : Int32} {E : String} (k : Nat) (h : L[k]? = some E) : OUT L (some E) (nI (k + 1)) r r' := Or.inr ⟨k, E, h, rfl, rfl⟩
theorem outIn {x lo hi : Int32} : fX5_outside x lo hi = 0 ↔ ¬ fX7_isIn x lo hi = 0 := by
  unfold fX5_outside fX7_isIn
  by_cases h1 : x < lo
  · rw [if_pos h1, if_pos h1]
    exact ⟨fun e => absurd e d10, fun e => absurd rfl e⟩
  · rw [if_neg h1, if_neg h1]
    by_cases h2 : hi < x
    · rw [if_pos h2, if_neg (Int32.not_le.mpr h2)]
      exact ⟨fun e => absurd e d10, fun e => absurd rfl e⟩
    · rw [if_neg h2, if_pos (Int32.not_lt.mp h2)]
      exact ⟨fun _ => d10, fun _ => rfl⟩
theorem inN {x : Int32} {a b : Nat} (hb : b < 2 ^ 31) (h : ¬ fX7_isIn x (nI a) (nI b) = 0) (ha : a < 2 ^ 31) : ∃ j, a ≤ j ∧ j ≤ b ∧ x = nI j := by
  unfold fX7_isIn at h
  by_cases h1 : x < nI a
  · rw [if_pos h1] at h; exact absurd rfl h
  · rw [if_neg h1] at h
    by_cases h2 : nI b < x
    · rw [if_pos h2] at h; exact absurd rfl h
    · have h3 : nI a ≤ x := Int32.not_lt.mp h1
      have h4 : x ≤ nI b := Int32.not_lt.mp h2
      rw [Int32.le_iff_toInt_le, nI_toInt ha] at h3
      rw [Int32.le_iff_toInt_le, nI_toInt hb] at h4
      obtain ⟨j, hj, rfl⟩ := nI_of (x := x) (by
        intro z
        rw [Int32.lt_iff_toInt_lt, show (0 : Int32).toInt = 0 by decide] at z
        omega)
      rw [nI_toInt hj] at h3 h4
      exact ⟨j, by omega, by omega, rfl⟩
section ZCA
variable {P C S g w j : Nat} {v mv sv : LV}
theorem ZL.thr (h : ZL P C S w v mv sv) (x : Int32) : ZL P C S w v (lSc mv 0 x) sv := h
theorem REL.of (h : ZL P C S 0 v mv sv) (hv : IV P C S (36000 * j) sv) : REL (j + 1) v mv sv := ⟨P, C, S, h, hv.up (by omega)⟩
theorem poleE (h : ZL P C S w v mv sv) (hv : IV P C S g sv) (u nv : LV) (k : Int32) : fX5_noPole v u k = fX5_outside k (nI 0) (nI (P - 1)) ∧ fX7_isPole (lSc mv 0 0) sv nv k = fX7_isIn k (nI 0) (nI (P - 1)) := by
  have hP := hv.1
  have e : nI P - 1 = nI (P - 1) := pk_sub (b := 1) (by omega)
  unfold fX5_noPole fX7_isPole
  rw [h.1.1, show (lSc mv 0 0).1 1 = nI P from h.hP, e]
  exact ⟨rfl, rfl⟩
theorem spanE (h : ZL P C S w v mv sv) (hv : IV P C S g sv) (u nv : LV) (k : Int32) : fX5_noSpan v u k = fX5_outside k (nI 0) (nI (P - 2)) ∧ fX7_isSpan (lSc mv 0 0) sv nv k = fX7_isIn k (nI 0) (nI (P - 2)) := by
  have hP := hv.1
  have e : nI P - 1 = nI (P - 1) := pk_sub (b := 1) (by omega)
  have e2 : nI (P - 1) - 1 = nI (P - 1 - 1) := pk_sub (b := 1) (by omega)
  have e3 : nI P - 2 = nI (P - 2) := pk_sub (b := 2) (by omega)
  unfold fX5_noSpan fX7_isSpan fX4_spans
  rw [h.1.1, show (lSc mv 0 0).1 1 = nI P from h.hP, e, e2, e3, show P - 1 - 1 = P - 2 by omega]
  exact ⟨rfl, rfl⟩
theorem sectE (h : ZL P C S w v mv sv) (hv : IV P C S g sv) (u nv : LV) (k : Int32) : fX5_noSection v u k = fX5_outside k (nI 0) (nI (S - 1)) ∧ fX7_isSection (lSc mv 0 0) sv nv k = fX7_isIn k (nI 0) (nI (S - 1)) := by
  have hS := hv.S15
  have e : nI S - 1 = nI (S - 1) := pk_sub (b := 1) (by omega)
  unfold fX5_noSection fX7_isSection
  rw [h.1.2.1, h.hS, e]
  exact ⟨rfl, rfl⟩
theorem canE (h : ZL P C S w v mv sv) (hv : IV P C S g sv) (nv : LV) (k : Int32) : fX4_canInsulate v k = fX7_canCut (lSc mv 0 0) sv nv k ∧ (¬ fX7_canCut (lSc mv 0 0) sv nv k = 0 → ∃ n, 0 < n ∧ n + 1 < P ∧ k = nI n ∧ sv.2 1 n = 0) := by
  have hP := hv.1
  have e : nI P - 1 = nI (P - 1) := pk_sub (b := 1) (by omega)
  unfold fX4_canInsulate fX7_canCut
  rw [h.1.1, show (lSc mv 0 0).1 1 = nI P from h.hP, e]
  by_cases h1 : k ≤ 0
  · rw [if_pos h1, if_pos h1]
    exact ⟨rfl, fun z => absurd rfl z⟩
  · rw [if_neg h1, if_neg h1]
    by_cases h2 : nI (P - 1) ≤ k
    · rw [if_pos h2, if_pos h2]
      exact ⟨rfl, fun z => absurd rfl z⟩
    · rw [if_neg h2, if_neg h2]
      have h3 := Int32.not_le.mp h1
      have h4 := Int32.not_le.mp h2
      rw [Int32.lt_iff_toInt_lt, show (0 : Int32).toInt = 0 by decide] at h3
      rw [Int32.lt_iff_toInt_lt, nI_toInt (by omega)] at h4
      obtain ⟨n, hn, rfl⟩ := nI_of (x := k) (by
        intro z
        rw [Int32.lt_iff_toInt_lt, show (0 : Int32).toInt = 0 by decide] at z
        omega)
      rw [nI_toInt hn] at h3 h4
      have r2 : lAt v 2 (nI n) = sv.2 1 n := h.2.2.2.rdn 2 n (by show n < 16; omega)
      rw [r2, aAt_n (by omega)]
      refine ⟨rfl, fun z => ⟨n, by omega, by omega, rfl, ?_⟩⟩
      by_cases e0 : sv.2 1 n = 0
      · exact e0
      · rw [if_neg e0] at z; exact absurd rfl z
/-! what the reference asks -/
theorem becomeR (mv nv sv : LV) : ∀ r, r < 13 → (fX6_become mv nv sv).2 r = sv.2 r := by
  intro r hr
  rcases r17 (show r < 17 by omega) with rfl | rfl | rfl | rfl | rfl | rfl | rfl | rfl | rfl | rfl | rfl | rfl | rfl | rfl | rfl | rfl | rfl
  all_goals first | rfl | (exfalso; omega)
theorem rl_become (h : ZL P C S 0 v mv sv) (hv : IV P C S g sv) (mx nv : LV) : ZL P C S 0 v mv (fX6_become mx nv sv) ∧ IV P C S g (fX6_become mx nv sv) := by
  have b := becomeR mx nv sv
  constructor
  · refine ⟨h.1, h.2.1, fun k hk => ?_, h.2.2.2.1, fun r k hk => ?_⟩
    · rw [b 1 (by decide)]; exact h.2.2.1 k hk
    · have hr := qLen_prt (Nat.lt_of_le_of_lt (Nat.zero_le _) hk)
      have hp : prt r < 13 := by
        rcases r17 hr.1 with rfl | rfl | rfl | rfl | rfl | rfl | rfl | rfl | rfl | rfl | rfl | rfl | rfl | rfl | rfl | rfl | rfl
        all_goals first | decide | exact absurd rfl hr.2 | exact absurd hk (Nat.not_lt_zero _)
      rw [b _ hp]
      exact h.2.2.2.2 r k hk
  · obtain ⟨h0, hc, hw, hs, hd, ha, hy, hr, hb, hp, hn, hg⟩ := hv
    unfold IV
    rw [b 0 (by decide), b 1 (by decide), b 2 (by decide), b 4 (by decide), b 6 (by decide), b 7 (by decide), b 8 (by decide), b 10 (by decide), b 11 (by decide)]
    exact ⟨h0, hc, hw, hs, hd, ha, hy, hr, hb, hp, hn, hg⟩
theorem rl_tickN (h : ZL P C S 0 v mv sv) (hv : IV P C S g sv) (k : Nat) : TSafe mv (itI k (tickM mv) sv) := by
  have := rl_ticks (f := fun _ a => fX1_tickOnce a) (F := tickM mv) k (fun _ _ => rfl) (fun _ _ => rfl) h hv
  exact rl_safe this.1 this.2
theorem REL.mOK (h : REL j v mv sv) : mOK mv := by
  obtain ⟨P, C, S, hR, hV⟩ := h
  have hP := hV.1
  have e1 : (mv.1 1).toInt = P := by rw [hR.hP, nI_toInt (by omega)]
  have e2 : (mv.1 2).toInt = C := by rw [hR.hC, nI_toInt (by omega)]
  exact ⟨⟨by omega, by omega⟩, by omega, by omega⟩
theorem REL.cOK (h : REL j v mv sv) : cOK sv := by
  obtain ⟨P, C, S, hR, hV⟩ := h
  exact hV.cOK
theorem REL.nOK (h : REL j v mv sv) : nOK sv := by
  obtain ⟨P, C, S, hR, hV⟩ := h
  have hS := hV.S15
  have e1 : (sv.1 3).toInt = S := by rw [hR.hS, nI_toInt (by omega)]
  exact ⟨by omega, by omega⟩
theorem IV.sec (h : ZL P C S w v mv sv) (hv : IV P C S g sv) (m : LV) {k : Int32} (hk : ¬ k ≤ 0) : (fX6_sectionOf m sv k).toInt < (sv.1 3).toInt := by
  have hS := hv.S15
  have h3 := Int32.not_le.mp hk
  rw [Int32.lt_iff_toInt_lt, show (0 : Int32).toInt = 0 by decide] at h3
  obtain ⟨n, hn, rfl⟩ := nI_of (x := k) (by
    intro z
    rw [Int32.lt_iff_toInt_lt, show (0 : Int32).toInt = 0 by decide] at z
    omega)
  have := sn_all hv.1.2.1 hv.2.1 n
  have h15 := hv.1.2.2.2
  rw [secN hv.2.1 n hn, h.hS, nI_toInt (by omega), nI_toInt (by omega)]
  omega
theorem can0 {m a b : LV} {k : Int32} (h : ¬ fX7_canCut m a b k = 0) : ¬ k ≤ 0 := fun z => h (by unfold fX7_canCut; rw [if_pos z])
theorem REL.hq (h : REL j v mv sv) (nv : LV) : ∀ (mv : LV) (k : Int32), ¬ fX7_canCut mv sv nv k = 0 → (fX6_sectionOf mv sv k).toInt < (sv.1 3).toInt := by
  obtain ⟨P, C, S, hR, hV⟩ := h
  exact fun m k hk => IV.sec hR hV m (can0 hk)
theorem REL.hqa (h : REL j v mv sv) : ∀ (mv a : LV) (k : Int32), ¬ fX7_canCut mv sv a k = 0 → ∀ a : LV, (fX6_sectionOf mv (fX6_become mv a sv) k).toInt < (sv.1 3).toInt := by
  obtain ⟨P, C, S, hR, hV⟩ := h
  intro m a k hk b
  have := rl_become hR hV m b
  exact IV.sec this.1 this.2 m (can0 hk)
theorem REL.hsafe (h : REL j v mv sv) (k : Nat) : TSafe (lSc mv 0 0) (itI k (tickM (lSc mv 0 0)) sv) := by
  obtain ⟨P, C, S, hR, hV⟩ := h
  exact rl_tickN (hR.thr 0) hV k
theorem REL.hsafeb (h : REL j v mv sv) (nv : LV) (k : Nat) : TSafe (lSc mv 0 0) (itI k (tickM (lSc mv 0 0)) (fX6_become (lSc mv 0 0) nv sv)) := by
  obtain ⟨P, C, S, hR, hV⟩ := h
  have := rl_become (hR.thr 0) hV (lSc mv 0 0) nv
  exact rl_tickN this.1 this.2 k
theorem REL.hsafec (h : REL j v mv sv) (a : LV) (po : Int32) (k : Nat) (hc : ¬ fX7_canCut (lSc mv 0 0) sv a po = 0) : TSafe (lSc mv 0 0) (itI k (tickM (lSc mv 0 0)) (fX6_cut (lSc mv 0 0) (fX6_become (lSc mv 0 0) a sv) po)) := by
  obtain ⟨P, C, S, hR, hV⟩ := h
  have b := rl_become (hR.thr 0) hV (lSc mv 0 0) a
  obtain ⟨n, h1, h2, rfl, h4⟩ := (canE hR hV a po).2 hc
  have c := rl_cut b.1 b.2 h1 h2 (by rw [becomeR _ _ _ 1 (by decide)]; exact h4)
  exact rl_tickN c.1 c.2 k
/-! a line built anew -/
theorem renewR (mv b : LV) : itI 16 (bX6_renew_29 mv b) b = lRow (lRow (lRow b 0 (fun k => if k < 16 then 0 else b.2 0 k)) 1 (fun k => if k < 16 then 0 else b.2 1 k)) 2 (fun k => if k < 16 then -1 else b.2 2 k) := by
  refine itI_inv (fun n a => n ≤ 16 → a = lRow (lRow (lRow b 0 (fun k => if k < n then 0 else b.2 0 k)) 1 (fun k => if k < n then 0 else b.2 1 k)) 2 (fun k => if k < n then -1 else b.2 2 k)) 16 (fun _ => ?_) (fun i a hi h hn => ?_) (Nat.le_refl 16)
  · have z : ∀ (r : Nat) (x : Int32), (fun k => if k < 0 then x else b.2 r k) = b.2 r := fun r x => by
      funext k
      rw [if_neg (Nat.not_lt_zero k)]
    rw [z, z, z, lRow_self, lRow_self, lRow_self]
  · have e := h (by omega)
    have z : ∀ (r : Nat) (x : Int32), upd (fun k => if k < i then x else b.2 r k) i x = (fun k => if k < i + 1 then x else b.2 r k) := fun r x => by
      funext k
      show (if k = i then x else (if k < i then x else b.2 r k)) = _
      by_cases e1 : k = i
      · rw [if_pos e1, if_pos (show k < i + 1 by omega)]
      · rw [if_neg e1]
        by_cases e2 : k < i
        · rw [if_pos e2, if_pos (show k < i + 1 by omega)]
        · rw [if_neg e2, if_neg (show ¬ k < i + 1 by omega)]
    unfold bX6_renew_29
    rw [aSet_n (r := 0) (by omega), aSet_n (r := 1) (by omega), aSet_n (r := 2) (by omega), lRow_ne (r := 1) (k := 2) (by decide), lRow_ne (r := 0) (k := 2) (by decide), lRow_ne (r := 0) (k := 1) (by decide), e]
    rw [lRow_same, lRow_ne (r := 2) (k := 1) (by decide), lRow_same, lRow_ne (r := 2) (k := 0) (by decide), lRow_ne (r := 1) (k := 0) (by decide), lRow_same, z, z, z]
    rw [lRow_comm (r := 2) (k := 0) (by decide), lRow_comm (r := 1) (k := 0) (by decide), lRow_idem, lRow_comm (r := 2) (k := 1) (by decide), lRow_idem, lRow_idem]
theorem fillI (f : Nat → Int32) (x : Int32) (m : LV) (r : Nat) : itI 16 (fun i a => aSet a r (nI i) x) m = lRow m r (fun k => if k < 16 then x else m.2 r k) := by
  refine itI_inv (fun n a => n ≤ 16 → a = lRow m r (fun k => if k < n then x else m.2 r k)) 16 (fun _ => ?_) (fun i a hi h hn => ?_) (Nat.le_refl 16)
  · have z : (fun k => if k < 0 then x else m.2 r k) = m.2 r := by
      funext k
      rw [if_neg (Nat.not_lt_zero k)]
    rw [z, lRow_self]
  · rw [h (by omega)]
    show aSet _ r (nI i) x = _
    rw [aSet_n (by omega), lRow_same, lRow_idem]
    congr 1
    funext k
    show (if k = i then x else (if k < i then x else m.2 r k)) = _
    by_cases e1 : k = i
    · rw [if_pos e1, if_pos (show k < i + 1 by omega)]
    · rw [if_neg e1]
      by_cases e2 : k < i
      · rw [if_pos e2, if_pos (show k < i + 1 by omega)]
      · rw [if_neg e2, if_neg (show ¬ k < i + 1 by omega)]
theorem sn_zero {f : Nat → Int32} (h : ∀ k, f k = 0) (n : Nat) : sn f n = 0 := by
  induction n with
  | zero => rfl
  | succ n ih =>
    show sn f n + (if f (n + 1) = 1 then 1 else 0) = 0
    rw [ih, h, if_neg d01]
set_option maxHeartbeats 4000000 in
theorem rl_new {p : Nat} {mx : LV} (hp : 3 ≤ p ∧ p ≤ 16) (s2 : v.1 2 = 0) (s3 : v.1 3 = sv.1 0) (s4 : v.1 4 = sv.1 1) (s5 : v.1 5 = sv.1 2) (m1 : mv.1 1 = nI p) (m2 : mv.1 2 = 0) (m0 : ∀ k, k < 15 → mv.2 0 k = 0) (hr : ∀ r, 9 ≤ r → r ≤ 15 → ∀ k, k < 6 → v.2 r k = gv r (sv.2 (prt r) k)) (h1 : ∀ k, 16 ≤ k → sv.2 1 k = 0) (hd : ivD (sv.2 4)) (ha : ∀ k, k < 6 → sv.2 6 k = 0) (hri : ∀ k, k < 6 → sv.2 8 k = 0) (hb : ∀ k, k < 6 → sv.2 10 k = 0) (hpu : ∀ c, c < 6 → sv.2 11 c = -1 ∨ ∃ p, p < 6 ∧ sv.2 11 c = nI p) (hg : ivG g (sv.1 1)) : ZL p 0 1 0 (fX3_clear (fX4_lay v (nI p))) mv (fX6_renew mx sv) ∧ IV p 0 1 g (fX6_renew mx sv) := by
  obtain ⟨B, eB⟩ : ∃ B, B = aSet (aSet (aSet (lSc sv 3 1) 3 0 20) 4 0 0) 5 0 0 := ⟨_, rfl⟩
  have B1 : B.1 = (lSc sv 3 1).1 := by rw [eB]; rfl
  have B0 : ∀ r, r ≠ 3 → r ≠ 4 → r ≠ 5 → B.2 r = sv.2 r := fun r h3 h4 h5 => by
    rw [eB, aSet_r h5, aSet_r h4, aSet_r h3]
    rfl
  have B3 : B.2 3 0 = 20 := by
    rw [eB, aSet_r (by decide), aSet_r (by decide), show (0 : Int32) = nI 0 from rfl, aSet_n (by decide), lRow_same, upd_same]
  have B4 : B.2 4 = upd (sv.2 4) 0 0 := by
    rw [eB, aSet_r (by decide), show (0 : Int32) = nI 0 from rfl, aSet_n (r := 4) (by decide), lRow_same, aSet_r (by decide)]
    rfl
  have B5 : B.2 5 0 = 0 := by
    rw [eB, show (0 : Int32) = nI 0 from rfl, aSet_n (r := 5) (by decide), lRow_same, upd_same]
  have eM : fX6_renew mx sv = lRow (lRow (lRow B 0 (fun k => if k < 16 then 0 else B.2 0 k)) 1 (fun k => if k < 16 then 0 else B.2 1 k)) 2 (fun k => if k < 16 then -1 else B.2 2 k) := by
    unfold fX6_renew
    rw [← eB]
    have : bX6_renew_29 mx sv = bX6_renew_29 mx B := rfl
    rw [this]
    exact renewR mx B
  have c0 : ∀ k, (fun k => if k < 16 then (0 : Int32) else B.2 1 k) k = 0 := fun k => by
    show (if k < 16 then (0 : Int32) else B.2 1 k) = 0
    by_cases e : k < 16
    · rw [if_pos e]
    · rw [if_neg e, B0 1 (by decide) (by decide) (by decide)]; exact h1 k (by omega)
  rw [eM]
  unfold fX3_clear fX4_lay lFill
  constructor
  · refine ⟨⟨rfl, rfl, s2, ?_, ?_, ?_, m1, m2, ?_⟩, fun k hk => (m0 k hk).symm, fun k hk => ?_, ⟨by decide, by decide⟩, fun r k hk => ?_⟩
    · show v.1 3 = B.1 0; rw [B1]; exact s3
    · show v.1 4 = B.1 1; rw [B1]; exact s4
    · show v.1 5 = B.1 2; rw [B1]; exact s5
    · show B.1 3 = _; rw [B1]; rfl
    · show (0 : Int32) = nI (sn (fun k => if k < 16 then 0 else B.2 1 k) k)
      rw [sn_zero c0]; rfl
    · have hq := qLen_prt (Nat.lt_of_le_of_lt (Nat.zero_le _) hk)
      by_cases h9 : 9 ≤ r ∧ r ≤ 15
      · have hk6 : k < 6 := by
          rcases r17 hq.1 with rfl | rfl | rfl | rfl | rfl | rfl | rfl | rfl | rfl | rfl | rfl | rfl | rfl | rfl | rfl | rfl | rfl
          all_goals first | exact hk | (exfalso; omega)
        have p0 : prt r ≠ 0 ∧ prt r ≠ 1 ∧ prt r ≠ 2 ∧ prt r ≠ 3 ∧ prt r ≠ 4 ∧ prt r ≠ 5 := by
          rcases r17 hq.1 with rfl | rfl | rfl | rfl | rfl | rfl | rfl | rfl | rfl | rfl | rfl | rfl | rfl | rfl | rfl | rfl | rfl
          all_goals first | decide | (exfalso; omega)
        obtain ⟨q0, q1, q2, q3, q4, q5⟩ := p0
        rw [lRow_ne q2, lRow_ne q1, lRow_ne q0, B0 _ q3 q4 q5, ← hr r h9.1 h9.2 k hk6]
        rw [lRow_ne (by omega), lRow_ne (by omega), lRow_ne (by omega), lRow_ne (by omega), lRow_ne (by omega), lRow_ne (by omega), lRow_ne (by omega), lRow_ne (by omega), lRow_ne (by omega)]
        rfl
      · have h1k : ∀ k, k < 1 → k = 0 := fun k hk => by omega
        rcases r17 hq.1 with rfl | rfl | rfl | rfl | rfl | rfl | rfl | rfl | rfl | rfl | rfl | rfl | rfl | rfl | rfl | rfl | rfl
        all_goals first | exact absurd hk (Nat.not_lt_zero _) | (exfalso; omega) | skip
        · have hk : k < 16 := hk
          show (0 : Int32) = (if k < 16 then 0 else B.2 1 k)
          rw [if_pos hk]
        · have := h1k k hk
          subst this
          show (20 : Int32) = B.2 3 0
          exact B3.symm
        · have := h1k k hk
          subst this
          show (0 : Int32) = B.2 4 0
          rw [B4, upd_same]
        · have := h1k k hk
          subst this
          show (0 : Int32) = B.2 5 0
          exact B5.symm
        · have hk : k < 16 := hk
          show (0 : Int32) = (if k < 16 then 0 else B.2 0 k)
          rw [if_pos hk]
        · have hk : k < 16 := hk
          show (-1 : Int32) = (if k < 16 then -1 else B.2 2 k)
          rw [if_pos hk]
  · refine ⟨⟨hp.1, hp.2, by decide, ?_⟩, ?_, ?_, ?_, ?_, ?_, ?_, ?_, ?_, ?_, ?_, ?_⟩
    · show 1 = sn (fun k => if k < 16 then 0 else B.2 1 k) 15 + 1
      rw [sn_zero c0]
    · exact fun k => Or.inl (c0 k)
    · intro k hk
      refine ⟨0, by decide, ?_, fun _ => rfl⟩
      show (if k < 16 then (0 : Int32) else B.2 0 k) = 0
      rw [if_pos hk]
    · intro k hk _
      show (if k < 16 then (-1 : Int32) else B.2 2 k) = -1
      rw [if_pos hk]
    · show ivD (B.2 4)
      rw [B4]
      exact ivD_upd hd ⟨0, by decide, rfl⟩
    · show ivA p 0 (B.2 6)
      rw [B0 6 (by decide) (by decide) (by decide)]
      exact fun c hc => ⟨0, by omega, ha c hc, fun _ => rfl⟩
    · exact fun c hc => absurd hc (Nat.not_lt_zero c)
    · show ivR 0 (B.2 8)
      rw [B0 8 (by decide) (by decide) (by decide)]
      exact fun c hc => ⟨0, by omega, hri c hc, fun _ => rfl⟩
    · show ivB 0 (B.2 10)
      rw [B0 10 (by decide) (by decide) (by decide)]
      exact fun c hc => Or.inl (hb c hc)
    · show ivP 0 (B.2 10) (B.2 11)
      rw [B0 11 (by decide) (by decide) (by decide)]
      exact ⟨hpu, fun c hc => absurd hc (Nat.not_lt_zero c), fun c d hc => absurd hc (Nat.not_lt_zero c)⟩
    · exact fun x => Nat.zero_le _
    · show ivG g (B.1 1)
      rw [B1]
      exact hg
/-- the start -/
theorem rel0 : REL 0 newLine zMV (fX6_renew zMV zSV) := by
  have := rl_new (v := zLV) (mv := zMV) (sv := zSV) (g := 0) (p := 8) (mx := zMV) (by decide) rfl rfl rfl rfl rfl rfl (fun _ _ => rfl) (fun r h1 h2 k _ => by
    show (0 : Int32) = gv r 0
    rcases r17 (show r < 17 by omega) with rfl | rfl | rfl | rfl | rfl | rfl | rfl | rfl | rfl | rfl | rfl | rfl | rfl | rfl | rfl | rfl | rfl
    all_goals rfl) (fun _ _ => rfl) (fun k _ => ⟨0, by decide, rfl⟩) (fun _ _ => rfl) (fun _ _ => rfl) (fun _ _ => rfl) (fun _ _ => Or.inr ⟨0, by decide, rfl⟩) (fun _ => ⟨0, Nat.le_refl 0, rfl⟩)
  exact ⟨8, 0, 1, this.1, this.2⟩
end ZCA
