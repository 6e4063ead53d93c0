/-! THE SIMULATION, 1: loops side by side; the rows that both sides hold; what is kept (IV) -/
theorem itI_rel {α β : Type} {f : Nat → α → α} {g : Nat → β → β} {a : α} {b : β} (Rl : Nat → α → β → Prop) (n : Nat) (h0 : Rl 0 a b) (hs : ∀ (i : Nat) (a : α) (b : β), i < n → Rl i a b → Rl (i + 1) (f i a) (g i b)) : Rl n (itI n f a) (itI n g b) := by
  induction n with
  | zero => exact h0
  | succ n ih => exact hs n _ _ (Nat.lt_succ_self n) (ih (fun i a b hi h => hs i a b (by omega) h))
theorem itI_inv {α : Type} {f : Nat → α → α} {a : α} (P : Nat → α → Prop) (n : Nat) (h0 : P 0 a) (hs : ∀ (i : Nat) (a : α), i < n → P i a → P (i + 1) (f i a)) : P n (itI n f a) := by
  induction n with
  | zero => exact h0
  | succ n ih => exact hs n _ (Nat.lt_succ_self n) (ih (fun i a hi h => hs i a (by omega) h))
theorem itI_cong {α : Type} {f g : Nat → α → α} (n : Nat) (a : α) (h : ∀ (i : Nat) (a : α), i < n → f i a = g i a) : itI n f a = itI n g a := by
  induction n with
  | zero => rfl
  | succ n ih =>
    rw [itI_s, itI_s, ih (fun i a hi => h i a (by omega))]
    exact h n _ (Nat.lt_succ_self n)
theorem fstI_nn {α : Type} {f : Nat → Option α} {n : Nat} : fstI n f = none ↔ ∀ i, i < n → f i = none := by
  induction n with
  | zero => exact ⟨fun _ i hi => absurd hi (by omega), fun _ => rfl⟩
  | succ n ih =>
    constructor
    · intro h i hi
      have h1 : (match fstI n f with | some r => some r | none => f n) = none := h
      match e : fstI n f with
      | some r => rw [e] at h1; cases h1
      | none =>
        rw [e] at h1
        by_cases q : i = n
        · subst q; exact h1
        · exact ih.mp e i (by omega)
    · intro h
      exact fstI_n (ih.mpr (fun i hi => h i (by omega))) (h n (by omega))
theorem fstI_ss {α : Type} {f : Nat → Option α} {n : Nat} {r : α} (h : fstI n f = some r) : ∃ i, i < n ∧ f i = some r ∧ ∀ j, j < i → f j = none := by
  induction n with
  | zero => cases h
  | succ n ih =>
    have h1 : (match fstI n f with | some r => some r | none => f n) = some r := h
    match e : fstI n f with
    | some r2 =>
      rw [e] at h1
      obtain ⟨i, a, b, c⟩ := ih (e.trans h1)
      exact ⟨i, by omega, b, c⟩
    | none =>
      rw [e] at h1
      exact ⟨n, by omega, h1, fun j hj => fstI_nn.mp e j hj⟩
theorem fstI_at {α : Type} {f : Nat → Option α} {n i : Nat} {r : α} (hi : i < n) (h : f i = some r) (h0 : ∀ j, j < i → f j = none) : fstI n f = some r := fstI_s (fstI_nn.mpr h0) h hi
theorem fstI_rel {α β : Type} {f : Nat → Option α} {g : Nat → Option β} (Q : α → β → Prop) (n : Nat) (h : ∀ i, i < n → (f i = none ∧ g i = none) ∨ ∃ a b, f i = some a ∧ g i = some b ∧ Q a b) : (fstI n f = none ∧ fstI n g = none) ∨ ∃ a b, fstI n f = some a ∧ fstI n g = some b ∧ Q a b := by
  match e : fstI n f with
  | none =>
    refine Or.inl ⟨rfl, fstI_nn.mpr (fun i hi => ?_)⟩
    rcases h i hi with ⟨_, q⟩ | ⟨a, b, q, _⟩
    · exact q
    · rw [fstI_nn.mp e i hi] at q; cases q
  | some r =>
    obtain ⟨i, hi, h1, h2⟩ := fstI_ss e
    rcases h i hi with ⟨q, _⟩ | ⟨a, b, q1, q2, q3⟩
    · rw [h1] at q; cases q
    · rw [h1] at q1
      cases q1
      refine Or.inr ⟨r, b, rfl, fstI_at hi q2 (fun j hj => ?_), q3⟩
      rcases h j (by omega) with ⟨_, q⟩ | ⟨a, b, q, _⟩
      · exact q
      · rw [h2 j hj] at q; cases q
/-! cells by number -/
theorem zs_cl {i : Nat} (h : i < 2 ^ 31) : (nI i).toNatClampNeg = i := nI_clamp h
theorem aAt_n {sv : LV} {r i : Nat} (h : i < 2 ^ 31) : aAt sv r (nI i) = sv.2 r i := by
  unfold aAt
  rw [nI_clamp h]
theorem aSet_n {sv : LV} {r i : Nat} {y : Int32} (h : i < 2 ^ 31) : aSet sv r (nI i) y = lRow sv r (upd (sv.2 r) i y) := by
  unfold aSet
  rw [nI_clamp h]
theorem lAt_n {v : LV} {r i : Nat} (h : i < lLen r) : lAt v r (nI i) = v.2 r i := by
  have hl := lLen_lt r
  unfold lAt rAt
  rw [if_neg (nI_pos (by omega)), if_neg (nI_ge h hl), nI_clamp (by omega)]
theorem lSet_n {v : LV} {r i : Nat} {y : Int32} (h : i < lLen r) : lSet v r (nI i) y = lRow v r (upd (v.2 r) i y) := by
  have hl := lLen_lt r
  unfold lSet rSet
  rw [if_neg (nI_pos (by omega)), if_neg (nI_ge h hl), nI_clamp (by omega)]
theorem lAdd_n {v : LV} {r i : Nat} {y : Int32} (h : i < lLen r) : lAdd v r (nI i) y = lSet v r (nI i) (lAt v r (nI i) + y) := by
  have hl := lLen_lt r
  rw [lSet_n h, lAt_n h]
  unfold lAdd rAdd
  rw [if_neg (nI_pos (by omega)), if_neg (nI_ge h hl), nI_clamp (by omega)]
theorem upd_same (f : Nat → Int32) (k : Nat) (x : Int32) : upd f k x k = x := if_pos rfl
theorem upd_ne {f : Nat → Int32} {k j : Nat} {x : Int32} (h : j ≠ k) : upd f k x j = f j := if_neg h
theorem lRow_same (v : LV) (r : Nat) (f : Nat → Int32) : (lRow v r f).2 r = f := if_pos rfl
theorem lRow_ne {v : LV} {r k : Nat} {f : Nat → Int32} (h : k ≠ r) : (lRow v r f).2 k = v.2 k := if_neg h
theorem lRow_comm {v : LV} {r k : Nat} {f g : Nat → Int32} (h : r ≠ k) : lRow (lRow v r f) k g = lRow (lRow v k g) r f := by
  unfold lRow
  congr 1
  funext j
  show (if j = k then g else if j = r then f else v.2 j) = (if j = r then f else if j = k then g else v.2 j)
  by_cases h1 : j = k
  · rw [if_pos h1, if_neg (by omega), if_pos h1]
  · rw [if_neg h1, if_neg h1]
theorem aSet_comm {sv : LV} {r k : Nat} {x y p q : Int32} (h : r ≠ k) : aSet (aSet sv r x y) k p q = aSet (aSet sv k p q) r x y := by
  unfold aSet
  rw [lRow_ne (Ne.symm h), lRow_ne h, lRow_comm h]
/-- a row's reading of the reference's number -/
def gv (r : Nat) (x : Int32) : Int32 := match r with
  | 10 => if x ≤ 0 then 0 else 1
  | _ => x
/-- the reference's row for a row of the class -/
def prt (r : Nat) : Nat := match r with
  | 2 => 1
  | 3 => 3
  | 4 => 4
  | 5 => 5
  | 7 => 0
  | 8 => 2
  | 9 => 6
  | 10 => 7
  | 11 => 8
  | 12 => 9
  | 13 => 10
  | 14 => 11
  | 15 => 12
  | 16 => 13
  | _ => 99
/-- how many cells of it both hold -/
def qLen (s w r : Nat) : Nat := match r with
  | 2 => 16
  | 3 => s
  | 4 => s
  | 5 => s
  | 7 => 16
  | 8 => 16
  | 9 => 6
  | 10 => 6
  | 11 => 6
  | 12 => 6
  | 13 => 6
  | 14 => 6
  | 15 => 6
  | 16 => w
  | _ => 0
theorem prt_inj : ∀ r, r < 17 → ∀ k, k < 17 → prt r = prt k → prt r ≠ 99 → r = k := by decide +kernel
theorem r17 {r : Nat} (h : r < 17) : r = 0 ∨ r = 1 ∨ r = 2 ∨ r = 3 ∨ r = 4 ∨ r = 5 ∨ r = 6 ∨ r = 7 ∨ r = 8 ∨ r = 9 ∨ r = 10 ∨ r = 11 ∨ r = 12 ∨ r = 13 ∨ r = 14 ∨ r = 15 ∨ r = 16 := by omega
theorem qLen_big {s w r : Nat} (h : 17 ≤ r) : qLen s w r = 0 := by
  match r, h with
  | n + 17, _ => rfl
theorem qLen_prt {s w r : Nat} (h : 0 < qLen s w r) : r < 17 ∧ prt r ≠ 99 := by
  have h1 : r < 17 := by
    rcases Nat.lt_or_ge r 17 with q | q
    · exact q
    · rw [qLen_big q] at h; omega
  refine ⟨h1, ?_⟩
  rcases r17 h1 with rfl | rfl | rfl | rfl | rfl | rfl | rfl | rfl | rfl | rfl | rfl | rfl | rfl | rfl | rfl | rfl | rfl
  all_goals first | decide | exact absurd h (Nat.lt_irrefl 0)
theorem qLen_le {s w r : Nat} (hs : s ≤ 15) (hw : w ≤ 6) : qLen s w r ≤ lLen r := by
  rcases Nat.lt_or_ge r 17 with q | q
  · rcases r17 q with rfl | rfl | rfl | rfl | rfl | rfl | rfl | rfl | rfl | rfl | rfl | rfl | rfl | rfl | rfl | rfl | rfl
    all_goals first | exact Nat.le_of_ble_eq_true rfl | exact hs | exact hw
  · rw [qLen_big q]; exact Nat.zero_le _
/-- the rows that both hold -/
def RP (s w : Nat) (v sv : LV) : Prop := (s ≤ 15 ∧ w ≤ 6) ∧ ∀ r k, k < qLen s w r → v.2 r k = gv r (sv.2 (prt r) k)
section ZRP
variable {s w : Nat} {v sv : LV}
theorem RP.rdn (h : RP s w v sv) (r i : Nat) (hi : i < qLen s w r) : lAt v r (nI i) = gv r (sv.2 (prt r) i) := by
  rw [lAt_n (Nat.lt_of_lt_of_le hi (qLen_le h.1.1 h.1.2))]
  exact h.2 r i hi
theorem RP.wrn (h : RP s w v sv) (r i : Nat) (y y' : Int32) (hi : i < qLen s w r) (hy : y' = gv r y) : RP s w (lSet v r (nI i) y') (aSet sv (prt r) (nI i) y) := by
  have hl := lLen_lt r
  have hll := qLen_le (r := r) h.1.1 h.1.2
  rw [lSet_n (Nat.lt_of_lt_of_le hi hll), aSet_n (by omega)]
  refine ⟨h.1, fun q k hk => ?_⟩
  have hr := qLen_prt (Nat.lt_of_le_of_lt (Nat.zero_le _) hi)
  have hq := qLen_prt (Nat.lt_of_le_of_lt (Nat.zero_le _) hk)
  by_cases e : q = r
  · subst e
    rw [lRow_same, lRow_same]
    by_cases e2 : k = i
    · subst e2; rw [upd_same, upd_same]; exact hy
    · rw [upd_ne e2, upd_ne e2]; exact h.2 q k hk
  · rw [lRow_ne e, lRow_ne (fun e2 => e (prt_inj q hq.1 r hr.1 e2 hq.2))]
    exact h.2 q k hk
theorem RP.wl (h : RP s w v sv) (r : Nat) (f : Nat → Int32) (hr : qLen s w r = 0) : RP s w (lRow v r f) sv := by
  refine ⟨h.1, fun q k hk => ?_⟩
  rw [lRow_ne (fun e => by subst e; omega)]
  exact h.2 q k hk
theorem RP.ws (h : RP s w v sv) (r : Nat) (f : Nat → Int32) (hr : ∀ q, 0 < qLen s w q → prt q ≠ r) : RP s w v (lRow sv r f) := by
  refine ⟨h.1, fun q k hk => ?_⟩
  rw [lRow_ne (hr q (Nat.lt_of_le_of_lt (Nat.zero_le _) hk))]
  exact h.2 q k hk
end ZRP
/-! what is kept of the reference's rows. P poles, C cars, S sections -/
def sn (f : Nat → Int32) : Nat → Nat
  | 0 => 0
  | k + 1 => sn f k + (if f (k + 1) = 1 then 1 else 0)
def cn (f : Nat → Int32) (x : Int32) : Nat → Nat
  | 0 => 0
  | k + 1 => cn f x k + (if f k = x then 1 else 0)
def ivC (P : Nat) (f : Nat → Int32) : Prop := ∀ k, f k = 0 ∨ (f k = 1 ∧ 0 < k ∧ k + 1 < P)
def ivW (P : Nat) (f : Nat → Int32) : Prop := ∀ k, k < 16 → ∃ q, q ≤ 99 ∧ f k = nI q ∧ (P ≤ k → q = 0)
def ivS (P : Nat) (f : Nat → Int32) : Prop := ∀ k, k < 16 → P ≤ k → f k = -1
def ivD (f : Nat → Int32) : Prop := ∀ k, k < 16 → ∃ q, q < 2 ^ 31 ∧ f k = nI q
def ivA (P C : Nat) (f : Nat → Int32) : Prop := ∀ c, c < 6 → ∃ q, q < P ∧ f c = nI q ∧ (C ≤ c → q = 0)
def ivY (C : Nat) (f : Nat → Int32) : Prop := ∀ c, c < C → f c = 1 ∨ f c = -1
def ivR (C : Nat) (f : Nat → Int32) : Prop := ∀ c, c < 6 → ∃ q, q ≤ 30 ∧ f c = nI q ∧ (C ≤ c → q = 0)
def ivB (C : Nat) (f : Nat → Int32) : Prop := ∀ c, c < 6 → f c = 0 ∨ (f c = 1 ∧ c < C)
def ivP (C : Nat) (fb fp : Nat → Int32) : Prop := (∀ c, c < 6 → fp c = -1 ∨ ∃ p, p < 6 ∧ fp c = nI p) ∧ (∀ c, c < C → fp c = -1 ∨ ∃ p, p < C ∧ fp c = nI p ∧ fb p = 1 ∧ fb c = 0) ∧ ∀ c d, c < C → d < C → fp c = fp d → fp c = -1 ∨ c = d
def ivN (C : Nat) (f : Nat → Int32) : Prop := ∀ x : Int32, cn f x C ≤ 2
def ivG (g : Nat) (x : Int32) : Prop := g < 2 ^ 31 → ∃ j, j ≤ g ∧ x = nI j
def IV (P C S g : Nat) (sv : LV) : Prop := (3 ≤ P ∧ P ≤ 16 ∧ C ≤ 6 ∧ S = sn (sv.2 1) 15 + 1) ∧ ivC P (sv.2 1) ∧ ivW P (sv.2 0) ∧ ivS P (sv.2 2) ∧ ivD (sv.2 4) ∧ ivA P C (sv.2 6) ∧ ivY C (sv.2 7) ∧ ivR C (sv.2 8) ∧ ivB C (sv.2 10) ∧ ivP C (sv.2 10) (sv.2 11) ∧ ivN C (sv.2 6) ∧ ivG g (sv.1 1)
/-- both sides' numbers -/
def SC (P C S : Nat) (v mv sv : LV) : Prop := v.1 0 = nI P ∧ v.1 1 = nI S ∧ v.1 2 = nI C ∧ v.1 3 = sv.1 0 ∧ v.1 4 = sv.1 1 ∧ v.1 5 = sv.1 2 ∧ mv.1 1 = nI P ∧ mv.1 2 = nI C ∧ sv.1 3 = nI S
/-- the line v of the class, and the reference's mv, sv -/
def ZL (P C S w : Nat) (v mv sv : LV) : Prop := SC P C S v mv sv ∧ (∀ k, k < 15 → v.2 0 k = mv.2 0 k) ∧ (∀ k, k + 1 < P → v.2 1 k = nI (sn (sv.2 1) k)) ∧ RP S w v sv
theorem sn_le (f : Nat → Int32) (k : Nat) : sn f k ≤ k := by
  induction k with
  | zero => exact Nat.le_refl 0
  | succ k ih =>
    show sn f k + (if f (k + 1) = 1 then 1 else 0) ≤ k + 1
    split <;> omega
theorem sn_mono (f : Nat → Int32) {a b : Nat} (h : a ≤ b) : sn f a ≤ sn f b := by
  induction b with
  | zero => rw [show a = 0 by omega]; exact Nat.le_refl _
  | succ b ih =>
    by_cases e : a = b + 1
    · rw [e]; exact Nat.le_refl _
    · exact Nat.le_trans (ih (by omega)) (Nat.le_add_right _ _)
theorem sn_end {P : Nat} {f : Nat → Int32} (h : ivC P f) {a : Nat} (ha : P ≤ a + 2) (b : Nat) (hb : a ≤ b) : sn f b = sn f a := by
  induction b with
  | zero => rw [show a = 0 by omega]
  | succ b ih =>
    by_cases e : a = b + 1
    · rw [e]
    · show sn f b + (if f (b + 1) = 1 then 1 else 0) = sn f a
      have h1 : ¬ f (b + 1) = 1 := by
        intro h1
        rcases h (b + 1) with q | ⟨_, _, q⟩
        · rw [q] at h1; exact absurd h1 (by decide)
        · omega
      rw [ih (by omega), if_neg h1, Nat.add_zero]
theorem sn_all {P : Nat} {f : Nat → Int32} (hP : P ≤ 16) (h : ivC P f) (k : Nat) : sn f k ≤ sn f 15 := by
  rcases Nat.le_total k 15 with q | q
  · exact sn_mono f q
  · rw [sn_end h (by omega) k q]; exact Nat.le_refl _
theorem sn_P {P : Nat} {f : Nat → Int32} (hP : 3 ≤ P ∧ P ≤ 16) (h : ivC P f) : sn f 15 + 2 ≤ P := by
  rw [sn_end h (a := P - 2) (by omega) 15 (by omega)]
  have := sn_le f (P - 2)
  omega
theorem IV.S15 {P C S g : Nat} {sv : LV} (h : IV P C S g sv) : S + 1 ≤ P ∧ S ≤ 15 ∧ 1 ≤ S := by
  have h1 := h.1
  have := sn_P ⟨h1.1, h1.2.1⟩ h.2.1
  omega
theorem secN {P : Nat} {mv sv : LV} (h : ivC P (sv.2 1)) (k : Nat) (hk : k < 2 ^ 31) : fX6_sectionOf mv sv (nI k) = nI (sn (sv.2 1) k) := by
  unfold fX6_sectionOf
  rw [nI_clamp hk]
  have key : ∀ n, n ≤ k → itI n (bX6_sectionOf_4 mv sv (nI k)) 0 = nI (sn (sv.2 1) n) := by
    intro n
    induction n with
    | zero => intro _; rfl
    | succ n ih =>
      intro hn
      rw [itI_s, ih (by omega)]
      show nI (sn (sv.2 1) n) + aAt sv 1 (nI (n + 1)) = nI (sn (sv.2 1) n + (if sv.2 1 (n + 1) = 1 then 1 else 0))
      rw [aAt_n (by omega), ← nI_add]
      rcases h (n + 1) with q | ⟨q, _⟩
      · rw [q, if_neg (by decide)]; rfl
      · rw [q, if_pos rfl]; rfl
  exact key k (Nat.le_refl k)
theorem secM1 {mv sv : LV} : fX6_sectionOf mv sv (-1) = 0 := rfl
theorem cn_upd (f : Nat → Int32) (c : Nat) (y x : Int32) (n : Nat) : cn (upd f c y) x n ≤ cn f x n + (if y = x then (if c < n then 1 else 0) else 0) := by
  induction n with
  | zero => exact Nat.zero_le _
  | succ n ih =>
    show cn (upd f c y) x n + (if upd f c y n = x then 1 else 0) ≤ (cn f x n + (if f n = x then 1 else 0)) + (if y = x then (if c < n + 1 then 1 else 0) else 0)
    by_cases e : n = c
    · subst e
      rw [upd_same]
      rw [if_neg (Nat.lt_irrefl n), if_pos (Nat.lt_succ_self n)] at *
      split at ih <;> simp_all <;> omega
    · rw [upd_ne e]
      by_cases e2 : c < n
      · rw [if_pos e2] at ih
        rw [if_pos (show c < n + 1 by omega)]
        omega
      · rw [if_neg e2] at ih
        rw [if_neg (show ¬ c < n + 1 by omega)]
        omega
theorem carsM {mv sv : LV} {C : Nat} (hC : mv.1 2 = nI C) (hC6 : C ≤ 6) (x : Int32) : fX6_carsAt mv sv x = nI (cn (sv.2 6) x C) := by
  unfold fX6_carsAt
  rw [hC, nI_clamp (by omega)]
  refine itI_inv (P := fun n a => n ≤ C → a = nI (cn (sv.2 6) x n)) C (fun _ => rfl) (fun i a hi h hn => ?_) (Nat.le_refl C)
  rw [h (by omega)]
  show (if aAt sv 6 (nI i) = x then _ else _) = nI (cn (sv.2 6) x i + (if sv.2 6 i = x then 1 else 0))
  rw [aAt_n (by omega), ← nI_add]
  split <;> rfl
theorem cn_le (f : Nat → Int32) (x : Int32) (n : Nat) : cn f x n ≤ n := by
  induction n with
  | zero => exact Nat.le_refl 0
  | succ k ih =>
    show cn f x k + (if f k = x then 1 else 0) ≤ k + 1
    split <;> omega
/-- the span ahead of a car at q that goes y's way -/
def sah (P q : Nat) (y : Int32) : Int32 := if y ≤ 0 then (if q = 0 then -1 else nI (q - 1)) else (if q + 1 < P then nI q else -1)
theorem aheadM {P : Nat} {mv sv : LV} (hP : 3 ≤ P ∧ P ≤ 16) (h1 : mv.1 1 = nI P) {i q : Nat} (hi : i < 6) (e6 : sv.2 6 i = nI q) (hq : q < P) : fX6_ahead mv sv (nI i) = sah P q (sv.2 7 i) := by
  unfold fX6_ahead sah
  rw [aAt_n (by omega), aAt_n (by omega), e6, h1, show nI P - 2 = nI (P - 2) from pk_sub (b := 2) (by omega)]
  by_cases hy : sv.2 7 i ≤ 0
  · rw [if_pos hy, if_pos hy]
    by_cases h0 : q = 0
    · subst h0
      rw [if_pos rfl, if_pos (by decide)]
    · obtain ⟨j, rfl⟩ : ∃ j, q = j + 1 := ⟨q - 1, by omega⟩
      rw [if_neg h0, nI_pred, if_neg (nI_pos (by omega)), if_pos (nI_le (by omega) (by omega))]
      rfl
  · rw [if_neg hy, if_neg hy, if_neg (nI_pos (by omega))]
    by_cases h2 : q + 1 < P
    · rw [if_pos h2, if_pos (nI_le (by omega) (by omega))]
    · rw [if_neg h2, if_neg (nI_ge (by omega) (by omega))]
theorem outN {q a b : Nat} (hq : q < 2 ^ 31) (ha : a < 2 ^ 31) (hb : b < 2 ^ 31) : fX5_outside (nI q) (nI a) (nI b) = if a ≤ q ∧ q ≤ b then 0 else 1 := by
  unfold fX5_outside
  by_cases h1 : q < a
  · rw [if_pos (nI_lt h1 ha), if_neg (by omega)]
  · rw [if_neg (nI_nlt (by omega) hq)]
    by_cases h2 : q ≤ b
    · rw [if_pos (nI_le h2 hb), if_pos (by omega)]
    · rw [if_neg (nI_ge (by omega) hq), if_neg (by omega)]
theorem aheadV {P : Nat} {v : LV} {y : Int32} (hP : 3 ≤ P ∧ P ≤ 16) (h1 : v.1 0 = nI P) {i q : Nat} (e9 : lAt v 9 (nI i) = nI q) (e10 : lAt v 10 (nI i) = gv 10 y) (hq : q < P) : fX1_spanAhead v (nI i) = sah P q y := by
  have hs : fX4_spans v - 1 = nI (P - 2) := by
    unfold fX4_spans
    rw [h1, show nI P - 1 = nI (P - 1) from pk_sub (b := 1) (by omega), show nI (P - 1) - 1 = nI (P - 1 - 1) from pk_sub (b := 1) (by omega)]
    rfl
  unfold fX1_spanAhead sah
  rw [e9, e10, hs]
  show (if (if y ≤ 0 then (0 : Int32) else 1) = 1 then _ else _) = _
  by_cases hy : y ≤ 0
  · rw [if_pos hy, if_pos hy, if_neg (by decide)]
    by_cases h0 : q = 0
    · subst h0
      rw [if_pos rfl, if_neg]
      show ¬ fX5_outside (-1) 0 _ = 0
      unfold fX5_outside
      rw [if_pos (by decide)]
      decide
    · obtain ⟨j, rfl⟩ : ∃ j, q = j + 1 := ⟨q - 1, by omega⟩
      rw [if_neg h0, nI_pred, show (0 : Int32) = nI 0 from rfl, outN (by omega) (by omega) (by omega), if_pos (show 0 ≤ j ∧ j ≤ P - 2 by omega), if_pos (by rfl)]
      rfl
  · rw [if_neg hy, if_neg hy, if_pos rfl, show (0 : Int32) = nI 0 from rfl, outN (by omega) (by omega) (by omega)]
    by_cases h2 : q + 1 < P
    · rw [if_pos h2, if_pos (show 0 ≤ q ∧ q ≤ P - 2 by omega), if_pos (by rfl)]
    · rw [if_neg h2, if_neg (show ¬ (0 ≤ q ∧ q ≤ P - 2) by omega), if_neg (by decide)]
theorem sah_cases {P q : Nat} (hP : 3 ≤ P ∧ P ≤ 16) (hq : q < P) (y : Int32) : sah P q y = -1 ∨ ∃ k, k + 1 < P ∧ sah P q y = nI k := by
  unfold sah
  split
  · split
    · exact Or.inl rfl
    · exact Or.inr ⟨q - 1, by omega, rfl⟩
  · split
    · exact Or.inr ⟨q, by omega, rfl⟩
    · exact Or.inl rfl
theorem nI_m1 {k : Nat} (h : k < 2 ^ 31) : ¬ nI k = -1 := by
  intro e
  have h1 : (nI k).toInt = (k : Int) := nI_toInt h
  rw [e] at h1
  have h2 : (-1 : Int32).toInt = -1 := by decide
  omega
