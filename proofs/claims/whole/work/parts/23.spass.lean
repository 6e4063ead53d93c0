/-! State: a tick -/
theorem rk0_fX6_go (mv sv : LV) (cr : Int32) : (fX6_go mv sv cr).2 0 = sv.2 0 := by
  unfold fX6_go
  (repeat' split) <;> first | rfl
theorem rk1_fX6_go (mv sv : LV) (cr : Int32) : (fX6_go mv sv cr).2 1 = sv.2 1 := by
  unfold fX6_go
  (repeat' split) <;> first | rfl
theorem rk2_fX6_go (mv sv : LV) (cr : Int32) : (fX6_go mv sv cr).2 2 = sv.2 2 := by
  unfold fX6_go
  (repeat' split) <;> first | rfl
theorem rk3_fX6_go (mv sv : LV) (cr : Int32) : (fX6_go mv sv cr).2 3 = sv.2 3 := by
  unfold fX6_go
  (repeat' split) <;> first | rfl
theorem rk4_fX6_go (mv sv : LV) (cr : Int32) : (fX6_go mv sv cr).2 4 = sv.2 4 := by
  unfold fX6_go
  (repeat' split) <;> first | rfl
theorem rk5_fX6_go (mv sv : LV) (cr : Int32) : (fX6_go mv sv cr).2 5 = sv.2 5 := by
  unfold fX6_go
  (repeat' split) <;> first | rfl
theorem rk7_fX6_go (mv sv : LV) (cr : Int32) : (fX6_go mv sv cr).2 7 = sv.2 7 := by
  unfold fX6_go
  (repeat' split) <;> first | rfl
theorem rk8_fX6_go (mv sv : LV) (cr : Int32) : (fX6_go mv sv cr).2 8 = sv.2 8 := by
  unfold fX6_go
  (repeat' split) <;> first | rfl
theorem rk9_fX6_go (mv sv : LV) (cr : Int32) : (fX6_go mv sv cr).2 9 = sv.2 9 := by
  unfold fX6_go
  (repeat' split) <;> first | rfl
theorem rk10_fX6_go (mv sv : LV) (cr : Int32) : (fX6_go mv sv cr).2 10 = sv.2 10 := by
  unfold fX6_go
  (repeat' split) <;> first | rfl
theorem rk11_fX6_go (mv sv : LV) (cr : Int32) : (fX6_go mv sv cr).2 11 = sv.2 11 := by
  unfold fX6_go
  (repeat' split) <;> first | rfl
theorem rs0_fX6_go (mv sv : LV) (cr : Int32) : (fX6_go mv sv cr).1 0 = sv.1 0 := by
  unfold fX6_go
  (repeat' split) <;> first | rfl
theorem rs1_fX6_go (mv sv : LV) (cr : Int32) : (fX6_go mv sv cr).1 1 = sv.1 1 := by
  unfold fX6_go
  (repeat' split) <;> first | rfl
theorem rs2_fX6_go (mv sv : LV) (cr : Int32) : (fX6_go mv sv cr).1 2 = sv.1 2 := by
  unfold fX6_go
  (repeat' split) <;> first | rfl
theorem rs3_fX6_go (mv sv : LV) (cr : Int32) : (fX6_go mv sv cr).1 3 = sv.1 3 := by
  unfold fX6_go
  (repeat' split) <;> first | rfl
theorem rk1_fX6_halt (mv sv : LV) (cr : Int32) : (fX6_halt mv sv cr).2 1 = sv.2 1 := by
  unfold fX6_halt
  (repeat' split) <;> first | rfl
theorem rk2_fX6_halt (mv sv : LV) (cr : Int32) : (fX6_halt mv sv cr).2 2 = sv.2 2 := by
  unfold fX6_halt
  (repeat' split) <;> first | rfl
theorem rk3_fX6_halt (mv sv : LV) (cr : Int32) : (fX6_halt mv sv cr).2 3 = sv.2 3 := by
  unfold fX6_halt
  (repeat' split) <;> first | rfl
theorem rk4_fX6_halt (mv sv : LV) (cr : Int32) : (fX6_halt mv sv cr).2 4 = sv.2 4 := by
  unfold fX6_halt
  (repeat' split) <;> first | rfl
theorem rk5_fX6_halt (mv sv : LV) (cr : Int32) : (fX6_halt mv sv cr).2 5 = sv.2 5 := by
  unfold fX6_halt
  (repeat' split) <;> first | rfl
theorem rk6_fX6_halt (mv sv : LV) (cr : Int32) : (fX6_halt mv sv cr).2 6 = sv.2 6 := by
  unfold fX6_halt
  (repeat' split) <;> first | rfl
theorem rk7_fX6_halt (mv sv : LV) (cr : Int32) : (fX6_halt mv sv cr).2 7 = sv.2 7 := by
  unfold fX6_halt
  (repeat' split) <;> first | rfl
theorem rk12_fX6_halt (mv sv : LV) (cr : Int32) : (fX6_halt mv sv cr).2 12 = sv.2 12 := by
  unfold fX6_halt
  (repeat' split) <;> first | rfl
theorem rk13_fX6_halt (mv sv : LV) (cr : Int32) : (fX6_halt mv sv cr).2 13 = sv.2 13 := by
  unfold fX6_halt
  (repeat' split) <;> first | rfl
theorem rs0_fX6_halt (mv sv : LV) (cr : Int32) : (fX6_halt mv sv cr).1 0 = sv.1 0 := by
  unfold fX6_halt
  (repeat' split) <;> first | rfl
theorem rs2_fX6_halt (mv sv : LV) (cr : Int32) : (fX6_halt mv sv cr).1 2 = sv.1 2 := by
  unfold fX6_halt
  (repeat' split) <;> first | rfl
theorem rs3_fX6_halt (mv sv : LV) (cr : Int32) : (fX6_halt mv sv cr).1 3 = sv.1 3 := by
  unfold fX6_halt
  (repeat' split) <;> first | rfl
theorem rk0_fX6_mend (mv sv : LV) (cr : Int32) : (fX6_mend mv sv cr).2 0 = sv.2 0 := by
  unfold fX6_mend
  have key : ((fstI ((mv.1 2).toNatClampNeg) (bX6_mend_84 mv sv cr)).getD sv).2 0 = sv.2 0 := by
    cases e : fstI ((mv.1 2).toNatClampNeg) (bX6_mend_84 mv sv cr) with
    | none => rfl
    | some r =>
      obtain ⟨i, -, h⟩ := fstI_ex e
      unfold bX6_mend_84 at h
      (repeat' split at h) <;> first | (cases h; done) | (cases h; rfl)
  (repeat' split) <;> first | rfl | exact key
theorem rk1_fX6_mend (mv sv : LV) (cr : Int32) : (fX6_mend mv sv cr).2 1 = sv.2 1 := by
  unfold fX6_mend
  have key : ((fstI ((mv.1 2).toNatClampNeg) (bX6_mend_84 mv sv cr)).getD sv).2 1 = sv.2 1 := by
    cases e : fstI ((mv.1 2).toNatClampNeg) (bX6_mend_84 mv sv cr) with
    | none => rfl
    | some r =>
      obtain ⟨i, -, h⟩ := fstI_ex e
      unfold bX6_mend_84 at h
      (repeat' split at h) <;> first | (cases h; done) | (cases h; rfl)
  (repeat' split) <;> first | rfl | exact key
theorem rk3_fX6_mend (mv sv : LV) (cr : Int32) : (fX6_mend mv sv cr).2 3 = sv.2 3 := by
  unfold fX6_mend
  have key : ((fstI ((mv.1 2).toNatClampNeg) (bX6_mend_84 mv sv cr)).getD sv).2 3 = sv.2 3 := by
    cases e : fstI ((mv.1 2).toNatClampNeg) (bX6_mend_84 mv sv cr) with
    | none => rfl
    | some r =>
      obtain ⟨i, -, h⟩ := fstI_ex e
      unfold bX6_mend_84 at h
      (repeat' split at h) <;> first | (cases h; done) | (cases h; rfl)
  (repeat' split) <;> first | rfl | exact key
theorem rk4_fX6_mend (mv sv : LV) (cr : Int32) : (fX6_mend mv sv cr).2 4 = sv.2 4 := by
  unfold fX6_mend
  have key : ((fstI ((mv.1 2).toNatClampNeg) (bX6_mend_84 mv sv cr)).getD sv).2 4 = sv.2 4 := by
    cases e : fstI ((mv.1 2).toNatClampNeg) (bX6_mend_84 mv sv cr) with
    | none => rfl
    | some r =>
      obtain ⟨i, -, h⟩ := fstI_ex e
      unfold bX6_mend_84 at h
      (repeat' split at h) <;> first | (cases h; done) | (cases h; rfl)
  (repeat' split) <;> first | rfl | exact key
theorem rk5_fX6_mend (mv sv : LV) (cr : Int32) : (fX6_mend mv sv cr).2 5 = sv.2 5 := by
  unfold fX6_mend
  have key : ((fstI ((mv.1 2).toNatClampNeg) (bX6_mend_84 mv sv cr)).getD sv).2 5 = sv.2 5 := by
    cases e : fstI ((mv.1 2).toNatClampNeg) (bX6_mend_84 mv sv cr) with
    | none => rfl
    | some r =>
      obtain ⟨i, -, h⟩ := fstI_ex e
      unfold bX6_mend_84 at h
      (repeat' split at h) <;> first | (cases h; done) | (cases h; rfl)
  (repeat' split) <;> first | rfl | exact key
theorem rk6_fX6_mend (mv sv : LV) (cr : Int32) : (fX6_mend mv sv cr).2 6 = sv.2 6 := by
  unfold fX6_mend
  have key : ((fstI ((mv.1 2).toNatClampNeg) (bX6_mend_84 mv sv cr)).getD sv).2 6 = sv.2 6 := by
    cases e : fstI ((mv.1 2).toNatClampNeg) (bX6_mend_84 mv sv cr) with
    | none => rfl
    | some r =>
      obtain ⟨i, -, h⟩ := fstI_ex e
      unfold bX6_mend_84 at h
      (repeat' split at h) <;> first | (cases h; done) | (cases h; rfl)
  (repeat' split) <;> first | rfl | exact key
theorem rk7_fX6_mend (mv sv : LV) (cr : Int32) : (fX6_mend mv sv cr).2 7 = sv.2 7 := by
  unfold fX6_mend
  have key : ((fstI ((mv.1 2).toNatClampNeg) (bX6_mend_84 mv sv cr)).getD sv).2 7 = sv.2 7 := by
    cases e : fstI ((mv.1 2).toNatClampNeg) (bX6_mend_84 mv sv cr) with
    | none => rfl
    | some r =>
      obtain ⟨i, -, h⟩ := fstI_ex e
      unfold bX6_mend_84 at h
      (repeat' split at h) <;> first | (cases h; done) | (cases h; rfl)
  (repeat' split) <;> first | rfl | exact key
theorem rk8_fX6_mend (mv sv : LV) (cr : Int32) : (fX6_mend mv sv cr).2 8 = sv.2 8 := by
  unfold fX6_mend
  have key : ((fstI ((mv.1 2).toNatClampNeg) (bX6_mend_84 mv sv cr)).getD sv).2 8 = sv.2 8 := by
    cases e : fstI ((mv.1 2).toNatClampNeg) (bX6_mend_84 mv sv cr) with
    | none => rfl
    | some r =>
      obtain ⟨i, -, h⟩ := fstI_ex e
      unfold bX6_mend_84 at h
      (repeat' split at h) <;> first | (cases h; done) | (cases h; rfl)
  (repeat' split) <;> first | rfl | exact key
theorem rk12_fX6_mend (mv sv : LV) (cr : Int32) : (fX6_mend mv sv cr).2 12 = sv.2 12 := by
  unfold fX6_mend
  have key : ((fstI ((mv.1 2).toNatClampNeg) (bX6_mend_84 mv sv cr)).getD sv).2 12 = sv.2 12 := by
    cases e : fstI ((mv.1 2).toNatClampNeg) (bX6_mend_84 mv sv cr) with
    | none => rfl
    | some r =>
      obtain ⟨i, -, h⟩ := fstI_ex e
      unfold bX6_mend_84 at h
      (repeat' split at h) <;> first | (cases h; done) | (cases h; rfl)
  (repeat' split) <;> first | rfl | exact key
theorem rk13_fX6_mend (mv sv : LV) (cr : Int32) : (fX6_mend mv sv cr).2 13 = sv.2 13 := by
  unfold fX6_mend
  have key : ((fstI ((mv.1 2).toNatClampNeg) (bX6_mend_84 mv sv cr)).getD sv).2 13 = sv.2 13 := by
    cases e : fstI ((mv.1 2).toNatClampNeg) (bX6_mend_84 mv sv cr) with
    | none => rfl
    | some r =>
      obtain ⟨i, -, h⟩ := fstI_ex e
      unfold bX6_mend_84 at h
      (repeat' split at h) <;> first | (cases h; done) | (cases h; rfl)
  (repeat' split) <;> first | rfl | exact key
theorem rs0_fX6_mend (mv sv : LV) (cr : Int32) : (fX6_mend mv sv cr).1 0 = sv.1 0 := by
  unfold fX6_mend
  have key : ((fstI ((mv.1 2).toNatClampNeg) (bX6_mend_84 mv sv cr)).getD sv).1 0 = sv.1 0 := by
    cases e : fstI ((mv.1 2).toNatClampNeg) (bX6_mend_84 mv sv cr) with
    | none => rfl
    | some r =>
      obtain ⟨i, -, h⟩ := fstI_ex e
      unfold bX6_mend_84 at h
      (repeat' split at h) <;> first | (cases h; done) | (cases h; rfl)
  (repeat' split) <;> first | rfl | exact key
theorem rs1_fX6_mend (mv sv : LV) (cr : Int32) : (fX6_mend mv sv cr).1 1 = sv.1 1 := by
  unfold fX6_mend
  have key : ((fstI ((mv.1 2).toNatClampNeg) (bX6_mend_84 mv sv cr)).getD sv).1 1 = sv.1 1 := by
    cases e : fstI ((mv.1 2).toNatClampNeg) (bX6_mend_84 mv sv cr) with
    | none => rfl
    | some r =>
      obtain ⟨i, -, h⟩ := fstI_ex e
      unfold bX6_mend_84 at h
      (repeat' split at h) <;> first | (cases h; done) | (cases h; rfl)
  (repeat' split) <;> first | rfl | exact key
theorem rs3_fX6_mend (mv sv : LV) (cr : Int32) : (fX6_mend mv sv cr).1 3 = sv.1 3 := by
  unfold fX6_mend
  have key : ((fstI ((mv.1 2).toNatClampNeg) (bX6_mend_84 mv sv cr)).getD sv).1 3 = sv.1 3 := by
    cases e : fstI ((mv.1 2).toNatClampNeg) (bX6_mend_84 mv sv cr) with
    | none => rfl
    | some r =>
      obtain ⟨i, -, h⟩ := fstI_ex e
      unfold bX6_mend_84 at h
      (repeat' split at h) <;> first | (cases h; done) | (cases h; rfl)
  (repeat' split) <;> first | rfl | exact key
theorem cOK_of {a b : LV} (h : a.2 1 = b.2 1) (hc : cOK b) : cOK a := fun k hk => by rw [h]; exact hc k hk
theorem pOK_of {a b : LV} (h : a.2 11 = b.2 11) (hp : pOK b) : pOK a := by
  have e : ∀ i, aAt a 11 i = aAt b 11 i := fun i => congrFun h _
  intro i hi h2
  rw [e] at h2 ⊢
  exact hp i hi h2
theorem at_of {a b : LV} {x : Int32} (h : a.2 6 = b.2 6) (hp : vp_in (aAt b 6 x) 16) : vp_in (aAt a 6 x) 16 := by
  rw [show aAt a 6 x = aAt b 6 x from congrFun h _]; exact hp
def bX6_pass_2 (mv : LV) (sv : LV) (i : Nat) (a : LV) : LV :=
  (if 0 < (aAt a 4 (nI i)) then a else (if (aAt a 3 (nI i)) < (fX6_drawn mv a (nI i)) then aSet (aSet a 4 (nI i) 3) 5 (nI i) ((aAt a 5 (nI i)) + 1) else a))
def bX6_pass_61 (mv : LV) (sv : LV) (i : Nat) (a : LV) : LV :=
  fX6_go mv a (nI i)
def kX6_pass_83 (mv : LV) (sv : LV) : LV :=
  itI ((mv.1 2).toNatClampNeg) (bX6_pass_61 mv sv) (itI ((sv.1 3).toNatClampNeg) (bX6_pass_2 mv sv) sv)
def bX6_pass_85 (mv : LV) (sv : LV) (i : Nat) (a : LV) : LV :=
  fX6_halt mv a (nI i)
def kX6_pass_107 (mv : LV) (sv : LV) : LV :=
  itI ((mv.1 2).toNatClampNeg) (bX6_pass_85 mv sv) (kX6_pass_83 mv sv)
def bX6_pass_109 (mv : LV) (sv : LV) (i : Nat) (a : LV) : LV :=
  fX6_mend mv a (nI i)
def kX6_pass_131 (mv : LV) (sv : LV) : LV :=
  itI ((mv.1 2).toNatClampNeg) (bX6_pass_109 mv sv) (kX6_pass_107 mv sv)
def bX6_pass_133 (mv : LV) (sv : LV) (i : Nat) (a : LV) : LV :=
  (if ((a.1 0) - (a.1 0) / ((nI i) + 2) * ((nI i) + 2)) = 0 then aSet a 0 (nI i) (aMin 99 ((aAt a 0 (nI i)) + 1)) else a)
def kX6_pass_180 (mv : LV) (sv : LV) : LV :=
  itI ((mv.1 1).toNatClampNeg) (bX6_pass_133 mv sv) (kX6_pass_131 mv sv)
def bX6_pass_182 (mv : LV) (sv : LV) (i : Nat) (a : LV) : LV :=
  aSet a 4 (nI i) (aMax 0 ((aAt a 4 (nI i)) - 1))
def fX6_pass (mv : LV) (sv : LV) : LV :=
  lSc (itI ((sv.1 3).toNatClampNeg) (bX6_pass_182 mv sv) (kX6_pass_180 mv sv)) 0 (((itI ((sv.1 3).toNatClampNeg) (bX6_pass_182 mv sv) (kX6_pass_180 mv sv)).1 0) + 1)
theorem rk1_bX6_pass_2 (mv sv : LV) (i : Nat) (a : LV) : (bX6_pass_2 mv sv i a).2 1 = a.2 1 := by
  unfold bX6_pass_2
  (repeat' split) <;> first | rfl
theorem rki1_bX6_pass_2 (mv sv : LV) (a : LV) : ∀ i, (itI i (bX6_pass_2 mv sv) a).2 1 = a.2 1
  | 0 => rfl
  | i + 1 => (rk1_bX6_pass_2 mv sv i _).trans (rki1_bX6_pass_2 mv sv a i)
theorem rk11_bX6_pass_2 (mv sv : LV) (i : Nat) (a : LV) : (bX6_pass_2 mv sv i a).2 11 = a.2 11 := by
  unfold bX6_pass_2
  (repeat' split) <;> first | rfl
theorem rki11_bX6_pass_2 (mv sv : LV) (a : LV) : ∀ i, (itI i (bX6_pass_2 mv sv) a).2 11 = a.2 11
  | 0 => rfl
  | i + 1 => (rk11_bX6_pass_2 mv sv i _).trans (rki11_bX6_pass_2 mv sv a i)
theorem rs3_bX6_pass_2 (mv sv : LV) (i : Nat) (a : LV) : (bX6_pass_2 mv sv i a).1 3 = a.1 3 := by
  unfold bX6_pass_2
  (repeat' split) <;> first | rfl
theorem rsi3_bX6_pass_2 (mv sv : LV) (a : LV) : ∀ i, (itI i (bX6_pass_2 mv sv) a).1 3 = a.1 3
  | 0 => rfl
  | i + 1 => (rs3_bX6_pass_2 mv sv i _).trans (rsi3_bX6_pass_2 mv sv a i)
theorem rk1_bX6_pass_61 (mv sv : LV) (i : Nat) (a : LV) : (bX6_pass_61 mv sv i a).2 1 = a.2 1 := by
  unfold bX6_pass_61
  (repeat' split) <;> first | rfl | exact rk1_fX6_go _ _ _
theorem rki1_bX6_pass_61 (mv sv : LV) (a : LV) : ∀ i, (itI i (bX6_pass_61 mv sv) a).2 1 = a.2 1
  | 0 => rfl
  | i + 1 => (rk1_bX6_pass_61 mv sv i _).trans (rki1_bX6_pass_61 mv sv a i)
theorem rk11_bX6_pass_61 (mv sv : LV) (i : Nat) (a : LV) : (bX6_pass_61 mv sv i a).2 11 = a.2 11 := by
  unfold bX6_pass_61
  (repeat' split) <;> first | rfl | exact rk11_fX6_go _ _ _
theorem rki11_bX6_pass_61 (mv sv : LV) (a : LV) : ∀ i, (itI i (bX6_pass_61 mv sv) a).2 11 = a.2 11
  | 0 => rfl
  | i + 1 => (rk11_bX6_pass_61 mv sv i _).trans (rki11_bX6_pass_61 mv sv a i)
theorem rs3_bX6_pass_61 (mv sv : LV) (i : Nat) (a : LV) : (bX6_pass_61 mv sv i a).1 3 = a.1 3 := by
  unfold bX6_pass_61
  (repeat' split) <;> first | rfl | exact rs3_fX6_go _ _ _
theorem rsi3_bX6_pass_61 (mv sv : LV) (a : LV) : ∀ i, (itI i (bX6_pass_61 mv sv) a).1 3 = a.1 3
  | 0 => rfl
  | i + 1 => (rs3_bX6_pass_61 mv sv i _).trans (rsi3_bX6_pass_61 mv sv a i)
theorem rk6_bX6_pass_85 (mv sv : LV) (i : Nat) (a : LV) : (bX6_pass_85 mv sv i a).2 6 = a.2 6 := by
  unfold bX6_pass_85
  (repeat' split) <;> first | rfl | exact rk6_fX6_halt _ _ _
theorem rki6_bX6_pass_85 (mv sv : LV) (a : LV) : ∀ i, (itI i (bX6_pass_85 mv sv) a).2 6 = a.2 6
  | 0 => rfl
  | i + 1 => (rk6_bX6_pass_85 mv sv i _).trans (rki6_bX6_pass_85 mv sv a i)
theorem rs3_bX6_pass_85 (mv sv : LV) (i : Nat) (a : LV) : (bX6_pass_85 mv sv i a).1 3 = a.1 3 := by
  unfold bX6_pass_85
  (repeat' split) <;> first | rfl | exact rs3_fX6_halt _ _ _
theorem rsi3_bX6_pass_85 (mv sv : LV) (a : LV) : ∀ i, (itI i (bX6_pass_85 mv sv) a).1 3 = a.1 3
  | 0 => rfl
  | i + 1 => (rs3_bX6_pass_85 mv sv i _).trans (rsi3_bX6_pass_85 mv sv a i)
theorem rk6_bX6_pass_109 (mv sv : LV) (i : Nat) (a : LV) : (bX6_pass_109 mv sv i a).2 6 = a.2 6 := by
  unfold bX6_pass_109
  (repeat' split) <;> first | rfl | exact rk6_fX6_mend _ _ _
theorem rki6_bX6_pass_109 (mv sv : LV) (a : LV) : ∀ i, (itI i (bX6_pass_109 mv sv) a).2 6 = a.2 6
  | 0 => rfl
  | i + 1 => (rk6_bX6_pass_109 mv sv i _).trans (rki6_bX6_pass_109 mv sv a i)
theorem rs3_bX6_pass_109 (mv sv : LV) (i : Nat) (a : LV) : (bX6_pass_109 mv sv i a).1 3 = a.1 3 := by
  unfold bX6_pass_109
  (repeat' split) <;> first | rfl | exact rs3_fX6_mend _ _ _
theorem rsi3_bX6_pass_109 (mv sv : LV) (a : LV) : ∀ i, (itI i (bX6_pass_109 mv sv) a).1 3 = a.1 3
  | 0 => rfl
  | i + 1 => (rs3_bX6_pass_109 mv sv i _).trans (rsi3_bX6_pass_109 mv sv a i)
theorem rs3_bX6_pass_133 (mv sv : LV) (i : Nat) (a : LV) : (bX6_pass_133 mv sv i a).1 3 = a.1 3 := by
  unfold bX6_pass_133
  (repeat' split) <;> first | rfl
theorem rsi3_bX6_pass_133 (mv sv : LV) (a : LV) : ∀ i, (itI i (bX6_pass_133 mv sv) a).1 3 = a.1 3
  | 0 => rfl
  | i + 1 => (rs3_bX6_pass_133 mv sv i _).trans (rsi3_bX6_pass_133 mv sv a i)
theorem rs3_bX6_pass_182 (mv sv : LV) (i : Nat) (a : LV) : (bX6_pass_182 mv sv i a).1 3 = a.1 3 := by
  unfold bX6_pass_182
  (repeat' split) <;> first | rfl
theorem rsi3_bX6_pass_182 (mv sv : LV) (a : LV) : ∀ i, (itI i (bX6_pass_182 mv sv) a).1 3 = a.1 3
  | 0 => rfl
  | i + 1 => (rs3_bX6_pass_182 mv sv i _).trans (rsi3_bX6_pass_182 mv sv a i)
theorem k83_3 (mv sv : LV) : (kX6_pass_83 mv sv).1 3 = (sv).1 3 := by
  unfold kX6_pass_83
  exact (rsi3_bX6_pass_61 mv sv _ _).trans (rsi3_bX6_pass_2 mv sv _ _)
theorem k107_3 (mv sv : LV) : (kX6_pass_107 mv sv).1 3 = (sv).1 3 := by
  unfold kX6_pass_107
  exact (rsi3_bX6_pass_85 mv sv _ _).trans (k83_3 mv sv)
theorem k131_3 (mv sv : LV) : (kX6_pass_131 mv sv).1 3 = (sv).1 3 := by
  unfold kX6_pass_131
  exact (rsi3_bX6_pass_109 mv sv _ _).trans (k107_3 mv sv)
theorem k180_3 (mv sv : LV) : (kX6_pass_180 mv sv).1 3 = (sv).1 3 := by
  unfold kX6_pass_180
  exact (rsi3_bX6_pass_133 mv sv _ _).trans (k131_3 mv sv)
theorem k107_6 (mv sv : LV) : (kX6_pass_107 mv sv).2 6 = (kX6_pass_83 mv sv).2 6 := by
  unfold kX6_pass_107
  exact rki6_bX6_pass_85 mv sv _ _
set_option maxHeartbeats 4000000 in
set_option maxRecDepth 100000 in
theorem c_X6_pass (l : Launch) (D : va_G) (cI : ClassId) (C : Nat → Nat) (hC : SInj C) (mv sv : LV)  (hm : mOK mv) (hcut : cOK sv) (hp : pOK sv) (hsec : (sv.1 3).toInt ≤ 16) (hat : ∀ x : Int32, vp_in x 6 → vp_in (aAt (kX6_pass_83 mv sv) 6 x) 16) : Met l yX6_pass wsX6_pass ({ frames := 3, cells := 0, slots := 0, locals := 67 }) (tr_Pc D cI [.ref (C 2)] (STA D cI C mv sv)) (tr_Q none (STA D cI C mv (fX6_pass mv sv)) (sOwn C)) 0 0 (sOwn C) := by
  refine Met.ofW (cc := cX6_pass) (maxL := 2) (ret := none) (by decide) rfl ?_
  intro p e s m args below meth c s₁ B hml hv
  obtain ⟨rfl, hM, hK⟩ := hv
  have hx := B.exec
  have hb := B.bytes
  have hr := B.returns
  have hts := atoms_spec (ws := wsX6_pass) B.pre
  have hown : s.vm.findClass RX6 = some m.cls := findClass_of_methodNamed B.named
  have hlocks := B.notSynchronized
  have hiX6 : ∀ w ∈ u_ws RX6 TX6 19, w ∈ wsX6_pass := by decide +kernel
  have hiX7 : ∀ w ∈ u_ws RX7 TX7 6, w ∈ wsX6_pass := by decide +kernel
  have f15 := hts (.fieldLink RX6 15 "TramRibbonModel$State" "sections" "I") (by decide +kernel)
  have f19 := hts (.fieldLink RX6 19 "TramRibbonModel$State" "wait" "[I") (by decide +kernel)
  have f29 := hts (.fieldLink RX6 29 "TramRibbonModel$State" "bound" "[I") (by decide +kernel)
  have f3 := hts (.fieldLink RX6 3 "TramRibbonModel$State" "this$0" "LTramRibbonModel;") (by decide +kernel)
  have f32 := hts (.fieldLink RX6 32 "TramRibbonModel$State" "dead" "[I") (by decide +kernel)
  have f35 := hts (.fieldLink RX6 35 "TramRibbonModel$State" "times" "[I") (by decide +kernel)
  have f68 := hts (.fieldLink RX6 68 "TramRibbonModel$State" "tick" "I") (by decide +kernel)
  have mC_max := hts (.code Lib.Math.max.name Lib.Math.max.code 2 (some .int)) (by decide +kernel)
  have mC_min := hts (.code Lib.Math.min.name Lib.Math.min.code 2 (some .int)) (by decide +kernel)
  have mI := hts (.initialized "java/lang/Math") (by decide +kernel)
  have mL109 := hts (.methodLink RX6 109 Lib.Math.min.name) (by decide +kernel)
  have mL94 := hts (.methodLink RX6 94 Lib.Math.max.name) (by decide +kernel)
  have mS_max := hts (.static Lib.Math.max.name) (by decide +kernel)
  have mS_min := hts (.static Lib.Math.min.name) (by decide +kernel)
  have cut_180 : ∀ (H : Heap) (locs : List Loc), STA D cI C mv (kX6_pass_180 mv sv) H → tr_S (sOwn C) s.heap H locs → ∀ ls : Array Slot, lv_has ls 2 [(0, .ref (C 2)), (1, .int (nI ((mv.1 1).toNatClampNeg)))] → W p l e (headSpec wsX6_pass ({ frames := 3, cells := 0, slots := 0, locals := 67 })).room s m ([.ref (C 2)] : List Value).toArray below meth c H locs 0 0 (MQ below (tr_Q none (STA D cI C mv (fX6_pass mv sv)) (sOwn C)) ([.ref (C 2)] : List Value).toArray s 0 0 (sOwn C)) (F0 m 180 ls []) := by
    intro H locs hM hS ls hl
    refine lv_iconst (v := 0) hx hb dX6_pass_180 (by decide) ?_
    refine lv_istore_n (lv' := [(1, .int 0), (0, .ref (C 2))]) hx hb dX6_pass_181 rfl hl (by decide) rfl (fun ls hl => ?_)
    have hinv := And.intro (show STA D cI C mv (kX6_pass_180 mv sv) H ∧ tr_S (sOwn C) s.heap H locs from ⟨hM, hS⟩) hl
    clear hM hS hl
    revert hinv; revert ls; revert locs; revert H
    refine tr_forw (fun i H locs ls => (STA D cI C mv (itI i (bX6_pass_182 mv sv) (kX6_pass_180 mv sv)) H ∧ tr_S (sOwn C) s.heap H locs) ∧ lv_has ls 2 [(0, .ref (C 2)), (1, .int (nI i))]) ((sv.1 3).toNatClampNeg) (fun H locs ls hinv => ?_) ?_
    · obtain ⟨⟨hM, hS⟩, hl⟩ := hinv
      exact ⟨⟨by rw [itI_0]; exact hM, hS⟩, lv_sub hl [1, 0] rfl⟩
    intro i H locs ls hi hinv ih
    obtain ⟨⟨hM, hS⟩, hl⟩ := hinv
    refine lv_iload_n hx hb dX6_pass_182 rfl (lv_at hl 1 rfl) ?_
    refine lv_aload_n hx hb dX6_pass_183 rfl (lv_at hl 0 rfl) ?_
    refine tr_get (ci := 6) (C := RX6) (T := TX6) (N := 19) hx hb hts hiX6 hown hK hM.c2 rfl 3 (by decide) f15 (v := .int ((itI i (bX6_pass_182 mv sv) (kX6_pass_180 mv sv)).1 3)) rfl dX6_pass_184 ?_
    refine lv_icmp_ge (tgt := 214) hx hb dX6_pass_187 (by decide) (fun c_187 => ?_) (fun c_187 => ?_)
    · have hN : i = (sv.1 3).toNatClampNeg := tr_over (congrArg Int32.toNatClampNeg ((rsi3_bX6_pass_182 mv sv (kX6_pass_180 mv sv) i).trans (k180_3 mv sv))) hi c_187
      subst hN
      refine lv_aload_n hx hb dX6_pass_214 rfl (lv_at hl 0 rfl) ?_
      refine lv_dup hx hb dX6_pass_215 rfl ?_
      refine tr_get (ci := 6) (C := RX6) (T := TX6) (N := 19) hx hb hts hiX6 hown hK hM.c2 rfl 0 (by decide) f68 (v := .int ((itI ((sv.1 3).toNatClampNeg) (bX6_pass_182 mv sv) (kX6_pass_180 mv sv)).1 0)) rfl dX6_pass_216 ?_
      refine lv_iconst (v := 1) hx hb dX6_pass_219 (by decide) ?_
      refine lv_iadd hx hb dX6_pass_220 ?_
      refine tr_put (ci := 6) (C := RX6) (T := TX6) (N := 19) (ty := .int) (v := .int (((itI ((sv.1 3).toNatClampNeg) (bX6_pass_182 mv sv) (kX6_pass_180 mv sv)).1 0) + 1)) hx hb hts hiX6 tyX6 tyX6_ok nmX6 hown hK hS (sOwn_k (by decide) (by decide)) hM.c2 rfl 0 (by decide) f68 rfl (by decide +kernel) rfl rfl (Nat.le_of_ble_eq_true rfl) dX6_pass_221 (fun H locs hat hz hk hS => ?_)
      have hM : STA D cI C mv (lSc (itI ((sv.1 3).toNatClampNeg) (bX6_pass_182 mv sv) (kX6_pass_180 mv sv)) 0 (((itI ((sv.1 3).toNatClampNeg) (bX6_pass_182 mv sv) (kX6_pass_180 mv sv)).1 0) + 1)) H := hM.setSc hC 0 hat rfl hk
      clear hat hz hk
      exact W.vret hx hb hr (hS.end (by rw [fX6_pass]; exact hM)) hS.2.2 dX6_pass_224
    · have hlt : i < (sv.1 3).toNatClampNeg := tr_on (congrArg Int32.toNatClampNeg ((rsi3_bX6_pass_182 mv sv (kX6_pass_180 mv sv) i).trans (k180_3 mv sv))) hi c_187
      refine lv_aload_n hx hb dX6_pass_190 rfl (lv_at hl 0 rfl) ?_
      refine tr_get (ci := 6) (C := RX6) (T := TX6) (N := 19) hx hb hts hiX6 hown hK hM.c2 rfl 8 (by decide) f32 (v := .ref (C 7)) rfl dX6_pass_191 ?_
      refine lv_iload_n hx hb dX6_pass_194 rfl (lv_at hl 1 rfl) ?_
      refine lv_iconst (v := 0) hx hb dX6_pass_195 (by decide) ?_
      refine lv_aload_n hx hb dX6_pass_196 rfl (lv_at hl 0 rfl) ?_
      refine tr_get (ci := 6) (C := RX6) (T := TX6) (N := 19) hx hb hts hiX6 hown hK hM.c2 rfl 8 (by decide) f32 (v := .ref (C 7)) rfl dX6_pass_197 ?_
      refine lv_iload_n hx hb dX6_pass_200 rfl (lv_at hl 1 rfl) ?_
      refine tr_sald (sv := itI i (bX6_pass_182 mv sv) (kX6_pass_180 mv sv)) hx hb hK 4 (hM.arr 4 (by decide)) (tr_vl rfl hlt hsec (by decide)) dX6_pass_201 ?_
      refine lv_iconst (v := 1) hx hb dX6_pass_202 (by decide) ?_
      refine lv_isub hx hb dX6_pass_203 ?_
      refine tr_max hx hb (by rw [hml]; exact hl.1.symm) hown mL94 mS_max mI mC_max (Nat.le_of_ble_eq_true rfl) (Nat.le_of_ble_eq_true rfl) (Nat.zero_le _) (Nat.zero_le _) dX6_pass_204 ?_
      refine tr_sast hx hb hK hS hC hM (fun _ h => h) 4 (by decide) (tr_vl rfl hlt hsec (by decide)) dX6_pass_207 (fun H locs hM hk hS => ?_)
      clear hk
      refine lv_iinc (v := nI (i + 1)) (lv' := [(1, .int (nI (i + 1))), (0, .ref (C 2))]) hx hb dX6_pass_208 hl (k := 1) rfl (tr_inc _) (by decide) rfl (fun ls hl => ?_)
      refine lv_goto (tgt := 182) hx hb dX6_pass_211 (by decide) ?_
      have e9 : itI (i + 1) (bX6_pass_182 mv sv) (kX6_pass_180 mv sv) = aSet (itI i (bX6_pass_182 mv sv) (kX6_pass_180 mv sv)) 4 (nI i) (aMax 0 ((aAt (itI i (bX6_pass_182 mv sv) (kX6_pass_180 mv sv)) 4 (nI i)) - 1)) := by rw [itI_s, bX6_pass_182]
      exact ih H locs ls hlt ⟨⟨by rw [e9]; exact hM, hS⟩, lv_sub hl [1, 0] rfl⟩
  have cut_131 : ∀ (H : Heap) (locs : List Loc), STA D cI C mv (kX6_pass_131 mv sv) H → tr_S (sOwn C) s.heap H locs → ∀ ls : Array Slot, lv_has ls 2 [(0, .ref (C 2)), (1, .int (nI ((mv.1 2).toNatClampNeg)))] → W p l e (headSpec wsX6_pass ({ frames := 3, cells := 0, slots := 0, locals := 67 })).room s m ([.ref (C 2)] : List Value).toArray below meth c H locs 0 0 (MQ below (tr_Q none (STA D cI C mv (fX6_pass mv sv)) (sOwn C)) ([.ref (C 2)] : List Value).toArray s 0 0 (sOwn C)) (F0 m 131 ls []) := by
    intro H locs hM hS ls hl
    refine lv_iconst (v := 0) hx hb dX6_pass_131 (by decide) ?_
    refine lv_istore_n (lv' := [(1, .int 0), (0, .ref (C 2))]) hx hb dX6_pass_132 rfl hl (by decide) rfl (fun ls hl => ?_)
    have hinv := And.intro (show STA D cI C mv (kX6_pass_131 mv sv) H ∧ tr_S (sOwn C) s.heap H locs from ⟨hM, hS⟩) hl
    clear hM hS hl
    revert hinv; revert ls; revert locs; revert H
    refine tr_forw (fun i H locs ls => (STA D cI C mv (itI i (bX6_pass_133 mv sv) (kX6_pass_131 mv sv)) H ∧ tr_S (sOwn C) s.heap H locs) ∧ lv_has ls 2 [(0, .ref (C 2)), (1, .int (nI i))]) ((mv.1 1).toNatClampNeg) (fun H locs ls hinv => ?_) ?_
    · obtain ⟨⟨hM, hS⟩, hl⟩ := hinv
      exact ⟨⟨by rw [itI_0]; exact hM, hS⟩, lv_sub hl [1, 0] rfl⟩
    intro i H locs ls hi hinv ih
    obtain ⟨⟨hM, hS⟩, hl⟩ := hinv
    refine lv_iload_n hx hb dX6_pass_133 rfl (lv_at hl 1 rfl) ?_
    refine lv_aload_n hx hb dX6_pass_134 rfl (lv_at hl 0 rfl) ?_
    refine tr_get (ci := 6) (C := RX6) (T := TX6) (N := 19) hx hb hts hiX6 hown hK hM.c2 rfl 18 (by decide) f3 (v := .ref (C 0)) rfl dX6_pass_135 ?_
    refine tr_getN (host := "TramRibbonModel") (ci := 7) (C := RX7) (T := TX7) (N := 6) hx hb hts hiX7 hown hK hM.c0 rfl 1 (by decide) (by decide +kernel) (v := .int (mv.1 1)) rfl dX6_pass_138 ?_
    refine lv_icmp_ge (tgt := 180) hx hb dX6_pass_141 (by decide) (fun c_141 => ?_) (fun c_141 => ?_)
    · have hN : i = (mv.1 1).toNatClampNeg := tr_over rfl hi c_141
      subst hN
      exact cut_180 H locs hM hS ls (lv_sub hl [0, 1] rfl)
    · have hlt : i < (mv.1 1).toNatClampNeg := tr_on rfl hi c_141
      refine lv_aload_n hx hb dX6_pass_144 rfl (lv_at hl 0 rfl) ?_
      refine tr_get (ci := 6) (C := RX6) (T := TX6) (N := 19) hx hb hts hiX6 hown hK hM.c2 rfl 0 (by decide) f68 (v := .int ((itI i (bX6_pass_133 mv sv) (kX6_pass_131 mv sv)).1 0)) rfl dX6_pass_145 ?_
      refine lv_iload_n hx hb dX6_pass_148 rfl (lv_at hl 1 rfl) ?_
      refine lv_iconst (v := 2) hx hb dX6_pass_149 (by decide) ?_
      refine lv_iadd hx hb dX6_pass_150 ?_
      refine lv_irem hx hb dX6_pass_151 (tr_nz2 rfl hlt) ?_
      refine lv_if_ne (tgt := 174) hx hb dX6_pass_152 (by decide) (fun c_152 => ?_) (fun c_152 => ?_)
      · refine lv_iinc (v := nI (i + 1)) (lv' := [(1, .int (nI (i + 1))), (0, .ref (C 2))]) hx hb dX6_pass_174 hl (k := 1) rfl (tr_inc _) (by decide) rfl (fun ls hl => ?_)
        refine lv_goto (tgt := 133) hx hb dX6_pass_177 (by decide) ?_
        have e9 : itI (i + 1) (bX6_pass_133 mv sv) (kX6_pass_131 mv sv) = itI i (bX6_pass_133 mv sv) (kX6_pass_131 mv sv) := by rw [itI_s, bX6_pass_133, if_neg c_152]
        exact ih H locs ls hlt ⟨⟨by rw [e9]; exact hM, hS⟩, lv_sub hl [1, 0] rfl⟩
      · refine lv_aload_n hx hb dX6_pass_155 rfl (lv_at hl 0 rfl) ?_
        refine tr_get (ci := 6) (C := RX6) (T := TX6) (N := 19) hx hb hts hiX6 hown hK hM.c2 rfl 4 (by decide) f19 (v := .ref (C 3)) rfl dX6_pass_156 ?_
        refine lv_iload_n hx hb dX6_pass_159 rfl (lv_at hl 1 rfl) ?_
        refine lv_bipush (v := 99) hx hb dX6_pass_160 (by decide) ?_
        refine lv_aload_n hx hb dX6_pass_162 rfl (lv_at hl 0 rfl) ?_
        refine tr_get (ci := 6) (C := RX6) (T := TX6) (N := 19) hx hb hts hiX6 hown hK hM.c2 rfl 4 (by decide) f19 (v := .ref (C 3)) rfl dX6_pass_163 ?_
        refine lv_iload_n hx hb dX6_pass_166 rfl (lv_at hl 1 rfl) ?_
        refine tr_sald (sv := itI i (bX6_pass_133 mv sv) (kX6_pass_131 mv sv)) hx hb hK 0 (hM.arr 0 (by decide)) (tr_vl rfl hlt hm.1.2 (by decide)) dX6_pass_167 ?_
        refine lv_iconst (v := 1) hx hb dX6_pass_168 (by decide) ?_
        refine lv_iadd hx hb dX6_pass_169 ?_
        refine tr_min hx hb (by rw [hml]; exact hl.1.symm) hown mL109 mS_min mI mC_min (Nat.le_of_ble_eq_true rfl) (Nat.le_of_ble_eq_true rfl) (Nat.zero_le _) (Nat.zero_le _) dX6_pass_170 ?_
        refine tr_sast hx hb hK hS hC hM (fun _ h => h) 0 (by decide) (tr_vl rfl hlt hm.1.2 (by decide)) dX6_pass_173 (fun H locs hM hk hS => ?_)
        clear hk
        refine lv_iinc (v := nI (i + 1)) (lv' := [(1, .int (nI (i + 1))), (0, .ref (C 2))]) hx hb dX6_pass_174 hl (k := 1) rfl (tr_inc _) (by decide) rfl (fun ls hl => ?_)
        refine lv_goto (tgt := 133) hx hb dX6_pass_177 (by decide) ?_
        have e9 : itI (i + 1) (bX6_pass_133 mv sv) (kX6_pass_131 mv sv) = aSet (itI i (bX6_pass_133 mv sv) (kX6_pass_131 mv sv)) 0 (nI i) (aMin 99 ((aAt (itI i (bX6_pass_133 mv sv) (kX6_pass_131 mv sv)) 0 (nI i)) + 1)) := by rw [itI_s, bX6_pass_133, if_pos c_152]
        exact ih H locs ls hlt ⟨⟨by rw [e9]; exact hM, hS⟩, lv_sub hl [1, 0] rfl⟩
  have cut_107 : ∀ (H : Heap) (locs : List Loc), STA D cI C mv (kX6_pass_107 mv sv) H → tr_S (sOwn C) s.heap H locs → ∀ ls : Array Slot, lv_has ls 2 [(0, .ref (C 2)), (1, .int (nI ((mv.1 2).toNatClampNeg)))] → W p l e (headSpec wsX6_pass ({ frames := 3, cells := 0, slots := 0, locals := 67 })).room s m ([.ref (C 2)] : List Value).toArray below meth c H locs 0 0 (MQ below (tr_Q none (STA D cI C mv (fX6_pass mv sv)) (sOwn C)) ([.ref (C 2)] : List Value).toArray s 0 0 (sOwn C)) (F0 m 107 ls []) := by
    intro H locs hM hS ls hl
    refine lv_iconst (v := 0) hx hb dX6_pass_107 (by decide) ?_
    refine lv_istore_n (lv' := [(1, .int 0), (0, .ref (C 2))]) hx hb dX6_pass_108 rfl hl (by decide) rfl (fun ls hl => ?_)
    have hinv := And.intro (show STA D cI C mv (kX6_pass_107 mv sv) H ∧ tr_S (sOwn C) s.heap H locs from ⟨hM, hS⟩) hl
    clear hM hS hl
    revert hinv; revert ls; revert locs; revert H
    refine tr_forw (fun i H locs ls => (STA D cI C mv (itI i (bX6_pass_109 mv sv) (kX6_pass_107 mv sv)) H ∧ tr_S (sOwn C) s.heap H locs) ∧ lv_has ls 2 [(0, .ref (C 2)), (1, .int (nI i))]) ((mv.1 2).toNatClampNeg) (fun H locs ls hinv => ?_) ?_
    · obtain ⟨⟨hM, hS⟩, hl⟩ := hinv
      exact ⟨⟨by rw [itI_0]; exact hM, hS⟩, lv_sub hl [1, 0] rfl⟩
    intro i H locs ls hi hinv ih
    obtain ⟨⟨hM, hS⟩, hl⟩ := hinv
    refine lv_iload_n hx hb dX6_pass_109 rfl (lv_at hl 1 rfl) ?_
    refine lv_aload_n hx hb dX6_pass_110 rfl (lv_at hl 0 rfl) ?_
    refine tr_get (ci := 6) (C := RX6) (T := TX6) (N := 19) hx hb hts hiX6 hown hK hM.c2 rfl 18 (by decide) f3 (v := .ref (C 0)) rfl dX6_pass_111 ?_
    refine tr_getN (host := "TramRibbonModel") (ci := 7) (C := RX7) (T := TX7) (N := 6) hx hb hts hiX7 hown hK hM.c0 rfl 2 (by decide) (by decide +kernel) (v := .int (mv.1 2)) rfl dX6_pass_114 ?_
    refine lv_icmp_ge (tgt := 131) hx hb dX6_pass_117 (by decide) (fun c_117 => ?_) (fun c_117 => ?_)
    · have hN : i = (mv.1 2).toNatClampNeg := tr_over rfl hi c_117
      subst hN
      exact cut_131 H locs hM hS ls (lv_sub hl [0, 1] rfl)
    · have hlt : i < (mv.1 2).toNatClampNeg := tr_on rfl hi c_117
      refine lv_aload_n hx hb dX6_pass_120 rfl (lv_at hl 0 rfl) ?_
      refine lv_iload_n hx hb dX6_pass_121 rfl (lv_at hl 1 rfl) ?_
      refine tr_cv (va_runV (As := [.int (nI i)]) (rest := []) ⟨hx, hb, hml, hown, hts⟩ (c_X6_mend l D cI C hC mv (itI i (bX6_pass_109 mv sv) (kX6_pass_107 mv sv)) (nI i) hm (tr_vl rfl hlt hm.2.2 (by decide)) (at_of ((rki6_bX6_pass_109 mv sv (kX6_pass_107 mv sv) i).trans (k107_6 mv sv)) (hat _ (tr_vl rfl hlt hm.2.2 (by decide))))) (cwV 1 hts gX6_pass_X6_mend rfl rfl rfl (by decide +kernel) ⟨Nat.le_of_ble_eq_true rfl, Nat.le_of_ble_eq_true rfl⟩) (tr_preV hK hM.c2 rfl hM) rfl rfl hl.1 rfl (lv_room (Nat.le_of_ble_eq_true rfl)) dX6_pass_122 ⟨Nat.zero_le _, Nat.zero_le _⟩) hS (fun _ h => h) (fun H locs hM hS => ?_)
      refine lv_iinc (v := nI (i + 1)) (lv' := [(1, .int (nI (i + 1))), (0, .ref (C 2))]) hx hb dX6_pass_125 hl (k := 1) rfl (tr_inc _) (by decide) rfl (fun ls hl => ?_)
      refine lv_goto (tgt := 109) hx hb dX6_pass_128 (by decide) ?_
      have e9 : itI (i + 1) (bX6_pass_109 mv sv) (kX6_pass_107 mv sv) = fX6_mend mv (itI i (bX6_pass_109 mv sv) (kX6_pass_107 mv sv)) (nI i) := by rw [itI_s, bX6_pass_109]
      exact ih H locs ls hlt ⟨⟨by rw [e9]; exact hM, hS⟩, lv_sub hl [1, 0] rfl⟩
  have cut_83 : ∀ (H : Heap) (locs : List Loc), STA D cI C mv (kX6_pass_83 mv sv) H → tr_S (sOwn C) s.heap H locs → ∀ ls : Array Slot, lv_has ls 2 [(0, .ref (C 2)), (1, .int (nI ((mv.1 2).toNatClampNeg)))] → W p l e (headSpec wsX6_pass ({ frames := 3, cells := 0, slots := 0, locals := 67 })).room s m ([.ref (C 2)] : List Value).toArray below meth c H locs 0 0 (MQ below (tr_Q none (STA D cI C mv (fX6_pass mv sv)) (sOwn C)) ([.ref (C 2)] : List Value).toArray s 0 0 (sOwn C)) (F0 m 83 ls []) := by
    intro H locs hM hS ls hl
    refine lv_iconst (v := 0) hx hb dX6_pass_83 (by decide) ?_
    refine lv_istore_n (lv' := [(1, .int 0), (0, .ref (C 2))]) hx hb dX6_pass_84 rfl hl (by decide) rfl (fun ls hl => ?_)
    have hinv := And.intro (show STA D cI C mv (kX6_pass_83 mv sv) H ∧ tr_S (sOwn C) s.heap H locs from ⟨hM, hS⟩) hl
    clear hM hS hl
    revert hinv; revert ls; revert locs; revert H
    refine tr_forw (fun i H locs ls => (STA D cI C mv (itI i (bX6_pass_85 mv sv) (kX6_pass_83 mv sv)) H ∧ tr_S (sOwn C) s.heap H locs) ∧ lv_has ls 2 [(0, .ref (C 2)), (1, .int (nI i))]) ((mv.1 2).toNatClampNeg) (fun H locs ls hinv => ?_) ?_
    · obtain ⟨⟨hM, hS⟩, hl⟩ := hinv
      exact ⟨⟨by rw [itI_0]; exact hM, hS⟩, lv_sub hl [1, 0] rfl⟩
    intro i H locs ls hi hinv ih
    obtain ⟨⟨hM, hS⟩, hl⟩ := hinv
    refine lv_iload_n hx hb dX6_pass_85 rfl (lv_at hl 1 rfl) ?_
    refine lv_aload_n hx hb dX6_pass_86 rfl (lv_at hl 0 rfl) ?_
    refine tr_get (ci := 6) (C := RX6) (T := TX6) (N := 19) hx hb hts hiX6 hown hK hM.c2 rfl 18 (by decide) f3 (v := .ref (C 0)) rfl dX6_pass_87 ?_
    refine tr_getN (host := "TramRibbonModel") (ci := 7) (C := RX7) (T := TX7) (N := 6) hx hb hts hiX7 hown hK hM.c0 rfl 2 (by decide) (by decide +kernel) (v := .int (mv.1 2)) rfl dX6_pass_90 ?_
    refine lv_icmp_ge (tgt := 107) hx hb dX6_pass_93 (by decide) (fun c_93 => ?_) (fun c_93 => ?_)
    · have hN : i = (mv.1 2).toNatClampNeg := tr_over rfl hi c_93
      subst hN
      exact cut_107 H locs hM hS ls (lv_sub hl [0, 1] rfl)
    · have hlt : i < (mv.1 2).toNatClampNeg := tr_on rfl hi c_93
      refine lv_aload_n hx hb dX6_pass_96 rfl (lv_at hl 0 rfl) ?_
      refine lv_iload_n hx hb dX6_pass_97 rfl (lv_at hl 1 rfl) ?_
      refine tr_cv (va_runV (As := [.int (nI i)]) (rest := []) ⟨hx, hb, hml, hown, hts⟩ (c_X6_halt l D cI C hC mv (itI i (bX6_pass_85 mv sv) (kX6_pass_83 mv sv)) (nI i) (tr_vl rfl hlt hm.2.2 (by decide)) (at_of (rki6_bX6_pass_85 mv sv (kX6_pass_83 mv sv) i) (hat _ (tr_vl rfl hlt hm.2.2 (by decide))))) (cwV 1 hts gX6_pass_X6_halt rfl rfl rfl (by decide +kernel) ⟨Nat.le_of_ble_eq_true rfl, Nat.le_of_ble_eq_true rfl⟩) (tr_preV hK hM.c2 rfl hM) rfl rfl hl.1 rfl (lv_room (Nat.le_of_ble_eq_true rfl)) dX6_pass_98 ⟨Nat.zero_le _, Nat.zero_le _⟩) hS (fun _ h => h) (fun H locs hM hS => ?_)
      refine lv_iinc (v := nI (i + 1)) (lv' := [(1, .int (nI (i + 1))), (0, .ref (C 2))]) hx hb dX6_pass_101 hl (k := 1) rfl (tr_inc _) (by decide) rfl (fun ls hl => ?_)
      refine lv_goto (tgt := 85) hx hb dX6_pass_104 (by decide) ?_
      have e9 : itI (i + 1) (bX6_pass_85 mv sv) (kX6_pass_83 mv sv) = fX6_halt mv (itI i (bX6_pass_85 mv sv) (kX6_pass_83 mv sv)) (nI i) := by rw [itI_s, bX6_pass_85]
      exact ih H locs ls hlt ⟨⟨by rw [e9]; exact hM, hS⟩, lv_sub hl [1, 0] rfl⟩
  have hl := lv_entry ([.ref (C 2)]) (n := 2) (Nat.le_of_ble_eq_true rfl)
  rw [lg_entry_eq]
  generalize (lg_sl ([.ref (C 2)]) ++ List.replicate (2 - (lg_sl ([.ref (C 2)])).length) Slot.unset).toArray = ls at hl ⊢
  replace hl : lv_has ls 2 [(0, .ref (C 2))] := hl
  have hS : tr_S (sOwn C) s.heap s.heap [] := tr_S.rf
  generalize h1 : s.heap = H, h2 : ([] : List Loc) = locs
  replace hS : tr_S (sOwn C) s.heap H locs := by rw [← h1, ← h2]; exact hS
  rw [h1] at hM
  clear h1 h2
  refine lv_iconst (v := 0) hx hb dX6_pass_0 (by decide) ?_
  refine lv_istore_n (lv' := [(1, .int 0), (0, .ref (C 2))]) hx hb dX6_pass_1 rfl hl (by decide) rfl (fun ls hl => ?_)
  have hinv := And.intro (show STA D cI C mv sv H ∧ tr_S (sOwn C) s.heap H locs from ⟨hM, hS⟩) hl
  clear hM hS hl
  revert hinv; revert ls; revert locs; revert H
  refine tr_forw (fun i H locs ls => (STA D cI C mv (itI i (bX6_pass_2 mv sv) sv) H ∧ tr_S (sOwn C) s.heap H locs) ∧ lv_has ls 2 [(0, .ref (C 2)), (1, .int (nI i))]) ((sv.1 3).toNatClampNeg) (fun H locs ls hinv => ?_) ?_
  · obtain ⟨⟨hM, hS⟩, hl⟩ := hinv
    exact ⟨⟨by rw [itI_0]; exact hM, hS⟩, lv_sub hl [1, 0] rfl⟩
  intro i H locs ls hi hinv ih
  obtain ⟨⟨hM, hS⟩, hl⟩ := hinv
  refine lv_iload_n hx hb dX6_pass_2 rfl (lv_at hl 1 rfl) ?_
  refine lv_aload_n hx hb dX6_pass_3 rfl (lv_at hl 0 rfl) ?_
  refine tr_get (ci := 6) (C := RX6) (T := TX6) (N := 19) hx hb hts hiX6 hown hK hM.c2 rfl 3 (by decide) f15 (v := .int ((itI i (bX6_pass_2 mv sv) sv).1 3)) rfl dX6_pass_4 ?_
  refine lv_icmp_ge (tgt := 59) hx hb dX6_pass_7 (by decide) (fun c_7 => ?_) (fun c_7 => ?_)
  · have hN : i = (sv.1 3).toNatClampNeg := tr_over (congrArg Int32.toNatClampNeg (rsi3_bX6_pass_2 mv sv sv i)) hi c_7
    subst hN
    refine lv_iconst (v := 0) hx hb dX6_pass_59 (by decide) ?_
    refine lv_istore_n (lv' := [(1, .int 0), (0, .ref (C 2))]) hx hb dX6_pass_60 rfl hl (by decide) rfl (fun ls hl => ?_)
    have hinv := And.intro (show STA D cI C mv (itI ((sv.1 3).toNatClampNeg) (bX6_pass_2 mv sv) sv) H ∧ tr_S (sOwn C) s.heap H locs from ⟨hM, hS⟩) hl
    clear hM hS hl
    revert hinv; revert ls; revert locs; revert H
    refine tr_forw (fun i H locs ls => (STA D cI C mv (itI i (bX6_pass_61 mv sv) (itI ((sv.1 3).toNatClampNeg) (bX6_pass_2 mv sv) sv)) H ∧ tr_S (sOwn C) s.heap H locs) ∧ lv_has ls 2 [(0, .ref (C 2)), (1, .int (nI i))]) ((mv.1 2).toNatClampNeg) (fun H locs ls hinv => ?_) ?_
    · obtain ⟨⟨hM, hS⟩, hl⟩ := hinv
      exact ⟨⟨by rw [itI_0]; exact hM, hS⟩, lv_sub hl [1, 0] rfl⟩
    intro i H locs ls hi hinv ih
    obtain ⟨⟨hM, hS⟩, hl⟩ := hinv
    refine lv_iload_n hx hb dX6_pass_61 rfl (lv_at hl 1 rfl) ?_
    refine lv_aload_n hx hb dX6_pass_62 rfl (lv_at hl 0 rfl) ?_
    refine tr_get (ci := 6) (C := RX6) (T := TX6) (N := 19) hx hb hts hiX6 hown hK hM.c2 rfl 18 (by decide) f3 (v := .ref (C 0)) rfl dX6_pass_63 ?_
    refine tr_getN (host := "TramRibbonModel") (ci := 7) (C := RX7) (T := TX7) (N := 6) hx hb hts hiX7 hown hK hM.c0 rfl 2 (by decide) (by decide +kernel) (v := .int (mv.1 2)) rfl dX6_pass_66 ?_
    refine lv_icmp_ge (tgt := 83) hx hb dX6_pass_69 (by decide) (fun c_69 => ?_) (fun c_69 => ?_)
    · have hN : i = (mv.1 2).toNatClampNeg := tr_over rfl hi c_69
      subst hN
      exact cut_83 H locs hM hS ls (lv_sub hl [0, 1] rfl)
    · have hlt : i < (mv.1 2).toNatClampNeg := tr_on rfl hi c_69
      refine lv_aload_n hx hb dX6_pass_72 rfl (lv_at hl 0 rfl) ?_
      refine lv_iload_n hx hb dX6_pass_73 rfl (lv_at hl 1 rfl) ?_
      refine tr_cv (va_runV (As := [.int (nI i)]) (rest := []) ⟨hx, hb, hml, hown, hts⟩ (c_X6_go l D cI C hC mv (itI i (bX6_pass_61 mv sv) (itI ((sv.1 3).toNatClampNeg) (bX6_pass_2 mv sv) sv)) (nI i) hm (cOK_of ((rki1_bX6_pass_61 mv sv _ i).trans (rki1_bX6_pass_2 mv sv _ _)) hcut) (pOK_of ((rki11_bX6_pass_61 mv sv _ i).trans (rki11_bX6_pass_2 mv sv _ _)) hp) (tr_vl rfl hlt hm.2.2 (by decide))) (cwV 1 hts gX6_pass_X6_go rfl rfl rfl (by decide +kernel) ⟨Nat.le_of_ble_eq_true rfl, Nat.le_of_ble_eq_true rfl⟩) (tr_preV hK hM.c2 rfl hM) rfl rfl hl.1 rfl (lv_room (Nat.le_of_ble_eq_true rfl)) dX6_pass_74 ⟨Nat.zero_le _, Nat.zero_le _⟩) hS (fun _ h => h) (fun H locs hM hS => ?_)
      refine lv_iinc (v := nI (i + 1)) (lv' := [(1, .int (nI (i + 1))), (0, .ref (C 2))]) hx hb dX6_pass_77 hl (k := 1) rfl (tr_inc _) (by decide) rfl (fun ls hl => ?_)
      refine lv_goto (tgt := 61) hx hb dX6_pass_80 (by decide) ?_
      have e9 : itI (i + 1) (bX6_pass_61 mv sv) (itI ((sv.1 3).toNatClampNeg) (bX6_pass_2 mv sv) sv) = fX6_go mv (itI i (bX6_pass_61 mv sv) (itI ((sv.1 3).toNatClampNeg) (bX6_pass_2 mv sv) sv)) (nI i) := by rw [itI_s, bX6_pass_61]
      exact ih H locs ls hlt ⟨⟨by rw [e9]; exact hM, hS⟩, lv_sub hl [1, 0] rfl⟩
  · have hlt : i < (sv.1 3).toNatClampNeg := tr_on (congrArg Int32.toNatClampNeg (rsi3_bX6_pass_2 mv sv sv i)) hi c_7
    refine lv_aload_n hx hb dX6_pass_10 rfl (lv_at hl 0 rfl) ?_
    refine tr_get (ci := 6) (C := RX6) (T := TX6) (N := 19) hx hb hts hiX6 hown hK hM.c2 rfl 8 (by decide) f32 (v := .ref (C 7)) rfl dX6_pass_11 ?_
    refine lv_iload_n hx hb dX6_pass_14 rfl (lv_at hl 1 rfl) ?_
    refine tr_sald (sv := itI i (bX6_pass_2 mv sv) sv) hx hb hK 4 (hM.arr 4 (by decide)) (tr_vl rfl hlt hsec (by decide)) dX6_pass_15 ?_
    refine lv_if_gt (tgt := 53) hx hb dX6_pass_16 (by decide) (fun c_16 => ?_) (fun c_16 => ?_)
    · refine lv_iinc (v := nI (i + 1)) (lv' := [(1, .int (nI (i + 1))), (0, .ref (C 2))]) hx hb dX6_pass_53 hl (k := 1) rfl (tr_inc _) (by decide) rfl (fun ls hl => ?_)
      refine lv_goto (tgt := 2) hx hb dX6_pass_56 (by decide) ?_
      have e9 : itI (i + 1) (bX6_pass_2 mv sv) sv = itI i (bX6_pass_2 mv sv) sv := by rw [itI_s, bX6_pass_2, if_pos c_16]
      exact ih H locs ls hlt ⟨⟨by rw [e9]; exact hM, hS⟩, lv_sub hl [1, 0] rfl⟩
    · refine lv_aload_n hx hb dX6_pass_19 rfl (lv_at hl 0 rfl) ?_
      refine lv_iload_n hx hb dX6_pass_20 rfl (lv_at hl 1 rfl) ?_
      refine tr_ri (va_runV (As := [.int (nI i)]) (rest := []) ⟨hx, hb, hml, hown, hts⟩ (c_X6_drawn l D cI C hC mv (itI i (bX6_pass_2 mv sv) sv) (nI i) hm) (cwV 1 hts gX6_pass_X6_drawn rfl rfl rfl (by decide +kernel) ⟨Nat.le_of_ble_eq_true rfl, Nat.le_of_ble_eq_true rfl⟩) (tr_preV hK hM.c2 rfl hM) rfl rfl hl.1 rfl (lv_room (Nat.le_of_ble_eq_true rfl)) dX6_pass_21 ⟨Nat.zero_le _, Nat.zero_le _⟩) ?_
      refine lv_aload_n hx hb dX6_pass_24 rfl (lv_at hl 0 rfl) ?_
      refine tr_get (ci := 6) (C := RX6) (T := TX6) (N := 19) hx hb hts hiX6 hown hK hM.c2 rfl 7 (by decide) f29 (v := .ref (C 6)) rfl dX6_pass_25 ?_
      refine lv_iload_n hx hb dX6_pass_28 rfl (lv_at hl 1 rfl) ?_
      refine tr_sald (sv := itI i (bX6_pass_2 mv sv) sv) hx hb hK 3 (hM.arr 3 (by decide)) (tr_vl rfl hlt hsec (by decide)) dX6_pass_29 ?_
      refine lv_icmp_gt (tgt := 36) hx hb dX6_pass_30 (by decide) (fun c_30 => ?_) (fun c_30 => ?_)
      · refine lv_aload_n hx hb dX6_pass_36 rfl (lv_at hl 0 rfl) ?_
        refine tr_get (ci := 6) (C := RX6) (T := TX6) (N := 19) hx hb hts hiX6 hown hK hM.c2 rfl 8 (by decide) f32 (v := .ref (C 7)) rfl dX6_pass_37 ?_
        refine lv_iload_n hx hb dX6_pass_40 rfl (lv_at hl 1 rfl) ?_
        refine lv_iconst (v := 3) hx hb dX6_pass_41 (by decide) ?_
        refine tr_sast hx hb hK hS hC hM (fun _ h => h) 4 (by decide) (tr_vl rfl hlt hsec (by decide)) dX6_pass_42 (fun H locs hM hk hS => ?_)
        clear hk
        refine lv_aload_n hx hb dX6_pass_43 rfl (lv_at hl 0 rfl) ?_
        refine tr_get (ci := 6) (C := RX6) (T := TX6) (N := 19) hx hb hts hiX6 hown hK hM.c2 rfl 9 (by decide) f35 (v := .ref (C 8)) rfl dX6_pass_44 ?_
        refine lv_iload_n hx hb dX6_pass_47 rfl (lv_at hl 1 rfl) ?_
        refine lv_dup2_11 hx hb dX6_pass_48 rfl rfl ?_
        refine tr_sald (sv := itI i (bX6_pass_2 mv sv) sv) hx hb hK 5 (hM.arr 5 (by decide)) (tr_vl rfl hlt hsec (by decide)) dX6_pass_49 ?_
        refine lv_iconst (v := 1) hx hb dX6_pass_50 (by decide) ?_
        refine lv_iadd hx hb dX6_pass_51 ?_
        refine tr_sast hx hb hK hS hC hM (fun _ h => h) 5 (by decide) (tr_vl rfl hlt hsec (by decide)) dX6_pass_52 (fun H locs hM hk hS => ?_)
        clear hk
        refine lv_iinc (v := nI (i + 1)) (lv' := [(1, .int (nI (i + 1))), (0, .ref (C 2))]) hx hb dX6_pass_53 hl (k := 1) rfl (tr_inc _) (by decide) rfl (fun ls hl => ?_)
        refine lv_goto (tgt := 2) hx hb dX6_pass_56 (by decide) ?_
        have e9 : itI (i + 1) (bX6_pass_2 mv sv) sv = aSet (aSet (itI i (bX6_pass_2 mv sv) sv) 4 (nI i) 3) 5 (nI i) ((aAt (itI i (bX6_pass_2 mv sv) sv) 5 (nI i)) + 1) := by rw [itI_s, bX6_pass_2, if_neg c_16, if_pos c_30]
        exact ih H locs ls hlt ⟨⟨by rw [e9]; exact hM, hS⟩, lv_sub hl [1, 0] rfl⟩
      · refine lv_goto (tgt := 53) hx hb dX6_pass_33 (by decide) ?_
        refine lv_iinc (v := nI (i + 1)) (lv' := [(1, .int (nI (i + 1))), (0, .ref (C 2))]) hx hb dX6_pass_53 hl (k := 1) rfl (tr_inc _) (by decide) rfl (fun ls hl => ?_)
        refine lv_goto (tgt := 2) hx hb dX6_pass_56 (by decide) ?_
        have e9 : itI (i + 1) (bX6_pass_2 mv sv) sv = itI i (bX6_pass_2 mv sv) sv := by rw [itI_s, bX6_pass_2, if_neg c_16, if_neg c_30]
        exact ih H locs ls hlt ⟨⟨by rw [e9]; exact hM, hS⟩, lv_sub hl [1, 0] rfl⟩
