/-! doubles: the means -/
theorem tr_endd {s : State} {v w : UInt64} {a : Array Value} (h : w = v) : ∀ t : State, t.heap = s.heap → s.WarmedH t.vm → vp_Sd (fun r => r = v) a s (.returned (some (.double w))) t := fun _ ht _ => ⟨w, rfl, h, ht⟩
theorem tr_S.endd {own : Nat → Prop} {s : State} {H : Heap} {locs : List Loc} {w r : UInt64} {Post : Heap → Prop} {a : Array Value} (h : tr_S own s.heap H locs) (e : w = r) (hp : Post H) : ∀ t : State, t.heap = H → s.WarmedH t.vm → tr_Q (some (.double r)) Post own a s (.returned (some (.double w))) t := by
  subst e
  exact h.end hp
theorem tr_nn (a b : Int32) (h : b ≠ 0) : vf_n64 (FP.ddiv (FP.i2d a) (FP.i2d b)) := by
  have ha : FP.Core.DFin (FP.i2d a) := FP.Core.i2d_fin a
  have hb : FP.Core.DFin (FP.i2d b) := FP.Core.i2d_fin b
  have ha2 : FP.Core.dIsNaN (FP.i2d a) = false := by
    rw [← Bool.not_eq_true, FP.Core.isNaN_bits]
    have := (FP.Core.fin_bits _).mp ha
    omega
  have hz : ¬ FP.Core.DZero (FP.i2d b) := by
    rw [FP.Core.zero_bits2]
    exact FP.Core.i2d_ne_zero h
  have h1 : FP.Core.dIsNaN (FP.ddiv (FP.i2d a) (FP.i2d b)) = false := FP.Core.ddiv_out ha2 hb hz
  rw [← Bool.not_eq_true, FP.Core.isNaN_bits] at h1
  unfold vf_n64
  rw [UInt64.le_iff_toNat_le, UInt64.toNat_and]
  have h2 : (0x7fffffffffffffff : UInt64).toNat = 2 ^ 63 - 1 := by decide
  have h3 : (0x7ff0000000000000 : UInt64).toNat = 9218868437227405312 := by decide
  rw [h2, h3, Nat.and_two_pow_sub_one_eq_mod]
  omega
theorem poles_ne {mv : LV} (hm : mOK mv) : mv.1 1 ≠ 0 := by
  intro e
  have := hm.1
  rw [e] at this
  exact absurd this.1 (by decide)
def fX7_mean (mv : LV) (sv : LV) (nv : LV) : LV × LV × LV :=
  (lSc mv 0 0, sv, nv)
def rX7_mean (mv : LV) (sv : LV) (nv : LV) : UInt64 :=
  FP.ddiv (FP.i2d (fX6_waiting (lSc mv 0 0) sv)) (FP.i2d (mv.1 1))
set_option maxHeartbeats 4000000 in
set_option maxRecDepth 100000 in
theorem c_X7_mean (l : Launch) (D : va_G) (cI : ClassId) (M : Nat → Nat) (hMi : MInj M) (mv sv nv : LV)  (hm : mOK mv) : Met l yX7_mean wsX7_mean ({ frames := 1, cells := 0, slots := 0, locals := 22 }) (tr_Pc D cI [.ref ((mA M) 0)] (MPT D cI M (mv, sv, nv))) (tr_Q (some (.double (rX7_mean mv sv nv))) (MPT D cI M (fX7_mean mv sv nv)) (mOwn M)) 0 0 (mOwn M) := by
  refine Met.ofW (cc := cX7_mean) (maxL := 1) (ret := (some .double)) (by decide) rfl ?_
  intro p e s m args below meth c s₁ B hml hv
  obtain ⟨rfl, ⟨hM, hN⟩, hK⟩ := hv
  have hx := B.exec
  have hb := B.bytes
  have hr := B.returns
  have hts := atoms_spec (ws := wsX7_mean) B.pre
  have hown : s.vm.findClass RX7 = some m.cls := findClass_of_methodNamed B.named
  have hlocks := B.notSynchronized
  have hd := mn_dis hMi
  have hds := nm_dis hMi
  replace hM : STA D cI (mA M) mv sv s.heap := hM
  replace hN : STA D cI (nA M) mv nv s.heap := hN
  have hiX7 : ∀ w ∈ u_ws RX7 TX7 6, w ∈ wsX7_mean := by decide +kernel
  have f22 := hts (.fieldLink RX7 22 "TramRibbonModel" "s" "LTramRibbonModel$State;") (by decide +kernel)
  have f32 := hts (.fieldLink RX7 32 "TramRibbonModel" "thrown" "I") (by decide +kernel)
  have f7 := hts (.fieldLink RX7 7 "TramRibbonModel" "poles" "I") (by decide +kernel)
  have hl := lv_entry ([.ref ((mA M) 0)]) (n := 1) (Nat.le_of_ble_eq_true rfl)
  rw [lg_entry_eq]
  generalize (lg_sl ([.ref ((mA M) 0)]) ++ List.replicate (1 - (lg_sl ([.ref ((mA M) 0)])).length) Slot.unset).toArray = ls at hl ⊢
  replace hl : lv_has ls 1 [(0, .ref ((mA M) 0))] := hl
  have hS : tr_S (mOwn M) s.heap s.heap [] := tr_S.rf
  generalize h1 : s.heap = H, h2 : ([] : List Loc) = locs
  replace hS : tr_S (mOwn M) s.heap H locs := by rw [← h1, ← h2]; exact hS
  rw [h1] at hM hN
  clear h1 h2
  refine lv_aload_n hx hb dX7_mean_0 rfl (lv_at hl 0 rfl) ?_
  refine lv_iconst (v := 0) hx hb dX7_mean_1 (by decide) ?_
  refine tr_put (ci := 7) (C := RX7) (T := TX7) (N := 6) (ty := .int) (v := .int 0) hx hb hts hiX7 tyX7 tyX7_ok nmX7 hown hK hS (mOwn_k (k := 0) (by decide)) hM.c0 rfl 0 (by decide) f32 rfl (by decide +kernel) rfl rfl (Nat.le_of_ble_eq_true rfl) dX7_mean_2 (fun H locs hat hz hk hS => ?_)
  have hM : STA D cI (mA M) (lSc mv 0 0) sv H := hM.setM hd.1 0 hat rfl rfl hk
  have hN : STA D cI (nA M) (lSc mv 0 0) nv H := hN.setM hd.2.1 0 hat rfl rfl hk
  clear hat hz hk
  refine lv_aload_n hx hb dX7_mean_5 rfl (lv_at hl 0 rfl) ?_
  refine tr_get (ci := 7) (C := RX7) (T := TX7) (N := 6) hx hb hts hiX7 hown hK hM.c0 rfl 4 (by decide) f22 (v := .ref ((mA M) 2)) rfl dX7_mean_6 ?_
  refine tr_ri (va_runV (As := []) (rest := []) ⟨hx, hb, hml, hown, hts⟩ (c_X6_waiting l D cI (mA M) hd.1 (lSc mv 0 0) sv  hm) (cwV 0 hts gX7_mean_X6_waiting rfl rfl rfl (by decide +kernel) ⟨Nat.le_of_ble_eq_true rfl, Nat.le_of_ble_eq_true rfl⟩) (tr_preV hK hM.c2 rfl hM) rfl rfl hl.1 rfl (lv_room (Nat.le_of_ble_eq_true rfl)) dX7_mean_9 ⟨Nat.zero_le _, Nat.zero_le _⟩) ?_
  refine lv_i2d hx hb dX7_mean_12 ?_
  refine lv_aload_n hx hb dX7_mean_13 rfl (lv_at hl 0 rfl) ?_
  refine tr_get (ci := 7) (C := RX7) (T := TX7) (N := 6) hx hb hts hiX7 hown hK hM.c0 rfl 1 (by decide) f7 (v := .int (mv.1 1)) rfl dX7_mean_14 ?_
  refine lv_i2d hx hb dX7_mean_17 ?_
  refine lv_ddiv hx hb dX7_mean_18 (tr_nn _ _ (poles_ne hm)) ?_
  exact W.dret hx hb hr (hS.endd (by rw [rX7_mean]) (by rw [fX7_mean]; exact ⟨hM, hN⟩)) hS.2.2 dX7_mean_19
