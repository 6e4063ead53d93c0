/-! The Model: the checksum -/
theorem spans_vp {mv : LV} (hm : mOK mv) {i : Nat} (h : i < ((mv.1 1) - 1).toNatClampNeg) : vp_in (nI i) 16 := by
  have h1 := poles_1 hm
  have h2 := hm.1
  exact tr_vl rfl h (by omega) (by decide)
def bX7_digest_11 (mv : LV) (sv : LV) (nv : LV) (i : Nat) (a : Int64) : Int64 :=
  (a * 31) + ((rX7_counted (lSc mv 0 0) sv nv (nI i)).toInt64)
def kX7_digest_36_1 (mv : LV) (sv : LV) (nv : LV) : Int64 :=
  itI 11 (bX7_digest_11 mv sv nv) 809
def bX7_digest_49 (mv : LV) (sv : LV) (nv : LV) (i : Nat) (i1 : Nat) (a : Int64) : Int64 :=
  (a * 31) + ((fX7_poleTold (lSc mv 0 0) sv nv (nI i) (nI i1)).toInt64)
def bX7_digest_38 (mv : LV) (sv : LV) (nv : LV) (i : Nat) (a : Int64) : Int64 :=
  itI 4 (bX7_digest_49 mv sv nv i) a
def kX7_digest_82_1 (mv : LV) (sv : LV) (nv : LV) : Int64 :=
  itI ((mv.1 1).toNatClampNeg) (bX7_digest_38 mv sv nv) (kX7_digest_36_1 mv sv nv)
def bX7_digest_84 (mv : LV) (sv : LV) (nv : LV) (i : Nat) (a : Int64) : Int64 :=
  (((a * 31) + ((aAt (lSc mv 0 0) 0 (nI i)).toInt64)) * 31) + ((fX6_sectionOf (lSc mv 0 0) sv (nI i)).toInt64)
def kX7_digest_128_1 (mv : LV) (sv : LV) (nv : LV) : Int64 :=
  itI (((mv.1 1) - 1).toNatClampNeg) (bX7_digest_84 mv sv nv) (kX7_digest_82_1 mv sv nv)
def bX7_digest_144 (mv : LV) (sv : LV) (nv : LV) (i : Nat) (i1 : Nat) (a : Int64) : Int64 :=
  (a * 31) + ((rX7_sectionTold (lSc mv 0 0) sv nv (nI i) (nI i1)).toInt64)
def bX7_digest_130 (mv : LV) (sv : LV) (nv : LV) (i : Nat) (a : Int64) : Int64 :=
  itI 6 (bX7_digest_144 mv sv nv i) a
def kX7_digest_178_1 (mv : LV) (sv : LV) (nv : LV) : Int64 :=
  itI ((sv.1 3).toNatClampNeg) (bX7_digest_130 mv sv nv) (kX7_digest_128_1 mv sv nv)
def bX7_digest_191 (mv : LV) (sv : LV) (nv : LV) (i : Nat) (i1 : Nat) (a : Int64) : Int64 :=
  (a * 31) + ((rX7_carTold (lSc mv 0 0) sv nv (nI i) (nI i1)).toInt64)
def bX7_digest_180 (mv : LV) (sv : LV) (nv : LV) (i : Nat) (a : Int64) : Int64 :=
  itI 8 (bX7_digest_191 mv sv nv i) a
def fX7_digest (mv : LV) (sv : LV) (nv : LV) : LV × LV × LV :=
  (lSc mv 0 0, sv, nv)
def rX7_digest (mv : LV) (sv : LV) (nv : LV) : Int64 :=
  itI ((mv.1 2).toNatClampNeg) (bX7_digest_180 mv sv nv) (kX7_digest_178_1 mv sv nv)
set_option maxHeartbeats 4000000 in
set_option maxRecDepth 100000 in
theorem c_X7_digest (l : Launch) (D : va_G) (cI : ClassId) (M : Nat → Nat) (hMi : MInj M) (mv sv nv : LV) (sz : Nat)  (hm : mOK mv) (hn : nOK sv) : Met l yX7_digest wsX7_digest ({ frames := 4, cells := 149, slots := 1045, locals := 92 }) (tr_Pc D cI [.ref ((mA M) 0)] (fun H => sz ≤ H.size ∧ MPT D cI M (mv, sv, nv) H)) (tr_Q (some (.long (rX7_digest mv sv nv))) (MPT D cI M (fX7_digest mv sv nv)) (nOwn M sz)) 149 1045 (nOwn M sz) := by
  refine Met.ofW (cc := cX7_digest) (maxL := 5) (ret := (some .long)) (by decide) rfl ?_
  intro p e s m args below meth c s₁ B hml hv
  obtain ⟨rfl, ⟨hZ0, hM, hN⟩, hK⟩ := hv
  have hx := B.exec
  have hb := B.bytes
  have hr := B.returns
  have hts := atoms_spec (ws := wsX7_digest) B.pre
  have hown : s.vm.findClass RX7 = some m.cls := findClass_of_methodNamed B.named
  have hlocks := B.notSynchronized
  have hd := mn_dis hMi
  have hds := nm_dis hMi
  replace hM : STA D cI (mA M) mv sv s.heap := hM
  replace hN : STA D cI (nA M) mv nv s.heap := hN
  have hB6 : (mv.1 2).toNatClampNeg ≤ 6 := by have h1 := hm.2; have h2 : (mv.1 2).toInt.toNat = (mv.1 2).toNatClampNeg := rfl; omega
  have hB15 : (sv.1 3).toNatClampNeg ≤ 15 := by have h1 := hn.2; have h2 : (sv.1 3).toInt.toNat = (sv.1 3).toNatClampNeg := rfl; omega
  have hiX6 : ∀ w ∈ u_ws RX6 TX6 19, w ∈ wsX7_digest := by decide +kernel
  have hiX7 : ∀ w ∈ u_ws RX7 TX7 6, w ∈ wsX7_digest := by decide +kernel
  have cl170 := hts (.constantLong RX7 170 (809)) (by decide +kernel)
  have cl172 := hts (.constantLong RX7 172 (31)) (by decide +kernel)
  have f13 := hts (.fieldLink RX7 13 "TramRibbonModel" "slope" "[I") (by decide +kernel)
  have f22 := hts (.fieldLink RX7 22 "TramRibbonModel" "s" "LTramRibbonModel$State;") (by decide +kernel)
  have f32 := hts (.fieldLink RX7 32 "TramRibbonModel" "thrown" "I") (by decide +kernel)
  have f46 := hts (.fieldLink RX7 46 "TramRibbonModel" "cars" "I") (by decide +kernel)
  have f7 := hts (.fieldLink RX7 7 "TramRibbonModel" "poles" "I") (by decide +kernel)
  have cut_178 : ∀ (H : Heap) (locs : List Loc), STA D cI (mA M) (lSc mv 0 0) sv H → STA D cI (nA M) (lSc mv 0 0) nv H → tr_S (nOwn M sz) s.heap H locs → ∀ ls : Array Slot, lv_has ls 5 [(0, .ref ((mA M) 0)), (1, .long (kX7_digest_178_1 mv sv nv))] → W p l e (headSpec wsX7_digest ({ frames := 4, cells := 149, slots := 1045, locals := 92 })).room s m ([.ref ((mA M) 0)] : List Value).toArray below meth c H locs 101 661 (MQ below (tr_Q (some (.long (rX7_digest mv sv nv))) (MPT D cI M (fX7_digest mv sv nv)) (nOwn M sz)) ([.ref ((mA M) 0)] : List Value).toArray s 149 1045 (nOwn M sz)) (F0 m 178 ls []) := by
    intro H locs hM hN hS ls hl
    refine lv_iconst (v := 0) hx hb dX7_digest_178 (by decide) ?_
    refine lv_istore_n (lv' := [(3, .int 0), (0, .ref ((mA M) 0)), (1, .long (kX7_digest_178_1 mv sv nv))]) hx hb dX7_digest_179 rfl hl (by decide) rfl (fun ls hl => ?_)
    have hinv := And.intro (show STA D cI (mA M) (lSc mv 0 0) sv H ∧ STA D cI (nA M) (lSc mv 0 0) nv H ∧ tr_S (nOwn M sz) s.heap H locs from ⟨hM, hN, hS⟩) hl
    clear hM hN hS hl
    revert hinv; revert ls; revert locs; revert H
    refine tr_forc (G := fun i H locs ls => W p l e (headSpec wsX7_digest ({ frames := 4, cells := 149, slots := 1045, locals := 92 })).room s m (([.ref ((mA M) 0)] : List Value).toArray) below meth c H locs (101 + 8 * i) (661 + 64 * i) (MQ below (tr_Q (some (.long (rX7_digest mv sv nv))) (MPT D cI M (fX7_digest mv sv nv)) (nOwn M sz)) (([.ref ((mA M) 0)] : List Value).toArray) s 149 1045 (nOwn M sz)) (F0 m 180 ls [])) (fun i H locs ls => (STA D cI (mA M) (lSc mv 0 0) sv H ∧ STA D cI (nA M) (lSc mv 0 0) nv H ∧ tr_S (nOwn M sz) s.heap H locs) ∧ lv_has ls 5 [(0, .ref ((mA M) 0)), (1, .long (itI i (bX7_digest_180 mv sv nv) (kX7_digest_178_1 mv sv nv))), (3, .int (nI i))]) ((mv.1 2).toNatClampNeg) (fun H locs ls hinv => ?_) ?_
    · obtain ⟨⟨hM, hN, hS⟩, hl⟩ := hinv
      exact ⟨⟨hM, hN, hS⟩, by rw [itI_0]; exact lv_sub hl [1, 2, 0] rfl⟩
    intro i H locs ls hi hinv ih
    obtain ⟨⟨hM, hN, hS⟩, hl⟩ := hinv
    refine lv_iload_n hx hb dX7_digest_180 rfl (lv_at hl 2 rfl) ?_
    refine lv_aload_n hx hb dX7_digest_181 rfl (lv_at hl 0 rfl) ?_
    refine tr_get (ci := 7) (C := RX7) (T := TX7) (N := 6) hx hb hts hiX7 hown hK hM.c0 rfl 2 (by decide) f46 (v := .int (mv.1 2)) rfl dX7_digest_182 ?_
    refine lv_icmp_ge (tgt := 225) hx hb dX7_digest_185 (by decide) (fun c_185 => ?_) (fun c_185 => ?_)
    · have hN : i = (mv.1 2).toNatClampNeg := tr_over rfl hi c_185
      subst hN
      refine W.widen (k := 149) (n := 1045) (by omega) (by omega) ?_
      refine lv_lload_n hx hb dX7_digest_225 rfl (lv_at hl 1 rfl) ?_
      refine W.widen (k := 149) (n := 1045) (by omega) (by omega) ?_
      exact W.lret hx hb hr (hS.endl (by rw [rX7_digest]) (by rw [fX7_digest]; exact ⟨hM, hN⟩)) hS.2.2 dX7_digest_226
    · have hlt : i < (mv.1 2).toNatClampNeg := tr_on rfl hi c_185
      refine lv_iconst (v := 0) hx hb dX7_digest_188 (by decide) ?_
      refine lv_istore (lv' := [(4, .int 0), (0, .ref ((mA M) 0)), (1, .long (itI i (bX7_digest_180 mv sv nv) (kX7_digest_178_1 mv sv nv))), (3, .int (nI i))]) hx hb dX7_digest_189 hl (by decide) rfl (fun ls hl => ?_)
      have hinv1 := And.intro (show STA D cI (mA M) (lSc mv 0 0) sv H ∧ STA D cI (nA M) (lSc mv 0 0) nv H ∧ tr_S (nOwn M sz) s.heap H locs from ⟨hM, hN, hS⟩) hl
      clear hM hN hS hl
      revert hinv1; revert ls; revert locs; revert H
      refine tr_forc (G := fun i1 H locs ls => W p l e (headSpec wsX7_digest ({ frames := 4, cells := 149, slots := 1045, locals := 92 })).room s m (([.ref ((mA M) 0)] : List Value).toArray) below meth c H locs (101 + 8 * i + 1 * i1) (661 + 64 * i + 8 * i1) (MQ below (tr_Q (some (.long (rX7_digest mv sv nv))) (MPT D cI M (fX7_digest mv sv nv)) (nOwn M sz)) (([.ref ((mA M) 0)] : List Value).toArray) s 149 1045 (nOwn M sz)) (F0 m 191 ls [])) (fun i1 H locs ls => (STA D cI (mA M) (lSc mv 0 0) sv H ∧ STA D cI (nA M) (lSc mv 0 0) nv H ∧ tr_S (nOwn M sz) s.heap H locs) ∧ lv_has ls 5 [(0, .ref ((mA M) 0)), (1, .long (itI i1 (bX7_digest_191 mv sv nv i) (itI i (bX7_digest_180 mv sv nv) (kX7_digest_178_1 mv sv nv)))), (3, .int (nI i)), (4, .int (nI i1))]) (8) (fun H locs ls hinv1 => ?_) ?_
      · obtain ⟨⟨hM, hN, hS⟩, hl⟩ := hinv1
        exact ⟨⟨hM, hN, hS⟩, by rw [itI_0]; exact lv_sub hl [1, 2, 3, 0] rfl⟩
      intro i1 H locs ls hi1 hinv1 ih1
      obtain ⟨⟨hM, hN, hS⟩, hl⟩ := hinv1
      refine lv_iload hx hb dX7_digest_191 (lv_at hl 3 rfl) ?_
      refine lv_bipush (v := 8) hx hb dX7_digest_193 (by decide) ?_
      refine lv_icmp_ge (tgt := 219) hx hb dX7_digest_195 (by decide) (fun c_195 => ?_) (fun c_195 => ?_)
      · have hN1 : i1 = 8 := tr_over (rfl : (8 : Int32).toNatClampNeg = 8) hi1 c_195
        subst hN1
        refine lv_iinc (v := nI (i + 1)) (lv' := [(3, .int (nI (i + 1))), (0, .ref ((mA M) 0)), (1, .long (itI 8 (bX7_digest_191 mv sv nv i) (itI i (bX7_digest_180 mv sv nv) (kX7_digest_178_1 mv sv nv)))), (4, .int (nI 8))]) hx hb dX7_digest_219 hl (k := 2) rfl (tr_inc _) (by decide) rfl (fun ls hl => ?_)
        refine lv_goto (tgt := 180) hx hb dX7_digest_222 (by decide) ?_
        refine W.widen (k := 101 + 8 * (i + 1)) (n := 661 + 64 * (i + 1)) (by omega) (by omega) ?_
        have e9 : itI (i + 1) (bX7_digest_180 mv sv nv) (kX7_digest_178_1 mv sv nv) = itI 8 (bX7_digest_191 mv sv nv i) (itI i (bX7_digest_180 mv sv nv) (kX7_digest_178_1 mv sv nv)) := by rw [itI_s, bX7_digest_180]
        exact ih H locs ls hlt ⟨⟨hM, hN, hS⟩, (by rw [e9]; exact lv_sub hl [1, 2, 0] rfl)⟩
      · have hlt1 : i1 < 8 := tr_on (rfl : (8 : Int32).toNatClampNeg = 8) hi1 c_195
        refine lv_lload_n hx hb dX7_digest_198 rfl (lv_at hl 1 rfl) ?_
        refine lv_ldc2 (v := 31) hx hb hown cl172 dX7_digest_199 ?_
        refine lv_lmul hx hb dX7_digest_202 ?_
        refine lv_aload_n hx hb dX7_digest_203 rfl (lv_at hl 0 rfl) ?_
        refine lv_iload_n hx hb dX7_digest_204 rfl (lv_at hl 2 rfl) ?_
        refine lv_iload hx hb dX7_digest_205 (lv_at hl 3 rfl) ?_
        refine tr_wNi (va_runV (As := [.int (nI i), .int (nI i1)]) (rest := [.long ((itI i1 (bX7_digest_191 mv sv nv i) (itI i (bX7_digest_180 mv sv nv) (kX7_digest_178_1 mv sv nv))) * 31)]) ⟨hx, hb, hml, hown, hts⟩ (c_X7_carTold l D cI M hMi (lSc mv 0 0) sv nv sz (nI i) (nI i1) hm (tr_vl rfl hlt hm.2.2 (by decide)) (tr_vp hlt1 (by decide))) (cwV 2 hts gX7_digest_X7_carTold rfl rfl rfl (by decide +kernel) ⟨Nat.le_of_ble_eq_true rfl, Nat.le_of_ble_eq_true rfl⟩) (tr_preV hK hM.c0 rfl ⟨Nat.le_trans hZ0 hS.1, hM, hN⟩) rfl rfl hl.1 rfl (lv_room (Nat.le_of_ble_eq_true rfl)) dX7_digest_207 ⟨show 101 + 8 * i + 1 * i1 + 1 ≤ 149 by omega, show 661 + 64 * i + 8 * i1 + 8 ≤ 1045 by omega⟩) hS (fun _ h => h) (fun _ h => h) (fun H locs h9 _ _ hS => ?_)
        have hM : STA D cI (mA M) (lSc mv 0 0) sv H := h9.1
        have hN : STA D cI (nA M) (lSc mv 0 0) nv H := h9.2
        clear h9
        refine lv_i2l (v := (rX7_carTold (lSc mv 0 0) sv nv (nI i) (nI i1)).toInt64) hx hb dX7_digest_210 rfl ?_
        refine lv_ladd hx hb dX7_digest_211 ?_
        refine lv_lstore_n (lv' := [(1, .long (((itI i1 (bX7_digest_191 mv sv nv i) (itI i (bX7_digest_180 mv sv nv) (kX7_digest_178_1 mv sv nv))) * 31) + ((rX7_carTold (lSc mv 0 0) sv nv (nI i) (nI i1)).toInt64))), (0, .ref ((mA M) 0)), (3, .int (nI i)), (4, .int (nI i1))]) hx hb dX7_digest_212 rfl hl (by decide) rfl (fun ls hl => ?_)
        refine lv_iinc (v := nI (i1 + 1)) (lv' := [(4, .int (nI (i1 + 1))), (1, .long (((itI i1 (bX7_digest_191 mv sv nv i) (itI i (bX7_digest_180 mv sv nv) (kX7_digest_178_1 mv sv nv))) * 31) + ((rX7_carTold (lSc mv 0 0) sv nv (nI i) (nI i1)).toInt64))), (0, .ref ((mA M) 0)), (3, .int (nI i))]) hx hb dX7_digest_213 hl (k := 3) rfl (tr_inc _) (by decide) rfl (fun ls hl => ?_)
        refine lv_goto (tgt := 191) hx hb dX7_digest_216 (by decide) ?_
        refine W.widen (k := 101 + 8 * i + 1 * (i1 + 1)) (n := 661 + 64 * i + 8 * (i1 + 1)) (by omega) (by omega) ?_
        have e9 : itI (i1 + 1) (bX7_digest_191 mv sv nv i) (itI i (bX7_digest_180 mv sv nv) (kX7_digest_178_1 mv sv nv)) = ((itI i1 (bX7_digest_191 mv sv nv i) (itI i (bX7_digest_180 mv sv nv) (kX7_digest_178_1 mv sv nv))) * 31) + ((rX7_carTold (lSc mv 0 0) sv nv (nI i) (nI i1)).toInt64) := by rw [itI_s, bX7_digest_191]
        exact ih1 H locs ls hlt1 ⟨⟨hM, hN, hS⟩, (by rw [e9]; exact lv_sub hl [2, 1, 3, 0] rfl)⟩
  have cut_128 : ∀ (H : Heap) (locs : List Loc), STA D cI (mA M) (lSc mv 0 0) sv H → STA D cI (nA M) (lSc mv 0 0) nv H → tr_S (nOwn M sz) s.heap H locs → ∀ ls : Array Slot, lv_has ls 5 [(0, .ref ((mA M) 0)), (1, .long (kX7_digest_128_1 mv sv nv))] → W p l e (headSpec wsX7_digest ({ frames := 4, cells := 149, slots := 1045, locals := 92 })).room s m ([.ref ((mA M) 0)] : List Value).toArray below meth c H locs 11 121 (MQ below (tr_Q (some (.long (rX7_digest mv sv nv))) (MPT D cI M (fX7_digest mv sv nv)) (nOwn M sz)) ([.ref ((mA M) 0)] : List Value).toArray s 149 1045 (nOwn M sz)) (F0 m 128 ls []) := by
    intro H locs hM hN hS ls hl
    refine lv_iconst (v := 0) hx hb dX7_digest_128 (by decide) ?_
    refine lv_istore_n (lv' := [(3, .int 0), (0, .ref ((mA M) 0)), (1, .long (kX7_digest_128_1 mv sv nv))]) hx hb dX7_digest_129 rfl hl (by decide) rfl (fun ls hl => ?_)
    have hinv := And.intro (show STA D cI (mA M) (lSc mv 0 0) sv H ∧ STA D cI (nA M) (lSc mv 0 0) nv H ∧ tr_S (nOwn M sz) s.heap H locs from ⟨hM, hN, hS⟩) hl
    clear hM hN hS hl
    revert hinv; revert ls; revert locs; revert H
    refine tr_forc (G := fun i H locs ls => W p l e (headSpec wsX7_digest ({ frames := 4, cells := 149, slots := 1045, locals := 92 })).room s m (([.ref ((mA M) 0)] : List Value).toArray) below meth c H locs (11 + 6 * i) (121 + 36 * i) (MQ below (tr_Q (some (.long (rX7_digest mv sv nv))) (MPT D cI M (fX7_digest mv sv nv)) (nOwn M sz)) (([.ref ((mA M) 0)] : List Value).toArray) s 149 1045 (nOwn M sz)) (F0 m 130 ls [])) (fun i H locs ls => (STA D cI (mA M) (lSc mv 0 0) sv H ∧ STA D cI (nA M) (lSc mv 0 0) nv H ∧ tr_S (nOwn M sz) s.heap H locs) ∧ lv_has ls 5 [(0, .ref ((mA M) 0)), (1, .long (itI i (bX7_digest_130 mv sv nv) (kX7_digest_128_1 mv sv nv))), (3, .int (nI i))]) ((sv.1 3).toNatClampNeg) (fun H locs ls hinv => ?_) ?_
    · obtain ⟨⟨hM, hN, hS⟩, hl⟩ := hinv
      exact ⟨⟨hM, hN, hS⟩, by rw [itI_0]; exact lv_sub hl [1, 2, 0] rfl⟩
    intro i H locs ls hi hinv ih
    obtain ⟨⟨hM, hN, hS⟩, hl⟩ := hinv
    refine lv_iload_n hx hb dX7_digest_130 rfl (lv_at hl 2 rfl) ?_
    refine lv_aload_n hx hb dX7_digest_131 rfl (lv_at hl 0 rfl) ?_
    refine tr_get (ci := 7) (C := RX7) (T := TX7) (N := 6) hx hb hts hiX7 hown hK hM.c0 rfl 4 (by decide) f22 (v := .ref ((mA M) 2)) rfl dX7_digest_132 ?_
    refine tr_getN (host := "TramRibbonModel") (ci := 6) (C := RX6) (T := TX6) (N := 19) hx hb hts hiX6 hown hK hM.c2 rfl 3 (by decide) (by decide +kernel) (v := .int (sv.1 3)) rfl dX7_digest_135 ?_
    refine lv_icmp_ge (tgt := 178) hx hb dX7_digest_138 (by decide) (fun c_138 => ?_) (fun c_138 => ?_)
    · have hN : i = (sv.1 3).toNatClampNeg := tr_over rfl hi c_138
      subst hN
      refine W.widen (k := 101) (n := 661) (by omega) (by omega) ?_
      exact cut_178 H locs hM hN hS ls (lv_sub hl [0, 1] rfl)
    · have hlt : i < (sv.1 3).toNatClampNeg := tr_on rfl hi c_138
      refine lv_iconst (v := 0) hx hb dX7_digest_141 (by decide) ?_
      refine lv_istore (lv' := [(4, .int 0), (0, .ref ((mA M) 0)), (1, .long (itI i (bX7_digest_130 mv sv nv) (kX7_digest_128_1 mv sv nv))), (3, .int (nI i))]) hx hb dX7_digest_142 hl (by decide) rfl (fun ls hl => ?_)
      have hinv1 := And.intro (show STA D cI (mA M) (lSc mv 0 0) sv H ∧ STA D cI (nA M) (lSc mv 0 0) nv H ∧ tr_S (nOwn M sz) s.heap H locs from ⟨hM, hN, hS⟩) hl
      clear hM hN hS hl
      revert hinv1; revert ls; revert locs; revert H
      refine tr_forc (G := fun i1 H locs ls => W p l e (headSpec wsX7_digest ({ frames := 4, cells := 149, slots := 1045, locals := 92 })).room s m (([.ref ((mA M) 0)] : List Value).toArray) below meth c H locs (11 + 6 * i + 1 * i1) (121 + 36 * i + 6 * i1) (MQ below (tr_Q (some (.long (rX7_digest mv sv nv))) (MPT D cI M (fX7_digest mv sv nv)) (nOwn M sz)) (([.ref ((mA M) 0)] : List Value).toArray) s 149 1045 (nOwn M sz)) (F0 m 144 ls [])) (fun i1 H locs ls => (STA D cI (mA M) (lSc mv 0 0) sv H ∧ STA D cI (nA M) (lSc mv 0 0) nv H ∧ tr_S (nOwn M sz) s.heap H locs) ∧ lv_has ls 5 [(0, .ref ((mA M) 0)), (1, .long (itI i1 (bX7_digest_144 mv sv nv i) (itI i (bX7_digest_130 mv sv nv) (kX7_digest_128_1 mv sv nv)))), (3, .int (nI i)), (4, .int (nI i1))]) (6) (fun H locs ls hinv1 => ?_) ?_
      · obtain ⟨⟨hM, hN, hS⟩, hl⟩ := hinv1
        exact ⟨⟨hM, hN, hS⟩, by rw [itI_0]; exact lv_sub hl [1, 2, 3, 0] rfl⟩
      intro i1 H locs ls hi1 hinv1 ih1
      obtain ⟨⟨hM, hN, hS⟩, hl⟩ := hinv1
      refine lv_iload hx hb dX7_digest_144 (lv_at hl 3 rfl) ?_
      refine lv_bipush (v := 6) hx hb dX7_digest_146 (by decide) ?_
      refine lv_icmp_ge (tgt := 172) hx hb dX7_digest_148 (by decide) (fun c_148 => ?_) (fun c_148 => ?_)
      · have hN1 : i1 = 6 := tr_over (rfl : (6 : Int32).toNatClampNeg = 6) hi1 c_148
        subst hN1
        refine lv_iinc (v := nI (i + 1)) (lv' := [(3, .int (nI (i + 1))), (0, .ref ((mA M) 0)), (1, .long (itI 6 (bX7_digest_144 mv sv nv i) (itI i (bX7_digest_130 mv sv nv) (kX7_digest_128_1 mv sv nv)))), (4, .int (nI 6))]) hx hb dX7_digest_172 hl (k := 2) rfl (tr_inc _) (by decide) rfl (fun ls hl => ?_)
        refine lv_goto (tgt := 130) hx hb dX7_digest_175 (by decide) ?_
        refine W.widen (k := 11 + 6 * (i + 1)) (n := 121 + 36 * (i + 1)) (by omega) (by omega) ?_
        have e9 : itI (i + 1) (bX7_digest_130 mv sv nv) (kX7_digest_128_1 mv sv nv) = itI 6 (bX7_digest_144 mv sv nv i) (itI i (bX7_digest_130 mv sv nv) (kX7_digest_128_1 mv sv nv)) := by rw [itI_s, bX7_digest_130]
        exact ih H locs ls hlt ⟨⟨hM, hN, hS⟩, (by rw [e9]; exact lv_sub hl [1, 2, 0] rfl)⟩
      · have hlt1 : i1 < 6 := tr_on (rfl : (6 : Int32).toNatClampNeg = 6) hi1 c_148
        refine lv_lload_n hx hb dX7_digest_151 rfl (lv_at hl 1 rfl) ?_
        refine lv_ldc2 (v := 31) hx hb hown cl172 dX7_digest_152 ?_
        refine lv_lmul hx hb dX7_digest_155 ?_
        refine lv_aload_n hx hb dX7_digest_156 rfl (lv_at hl 0 rfl) ?_
        refine lv_iload_n hx hb dX7_digest_157 rfl (lv_at hl 2 rfl) ?_
        refine lv_iload hx hb dX7_digest_158 (lv_at hl 3 rfl) ?_
        refine tr_wNi (va_runV (As := [.int (nI i), .int (nI i1)]) (rest := [.long ((itI i1 (bX7_digest_144 mv sv nv i) (itI i (bX7_digest_130 mv sv nv) (kX7_digest_128_1 mv sv nv))) * 31)]) ⟨hx, hb, hml, hown, hts⟩ (c_X7_sectionTold l D cI M hMi (lSc mv 0 0) sv nv sz (nI i) (nI i1) hm (tr_vl rfl hlt (nOK16 hn) (by decide)) (tr_vp hlt1 (by decide))) (cwV 2 hts gX7_digest_X7_sectionTold rfl rfl rfl (by decide +kernel) ⟨Nat.le_of_ble_eq_true rfl, Nat.le_of_ble_eq_true rfl⟩) (tr_preV hK hM.c0 rfl ⟨Nat.le_trans hZ0 hS.1, hM, hN⟩) rfl rfl hl.1 rfl (lv_room (Nat.le_of_ble_eq_true rfl)) dX7_digest_160 ⟨show 11 + 6 * i + 1 * i1 + 1 ≤ 149 by omega, show 121 + 36 * i + 6 * i1 + 6 ≤ 1045 by omega⟩) hS (fun _ h => h) (fun _ h => h) (fun H locs h9 _ _ hS => ?_)
        have hM : STA D cI (mA M) (lSc mv 0 0) sv H := h9.1
        have hN : STA D cI (nA M) (lSc mv 0 0) nv H := h9.2
        clear h9
        refine lv_i2l (v := (rX7_sectionTold (lSc mv 0 0) sv nv (nI i) (nI i1)).toInt64) hx hb dX7_digest_163 rfl ?_
        refine lv_ladd hx hb dX7_digest_164 ?_
        refine lv_lstore_n (lv' := [(1, .long (((itI i1 (bX7_digest_144 mv sv nv i) (itI i (bX7_digest_130 mv sv nv) (kX7_digest_128_1 mv sv nv))) * 31) + ((rX7_sectionTold (lSc mv 0 0) sv nv (nI i) (nI i1)).toInt64))), (0, .ref ((mA M) 0)), (3, .int (nI i)), (4, .int (nI i1))]) hx hb dX7_digest_165 rfl hl (by decide) rfl (fun ls hl => ?_)
        refine lv_iinc (v := nI (i1 + 1)) (lv' := [(4, .int (nI (i1 + 1))), (1, .long (((itI i1 (bX7_digest_144 mv sv nv i) (itI i (bX7_digest_130 mv sv nv) (kX7_digest_128_1 mv sv nv))) * 31) + ((rX7_sectionTold (lSc mv 0 0) sv nv (nI i) (nI i1)).toInt64))), (0, .ref ((mA M) 0)), (3, .int (nI i))]) hx hb dX7_digest_166 hl (k := 3) rfl (tr_inc _) (by decide) rfl (fun ls hl => ?_)
        refine lv_goto (tgt := 144) hx hb dX7_digest_169 (by decide) ?_
        refine W.widen (k := 11 + 6 * i + 1 * (i1 + 1)) (n := 121 + 36 * i + 6 * (i1 + 1)) (by omega) (by omega) ?_
        have e9 : itI (i1 + 1) (bX7_digest_144 mv sv nv i) (itI i (bX7_digest_130 mv sv nv) (kX7_digest_128_1 mv sv nv)) = ((itI i1 (bX7_digest_144 mv sv nv i) (itI i (bX7_digest_130 mv sv nv) (kX7_digest_128_1 mv sv nv))) * 31) + ((rX7_sectionTold (lSc mv 0 0) sv nv (nI i) (nI i1)).toInt64) := by rw [itI_s, bX7_digest_144]
        exact ih1 H locs ls hlt1 ⟨⟨hM, hN, hS⟩, (by rw [e9]; exact lv_sub hl [2, 1, 3, 0] rfl)⟩
  have cut_82 : ∀ (H : Heap) (locs : List Loc), STA D cI (mA M) (lSc mv 0 0) sv H → STA D cI (nA M) (lSc mv 0 0) nv H → tr_S (nOwn M sz) s.heap H locs → ∀ ls : Array Slot, lv_has ls 5 [(0, .ref ((mA M) 0)), (1, .long (kX7_digest_82_1 mv sv nv))] → W p l e (headSpec wsX7_digest ({ frames := 4, cells := 149, slots := 1045, locals := 92 })).room s m ([.ref ((mA M) 0)] : List Value).toArray below meth c H locs 11 121 (MQ below (tr_Q (some (.long (rX7_digest mv sv nv))) (MPT D cI M (fX7_digest mv sv nv)) (nOwn M sz)) ([.ref ((mA M) 0)] : List Value).toArray s 149 1045 (nOwn M sz)) (F0 m 82 ls []) := by
    intro H locs hM hN hS ls hl
    refine lv_iconst (v := 0) hx hb dX7_digest_82 (by decide) ?_
    refine lv_istore_n (lv' := [(3, .int 0), (0, .ref ((mA M) 0)), (1, .long (kX7_digest_82_1 mv sv nv))]) hx hb dX7_digest_83 rfl hl (by decide) rfl (fun ls hl => ?_)
    have hinv := And.intro (show STA D cI (mA M) (lSc mv 0 0) sv H ∧ STA D cI (nA M) (lSc mv 0 0) nv H ∧ tr_S (nOwn M sz) s.heap H locs from ⟨hM, hN, hS⟩) hl
    clear hM hN hS hl
    revert hinv; revert ls; revert locs; revert H
    refine tr_forw (fun i H locs ls => (STA D cI (mA M) (lSc mv 0 0) sv H ∧ STA D cI (nA M) (lSc mv 0 0) nv H ∧ tr_S (nOwn M sz) s.heap H locs) ∧ lv_has ls 5 [(0, .ref ((mA M) 0)), (1, .long (itI i (bX7_digest_84 mv sv nv) (kX7_digest_82_1 mv sv nv))), (3, .int (nI i))]) (((mv.1 1) - 1).toNatClampNeg) (fun H locs ls hinv => ?_) ?_
    · obtain ⟨⟨hM, hN, hS⟩, hl⟩ := hinv
      exact ⟨⟨hM, hN, hS⟩, by rw [itI_0]; exact lv_sub hl [1, 2, 0] rfl⟩
    intro i H locs ls hi hinv ih
    obtain ⟨⟨hM, hN, hS⟩, hl⟩ := hinv
    refine lv_iload_n hx hb dX7_digest_84 rfl (lv_at hl 2 rfl) ?_
    refine lv_aload_n hx hb dX7_digest_85 rfl (lv_at hl 0 rfl) ?_
    refine tr_get (ci := 7) (C := RX7) (T := TX7) (N := 6) hx hb hts hiX7 hown hK hM.c0 rfl 1 (by decide) f7 (v := .int (mv.1 1)) rfl dX7_digest_86 ?_
    refine lv_iconst (v := 1) hx hb dX7_digest_89 (by decide) ?_
    refine lv_isub hx hb dX7_digest_90 ?_
    refine lv_icmp_ge (tgt := 128) hx hb dX7_digest_91 (by decide) (fun c_91 => ?_) (fun c_91 => ?_)
    · have hN : i = ((mv.1 1) - 1).toNatClampNeg := tr_over rfl hi c_91
      subst hN
      exact cut_128 H locs hM hN hS ls (lv_sub hl [0, 1] rfl)
    · have hlt : i < ((mv.1 1) - 1).toNatClampNeg := tr_on rfl hi c_91
      refine lv_lload_n hx hb dX7_digest_94 rfl (lv_at hl 1 rfl) ?_
      refine lv_ldc2 (v := 31) hx hb hown cl172 dX7_digest_95 ?_
      refine lv_lmul hx hb dX7_digest_98 ?_
      refine lv_aload_n hx hb dX7_digest_99 rfl (lv_at hl 0 rfl) ?_
      refine tr_get (ci := 7) (C := RX7) (T := TX7) (N := 6) hx hb hts hiX7 hown hK hM.c0 rfl 3 (by decide) f13 (v := .ref ((mA M) 1)) rfl dX7_digest_100 ?_
      refine lv_iload_n hx hb dX7_digest_103 rfl (lv_at hl 2 rfl) ?_
      refine tr_mald hx hb hK hM (spans_vp hm hlt) dX7_digest_104 ?_
      refine lv_i2l (v := (aAt (lSc mv 0 0) 0 (nI i)).toInt64) hx hb dX7_digest_105 rfl ?_
      refine lv_ladd hx hb dX7_digest_106 ?_
      refine lv_ldc2 (v := 31) hx hb hown cl172 dX7_digest_107 ?_
      refine lv_lmul hx hb dX7_digest_110 ?_
      refine lv_aload_n hx hb dX7_digest_111 rfl (lv_at hl 0 rfl) ?_
      refine tr_get (ci := 7) (C := RX7) (T := TX7) (N := 6) hx hb hts hiX7 hown hK hM.c0 rfl 4 (by decide) f22 (v := .ref ((mA M) 2)) rfl dX7_digest_112 ?_
      refine lv_iload_n hx hb dX7_digest_115 rfl (lv_at hl 2 rfl) ?_
      refine tr_ri (va_runV (As := [.int (nI i)]) (rest := [.long ((((itI i (bX7_digest_84 mv sv nv) (kX7_digest_82_1 mv sv nv)) * 31) + ((aAt (lSc mv 0 0) 0 (nI i)).toInt64)) * 31)]) ⟨hx, hb, hml, hown, hts⟩ (c_X6_sectionOf l D cI (mA M) hd.1 (lSc mv 0 0) sv (nI i) (spans_vp hm hlt).le15) (cwV 1 hts gX7_digest_X6_sectionOf rfl rfl rfl (by decide +kernel) ⟨Nat.le_of_ble_eq_true rfl, Nat.le_of_ble_eq_true rfl⟩) (tr_preV hK hM.c2 rfl hM) rfl rfl hl.1 rfl (lv_room (Nat.le_of_ble_eq_true rfl)) dX7_digest_116 ⟨show 11 + 0 ≤ 149 by omega, show 121 + 0 ≤ 1045 by omega⟩) ?_
      refine lv_i2l (v := (fX6_sectionOf (lSc mv 0 0) sv (nI i)).toInt64) hx hb dX7_digest_119 rfl ?_
      refine lv_ladd hx hb dX7_digest_120 ?_
      refine lv_lstore_n (lv' := [(1, .long (((((itI i (bX7_digest_84 mv sv nv) (kX7_digest_82_1 mv sv nv)) * 31) + ((aAt (lSc mv 0 0) 0 (nI i)).toInt64)) * 31) + ((fX6_sectionOf (lSc mv 0 0) sv (nI i)).toInt64))), (0, .ref ((mA M) 0)), (3, .int (nI i))]) hx hb dX7_digest_121 rfl hl (by decide) rfl (fun ls hl => ?_)
      refine lv_iinc (v := nI (i + 1)) (lv' := [(3, .int (nI (i + 1))), (1, .long (((((itI i (bX7_digest_84 mv sv nv) (kX7_digest_82_1 mv sv nv)) * 31) + ((aAt (lSc mv 0 0) 0 (nI i)).toInt64)) * 31) + ((fX6_sectionOf (lSc mv 0 0) sv (nI i)).toInt64))), (0, .ref ((mA M) 0))]) hx hb dX7_digest_122 hl (k := 2) rfl (tr_inc _) (by decide) rfl (fun ls hl => ?_)
      refine lv_goto (tgt := 84) hx hb dX7_digest_125 (by decide) ?_
      have e9 : itI (i + 1) (bX7_digest_84 mv sv nv) (kX7_digest_82_1 mv sv nv) = ((((itI i (bX7_digest_84 mv sv nv) (kX7_digest_82_1 mv sv nv)) * 31) + ((aAt (lSc mv 0 0) 0 (nI i)).toInt64)) * 31) + ((fX6_sectionOf (lSc mv 0 0) sv (nI i)).toInt64) := by rw [itI_s, bX7_digest_84]
      exact ih H locs ls hlt ⟨⟨hM, hN, hS⟩, (by rw [e9]; exact lv_sub hl [2, 1, 0] rfl)⟩
  have cut_36 : ∀ (H : Heap) (locs : List Loc), STA D cI (mA M) (lSc mv 0 0) sv H → STA D cI (nA M) (lSc mv 0 0) nv H → tr_S (nOwn M sz) s.heap H locs → ∀ ls : Array Slot, lv_has ls 5 [(0, .ref ((mA M) 0)), (1, .long (kX7_digest_36_1 mv sv nv))] → W p l e (headSpec wsX7_digest ({ frames := 4, cells := 149, slots := 1045, locals := 92 })).room s m ([.ref ((mA M) 0)] : List Value).toArray below meth c H locs 11 121 (MQ below (tr_Q (some (.long (rX7_digest mv sv nv))) (MPT D cI M (fX7_digest mv sv nv)) (nOwn M sz)) ([.ref ((mA M) 0)] : List Value).toArray s 149 1045 (nOwn M sz)) (F0 m 36 ls []) := by
    intro H locs hM hN hS ls hl
    refine lv_iconst (v := 0) hx hb dX7_digest_36 (by decide) ?_
    refine lv_istore_n (lv' := [(3, .int 0), (0, .ref ((mA M) 0)), (1, .long (kX7_digest_36_1 mv sv nv))]) hx hb dX7_digest_37 rfl hl (by decide) rfl (fun ls hl => ?_)
    have hinv := And.intro (show STA D cI (mA M) (lSc mv 0 0) sv H ∧ STA D cI (nA M) (lSc mv 0 0) nv H ∧ tr_S (nOwn M sz) s.heap H locs from ⟨hM, hN, hS⟩) hl
    clear hM hN hS hl
    revert hinv; revert ls; revert locs; revert H
    refine tr_forw (fun i H locs ls => (STA D cI (mA M) (lSc mv 0 0) sv H ∧ STA D cI (nA M) (lSc mv 0 0) nv H ∧ tr_S (nOwn M sz) s.heap H locs) ∧ lv_has ls 5 [(0, .ref ((mA M) 0)), (1, .long (itI i (bX7_digest_38 mv sv nv) (kX7_digest_36_1 mv sv nv))), (3, .int (nI i))]) ((mv.1 1).toNatClampNeg) (fun H locs ls hinv => ?_) ?_
    · obtain ⟨⟨hM, hN, hS⟩, hl⟩ := hinv
      exact ⟨⟨hM, hN, hS⟩, by rw [itI_0]; exact lv_sub hl [1, 2, 0] rfl⟩
    intro i H locs ls hi hinv ih
    obtain ⟨⟨hM, hN, hS⟩, hl⟩ := hinv
    refine lv_iload_n hx hb dX7_digest_38 rfl (lv_at hl 2 rfl) ?_
    refine lv_aload_n hx hb dX7_digest_39 rfl (lv_at hl 0 rfl) ?_
    refine tr_get (ci := 7) (C := RX7) (T := TX7) (N := 6) hx hb hts hiX7 hown hK hM.c0 rfl 1 (by decide) f7 (v := .int (mv.1 1)) rfl dX7_digest_40 ?_
    refine lv_icmp_ge (tgt := 82) hx hb dX7_digest_43 (by decide) (fun c_43 => ?_) (fun c_43 => ?_)
    · have hN : i = (mv.1 1).toNatClampNeg := tr_over rfl hi c_43
      subst hN
      exact cut_82 H locs hM hN hS ls (lv_sub hl [0, 1] rfl)
    · have hlt : i < (mv.1 1).toNatClampNeg := tr_on rfl hi c_43
      refine lv_iconst (v := 0) hx hb dX7_digest_46 (by decide) ?_
      refine lv_istore (lv' := [(4, .int 0), (0, .ref ((mA M) 0)), (1, .long (itI i (bX7_digest_38 mv sv nv) (kX7_digest_36_1 mv sv nv))), (3, .int (nI i))]) hx hb dX7_digest_47 hl (by decide) rfl (fun ls hl => ?_)
      have hinv1 := And.intro (show STA D cI (mA M) (lSc mv 0 0) sv H ∧ STA D cI (nA M) (lSc mv 0 0) nv H ∧ tr_S (nOwn M sz) s.heap H locs from ⟨hM, hN, hS⟩) hl
      clear hM hN hS hl
      revert hinv1; revert ls; revert locs; revert H
      refine tr_forw (fun i1 H locs ls => (STA D cI (mA M) (lSc mv 0 0) sv H ∧ STA D cI (nA M) (lSc mv 0 0) nv H ∧ tr_S (nOwn M sz) s.heap H locs) ∧ lv_has ls 5 [(0, .ref ((mA M) 0)), (1, .long (itI i1 (bX7_digest_49 mv sv nv i) (itI i (bX7_digest_38 mv sv nv) (kX7_digest_36_1 mv sv nv)))), (3, .int (nI i)), (4, .int (nI i1))]) (4) (fun H locs ls hinv1 => ?_) ?_
      · obtain ⟨⟨hM, hN, hS⟩, hl⟩ := hinv1
        exact ⟨⟨hM, hN, hS⟩, by rw [itI_0]; exact lv_sub hl [1, 2, 3, 0] rfl⟩
      intro i1 H locs ls hi1 hinv1 ih1
      obtain ⟨⟨hM, hN, hS⟩, hl⟩ := hinv1
      refine lv_iload hx hb dX7_digest_49 (lv_at hl 3 rfl) ?_
      refine lv_iconst (v := 4) hx hb dX7_digest_51 (by decide) ?_
      refine lv_icmp_ge (tgt := 76) hx hb dX7_digest_52 (by decide) (fun c_52 => ?_) (fun c_52 => ?_)
      · have hN1 : i1 = 4 := tr_over (rfl : (4 : Int32).toNatClampNeg = 4) hi1 c_52
        subst hN1
        refine lv_iinc (v := nI (i + 1)) (lv' := [(3, .int (nI (i + 1))), (0, .ref ((mA M) 0)), (1, .long (itI 4 (bX7_digest_49 mv sv nv i) (itI i (bX7_digest_38 mv sv nv) (kX7_digest_36_1 mv sv nv)))), (4, .int (nI 4))]) hx hb dX7_digest_76 hl (k := 2) rfl (tr_inc _) (by decide) rfl (fun ls hl => ?_)
        refine lv_goto (tgt := 38) hx hb dX7_digest_79 (by decide) ?_
        have e9 : itI (i + 1) (bX7_digest_38 mv sv nv) (kX7_digest_36_1 mv sv nv) = itI 4 (bX7_digest_49 mv sv nv i) (itI i (bX7_digest_38 mv sv nv) (kX7_digest_36_1 mv sv nv)) := by rw [itI_s, bX7_digest_38]
        exact ih H locs ls hlt ⟨⟨hM, hN, hS⟩, (by rw [e9]; exact lv_sub hl [1, 2, 0] rfl)⟩
      · have hlt1 : i1 < 4 := tr_on (rfl : (4 : Int32).toNatClampNeg = 4) hi1 c_52
        refine lv_lload_n hx hb dX7_digest_55 rfl (lv_at hl 1 rfl) ?_
        refine lv_ldc2 (v := 31) hx hb hown cl172 dX7_digest_56 ?_
        refine lv_lmul hx hb dX7_digest_59 ?_
        refine lv_aload_n hx hb dX7_digest_60 rfl (lv_at hl 0 rfl) ?_
        refine lv_iload_n hx hb dX7_digest_61 rfl (lv_at hl 2 rfl) ?_
        refine lv_iload hx hb dX7_digest_62 (lv_at hl 3 rfl) ?_
        refine tr_ri (va_runV (As := [.int (nI i), .int (nI i1)]) (rest := [.long ((itI i1 (bX7_digest_49 mv sv nv i) (itI i (bX7_digest_38 mv sv nv) (kX7_digest_36_1 mv sv nv))) * 31)]) ⟨hx, hb, hml, hown, hts⟩ (c_X7_poleTold l D cI M hMi (lSc mv 0 0) sv nv (nI i) (nI i1) hm (tr_vl rfl hlt hm.1.2 (by decide))) (cwV 2 hts gX7_digest_X7_poleTold rfl rfl rfl (by decide +kernel) ⟨Nat.le_of_ble_eq_true rfl, Nat.le_of_ble_eq_true rfl⟩) (tr_preV hK hM.c0 rfl ⟨hM, hN⟩) rfl rfl hl.1 rfl (lv_room (Nat.le_of_ble_eq_true rfl)) dX7_digest_64 ⟨show 11 + 0 ≤ 149 by omega, show 121 + 0 ≤ 1045 by omega⟩) ?_
        refine lv_i2l (v := (fX7_poleTold (lSc mv 0 0) sv nv (nI i) (nI i1)).toInt64) hx hb dX7_digest_67 rfl ?_
        refine lv_ladd hx hb dX7_digest_68 ?_
        refine lv_lstore_n (lv' := [(1, .long (((itI i1 (bX7_digest_49 mv sv nv i) (itI i (bX7_digest_38 mv sv nv) (kX7_digest_36_1 mv sv nv))) * 31) + ((fX7_poleTold (lSc mv 0 0) sv nv (nI i) (nI i1)).toInt64))), (0, .ref ((mA M) 0)), (3, .int (nI i)), (4, .int (nI i1))]) hx hb dX7_digest_69 rfl hl (by decide) rfl (fun ls hl => ?_)
        refine lv_iinc (v := nI (i1 + 1)) (lv' := [(4, .int (nI (i1 + 1))), (1, .long (((itI i1 (bX7_digest_49 mv sv nv i) (itI i (bX7_digest_38 mv sv nv) (kX7_digest_36_1 mv sv nv))) * 31) + ((fX7_poleTold (lSc mv 0 0) sv nv (nI i) (nI i1)).toInt64))), (0, .ref ((mA M) 0)), (3, .int (nI i))]) hx hb dX7_digest_70 hl (k := 3) rfl (tr_inc _) (by decide) rfl (fun ls hl => ?_)
        refine lv_goto (tgt := 49) hx hb dX7_digest_73 (by decide) ?_
        have e9 : itI (i1 + 1) (bX7_digest_49 mv sv nv i) (itI i (bX7_digest_38 mv sv nv) (kX7_digest_36_1 mv sv nv)) = ((itI i1 (bX7_digest_49 mv sv nv i) (itI i (bX7_digest_38 mv sv nv) (kX7_digest_36_1 mv sv nv))) * 31) + ((fX7_poleTold (lSc mv 0 0) sv nv (nI i) (nI i1)).toInt64) := by rw [itI_s, bX7_digest_49]
        exact ih1 H locs ls hlt1 ⟨⟨hM, hN, hS⟩, (by rw [e9]; exact lv_sub hl [2, 1, 3, 0] rfl)⟩
  have hl := lv_entry ([.ref ((mA M) 0)]) (n := 5) (Nat.le_of_ble_eq_true rfl)
  rw [lg_entry_eq]
  generalize (lg_sl ([.ref ((mA M) 0)]) ++ List.replicate (5 - (lg_sl ([.ref ((mA M) 0)])).length) Slot.unset).toArray = ls at hl ⊢
  replace hl : lv_has ls 5 [(0, .ref ((mA M) 0))] := hl
  have hS : tr_S (nOwn M sz) s.heap s.heap [] := tr_S.rf
  generalize h1 : s.heap = H, h2 : ([] : List Loc) = locs
  replace hS : tr_S (nOwn M sz) s.heap H locs := by rw [← h1, ← h2]; exact hS
  rw [h1] at hM hN
  clear h1 h2
  refine lv_aload_n hx hb dX7_digest_0 rfl (lv_at hl 0 rfl) ?_
  refine lv_iconst (v := 0) hx hb dX7_digest_1 (by decide) ?_
  refine tr_put (ci := 7) (C := RX7) (T := TX7) (N := 6) (ty := .int) (v := .int 0) hx hb hts hiX7 tyX7 tyX7_ok nmX7 hown hK hS (Or.inl (mOwn_k (k := 0) (by decide))) hM.c0 rfl 0 (by decide) f32 rfl (by decide +kernel) rfl rfl (Nat.le_of_ble_eq_true rfl) dX7_digest_2 (fun H locs hat hz hk hS => ?_)
  have hM : STA D cI (mA M) (lSc mv 0 0) sv H := hM.setM hd.1 0 hat rfl rfl hk
  have hN : STA D cI (nA M) (lSc mv 0 0) nv H := hN.setM hd.2.1 0 hat rfl rfl hk
  clear hat hz hk
  refine lv_ldc2 (v := 809) hx hb hown cl170 dX7_digest_5 ?_
  refine lv_lstore_n (lv' := [(1, .long 809), (0, .ref ((mA M) 0))]) hx hb dX7_digest_8 rfl hl (by decide) rfl (fun ls hl => ?_)
  refine lv_iconst (v := 0) hx hb dX7_digest_9 (by decide) ?_
  refine lv_istore_n (lv' := [(3, .int 0), (1, .long 809), (0, .ref ((mA M) 0))]) hx hb dX7_digest_10 rfl hl (by decide) rfl (fun ls hl => ?_)
  have hinv := And.intro (show STA D cI (mA M) (lSc mv 0 0) sv H ∧ STA D cI (nA M) (lSc mv 0 0) nv H ∧ tr_S (nOwn M sz) s.heap H locs from ⟨hM, hN, hS⟩) hl
  clear hM hN hS hl
  revert hinv; revert ls; revert locs; revert H
  refine tr_forc (G := fun i H locs ls => W p l e (headSpec wsX7_digest ({ frames := 4, cells := 149, slots := 1045, locals := 92 })).room s m (([.ref ((mA M) 0)] : List Value).toArray) below meth c H locs (0 + 1 * i) (0 + 11 * i) (MQ below (tr_Q (some (.long (rX7_digest mv sv nv))) (MPT D cI M (fX7_digest mv sv nv)) (nOwn M sz)) (([.ref ((mA M) 0)] : List Value).toArray) s 149 1045 (nOwn M sz)) (F0 m 11 ls [])) (fun i H locs ls => (STA D cI (mA M) (lSc mv 0 0) sv H ∧ STA D cI (nA M) (lSc mv 0 0) nv H ∧ tr_S (nOwn M sz) s.heap H locs) ∧ lv_has ls 5 [(0, .ref ((mA M) 0)), (1, .long (itI i (bX7_digest_11 mv sv nv) 809)), (3, .int (nI i))]) (11) (fun H locs ls hinv => ?_) ?_
  · obtain ⟨⟨hM, hN, hS⟩, hl⟩ := hinv
    exact ⟨⟨hM, hN, hS⟩, lv_sub hl [2, 1, 0] rfl⟩
  intro i H locs ls hi hinv ih
  obtain ⟨⟨hM, hN, hS⟩, hl⟩ := hinv
  refine lv_iload_n hx hb dX7_digest_11 rfl (lv_at hl 2 rfl) ?_
  refine lv_bipush (v := 11) hx hb dX7_digest_12 (by decide) ?_
  refine lv_icmp_ge (tgt := 36) hx hb dX7_digest_14 (by decide) (fun c_14 => ?_) (fun c_14 => ?_)
  · have hN : i = 11 := tr_over (rfl : (11 : Int32).toNatClampNeg = 11) hi c_14
    subst hN
    refine W.widen (k := 11) (n := 121) (by omega) (by omega) ?_
    exact cut_36 H locs hM hN hS ls (lv_sub hl [0, 1] rfl)
  · have hlt : i < 11 := tr_on (rfl : (11 : Int32).toNatClampNeg = 11) hi c_14
    refine lv_lload_n hx hb dX7_digest_17 rfl (lv_at hl 1 rfl) ?_
    refine lv_ldc2 (v := 31) hx hb hown cl172 dX7_digest_18 ?_
    refine lv_lmul hx hb dX7_digest_21 ?_
    refine lv_aload_n hx hb dX7_digest_22 rfl (lv_at hl 0 rfl) ?_
    refine lv_iload_n hx hb dX7_digest_23 rfl (lv_at hl 2 rfl) ?_
    refine tr_wNi (va_runV (As := [.int (nI i)]) (rest := [.long ((itI i (bX7_digest_11 mv sv nv) 809) * 31)]) ⟨hx, hb, hml, hown, hts⟩ (c_X7_counted l D cI M hMi (lSc mv 0 0) sv nv sz (nI i) hm hn (tr_vp hlt (by decide))) (cwV 1 hts gX7_digest_X7_counted rfl rfl rfl (by decide +kernel) ⟨Nat.le_of_ble_eq_true rfl, Nat.le_of_ble_eq_true rfl⟩) (tr_preV hK hM.c0 rfl ⟨Nat.le_trans hZ0 hS.1, hM, hN⟩) rfl rfl hl.1 rfl (lv_room (Nat.le_of_ble_eq_true rfl)) dX7_digest_24 ⟨show 0 + 1 * i + 1 ≤ 149 by omega, show 0 + 11 * i + 11 ≤ 1045 by omega⟩) hS (fun _ h => h) (fun _ h => h) (fun H locs h9 _ _ hS => ?_)
    have hM : STA D cI (mA M) (lSc mv 0 0) sv H := h9.1
    have hN : STA D cI (nA M) (lSc mv 0 0) nv H := h9.2
    clear h9
    refine lv_i2l (v := (rX7_counted (lSc mv 0 0) sv nv (nI i)).toInt64) hx hb dX7_digest_27 rfl ?_
    refine lv_ladd hx hb dX7_digest_28 ?_
    refine lv_lstore_n (lv' := [(1, .long (((itI i (bX7_digest_11 mv sv nv) 809) * 31) + ((rX7_counted (lSc mv 0 0) sv nv (nI i)).toInt64))), (0, .ref ((mA M) 0)), (3, .int (nI i))]) hx hb dX7_digest_29 rfl hl (by decide) rfl (fun ls hl => ?_)
    refine lv_iinc (v := nI (i + 1)) (lv' := [(3, .int (nI (i + 1))), (1, .long (((itI i (bX7_digest_11 mv sv nv) 809) * 31) + ((rX7_counted (lSc mv 0 0) sv nv (nI i)).toInt64))), (0, .ref ((mA M) 0))]) hx hb dX7_digest_30 hl (k := 2) rfl (tr_inc _) (by decide) rfl (fun ls hl => ?_)
    refine lv_goto (tgt := 11) hx hb dX7_digest_33 (by decide) ?_
    refine W.widen (k := 0 + 1 * (i + 1)) (n := 0 + 11 * (i + 1)) (by omega) (by omega) ?_
    have e9 : itI (i + 1) (bX7_digest_11 mv sv nv) 809 = ((itI i (bX7_digest_11 mv sv nv) 809) * 31) + ((rX7_counted (lSc mv 0 0) sv nv (nI i)).toInt64) := by rw [itI_s, bX7_digest_11]
    exact ih H locs ls hlt ⟨⟨hM, hN, hS⟩, (by rw [e9]; exact lv_sub hl [2, 1, 0] rfl)⟩
