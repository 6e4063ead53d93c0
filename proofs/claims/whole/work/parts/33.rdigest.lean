/-! the ribbon: the checksum -/
def bX5_digest_6 (v : LV) (u : LV) (i : Nat) (a : Int64) : Int64 :=
  (a * 31) + ((fX1_total v (nI i)).toInt64)
def kX5_digest_34_1 (v : LV) (u : LV) : Int64 :=
  itI 11 (bX5_digest_6 v u) 809
def bX5_digest_36 (v : LV) (u : LV) (i : Nat) (a : Int64) : Int64 :=
  (a * 31) + ((fX1_poleFact v ((nI i) / 4) ((nI i) - (nI i) / 4 * 4)).toInt64)
def kX5_digest_79_1 (v : LV) (u : LV) : Int64 :=
  itI (((v.1 0) * 4).toNatClampNeg) (bX5_digest_36 v u) (kX5_digest_34_1 v u)
def bX5_digest_81 (v : LV) (u : LV) (i : Nat) (a : Int64) : Int64 :=
  (((a * 31) + ((lAt v 0 (nI i)).toInt64)) * 31) + ((lAt v 1 (nI i)).toInt64)
def kX5_digest_145_1 (v : LV) (u : LV) : Int64 :=
  itI ((fX4_spans v).toNatClampNeg) (bX5_digest_81 v u) (kX5_digest_79_1 v u)
def bX5_digest_147 (v : LV) (u : LV) (i : Nat) (a : Int64) : Int64 :=
  (a * 31) + ((fX1_sectionFact v ((nI i) / 6) ((nI i) - (nI i) / 6 * 6)).toInt64)
def kX5_digest_193_1 (v : LV) (u : LV) : Int64 :=
  itI (((v.1 1) * 6).toNatClampNeg) (bX5_digest_147 v u) (kX5_digest_145_1 v u)
def bX5_digest_195 (v : LV) (u : LV) (i : Nat) (a : Int64) : Int64 :=
  (a * 31) + ((fX1_carFact v ((nI i) / 8) ((nI i) - (nI i) / 8 * 8)).toInt64)
def fX5_digest (v : LV) (u : LV) : Int64 :=
  itI (((v.1 2) * 8).toNatClampNeg) (bX5_digest_195 v u) (kX5_digest_193_1 v u)
set_option maxHeartbeats 4000000 in
set_option maxRecDepth 100000 in
theorem c_X5_digest (l : Launch) (D : va_G) (cI : ClassId) (z0 : Nat) (A A2 : Nat → Nat) (hd : TDis z0 A A2) (v u : LV)   : Met l yX5_digest wsX5_digest ({ frames := 5, cells := 0, slots := 0, locals := 113 }) (tr_Pc D cI [.ref z0] (TRB D cI z0 A A2 (v, u))) (vp_Sl (fun r => r = fX5_digest v u)) 0 0 (fun _ => False) := by
  refine Met.ofW (cc := cX5_digest) (maxL := 4) (ret := (some .long)) (by decide) rfl ?_
  intro p e s m args below meth c s₁ B hml hv
  obtain ⟨rfl, ⟨hZ, hL, hO⟩, hK⟩ := hv
  have hx := B.exec
  have hb := B.bytes
  have hr := B.returns
  have hts := atoms_spec (ws := wsX5_digest) B.pre
  have hown : s.vm.findClass RX5 = some m.cls := findClass_of_methodNamed B.named
  have hlocks := B.notSynchronized
  replace hL : LNE D cI A v s.heap := hL
  replace hO : LNE D cI A2 u s.heap := hO
  have hiX0 : ∀ w ∈ u_ws RX0 TX0 9, w ∈ wsX5_digest := by decide +kernel
  have hiX1 : ∀ w ∈ u_ws RX1 TX1 6, w ∈ wsX5_digest := by decide +kernel
  have hiX4 : ∀ w ∈ u_ws RX4 TX4 9, w ∈ wsX5_digest := by decide +kernel
  have hiX5 : ∀ w ∈ u_ws RX5 TX5 2, w ∈ wsX5_digest := by decide +kernel
  have cl204 := hts (.constantLong RX5 204 (809)) (by decide +kernel)
  have cl206 := hts (.constantLong RX5 206 (31)) (by decide +kernel)
  have f10 := hts (.fieldLink RX5 10 "TramRibbon" "line" "LTramRibbon$Line;") (by decide +kernel)
  have f105 := hts (.fieldLink RX5 105 "TramRibbon$Wire" "sections" "I") (by decide +kernel)
  have f155 := hts (.fieldLink RX5 155 "TramRibbon$Wire" "sectionAt" "LTramRibbon$Row;") (by decide +kernel)
  have f30 := hts (.fieldLink RX5 30 "TramRibbon$Line" "fleet" "LTramRibbon$Fleet;") (by decide +kernel)
  have f34 := hts (.fieldLink RX5 34 "TramRibbon$Fleet" "size" "I") (by decide +kernel)
  have f45 := hts (.fieldLink RX5 45 "TramRibbon$Line" "wire" "LTramRibbon$Wire;") (by decide +kernel)
  have f49 := hts (.fieldLink RX5 49 "TramRibbon$Wire" "poles" "I") (by decide +kernel)
  have f78 := hts (.fieldLink RX5 78 "TramRibbon$Wire" "slope" "LTramRibbon$Row;") (by decide +kernel)
  have cut_193 : ∀ ls : Array Slot, lv_has ls 4 [(0, .ref z0), (1, .long (kX5_digest_193_1 v u)), (3, .int (nI (((v.1 1) * 6).toNatClampNeg)))] → W p l e (headSpec wsX5_digest ({ frames := 5, cells := 0, slots := 0, locals := 113 })).room s m ([.ref z0] : List Value).toArray below meth c s.heap [] 0 0 (MQ below (vp_Sl (fun r => r = fX5_digest v u)) ([.ref z0] : List Value).toArray s 0 0 (fun _ => False)) (F0 m 193 ls []) := by
    intro ls hl
    refine lv_iconst (v := 0) hx hb dX5_digest_193 (by decide) ?_
    refine lv_istore_n (lv' := [(3, .int 0), (0, .ref z0), (1, .long (kX5_digest_193_1 v u))]) hx hb dX5_digest_194 rfl hl (by decide) rfl (fun ls hl => ?_)
    revert hl; revert ls
    refine tr_forp (fun i ls => lv_has ls 4 [(0, .ref z0), (1, .long (itI i (bX5_digest_195 v u) (kX5_digest_193_1 v u))), (3, .int (nI i))]) (((v.1 2) * 8).toNatClampNeg) (fun ls hl => by rw [itI_0]; exact lv_sub hl [1, 2, 0] rfl) ?_
    intro i ls hi hl ih
    refine lv_iload_n hx hb dX5_digest_195 rfl (lv_at hl 2 rfl) ?_
    refine lv_aload_n hx hb dX5_digest_196 rfl (lv_at hl 0 rfl) ?_
    refine tr_get (ci := 5) (C := RX5) (T := TX5) (N := 2) hx hb hts hiX5 hown hK hZ rfl 0 (by decide) f10 (v := .ref (A 0)) rfl dX5_digest_197 ?_
    refine tr_get (ci := 1) (C := RX1) (T := TX1) (N := 6) hx hb hts hiX1 hown hK hL.c0 rfl 2 (by decide) f30 (v := .ref (A 3)) rfl dX5_digest_200 ?_
    refine tr_get (ci := 0) (C := RX0) (T := TX0) (N := 9) hx hb hts hiX0 hown hK hL.c3 rfl 0 (by decide) f34 (v := .int (v.1 2)) rfl dX5_digest_203 ?_
    refine lv_bipush (v := 8) hx hb dX5_digest_206 (by decide) ?_
    refine lv_imul hx hb dX5_digest_208 ?_
    refine lv_icmp_ge (tgt := 241) hx hb dX5_digest_209 (by decide) (fun c_209 => ?_) (fun c_209 => ?_)
    · have hN : i = ((v.1 2) * 8).toNatClampNeg := tr_over rfl hi c_209
      subst hN
      refine lv_lload_n hx hb dX5_digest_241 rfl (lv_at hl 1 rfl) ?_
      exact W.lret hx hb hr (tr_endl (by rw [fX5_digest])) (fun _ h => by cases h) dX5_digest_242
    · have hlt : i < ((v.1 2) * 8).toNatClampNeg := tr_on rfl hi c_209
      refine lv_lload_n hx hb dX5_digest_212 rfl (lv_at hl 1 rfl) ?_
      refine lv_ldc2 (v := 31) hx hb hown cl206 dX5_digest_213 ?_
      refine lv_lmul hx hb dX5_digest_216 ?_
      refine lv_aload_n hx hb dX5_digest_217 rfl (lv_at hl 0 rfl) ?_
      refine tr_get (ci := 5) (C := RX5) (T := TX5) (N := 2) hx hb hts hiX5 hown hK hZ rfl 0 (by decide) f10 (v := .ref (A 0)) rfl dX5_digest_218 ?_
      refine lv_iload_n hx hb dX5_digest_221 rfl (lv_at hl 2 rfl) ?_
      refine lv_bipush (v := 8) hx hb dX5_digest_222 (by decide) ?_
      refine lv_idiv hx hb dX5_digest_224 (by decide) ?_
      refine lv_iload_n hx hb dX5_digest_225 rfl (lv_at hl 2 rfl) ?_
      refine lv_bipush (v := 8) hx hb dX5_digest_226 (by decide) ?_
      refine lv_irem hx hb dX5_digest_228 (by decide) ?_
      refine tr_ri (va_runV (As := [.int ((nI i) / 8), .int ((nI i) - (nI i) / 8 * 8)]) (rest := [.long ((itI i (bX5_digest_195 v u) (kX5_digest_193_1 v u)) * 31)]) ⟨hx, hb, hml, hown, hts⟩ (c_X1_carFact l D cI A hd.1.1 v ((nI i) / 8) ((nI i) - (nI i) / 8 * 8)) (cwV 2 hts gX5_digest_X1_carFact rfl rfl rfl (by decide +kernel) ⟨Nat.le_of_ble_eq_true rfl, Nat.le_of_ble_eq_true rfl⟩) (tr_preV hK hL.c0 rfl hL) rfl rfl hl.1 rfl (lv_room (Nat.le_of_ble_eq_true rfl)) dX5_digest_229 ⟨Nat.zero_le _, Nat.zero_le _⟩) ?_
      refine lv_i2l (v := (fX1_carFact v ((nI i) / 8) ((nI i) - (nI i) / 8 * 8)).toInt64) hx hb dX5_digest_232 rfl ?_
      refine lv_ladd hx hb dX5_digest_233 ?_
      refine lv_lstore_n (lv' := [(1, .long (((itI i (bX5_digest_195 v u) (kX5_digest_193_1 v u)) * 31) + ((fX1_carFact v ((nI i) / 8) ((nI i) - (nI i) / 8 * 8)).toInt64))), (0, .ref z0), (3, .int (nI i))]) hx hb dX5_digest_234 rfl hl (by decide) rfl (fun ls hl => ?_)
      refine lv_iinc (v := nI (i + 1)) (lv' := [(3, .int (nI (i + 1))), (1, .long (((itI i (bX5_digest_195 v u) (kX5_digest_193_1 v u)) * 31) + ((fX1_carFact v ((nI i) / 8) ((nI i) - (nI i) / 8 * 8)).toInt64))), (0, .ref z0)]) hx hb dX5_digest_235 hl (k := 2) rfl (tr_inc _) (by decide) rfl (fun ls hl => ?_)
      refine lv_goto (tgt := 195) hx hb dX5_digest_238 (by decide) ?_
      have e9 : itI (i + 1) (bX5_digest_195 v u) (kX5_digest_193_1 v u) = ((itI i (bX5_digest_195 v u) (kX5_digest_193_1 v u)) * 31) + ((fX1_carFact v ((nI i) / 8) ((nI i) - (nI i) / 8 * 8)).toInt64) := by rw [itI_s, bX5_digest_195]
      exact ih ls hlt (by rw [e9]; exact lv_sub hl [2, 1, 0] rfl)
  have cut_145 : ∀ ls : Array Slot, lv_has ls 4 [(0, .ref z0), (1, .long (kX5_digest_145_1 v u)), (3, .int (nI ((fX4_spans v).toNatClampNeg)))] → W p l e (headSpec wsX5_digest ({ frames := 5, cells := 0, slots := 0, locals := 113 })).room s m ([.ref z0] : List Value).toArray below meth c s.heap [] 0 0 (MQ below (vp_Sl (fun r => r = fX5_digest v u)) ([.ref z0] : List Value).toArray s 0 0 (fun _ => False)) (F0 m 145 ls []) := by
    intro ls hl
    refine lv_iconst (v := 0) hx hb dX5_digest_145 (by decide) ?_
    refine lv_istore_n (lv' := [(3, .int 0), (0, .ref z0), (1, .long (kX5_digest_145_1 v u))]) hx hb dX5_digest_146 rfl hl (by decide) rfl (fun ls hl => ?_)
    revert hl; revert ls
    refine tr_forp (fun i ls => lv_has ls 4 [(0, .ref z0), (1, .long (itI i (bX5_digest_147 v u) (kX5_digest_145_1 v u))), (3, .int (nI i))]) (((v.1 1) * 6).toNatClampNeg) (fun ls hl => by rw [itI_0]; exact lv_sub hl [1, 2, 0] rfl) ?_
    intro i ls hi hl ih
    refine lv_iload_n hx hb dX5_digest_147 rfl (lv_at hl 2 rfl) ?_
    refine lv_aload_n hx hb dX5_digest_148 rfl (lv_at hl 0 rfl) ?_
    refine tr_get (ci := 5) (C := RX5) (T := TX5) (N := 2) hx hb hts hiX5 hown hK hZ rfl 0 (by decide) f10 (v := .ref (A 0)) rfl dX5_digest_149 ?_
    refine tr_get (ci := 1) (C := RX1) (T := TX1) (N := 6) hx hb hts hiX1 hown hK hL.c0 rfl 0 (by decide) f45 (v := .ref (A 1)) rfl dX5_digest_152 ?_
    refine tr_get (ci := 4) (C := RX4) (T := TX4) (N := 9) hx hb hts hiX4 hown hK hL.c1 rfl 1 (by decide) f105 (v := .int (v.1 1)) rfl dX5_digest_155 ?_
    refine lv_bipush (v := 6) hx hb dX5_digest_158 (by decide) ?_
    refine lv_imul hx hb dX5_digest_160 ?_
    refine lv_icmp_ge (tgt := 193) hx hb dX5_digest_161 (by decide) (fun c_161 => ?_) (fun c_161 => ?_)
    · have hN : i = ((v.1 1) * 6).toNatClampNeg := tr_over rfl hi c_161
      subst hN
      exact cut_193 ls (lv_sub hl [0, 1, 2] rfl)
    · have hlt : i < ((v.1 1) * 6).toNatClampNeg := tr_on rfl hi c_161
      refine lv_lload_n hx hb dX5_digest_164 rfl (lv_at hl 1 rfl) ?_
      refine lv_ldc2 (v := 31) hx hb hown cl206 dX5_digest_165 ?_
      refine lv_lmul hx hb dX5_digest_168 ?_
      refine lv_aload_n hx hb dX5_digest_169 rfl (lv_at hl 0 rfl) ?_
      refine tr_get (ci := 5) (C := RX5) (T := TX5) (N := 2) hx hb hts hiX5 hown hK hZ rfl 0 (by decide) f10 (v := .ref (A 0)) rfl dX5_digest_170 ?_
      refine lv_iload_n hx hb dX5_digest_173 rfl (lv_at hl 2 rfl) ?_
      refine lv_bipush (v := 6) hx hb dX5_digest_174 (by decide) ?_
      refine lv_idiv hx hb dX5_digest_176 (by decide) ?_
      refine lv_iload_n hx hb dX5_digest_177 rfl (lv_at hl 2 rfl) ?_
      refine lv_bipush (v := 6) hx hb dX5_digest_178 (by decide) ?_
      refine lv_irem hx hb dX5_digest_180 (by decide) ?_
      refine tr_ri (va_runV (As := [.int ((nI i) / 6), .int ((nI i) - (nI i) / 6 * 6)]) (rest := [.long ((itI i (bX5_digest_147 v u) (kX5_digest_145_1 v u)) * 31)]) ⟨hx, hb, hml, hown, hts⟩ (c_X1_sectionFact l D cI A hd.1.1 v ((nI i) / 6) ((nI i) - (nI i) / 6 * 6)) (cwV 2 hts gX5_digest_X1_sectionFact rfl rfl rfl (by decide +kernel) ⟨Nat.le_of_ble_eq_true rfl, Nat.le_of_ble_eq_true rfl⟩) (tr_preV hK hL.c0 rfl hL) rfl rfl hl.1 rfl (lv_room (Nat.le_of_ble_eq_true rfl)) dX5_digest_181 ⟨Nat.zero_le _, Nat.zero_le _⟩) ?_
      refine lv_i2l (v := (fX1_sectionFact v ((nI i) / 6) ((nI i) - (nI i) / 6 * 6)).toInt64) hx hb dX5_digest_184 rfl ?_
      refine lv_ladd hx hb dX5_digest_185 ?_
      refine lv_lstore_n (lv' := [(1, .long (((itI i (bX5_digest_147 v u) (kX5_digest_145_1 v u)) * 31) + ((fX1_sectionFact v ((nI i) / 6) ((nI i) - (nI i) / 6 * 6)).toInt64))), (0, .ref z0), (3, .int (nI i))]) hx hb dX5_digest_186 rfl hl (by decide) rfl (fun ls hl => ?_)
      refine lv_iinc (v := nI (i + 1)) (lv' := [(3, .int (nI (i + 1))), (1, .long (((itI i (bX5_digest_147 v u) (kX5_digest_145_1 v u)) * 31) + ((fX1_sectionFact v ((nI i) / 6) ((nI i) - (nI i) / 6 * 6)).toInt64))), (0, .ref z0)]) hx hb dX5_digest_187 hl (k := 2) rfl (tr_inc _) (by decide) rfl (fun ls hl => ?_)
      refine lv_goto (tgt := 147) hx hb dX5_digest_190 (by decide) ?_
      have e9 : itI (i + 1) (bX5_digest_147 v u) (kX5_digest_145_1 v u) = ((itI i (bX5_digest_147 v u) (kX5_digest_145_1 v u)) * 31) + ((fX1_sectionFact v ((nI i) / 6) ((nI i) - (nI i) / 6 * 6)).toInt64) := by rw [itI_s, bX5_digest_147]
      exact ih ls hlt (by rw [e9]; exact lv_sub hl [2, 1, 0] rfl)
  have cut_79 : ∀ ls : Array Slot, lv_has ls 4 [(0, .ref z0), (1, .long (kX5_digest_79_1 v u)), (3, .int (nI (((v.1 0) * 4).toNatClampNeg)))] → W p l e (headSpec wsX5_digest ({ frames := 5, cells := 0, slots := 0, locals := 113 })).room s m ([.ref z0] : List Value).toArray below meth c s.heap [] 0 0 (MQ below (vp_Sl (fun r => r = fX5_digest v u)) ([.ref z0] : List Value).toArray s 0 0 (fun _ => False)) (F0 m 79 ls []) := by
    intro ls hl
    refine lv_iconst (v := 0) hx hb dX5_digest_79 (by decide) ?_
    refine lv_istore_n (lv' := [(3, .int 0), (0, .ref z0), (1, .long (kX5_digest_79_1 v u))]) hx hb dX5_digest_80 rfl hl (by decide) rfl (fun ls hl => ?_)
    revert hl; revert ls
    refine tr_forp (fun i ls => lv_has ls 4 [(0, .ref z0), (1, .long (itI i (bX5_digest_81 v u) (kX5_digest_79_1 v u))), (3, .int (nI i))]) ((fX4_spans v).toNatClampNeg) (fun ls hl => by rw [itI_0]; exact lv_sub hl [1, 2, 0] rfl) ?_
    intro i ls hi hl ih
    refine lv_iload_n hx hb dX5_digest_81 rfl (lv_at hl 2 rfl) ?_
    refine lv_aload_n hx hb dX5_digest_82 rfl (lv_at hl 0 rfl) ?_
    refine tr_get (ci := 5) (C := RX5) (T := TX5) (N := 2) hx hb hts hiX5 hown hK hZ rfl 0 (by decide) f10 (v := .ref (A 0)) rfl dX5_digest_83 ?_
    refine tr_get (ci := 1) (C := RX1) (T := TX1) (N := 6) hx hb hts hiX1 hown hK hL.c0 rfl 0 (by decide) f45 (v := .ref (A 1)) rfl dX5_digest_86 ?_
    refine tr_ri (va_runV (As := []) (rest := [.int (nI i)]) ⟨hx, hb, hml, hown, hts⟩ (c_X4_spans l D cI A hd.1.1 v ) (cwV 0 hts gX5_digest_X4_spans rfl rfl rfl (by decide +kernel) ⟨Nat.le_of_ble_eq_true rfl, Nat.le_of_ble_eq_true rfl⟩) (tr_preV hK hL.c1 rfl hL) rfl rfl hl.1 rfl (lv_room (Nat.le_of_ble_eq_true rfl)) dX5_digest_89 ⟨Nat.zero_le _, Nat.zero_le _⟩) ?_
    refine lv_icmp_ge (tgt := 145) hx hb dX5_digest_92 (by decide) (fun c_92 => ?_) (fun c_92 => ?_)
    · have hN : i = (fX4_spans v).toNatClampNeg := tr_over rfl hi c_92
      subst hN
      exact cut_145 ls (lv_sub hl [0, 1, 2] rfl)
    · have hlt : i < (fX4_spans v).toNatClampNeg := tr_on rfl hi c_92
      refine lv_lload_n hx hb dX5_digest_95 rfl (lv_at hl 1 rfl) ?_
      refine lv_ldc2 (v := 31) hx hb hown cl206 dX5_digest_96 ?_
      refine lv_lmul hx hb dX5_digest_99 ?_
      refine lv_aload_n hx hb dX5_digest_100 rfl (lv_at hl 0 rfl) ?_
      refine tr_get (ci := 5) (C := RX5) (T := TX5) (N := 2) hx hb hts hiX5 hown hK hZ rfl 0 (by decide) f10 (v := .ref (A 0)) rfl dX5_digest_101 ?_
      refine tr_get (ci := 1) (C := RX1) (T := TX1) (N := 6) hx hb hts hiX1 hown hK hL.c0 rfl 0 (by decide) f45 (v := .ref (A 1)) rfl dX5_digest_104 ?_
      refine tr_get (ci := 4) (C := RX4) (T := TX4) (N := 9) hx hb hts hiX4 hown hK hL.c1 rfl 2 (by decide) f78 (v := .ref (A 4)) rfl dX5_digest_107 ?_
      refine lv_iload_n hx hb dX5_digest_110 rfl (lv_at hl 2 rfl) ?_
      refine tr_ri (va_runV (As := [.int (nI i)]) (rest := [.long ((itI i (bX5_digest_81 v u) (kX5_digest_79_1 v u)) * 31)]) ⟨hx, hb, hml, hown, hts⟩ (c_lat l D cI A hd.1.1 v 0 (by decide) (nI i)) (cwV 1 hts gX5_digest_X2_at rfl rfl rfl (by decide +kernel) ⟨Nat.le_of_ble_eq_true rfl, Nat.le_of_ble_eq_true rfl⟩) (tr_preV hK (hL.robj 0 (by decide)) rfl (hL.row 0 (by decide))) rfl rfl hl.1 rfl (lv_room (Nat.le_of_ble_eq_true rfl)) dX5_digest_111 ⟨Nat.zero_le _, Nat.zero_le _⟩) ?_
      refine lv_i2l (v := (lAt v 0 (nI i)).toInt64) hx hb dX5_digest_114 rfl ?_
      refine lv_ladd hx hb dX5_digest_115 ?_
      refine lv_lstore_n (lv' := [(1, .long (((itI i (bX5_digest_81 v u) (kX5_digest_79_1 v u)) * 31) + ((lAt v 0 (nI i)).toInt64))), (0, .ref z0), (3, .int (nI i))]) hx hb dX5_digest_116 rfl hl (by decide) rfl (fun ls hl => ?_)
      refine lv_lload_n hx hb dX5_digest_117 rfl (lv_at hl 0 rfl) ?_
      refine lv_ldc2 (v := 31) hx hb hown cl206 dX5_digest_118 ?_
      refine lv_lmul hx hb dX5_digest_121 ?_
      refine lv_aload_n hx hb dX5_digest_122 rfl (lv_at hl 1 rfl) ?_
      refine tr_get (ci := 5) (C := RX5) (T := TX5) (N := 2) hx hb hts hiX5 hown hK hZ rfl 0 (by decide) f10 (v := .ref (A 0)) rfl dX5_digest_123 ?_
      refine tr_get (ci := 1) (C := RX1) (T := TX1) (N := 6) hx hb hts hiX1 hown hK hL.c0 rfl 0 (by decide) f45 (v := .ref (A 1)) rfl dX5_digest_126 ?_
      refine tr_get (ci := 4) (C := RX4) (T := TX4) (N := 9) hx hb hts hiX4 hown hK hL.c1 rfl 3 (by decide) f155 (v := .ref (A 6)) rfl dX5_digest_129 ?_
      refine lv_iload_n hx hb dX5_digest_132 rfl (lv_at hl 2 rfl) ?_
      refine tr_ri (va_runV (As := [.int (nI i)]) (rest := [.long ((((itI i (bX5_digest_81 v u) (kX5_digest_79_1 v u)) * 31) + ((lAt v 0 (nI i)).toInt64)) * 31)]) ⟨hx, hb, hml, hown, hts⟩ (c_lat l D cI A hd.1.1 v 1 (by decide) (nI i)) (cwV 1 hts gX5_digest_X2_at rfl rfl rfl (by decide +kernel) ⟨Nat.le_of_ble_eq_true rfl, Nat.le_of_ble_eq_true rfl⟩) (tr_preV hK (hL.robj 1 (by decide)) rfl (hL.row 1 (by decide))) rfl rfl hl.1 rfl (lv_room (Nat.le_of_ble_eq_true rfl)) dX5_digest_133 ⟨Nat.zero_le _, Nat.zero_le _⟩) ?_
      refine lv_i2l (v := (lAt v 1 (nI i)).toInt64) hx hb dX5_digest_136 rfl ?_
      refine lv_ladd hx hb dX5_digest_137 ?_
      refine lv_lstore_n (lv' := [(1, .long (((((itI i (bX5_digest_81 v u) (kX5_digest_79_1 v u)) * 31) + ((lAt v 0 (nI i)).toInt64)) * 31) + ((lAt v 1 (nI i)).toInt64))), (0, .ref z0), (3, .int (nI i))]) hx hb dX5_digest_138 rfl hl (by decide) rfl (fun ls hl => ?_)
      refine lv_iinc (v := nI (i + 1)) (lv' := [(3, .int (nI (i + 1))), (1, .long (((((itI i (bX5_digest_81 v u) (kX5_digest_79_1 v u)) * 31) + ((lAt v 0 (nI i)).toInt64)) * 31) + ((lAt v 1 (nI i)).toInt64))), (0, .ref z0)]) hx hb dX5_digest_139 hl (k := 2) rfl (tr_inc _) (by decide) rfl (fun ls hl => ?_)
      refine lv_goto (tgt := 81) hx hb dX5_digest_142 (by decide) ?_
      have e9 : itI (i + 1) (bX5_digest_81 v u) (kX5_digest_79_1 v u) = ((((itI i (bX5_digest_81 v u) (kX5_digest_79_1 v u)) * 31) + ((lAt v 0 (nI i)).toInt64)) * 31) + ((lAt v 1 (nI i)).toInt64) := by rw [itI_s, bX5_digest_81]
      exact ih ls hlt (by rw [e9]; exact lv_sub hl [2, 1, 0] rfl)
  have cut_34 : ∀ ls : Array Slot, lv_has ls 4 [(0, .ref z0), (1, .long (kX5_digest_34_1 v u)), (3, .int (nI 11))] → W p l e (headSpec wsX5_digest ({ frames := 5, cells := 0, slots := 0, locals := 113 })).room s m ([.ref z0] : List Value).toArray below meth c s.heap [] 0 0 (MQ below (vp_Sl (fun r => r = fX5_digest v u)) ([.ref z0] : List Value).toArray s 0 0 (fun _ => False)) (F0 m 34 ls []) := by
    intro ls hl
    refine lv_iconst (v := 0) hx hb dX5_digest_34 (by decide) ?_
    refine lv_istore_n (lv' := [(3, .int 0), (0, .ref z0), (1, .long (kX5_digest_34_1 v u))]) hx hb dX5_digest_35 rfl hl (by decide) rfl (fun ls hl => ?_)
    revert hl; revert ls
    refine tr_forp (fun i ls => lv_has ls 4 [(0, .ref z0), (1, .long (itI i (bX5_digest_36 v u) (kX5_digest_34_1 v u))), (3, .int (nI i))]) (((v.1 0) * 4).toNatClampNeg) (fun ls hl => by rw [itI_0]; exact lv_sub hl [1, 2, 0] rfl) ?_
    intro i ls hi hl ih
    refine lv_iload_n hx hb dX5_digest_36 rfl (lv_at hl 2 rfl) ?_
    refine lv_aload_n hx hb dX5_digest_37 rfl (lv_at hl 0 rfl) ?_
    refine tr_get (ci := 5) (C := RX5) (T := TX5) (N := 2) hx hb hts hiX5 hown hK hZ rfl 0 (by decide) f10 (v := .ref (A 0)) rfl dX5_digest_38 ?_
    refine tr_get (ci := 1) (C := RX1) (T := TX1) (N := 6) hx hb hts hiX1 hown hK hL.c0 rfl 0 (by decide) f45 (v := .ref (A 1)) rfl dX5_digest_41 ?_
    refine tr_get (ci := 4) (C := RX4) (T := TX4) (N := 9) hx hb hts hiX4 hown hK hL.c1 rfl 0 (by decide) f49 (v := .int (v.1 0)) rfl dX5_digest_44 ?_
    refine lv_iconst (v := 4) hx hb dX5_digest_47 (by decide) ?_
    refine lv_imul hx hb dX5_digest_48 ?_
    refine lv_icmp_ge (tgt := 79) hx hb dX5_digest_49 (by decide) (fun c_49 => ?_) (fun c_49 => ?_)
    · have hN : i = ((v.1 0) * 4).toNatClampNeg := tr_over rfl hi c_49
      subst hN
      exact cut_79 ls (lv_sub hl [0, 1, 2] rfl)
    · have hlt : i < ((v.1 0) * 4).toNatClampNeg := tr_on rfl hi c_49
      refine lv_lload_n hx hb dX5_digest_52 rfl (lv_at hl 1 rfl) ?_
      refine lv_ldc2 (v := 31) hx hb hown cl206 dX5_digest_53 ?_
      refine lv_lmul hx hb dX5_digest_56 ?_
      refine lv_aload_n hx hb dX5_digest_57 rfl (lv_at hl 0 rfl) ?_
      refine tr_get (ci := 5) (C := RX5) (T := TX5) (N := 2) hx hb hts hiX5 hown hK hZ rfl 0 (by decide) f10 (v := .ref (A 0)) rfl dX5_digest_58 ?_
      refine lv_iload_n hx hb dX5_digest_61 rfl (lv_at hl 2 rfl) ?_
      refine lv_iconst (v := 4) hx hb dX5_digest_62 (by decide) ?_
      refine lv_idiv hx hb dX5_digest_63 (by decide) ?_
      refine lv_iload_n hx hb dX5_digest_64 rfl (lv_at hl 2 rfl) ?_
      refine lv_iconst (v := 4) hx hb dX5_digest_65 (by decide) ?_
      refine lv_irem hx hb dX5_digest_66 (by decide) ?_
      refine tr_ri (va_runV (As := [.int ((nI i) / 4), .int ((nI i) - (nI i) / 4 * 4)]) (rest := [.long ((itI i (bX5_digest_36 v u) (kX5_digest_34_1 v u)) * 31)]) ⟨hx, hb, hml, hown, hts⟩ (c_X1_poleFact l D cI A hd.1.1 v ((nI i) / 4) ((nI i) - (nI i) / 4 * 4)) (cwV 2 hts gX5_digest_X1_poleFact rfl rfl rfl (by decide +kernel) ⟨Nat.le_of_ble_eq_true rfl, Nat.le_of_ble_eq_true rfl⟩) (tr_preV hK hL.c0 rfl hL) rfl rfl hl.1 rfl (lv_room (Nat.le_of_ble_eq_true rfl)) dX5_digest_67 ⟨Nat.zero_le _, Nat.zero_le _⟩) ?_
      refine lv_i2l (v := (fX1_poleFact v ((nI i) / 4) ((nI i) - (nI i) / 4 * 4)).toInt64) hx hb dX5_digest_70 rfl ?_
      refine lv_ladd hx hb dX5_digest_71 ?_
      refine lv_lstore_n (lv' := [(1, .long (((itI i (bX5_digest_36 v u) (kX5_digest_34_1 v u)) * 31) + ((fX1_poleFact v ((nI i) / 4) ((nI i) - (nI i) / 4 * 4)).toInt64))), (0, .ref z0), (3, .int (nI i))]) hx hb dX5_digest_72 rfl hl (by decide) rfl (fun ls hl => ?_)
      refine lv_iinc (v := nI (i + 1)) (lv' := [(3, .int (nI (i + 1))), (1, .long (((itI i (bX5_digest_36 v u) (kX5_digest_34_1 v u)) * 31) + ((fX1_poleFact v ((nI i) / 4) ((nI i) - (nI i) / 4 * 4)).toInt64))), (0, .ref z0)]) hx hb dX5_digest_73 hl (k := 2) rfl (tr_inc _) (by decide) rfl (fun ls hl => ?_)
      refine lv_goto (tgt := 36) hx hb dX5_digest_76 (by decide) ?_
      have e9 : itI (i + 1) (bX5_digest_36 v u) (kX5_digest_34_1 v u) = ((itI i (bX5_digest_36 v u) (kX5_digest_34_1 v u)) * 31) + ((fX1_poleFact v ((nI i) / 4) ((nI i) - (nI i) / 4 * 4)).toInt64) := by rw [itI_s, bX5_digest_36]
      exact ih ls hlt (by rw [e9]; exact lv_sub hl [2, 1, 0] rfl)
  have hl := lv_entry ([.ref z0]) (n := 4) (Nat.le_of_ble_eq_true rfl)
  rw [lg_entry_eq]
  generalize (lg_sl ([.ref z0]) ++ List.replicate (4 - (lg_sl ([.ref z0])).length) Slot.unset).toArray = ls at hl ⊢
  replace hl : lv_has ls 4 [(0, .ref z0)] := hl
  refine lv_ldc2 (v := 809) hx hb hown cl204 dX5_digest_0 ?_
  refine lv_lstore_n (lv' := [(1, .long 809), (0, .ref z0)]) hx hb dX5_digest_3 rfl hl (by decide) rfl (fun ls hl => ?_)
  refine lv_iconst (v := 0) hx hb dX5_digest_4 (by decide) ?_
  refine lv_istore_n (lv' := [(3, .int 0), (1, .long 809), (0, .ref z0)]) hx hb dX5_digest_5 rfl hl (by decide) rfl (fun ls hl => ?_)
  revert hl; revert ls
  refine tr_forp (fun i ls => lv_has ls 4 [(0, .ref z0), (1, .long (itI i (bX5_digest_6 v u) 809)), (3, .int (nI i))]) (11) (fun ls hl => lv_sub hl [2, 1, 0] rfl) ?_
  intro i ls hi hl ih
  refine lv_iload_n hx hb dX5_digest_6 rfl (lv_at hl 2 rfl) ?_
  refine lv_bipush (v := 11) hx hb dX5_digest_7 (by decide) ?_
  refine lv_icmp_ge (tgt := 34) hx hb dX5_digest_9 (by decide) (fun c_9 => ?_) (fun c_9 => ?_)
  · have hN : i = 11 := tr_over (rfl : (11 : Int32).toNatClampNeg = 11) hi c_9
    subst hN
    exact cut_34 ls (lv_sub hl [0, 1, 2] rfl)
  · have hlt : i < 11 := tr_on (rfl : (11 : Int32).toNatClampNeg = 11) hi c_9
    refine lv_lload_n hx hb dX5_digest_12 rfl (lv_at hl 1 rfl) ?_
    refine lv_ldc2 (v := 31) hx hb hown cl206 dX5_digest_13 ?_
    refine lv_lmul hx hb dX5_digest_16 ?_
    refine lv_aload_n hx hb dX5_digest_17 rfl (lv_at hl 0 rfl) ?_
    refine tr_get (ci := 5) (C := RX5) (T := TX5) (N := 2) hx hb hts hiX5 hown hK hZ rfl 0 (by decide) f10 (v := .ref (A 0)) rfl dX5_digest_18 ?_
    refine lv_iload_n hx hb dX5_digest_21 rfl (lv_at hl 2 rfl) ?_
    refine tr_ri (va_runV (As := [.int (nI i)]) (rest := [.long ((itI i (bX5_digest_6 v u) 809) * 31)]) ⟨hx, hb, hml, hown, hts⟩ (c_X1_total l D cI A hd.1.1 v (nI i)) (cwV 1 hts gX5_digest_X1_total rfl rfl rfl (by decide +kernel) ⟨Nat.le_of_ble_eq_true rfl, Nat.le_of_ble_eq_true rfl⟩) (tr_preV hK hL.c0 rfl hL) rfl rfl hl.1 rfl (lv_room (Nat.le_of_ble_eq_true rfl)) dX5_digest_22 ⟨Nat.zero_le _, Nat.zero_le _⟩) ?_
    refine lv_i2l (v := (fX1_total v (nI i)).toInt64) hx hb dX5_digest_25 rfl ?_
    refine lv_ladd hx hb dX5_digest_26 ?_
    refine lv_lstore_n (lv' := [(1, .long (((itI i (bX5_digest_6 v u) 809) * 31) + ((fX1_total v (nI i)).toInt64))), (0, .ref z0), (3, .int (nI i))]) hx hb dX5_digest_27 rfl hl (by decide) rfl (fun ls hl => ?_)
    refine lv_iinc (v := nI (i + 1)) (lv' := [(3, .int (nI (i + 1))), (1, .long (((itI i (bX5_digest_6 v u) 809) * 31) + ((fX1_total v (nI i)).toInt64))), (0, .ref z0)]) hx hb dX5_digest_28 hl (k := 2) rfl (tr_inc _) (by decide) rfl (fun ls hl => ?_)
    refine lv_goto (tgt := 6) hx hb dX5_digest_31 (by decide) ?_
    have e9 : itI (i + 1) (bX5_digest_6 v u) 809 = ((itI i (bX5_digest_6 v u) 809) * 31) + ((fX1_total v (nI i)).toInt64) := by rw [itI_s, bX5_digest_6]
    exact ih ls hlt (by rw [e9]; exact lv_sub hl [2, 1, 0] rfl)
