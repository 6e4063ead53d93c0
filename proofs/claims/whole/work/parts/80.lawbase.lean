/-! THE LAW, base: what a caught exception asks of the tables; the cell of out; a call that may throw -/
def tr_cst : List Cond := [.castable "java/lang/IllegalArgumentException" "java/lang/IllegalArgumentException", .castable "java/lang/IllegalStateException" "java/lang/IllegalStateException", .castable "java/lang/IndexOutOfBoundsException" "java/lang/IndexOutOfBoundsException"]
theorem tr_cst_t : ∀ w ∈ tr_cst, w.onTables = true := by decide +kernel
theorem tr_cst_f : ∀ w ∈ tr_cst, w.keepsFace = true := by decide +kernel
theorem tr_cst_w {w : Cond} (hw : w ∈ tr_cst) {s U : State} (hW : s.WarmedH U.vm) (h : w.before #[] s = true) : w.before #[] U = true := by
  have h1 : w.before #[] (s.setVm U.vm) = true := Cond.before_shiftedFace (State.Shifted.of_warmed hW) _ (tr_cst_f w hw) h
  exact va_tabs (tr_cst_t w hw) (rfl : (s.setVm U.vm).vm = U.vm) h1
def tr_ncs : List (String × String) := [("java/lang/IllegalArgumentException", "java/lang/IllegalStateException"), ("java/lang/IllegalArgumentException", "java/lang/IndexOutOfBoundsException"), ("java/lang/IllegalStateException", "java/lang/IllegalArgumentException"), ("java/lang/IllegalStateException", "java/lang/IndexOutOfBoundsException"), ("java/lang/IndexOutOfBoundsException", "java/lang/IllegalArgumentException"), ("java/lang/IndexOutOfBoundsException", "java/lang/IllegalStateException")]
/-- each of the three classes is its own, and none of the others -/
def HK (U : State) : Prop := (∀ w ∈ tr_cst, w.before #[] U = true) ∧ ∀ q ∈ tr_ncs, va_Nc q.1 q.2 U
theorem HK.warm {s U : State} (hW : s.WarmedH U.vm) (h : HK s) : HK U := ⟨fun w hw => tr_cst_w hw hW (h.1 w hw), fun q hq => va_Nc.moved hW.alike (h.2 q hq)⟩
theorem HK.calling {U : State} {g : JFrame} {mk : MethodId} {a : Array Value} (h : HK U) : HK (U.calling g mk a) := ⟨fun w hw => va_tabs (tr_cst_t w hw) (rfl : U.vm = (U.calling g mk a).vm) (h.1 w hw), fun q hq => va_Nc.moved (u := U) (U := U.calling g mk a) (Vm.Alike.refl U.vm) (h.2 q hq)⟩
def HPc (D : va_G) (cI cJ : ClassId) (av : List Value) (Pre : Heap → Prop) : Array Value → State → Prop := va_Pc av (fun U => ((Pre U.heap ∧ TK D cI U) ∧ XK U U.heap) ∧ va_K D vwCl [(cJ, .long)] U ∧ HK U)
theorem HPc_blind {D : va_G} {cI cJ : ClassId} {av : List Value} {Pre : Heap → Prop} : FrameBlind (HPc D cI cJ av Pre) := fun a U g mk q => ⟨q.1, ⟨⟨q.2.1.1.1, q.2.1.1.2.calling⟩, q.2.1.2.calling⟩, va_K.moved (u := U) (U := U.calling g mk a) (Vm.Alike.refl U.vm) q.2.2.1, q.2.2.2.calling⟩
/-- the number of an exception in a list -/
def cod (L : List String) (x : Option String) : Int32 := match x with
  | none => 0
  | some E => nI (L.idxOf E + 1)
/-- the cell of out -/
def oat (D : va_G) (cJ : ClassId) (oa : Nat) (y : Int64) (H : Heap) : Prop := va_at D vwCl (oa, .inl (cJ, 1, .inr (.inl (fun _ => y)))) H
theorem oat.kept {D : va_G} {cJ : ClassId} {oa : Nat} {y : Int64} {H H1 : Heap} (h : oat D cJ oa y H) (e : H1[oa]? = H[oa]?) : oat D cJ oa y H1 := va_at.kept h e
theorem oat.lt {D : va_G} {cJ : ClassId} {oa : Nat} {y : Int64} {H : Heap} (h : oat D cJ oa y H) : oa < H.size := va_at.lt h
theorem oat_of {D : va_G} {cJ : ClassId} {oa : Nat} {y z : Int64} {H : Heap} (h : va_at D vwCl (oa, .inl (cJ, 1, .inr (.inl (vp_updL (fun _ => z) (0 : Int32).toNatClampNeg y)))) H) : oat D cJ oa y H := by
  have h1 : H[oa]? = some (vp_cell cJ (1, .inr (.inl (vp_updL (fun _ => z) (0 : Int32).toNatClampNeg y)))) := h
  show H[oa]? = some (vp_cell cJ (1, .inr (.inl (fun _ => y))))
  rw [h1, vp_cell_l, vp_cell_l]
  unfold arrV
  congr 3
  funext j
  have hj : j.val = 0 := by omega
  show Value.long (vp_updL (fun _ => z) (0 : Int32).toNatClampNeg y j.val) = Value.long y
  rw [hj]
  rfl
theorem TRB.kept {D : va_G} {cI : ClassId} {z0 : Nat} {A A2 : Nat → Nat} {t : LV × LV} {H H1 : Heap} (h : TRB D cI z0 A A2 t H) (h0 : H1[z0]? = H[z0]?) (h1 : ∀ k, k < 38 → H1[A k]? = H[A k]?) (h2 : ∀ k, k < 38 → H1[A2 k]? = H[A2 k]?) : TRB D cI z0 A A2 t H1 := ⟨va_at.kept h.1 h0, h.2.1.keep h1, h.2.2.keep h2⟩
theorem TRB.keptAll {D : va_G} {cI : ClassId} {z0 : Nat} {A A2 : Nat → Nat} {t : LV × LV} {H H1 : Heap} (h : TRB D cI z0 A A2 t H) (hk : ∀ q : Nat, q < H.size → H1[q]? = H[q]?) : TRB D cI z0 A A2 t H1 := h.kept (hk _ (va_at.lt h.1)) (fun k hk2 => hk _ (va_at.lt (h.2.1 k hk2))) (fun k hk2 => hk _ (va_at.lt (h.2.2 k hk2)))
/-- out lies apart from the ribbon -/
def OApart (z0 : Nat) (A A2 : Nat → Nat) (oa : Nat) : Prop := oa ≠ z0 ∧ ∀ k, k < 38 → A k ≠ oa ∧ A2 k ≠ oa
theorem OApart.own {z0 : Nat} {A A2 : Nat → Nat} {oa : Nat} (h : OApart z0 A A2 oa) : ¬ tOwn A A2 oa := fun q => by
  rcases q with ⟨k, hk, e⟩ | ⟨k, hk, e⟩
  · exact (h.2 k hk).1 e.symm
  · exact (h.2 k hk).2 e.symm
theorem TRB.keptO {D : va_G} {cI : ClassId} {z0 : Nat} {A A2 : Nat → Nat} {oa : Nat} {t : LV × LV} {H H1 : Heap} (ho : OApart z0 A A2 oa) (h : TRB D cI z0 A A2 t H) (hk : ∀ q : Nat, q ≠ oa → H1[q]? = H[q]?) : TRB D cI z0 A A2 t H1 := h.kept (hk _ (Ne.symm ho.1)) (fun k hk2 => hk _ (ho.2 k hk2).1) (fun k hk2 => hk _ (ho.2 k hk2).2)
def hOwn (A A2 : Nat → Nat) (oa : Nat) : Nat → Prop := fun q => tOwn A A2 q ∨ q = oa
theorem met_of_vx {l : Launch} {y : MethodName} {ws : List Cond} {rm : Room} {Pc : Array Value → State → Prop} {Qc : Array Value → State → Outcome → State → Prop} {mc ms : Nat} {free : Addr → Prop} (h : vx_Met l y ws rm Pc Qc (fun _ _ _ => False) mc ms free) : Met l y ws rm Pc Qc mc ms free :=
  MetFree.mono h (fun _ _ q => q) (fun _ _ _ _ _ k => k) (fun _ _ _ _ _ q => q.elim id (fun ⟨_, _, _, _, _, hx, _⟩ => hx.elim))
section TRX
variable {p : Program} {l : Launch} {e : Env} {R : Room} {s : State} {m : MethodId} {args : Array Value} {below : List Frame} {meth : Method} {c : Code} {H : Heap} {locs : List Loc} {cells slots : Nat} {Q : State → Prop}
variable {cc : ByteArray} {pc : Nat} {ls : Array Slot} {rest : List Value} {D : va_G} {cI cJ : ClassId} {a : Nat} {H0 : Heap} {own0 : Nat → Prop}
theorem tr_last_l (hexec : p.tables.exec = Jvm.exec) (hb : c.code = cc) (hJ : va_K D vwCl [(cJ, .long)] s) (hS : tr_S own0 H0 H locs) (ha : own0 a) {n : Nat} {f : Nat → Int64} (hat : va_at D vwCl (a, .inl (cJ, n, .inr (.inl f))) H) {i : Int32} {x : Int64} (hin : vp_in i n) (hdg : decode cc pc = .ok (.lastore, 1))
    (kk : ∀ (H1 : Heap) (locs1 : List Loc), va_at D vwCl (a, .inl (cJ, n, .inr (.inl (vp_updL f i.toNatClampNeg x)))) H1 → H1.size = H.size → (∀ q : Nat, q ≠ a → H1[q]? = H[q]?) → tr_S own0 H0 H1 locs1 → W p l e R s m args below meth c H1 locs1 cells slots Q (F0 m (pc + 1) ls rest)) : W p l e R s m args below meth c H locs cells slots Q (F0 m pc ls (.long x :: .int i :: .ref a :: rest)) := by
  refine W.last hexec hb hat ((hJ.2 0 _ rfl).1 n (fun j => .long (f j))) (fun q => by cases q) (by show ¬ (i < 0 ∨ (arrV _ _ _).slots.size ≤ _); rw [arrV_size]; exact hin) rfl rfl hdg fun H1 e z oq => ?_
  refine kk H1 _ ?_ z oq (hS.step (o1 := fun q => q = a) (Nat.le_of_eq z.symm) (fun q _ h => oq q h) (fun q hq => by rw [hq]; exact ha) (fun x hx => by rw [List.mem_singleton.mp hx]))
  show H1[a]? = some (vp_cell _ _)
  rw [e]
  rw [vp_cell_l, vp_cell_l, arrV_store]
  congr 2
  funext q
  by_cases hq : q = i.toNatClampNeg
  · subst hq
    simp [updV, vp_updL]
  · simp [updV, vp_updL, hq]
variable {st0 : List Value} {av : Array Value}
/-- behind a call of the ribbon that may throw -/
theorem tr_xi {mc ms : Nat} {x : Option String} {r : Int32} {Post : Heap → Prop} {o1 free : Nat → Prop} (hr : vx_Run p l e R s m args below meth c H locs cells slots mc ms (F0 m pc ls st0) rest (tr_QX x (some (.int r)) Post o1 av) (tr_XC x) free) (hS : tr_S own0 H0 H locs) (ho : ∀ q, o1 q → own0 q) (hf : ∀ q, free q → own0 q)
    (kx : ∀ (E : String) (ce : Cell) (q9 : Addr) (H1 : Heap) (locs1 : List Loc), x = some E → H.size ≤ H1.size → (∀ q : Nat, q < H.size → H1[q]? = H[q]?) → tr_S own0 H0 H1 locs1 → H1[q9]? = some ce → ce.vm = .none → s.vm.findClass E = some ce.cls → vx_W p l e R s m args below meth c H1 locs1 (cells + mc) (slots + ms) Q (F0 m pc ls rest) q9)
    (kk : ∀ (H1 : Heap) (locs1 : List Loc), x = none → Post H1 → H.size ≤ H1.size → (∀ q : Nat, q < H.size → ¬ o1 q → H1[q]? = H[q]?) → tr_S own0 H0 H1 locs1 → W p l e R s m args below meth c H1 locs1 (cells + mc) (slots + ms) Q (F0 m (pc + 3) ls (.int r :: rest))) : W p l e R s m args below meth c H locs cells slots Q (F0 m pc ls st0) := by
  intro T hT X
  rcases hr T hT X with ⟨v, st₀, t, T', L, h0, X', hL, e1, e2, ⟨hx, hv, hp, hz, hk⟩, st⟩ | ⟨q, st₀, t, T', L, E, ce, h0, X', hL, e1, e2, ⟨hx, hz, hk⟩, hce, hcv, hcl, st⟩
  · cases hv
    rw [h0] at hz hk
    rw [← e1] at hp hz hk
    obtain ⟨t2, a1, b1⟩ := kk T'.heap (locs ++ L) hx hp hz hk (hS.step2 hz hk ho hf hL) T' rfl X'
    exact ⟨t2, st t2 a1, b1⟩
  · rw [h0] at hz hk
    rw [← e1] at hz hk hce
    obtain ⟨t2, a1, b1⟩ := kx E ce q T'.heap (locs ++ L) hx hz hk (hS.step2 (o1 := fun _ => False) hz (fun q hq _ => hk q hq) (fun _ h => h.elim) hf hL) hce hcv hcl T' rfl X'
    exact ⟨t2, st.trans a1, b1⟩
theorem tr_preVX {C : String} {T : u_T} {N ci : Nat} {fs As : List Value} {Pre : Heap → Prop} (hK : TK D cI s) (hX : XK s H) (hat : va_at D vwCl (a, .inr (ci, fs)) H) (hc : vwCl[ci]? = some (C, T, N)) (hp : Pre H) : PreV s H C a (tr_PcX D cI (.ref a :: As) Pre) As := ⟨tr_blindX, tr_recv hK hat hc, fun U hU hW => ⟨rfl, ⟨by rw [hU]; exact hp, hK.warm hW⟩, by rw [hU]; exact hX.warm hW⟩⟩
theorem tr_preSH {As : List Value} {Pre : Heap → Prop} (hK : TK D cI s) (hX : XK s H) (hJ : va_K D vwCl [(cJ, .long)] s) (hH : HK s) (hp : Pre H) : PreS s H (HPc D cI cJ As Pre) As := ⟨HPc_blind, fun U hU hW => ⟨rfl, ⟨⟨by rw [hU]; exact hp, hK.warm hW⟩, by rw [hU]; exact hX.warm hW⟩, va_K.moved hW.alike hJ, hH.warm hW⟩⟩
end TRX
theorem vp00 : vp_in (0 : Int32) 1 := vp_in_nI (n := 0) (N := 1) (by decide) (by decide)
