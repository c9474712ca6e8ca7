section LW
variable {z : Zt} {A : Nat → Prop} {nL : Nat} {ce sl pc : Nat} {lv : List (Nat × Value)} {st : List Value} {l : Launch} {rm : Room} {cc : ByteArray} {own : String} {g : Gd} {μ μ' : Mm} {hh : List (Nat × Nat × Nat × Nat)}
def noX : String → State → State → Prop := fun _ _ _ => False
def bL (v : Bool) : Int64 := lN (if v = true then 1 else 0)
/-- a wrapper's contract: it returns, whether it caught or not -/
def Cw (l : Launch) (y : MethodName) (cc : ByteArray) (nL : Nat) (hh : List (Nat × Nat × Nat × Nat)) (rm : Room) (g : Gd) (avs : List Value) (μ : Mm) (rv : Int32) (μ' : Mm) : Prop :=
  ∀ sz : Nat, vx_Met l y (Cond.codeWith y cc nL (some .int) hh :: gw) rm (va_Pc avs (Pz g μ sz)) (Qd g (some (.int rv)) μ' sz) noX 1 6 (vA g sz)
def Rw (z : Zt) (g : Gd) (A : Nat → Prop) (hh : List (Nat × Nat × Nat × Nat)) (rv : Int32) (μ' : Mm) : Prop := (zM z).sig.returnType = some .int ∧ A = vA g (zs z).heap.size ∧ zQ z = vx_MQ (zb z) (Qd g (some (.int rv)) μ' (zs z).heap.size) noX (za z) (zs z) 1 6 (vA g (zs z).heap.size) ∧ (zc z).exceptionTable.toList = tableOf hh
theorem Cw.of {y : MethodName} {f lo : Nat} {avs : List Value} {rv : Int32} (hy : plainName y.cls = true) (hn : (lg_sl avs).length ≤ nL) (body : ∀ (z : Zt) (A : Nat → Prop), Cx z A l (rmz f lo) cc nL y.cls → Kx z g A → Ex A (zs z) (zs z).heap → Rw z g A hh rv μ' → G z g.1 A nL (wd g μ) 0 0 0 (lv_args 0 avs) []) : Cw l y cc nL hh (rmz f lo) g avs μ rv μ' := by
  intro sz
  refine vx_ofWH (cc := cc) (maxL := nL) (ret := some .int) (hh := hh) hy rfl ?_
  intro p e s m args below meth c s₁ B hml hv
  obtain ⟨rfl, ⟨rfl, hP, hD, hK, hSt⟩, hE⟩ := hv
  have hts := atoms_spec (ws := Cond.codeWith y cc nL (some .int) hh :: gw) B.pre
  have K := body (p, l, e, rmz f lo, s, m, avs.toArray, below, meth, c, vx_MQ below (Qd g (some (.int rv)) μ' s.heap.size) noX avs.toArray s 1 6 (vA g s.heap.size)) (vA g s.heap.size)
    ⟨B.exec, B.bytes, hml, findClass_of_methodNamed B.named, fun w h => hts w (List.mem_cons_of_mem _ h), fun q h => Or.inr h, B.notSynchronized, rfl, rfl⟩ ⟨hK, hSt⟩ hE ⟨B.returns, rfl, rfl, vx_table (x := y) B (hts _ List.mem_cons_self)⟩
  rw [lg_entry_eq]
  exact K s.heap [] _ hP (vA_D hD) va_S.rf (lv_entry avs hn)
theorem w_iret (C : Cx z A l rm cc nL own) {x : Int32} (hd : decode cc pc = .ok (.ireturn, 1)) (h1 : ce ≤ 1) (h6 : sl ≤ 6) (Rr : Rw z g A hh x μ) : G z g.1 A nL (wd g μ) ce sl pc lv [.int x] := by
  intro H locs ls hP hD hS hl
  rw [Rr.2.2.1]
  have hS2 := hS
  rw [Rr.2.1] at hS2
  exact W.widen h1 h6 (vx_ret (W.iret C.hx C.hb Rr.1 (fun t ht hW => ⟨rfl, by rw [ht]; exact hP, hS2.F ht⟩) hS2.2.2 hd C.hlk))
theorem x_catch {rest : List Value} {E : String} {D : va_G} {ws : va_W} (C : Cx z A l rm cc nL own) (pre : List ExceptionTableEntry) (x : ExceptionTableEntry) (suf : List ExceptionTableEntry) (hT : (zc z).exceptionTable.toList = pre ++ x :: suf) (hp : ∀ w ∈ pre, covers w pc = false ∨ (w.catchType ≠ 0 ∧ ∃ nm : String, Cond.classLink own w.catchType nm ∈ gw ∧ va_Nc E nm (zs z))) (hx : covers x pc = true) (h0 : x.catchType ≠ 0) (hlk : Cond.classLink own x.catchType E ∈ gw) (hcs : va_Nw (.castable E E) (zs z)) (K : ∀ q, G z D A nL ws ce sl x.handlerPc lv [.ref q]) : Gx z D A nL ws ce sl pc lv rest E := by
  intro H locs ls q c9 hP hD hS hl h9 hv hcl
  exact vx_catch C.hown pre x suf hT (fun w hw => (hp w hw).imp id (fun h => ⟨h.1, h.2.imp (fun nm k => ⟨C.hts _ k.1, k.2⟩)⟩)) hx h0 (C.hts _ hlk) (va_Nw.use rfl hcs) h9 hv hcl (K q H locs ls hP hD hS hl)
theorem r_callW (C : Cx z A l rm cc nL own) (X : Kx z g A) (Ee : Ex A (zs z) (zs z).heap) {y : MethodName} {cc' : ByteArray} {nL' n idx : Nat} {rm' : Room} {As rest st0 st1 : List Value} {rv : Int32} (Mc : Cond.codeWith y cc' nL' (some .int) hh ∈ gw) (Mi : (Cond.initialized y.cls ∈ gw) ∧ (y.cls ≠ "java/lang/invoke/MethodHandle" ∧ y.cls ≠ "java/lang/invoke/VarHandle" ∧ (parseMethodDescriptor y.desc).map (fun d => d.parameters.length) = some n) ∧ Cond.static y ∈ gw) (hM : Cw l y cc' nL' hh rm' g As μ rv μ') (hlk : Cond.methodLink own idx y ∈ gw) (hn : As.length = n) (hR : rm'.frames + 1 ≤ rm.frames ∧ 8 + (nL' + 11) + rm'.locals ≤ rm.locals ∧ rm'.cells = 1 ∧ rm'.slots = 6 ∧ ce + 1 ≤ rm.cells ∧ sl + 6 ≤ rm.slots) (hst : st0 = As.reverse ++ rest) (hW : (rest.map fun v => v.category).sum ≤ 8) (hd : decode cc pc = .ok (.invokestatic idx, 3)) (hst1 : .int rv :: rest = st1) (K : G z g.1 A nL (wd g μ') (ce + 1) (sl + 6) (pc + 3) lv st1) : G z g.1 A nL (wd g μ) ce sl pc lv st0 := by
  subst hst1
  intro H locs ls hP hD hS hl
  obtain ⟨hR1, hR2, hc1, hc2, hc3, hc4⟩ := hR
  rw [← C.hR] at hR1 hR2 hc3 hc4
  have hcw : vx_CSW (zR z) (zs z) (za z) own idx y cc' nL' (some .int) hh (Cond.codeWith y cc' nL' (some .int) hh :: gw) rm' 1 6 n :=
    ⟨⟨hc1, hc2, hR1, hR2, pay_in C.hts (gw_cons Mc), List.mem_cons_self⟩, C.hts _ Mc, C.hts _ Mi.1, ⟨Mi.2.1.1, Mi.2.1.2.1⟩, fun sig h => by
      have h2 := Mi.2.1.2.2
      rw [h] at h2
      exact (Option.some.inj h2).symm, C.hts _ hlk, C.hts _ Mi.2.2⟩
  have hr := vx_runSX (p := zp z) (l := zl z) (e := ze z) (R := zR z) (s := zs z) (m := zm z) (args := za z) (below := zb z) (meth := zM z) (c := zc z) (H := H) (locs := locs) (cells := ce) (slots := sl) (g := F0 (zm z) pc ls st0) (Ts := gw) (As := As) (rest := rest) (Qc := Qd g (some (.int rv)) μ' H.size) (XC := noX) ⟨C.hx, C.hb, C.hml, C.hown, C.hts⟩ (by rw [C.hl]; exact hM H.size) hcw ⟨Pz_blind, fun U hU hw => ⟨rfl, Pd_at C X hP hD hS U hU hw, Ee.to hS hU hw (vA_free hD hS C.hA)⟩⟩ rfl hn hl.1 hst (lv_room hW) hd ⟨hc3, hc4⟩
  intro T0 hT X0
  rcases hr T0 hT X0 with ⟨v, st₀, t, T', L, h0, X', hL, e1, e2, ⟨hv, hP', hF1, hF2⟩, sp⟩ | ⟨q, st₀, t, T', L, E', c9, h0, X', hL, e1, e2, hQ, hc9, hv9, hcl9, sp⟩
  · cases hv
    rw [h0] at hF1 hF2
    obtain ⟨t2, a1, b1⟩ := K T'.heap (locs ++ L) ls (by rw [e1]; exact hP') (wd_D μ' hD) ⟨Nat.le_trans hS.1 (by rw [e1]; exact hF1), fun q h1 h2 => by rw [e1, hF2 q (Nat.lt_of_lt_of_le h1 hS.1) (fun hv => h2 (vA_free hD hS C.hA q hv))]; exact hS.2.1 q h1 h2, fun q hq => by
        rcases List.mem_append.mp hq with h | h
        · exact hS.2.2 q h
        · exact vA_free hD hS C.hA _ (hL q h)⟩ hl T' rfl X'
    exact ⟨t2, sp t2 a1, b1⟩
  · exact False.elim hQ
end LW
