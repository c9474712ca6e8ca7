section XZR
variable {z : Zt} {A : Nat → Prop} {nL : Nat} {ce sl pc : Nat} {lv : List (Nat × Value)} {st : List Value} {l : Launch} {rm : Room} {cc : ByteArray} {own : String} {g : Gd} {μ : Mm}
def Pz (g : Gd) (μ : Mm) (sz : Nat) (U : State) : Prop := Pd g μ sz U ∧ Ex (vA g sz) U U.heap
def Xz (g : Gd) (E : String) (μ : Mm) (sz : Nat) : String → State → State → Prop := fun E' st t => E' = E ∧ va_P g.1 vwCl (wd g μ) t.heap ∧ va_F (vA g sz) st t
def noQ : Array Value → State → Outcome → State → Prop := fun _ _ _ _ => False
/-- from the memory μ the method throws E, and the memory stays -/
def Cz (l : Launch) (y : MethodName) (cc : ByteArray) (nL : Nat) (rt : Option FieldType) (rm : Room) (g : Gd) (avs : List Value) (μ : Mm) (E : String) : Prop :=
  ∀ sz : Nat, vx_Met l y (Cond.code y cc nL rt :: gw) rm (va_Pc avs (Pz g μ sz)) noQ (Xz g E μ sz) 1 6 (vA g sz)
abbrev rmz (f lo : Nat) : Room := { frames := f, cells := 1, slots := 6, locals := lo }
def Rz (z : Zt) (g : Gd) (A : Nat → Prop) (E : String) (μ : Mm) : Prop := (∀ x ∈ (zc z).exceptionTable.toList, False) ∧ A = vA g (zs z).heap.size ∧ zQ z = vx_MQ (zb z) noQ (Xz g E μ (zs z).heap.size) (za z) (zs z) 1 6 (vA g (zs z).heap.size)
/-- q was thrown at pc, of the class E -/
def Gx (z : Zt) (D : va_G) (A : Nat → Prop) (nL : Nat) (ws : va_W) (ce sl pc : Nat) (lv : List (Nat × Value)) (rest : List Value) (E : String) : Prop :=
  ∀ (H : Heap) (locs : List Loc) (ls : Array Slot) (q : Nat) (c9 : Cell), va_P D vwCl ws H → va_D A ws → va_S A (zs z).heap H locs → lv_has ls nL lv → H[q]? = some c9 → c9.vm = .none → (zs z).vm.findClass E = some c9.cls →
    vx_W (zp z) (zl z) (ze z) (zR z) (zs z) (zm z) (za z) (zb z) (zM z) (zc z) H locs ce sl (zQ z) (F0 (zm z) pc ls rest) q
theorem Cz.of {y : MethodName} {rt : Option FieldType} {f lo : Nat} {avs : List Value} {E : String} (hy : plainName y.cls = true) (hn : (lg_sl avs).length ≤ nL) (body : ∀ (z : Zt) (A : Nat → Prop), Cx z A l (rmz f lo) cc nL y.cls → Kx z g A → Ex A (zs z) (zs z).heap → Rz z g A E μ → G z g.1 A nL (wd g μ) 0 0 0 (lv_args 0 avs) []) : Cz l y cc nL rt (rmz f lo) g avs μ E := by
  intro sz
  refine vx_ofW (cc := cc) (maxL := nL) (ret := rt) hy rfl ?_
  intro p e s m args below meth c s₁ B hml hex hv
  obtain ⟨rfl, ⟨rfl, hP, hD, hK, hSt⟩, hE⟩ := hv
  have hts := atoms_spec (ws := Cond.code y cc nL rt :: gw) B.pre
  have K := body (p, l, e, rmz f lo, s, m, avs.toArray, below, meth, c, vx_MQ below noQ (Xz g E μ s.heap.size) avs.toArray s 1 6 (vA g s.heap.size)) (vA g s.heap.size)
    ⟨B.exec, B.bytes, hml, findClass_of_methodNamed B.named, fun w h => hts w (List.mem_cons_of_mem _ h), fun q h => Or.inr h, B.notSynchronized, rfl, rfl⟩ ⟨hK, hSt⟩ hE ⟨hex, rfl, rfl⟩
  rw [lg_entry_eq]
  exact K s.heap [] _ hP (vA_D hD) va_S.rf (lv_entry avs hn)
theorem x_out {rest : List Value} {E : String} (C : Cx z A l rm cc nL own) (Rr : Rz z g A E μ) : Gx z g.1 A nL (wd g μ) 1 6 pc lv rest E := by
  intro H locs ls q c9 hP hD hS hl h9 hv hcl
  obtain ⟨hno, hA, hQ⟩ := Rr
  rw [hQ]
  exact vx_out (fun x hx => (hno x hx).elim) C.hlk h9 hv hcl (fun t ht _ => ⟨rfl, by rw [ht]; exact hP, by rw [ht]; exact hS.1, fun q h1 h2 => by rw [ht]; exact hS.2.1 q h1 (by rw [hA]; exact h2)⟩) (fun q hq => by rw [← hA]; exact hS.2.2 q hq) (Nat.le_refl _) (Nat.le_refl _)
theorem Pz_blind {avs : List Value} {sz : Nat} : FrameBlind (va_Pc avs (Pz g μ sz)) := by
  intro a U fr mk h
  obtain ⟨h1, h2, h3⟩ := h
  have h4 := Pd_blind (g := g) (μ := μ) (avs := avs) (sz := sz) a U fr mk ⟨h1, h2⟩
  exact ⟨h4.1, h4.2, Ex.blind (U := U) (V := U.calling fr mk a) rfl rfl h3⟩
theorem r_throwS (C : Cx z A l rm cc nL "SetFamilies") (Ee : Ex A (zs z) (zs z).heap) (hl : l.stackTraces = false) {X text : String} {ik is ic : Nat} (hcls : Bundle.fit X = true) (hcl : Cond.classLink "SetFamilies" ik X ∈ gw) (hin : Cond.initialized X ∈ gw) (hat : ∀ w ∈ (vx_atS "SetFamilies" ic X [nRE, nEX]).filter goodWord, w ∈ gw)
    (hng : ∀ w ∈ (vx_atS "SetFamilies" ic X [nRE, nEX]).filter (fun w => !goodWord w), w ∈ [Cond.castable X X, Cond.declares (Bundle.initS nRE), Cond.declares (Bundle.initS nEX), Cond.declares (Bundle.initS Bundle.tN)]) (hot : ∀ w ∈ Cond.classLink "SetFamilies" ik X :: Cond.initialized X :: vx_atS "SetFamilies" ic X [nRE, nEX], vx_ot w = true) (hcs : va_Nw (.castable X X) (zs z)) (hstr : ∃ a, vk_R "SetFamilies" is text a (zs z))
    (d0 : decode cc pc = .ok (.new ik, 3)) (d3 : decode cc (pc + 3) = .ok (.dup, 1)) (d4 : decode cc (pc + 4) = .ok (.ldc is, 2)) (d6 : decode cc (pc + 6) = .ok (.invokespecial ic, 3)) (d9 : decode cc (pc + 9) = .ok (.athrow, 1)) (hrm : 5 < rm.frames ∧ (st.map fun v => v.category).sum + 82 ≤ rm.locals ∧ 1 ≤ rm.cells ∧ 6 ≤ rm.slots) (Rr : Rz z g A X μ) : G z g.1 A nL (wd g μ) 0 0 pc lv st := by
  intro H locs ls hP hD hS hlv
  obtain ⟨hno, hA, hQ⟩ := Rr
  obtain ⟨sa, hsa⟩ := hstr
  obtain ⟨hr1, hr2, hr3, hr4⟩ := hrm
  rw [← C.hR] at hr1 hr2 hr3 hr4
  rw [hQ]
  exact vx_throwS (A := A) (names := [nRE, nEX]) C.hx C.hb (by rw [C.hl]; exact hl) C.hown hcls (by decide) (C.hts _ hcl) (C.hts _ hin) hsa (vx_hat (fun w h => C.hts _ (hat w h)) hng (vx_c (va_Nw.use rfl hcs) (vx_c (va_Nw.use rfl Ee.2.2.2.1.1) (vx_c (va_Nw.use rfl Ee.2.2.2.1.2.1) (vx_c (va_Nw.use rfl Ee.2.2.2.1.2.2) vx_n))))) hot Ee.1 Ee.2.1 hS (hlv.1.trans C.hml.symm) d0 d3 d4 d6 d9 (fun x hx => (hno x hx).elim) hr1 hr2 (by omega) (by omega) C.hlk
    (fun t _ hz hk => ⟨rfl, P_same hP hk, Nat.le_trans hS.1 hz, fun q h1 h2 => (hk q (Nat.lt_of_lt_of_le h1 hS.1)).trans (hS.2.1 q h1 (by rw [hA]; exact h2))⟩) (fun q hq => by rw [← hA]; exact hS.2.2 q hq) (Nat.le_refl _) (Nat.le_refl _)
theorem r_throwW (C : Cx z A l rm cc nL "SetFamilies") (Ee : Ex A (zs z) (zs z).heap) (hl : l.stackTraces = false) {X text : String} {ik is ic : Nat} (hcls : Bundle.fit X = true) (hcl : Cond.classLink "SetFamilies" ik X ∈ gw) (hin : Cond.initialized X ∈ gw) (hat : ∀ w ∈ (vx_atS "SetFamilies" ic X [nRE, nEX]).filter goodWord, w ∈ gw)
    (hng : ∀ w ∈ (vx_atS "SetFamilies" ic X [nRE, nEX]).filter (fun w => !goodWord w), w ∈ [Cond.castable X X, Cond.declares (Bundle.initS nRE), Cond.declares (Bundle.initS nEX), Cond.declares (Bundle.initS Bundle.tN)]) (hot : ∀ w ∈ Cond.classLink "SetFamilies" ik X :: Cond.initialized X :: vx_atS "SetFamilies" ic X [nRE, nEX], vx_ot w = true) (hcs : va_Nw (.castable X X) (zs z)) (hstr : ∃ a, vk_R "SetFamilies" is text a (zs z))
    (d0 : decode cc pc = .ok (.new ik, 3)) (d3 : decode cc (pc + 3) = .ok (.dup, 1)) (d4 : decode cc (pc + 4) = .ok (.ldc_w is, 3)) (d6 : decode cc (pc + 7) = .ok (.invokespecial ic, 3)) (d9 : decode cc (pc + 10) = .ok (.athrow, 1)) (hrm : 5 < rm.frames ∧ (st.map fun v => v.category).sum + 82 ≤ rm.locals ∧ 1 ≤ rm.cells ∧ 6 ≤ rm.slots) (Rr : Rz z g A X μ) : G z g.1 A nL (wd g μ) 0 0 pc lv st := by
  intro H locs ls hP hD hS hlv
  obtain ⟨hno, hA, hQ⟩ := Rr
  obtain ⟨sa, hsa⟩ := hstr
  obtain ⟨hr1, hr2, hr3, hr4⟩ := hrm
  rw [← C.hR] at hr1 hr2 hr3 hr4
  rw [hQ]
  exact vx_throwSW (A := A) (names := [nRE, nEX]) C.hx C.hb (by rw [C.hl]; exact hl) C.hown hcls (by decide) (C.hts _ hcl) (C.hts _ hin) hsa (vx_hat (fun w h => C.hts _ (hat w h)) hng (vx_c (va_Nw.use rfl hcs) (vx_c (va_Nw.use rfl Ee.2.2.2.1.1) (vx_c (va_Nw.use rfl Ee.2.2.2.1.2.1) (vx_c (va_Nw.use rfl Ee.2.2.2.1.2.2) vx_n))))) hot Ee.1 Ee.2.1 hS (hlv.1.trans C.hml.symm) d0 d3 d4 d6 d9 (fun x hx => (hno x hx).elim) hr1 hr2 (by omega) (by omega) C.hlk
    (fun t _ hz hk => ⟨rfl, P_same hP hk, Nat.le_trans hS.1 hz, fun q h1 h2 => (hk q (Nat.lt_of_lt_of_le h1 hS.1)).trans (hS.2.1 q h1 (by rw [hA]; exact h2))⟩) (fun q hq => by rw [← hA]; exact hS.2.2 q hq) (Nat.le_refl _) (Nat.le_refl _)
theorem r_xV (C : Cx z A l rm cc nL own) (X : Kx z g A) (Ee : Ex A (zs z) (zs z).heap) {y : MethodName} {cc' : ByteArray} {nL' n idx k ci N : Nat} {T : u_T} {rt : Option FieldType} {rm' : Room} {As rest st0 : List Value} {E : String} {fs : List Value} (M : MI y cc' nL' rt n) (V : MV y) (hM : Cz l y cc' nL' rt rm' g (.ref (ad g k) :: As) μ E) (hlk : Cond.methodLink own idx y ∈ gw) (hk : k < 132) (he : WF g μ k = .inr (ci, fs)) (hc : vwCl[ci]? = some (y.cls, T, N)) (hn : As.length = n) (hR : rm'.frames + 1 ≤ rm.frames ∧ 8 + (nL' + 11) + rm'.locals ≤ rm.locals ∧ rm'.cells = 1 ∧ rm'.slots = 6 ∧ ce + 1 ≤ rm.cells ∧ sl + 6 ≤ rm.slots) (hst : st0 = As.reverse ++ .ref (ad g k) :: rest) (hW : (rest.map fun v => v.category).sum ≤ 8) (hd : decode cc pc = .ok (.invokevirtual idx, 3)) (K : Gx z g.1 A nL (wd g μ) (ce + 1) (sl + 6) pc lv rest E) : G z g.1 A nL (wd g μ) ce sl pc lv st0 := by
  intro H locs ls hP hD hS hl
  obtain ⟨hR1, hR2, hc1, hc2, hc3, hc4⟩ := hR
  rw [← C.hR] at hR1 hR2 hc3 hc4
  have hb := callB_of (R := zR z) (s := zs z) (args := za z) (own := own) (index := idx) n C.hts (gw_cons M.1) rfl hc1 hc2 (C.hts _ M.2.1) (C.hts _ hlk) M.2.2 ⟨hR1, hR2⟩
  have hr := vx_runV (p := zp z) (l := zl z) (e := ze z) (R := zR z) (s := zs z) (m := zm z) (args := za z) (below := zb z) (meth := zM z) (c := zc z) (H := H) (locs := locs) (cells := ce) (slots := sl) (g := F0 (zm z) pc ls st0) (Ts := gw) (As := As) (rest := rest) (Qc := noQ) (XC := Xz g E μ H.size) (b := ad g k) (C := y.cls) ⟨C.hx, C.hb, C.hml, C.hown, C.hts⟩ (by rw [C.hl]; exact hM H.size) ⟨hb, C.hts _ V.1, C.hts _ V.2⟩ ⟨Pz_blind, va_recv X.1 hP hc (wd_at hk he), fun U hU hw => ⟨rfl, Pd_at C X hP hD hS U hU hw, Ee.to hS hU hw (vA_free hD hS C.hA)⟩⟩ rfl hn hl.1 hst (lv_room hW) hd ⟨hc3, hc4⟩
  intro T0 hT X0
  rcases hr T0 hT X0 with ⟨v, st₀, t, T', L, h0, X', hL, e1, e2, hQ, sp⟩ | ⟨q, st₀, t, T', L, E', c9, h0, X', hL, e1, e2, ⟨rfl, hP', hF1, hF2⟩, hc9, hv9, hcl9, sp⟩
  · exact False.elim hQ
  · rw [h0] at hF1 hF2
    obtain ⟨t2, a1, b1⟩ := K T'.heap (locs ++ L) ls q c9 (by rw [e1]; exact hP') hD ⟨Nat.le_trans hS.1 (by rw [e1]; exact hF1), fun q h1 h2 => by rw [e1, hF2 q (Nat.lt_of_lt_of_le h1 hS.1) (fun hv => h2 (vA_free hD hS C.hA q hv))]; exact hS.2.1 q h1 h2, fun q hq => by
        rcases List.mem_append.mp hq with h | h
        · exact hS.2.2 q h
        · exact vA_free hD hS C.hA _ (hL q h)⟩ hl (by rw [e1]; exact hc9) hv9 hcl9 T' rfl X'
    exact ⟨t2, sp.trans a1, b1⟩
theorem r_xS (C : Cx z A l rm cc nL own) (X : Kx z g A) (Ee : Ex A (zs z) (zs z).heap) {y : MethodName} {cc' : ByteArray} {nL' n idx : Nat} {rt : Option FieldType} {rm' : Room} {As rest st0 : List Value} {E : String} (M : MI y cc' nL' rt n) (V : Cond.static y ∈ gw) (hM : Cz l y cc' nL' rt rm' g As μ E) (hlk : Cond.methodLink own idx y ∈ gw) (hn : As.length = n) (hR : rm'.frames + 1 ≤ rm.frames ∧ 8 + (nL' + 11) + rm'.locals ≤ rm.locals ∧ rm'.cells = 1 ∧ rm'.slots = 6 ∧ ce + 1 ≤ rm.cells ∧ sl + 6 ≤ rm.slots) (hst : st0 = As.reverse ++ rest) (hW : (rest.map fun v => v.category).sum ≤ 8) (hd : decode cc pc = .ok (.invokestatic idx, 3)) (K : Gx z g.1 A nL (wd g μ) (ce + 1) (sl + 6) pc lv rest E) : G z g.1 A nL (wd g μ) ce sl pc lv st0 := by
  intro H locs ls hP hD hS hl
  obtain ⟨hR1, hR2, hc1, hc2, hc3, hc4⟩ := hR
  rw [← C.hR] at hR1 hR2 hc3 hc4
  have hb := callB_of (R := zR z) (s := zs z) (args := za z) (own := own) (index := idx) n C.hts (gw_cons M.1) rfl hc1 hc2 (C.hts _ M.2.1) (C.hts _ hlk) M.2.2 ⟨hR1, hR2⟩
  have hr := vx_runS (p := zp z) (l := zl z) (e := ze z) (R := zR z) (s := zs z) (m := zm z) (args := za z) (below := zb z) (meth := zM z) (c := zc z) (H := H) (locs := locs) (cells := ce) (slots := sl) (g := F0 (zm z) pc ls st0) (Ts := gw) (As := As) (rest := rest) (Qc := noQ) (XC := Xz g E μ H.size) ⟨C.hx, C.hb, C.hml, C.hown, C.hts⟩ (by rw [C.hl]; exact hM H.size) ⟨hb, C.hts _ V⟩ ⟨Pz_blind, fun U hU hw => ⟨rfl, Pd_at C X hP hD hS U hU hw, Ee.to hS hU hw (vA_free hD hS C.hA)⟩⟩ rfl hn hl.1 hst (lv_room hW) hd ⟨hc3, hc4⟩
  intro T0 hT X0
  rcases hr T0 hT X0 with ⟨v, st₀, t, T', L, h0, X', hL, e1, e2, hQ, sp⟩ | ⟨q, st₀, t, T', L, E', c9, h0, X', hL, e1, e2, ⟨rfl, hP', hF1, hF2⟩, hc9, hv9, hcl9, sp⟩
  · exact False.elim hQ
  · rw [h0] at hF1 hF2
    obtain ⟨t2, a1, b1⟩ := K T'.heap (locs ++ L) ls q c9 (by rw [e1]; exact hP') hD ⟨Nat.le_trans hS.1 (by rw [e1]; exact hF1), fun q h1 h2 => by rw [e1, hF2 q (Nat.lt_of_lt_of_le h1 hS.1) (fun hv => h2 (vA_free hD hS C.hA q hv))]; exact hS.2.1 q h1 h2, fun q hq => by
        rcases List.mem_append.mp hq with h | h
        · exact hS.2.2 q h
        · exact vA_free hD hS C.hA _ (hL q h)⟩ hl (by rw [e1]; exact hc9) hv9 hcl9 T' rfl X'
    exact ⟨t2, sp.trans a1, b1⟩
end XZR
