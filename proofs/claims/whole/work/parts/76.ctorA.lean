section CN
variable {z : Zt} {A : Nat → Prop} {nL : Nat} {w0 c ws : va_W} {ce sl pc : Nat} {lv : List (Nat × Value)} {st : List Value} {l : Launch} {rm : Room} {cc : ByteArray} {own : String} {g : Gd}
abbrev FAMn : String := "SetFamilies$Family"
/-- what the constructors stand in: the classes, the array classes -/
def Kn (z : Zt) (g : Gd) : Prop := va_K g.1 vwCl (tys g) (zs z) ∧ va_AO FAMn (zs z)
def Pn (g : Gd) (ws : va_W) (sz : Nat) (U : State) : Prop := U.heap.size = sz ∧ va_P g.1 vwCl ws U.heap ∧ va_D (fun _ => True) ws ∧ va_K g.1 vwCl (tys g) U ∧ va_AO FAMn U
def Qn (g : Gd) (ws w0 : va_W) (post : va_W → Prop) (sz : Nat) : Array Value → State → Outcome → State → Prop := fun _ st oc t => oc = .returned none ∧ (∃ c', post c' ∧ va_P g.1 vwCl (w0 ++ c') t.heap ∧ va_D (va_A ws sz) (w0 ++ c')) ∧ va_F (va_A ws sz) st t
/-- a constructor's contract: the world w0 ++ [this, raw] becomes w0 ++ c', with post c' -/
def Cn (l : Launch) (y : MethodName) (cc : ByteArray) (nL : Nat) (rm : Room) (g : Gd) (w0 : va_W) (e0 : Nat × va_E) (avs : List Value) (post : va_W → Prop) : Prop :=
  ∀ sz : Nat, Met l y (Cond.code y cc nL none :: gw) rm (va_Pc avs (Pn g (w0 ++ [e0]) sz)) (Qn g (w0 ++ [e0]) w0 post sz) rm.cells rm.slots (va_A (w0 ++ [e0]) sz)
def Rn (z : Zt) (g : Gd) (A : Nat → Prop) (w0 : va_W) (e0 : Nat × va_E) (post : va_W → Prop) (rm : Room) : Prop := (zM z).sig.returnType = none ∧ A = va_A (w0 ++ [e0]) (zs z).heap.size ∧ zQ z = MQ (zb z) (Qn g (w0 ++ [e0]) w0 post (zs z).heap.size) (za z) (zs z) rm.cells rm.slots (va_A (w0 ++ [e0]) (zs z).heap.size) ∧ (zM z).name = "<init>"
theorem Cn.of {y : MethodName} {e0 : Nat × va_E} {avs : List Value} {post : va_W → Prop} (hy : plainName y.cls = true) (hy2 : y.name = "<init>") (hn : (lg_sl avs).length ≤ nL) (body : ∀ (z : Zt) (A : Nat → Prop), Cx z A l rm cc nL y.cls → Kn z g → Rn z g A w0 e0 post rm → G z g.1 A nL (w0 ++ [e0]) 0 0 0 (lv_args 0 avs) []) : Cn l y cc nL rm g w0 e0 avs post := by
  intro sz
  refine Met.ofW (cc := cc) (maxL := nL) (ret := none) hy rfl ?_
  intro p e s m args below meth c s₁ B hml hv
  obtain ⟨rfl, rfl, hP, hD, hK, hO⟩ := hv
  have hts := atoms_spec (ws := Cond.code y cc nL none :: gw) B.pre
  have K := body (p, l, e, rm, s, m, avs.toArray, below, meth, c, MQ below (Qn g (w0 ++ [e0]) w0 post s.heap.size) avs.toArray s rm.cells rm.slots (va_A (w0 ++ [e0]) s.heap.size)) (va_A (w0 ++ [e0]) s.heap.size)
    ⟨B.exec, B.bytes, hml, findClass_of_methodNamed B.named, fun w h => hts w (List.mem_cons_of_mem _ h), fun q h => Or.inr h, B.notSynchronized, rfl, rfl⟩ ⟨hK, hO⟩ ⟨B.returns, rfl, rfl, (name_of_methodNamed B.named B.method).1.trans hy2⟩
  rw [lg_entry_eq]
  exact K s.heap [] _ hP ⟨hD.1, fun k q h => Or.inl ⟨k, q.2, h⟩⟩ va_S.rf (lv_entry avs hn)
theorem ap_get (w0 c : va_W) (j : Nat) : (w0 ++ c)[w0.length + j]? = c[j]? := by
  rw [List.getElem?_append_right (Nat.le_add_right _ _), Nat.add_sub_cancel_left]
theorem ap_set (w0 c : va_W) (j : Nat) (x : Nat × va_E) : (w0 ++ c).set (w0.length + j) x = w0 ++ c.set j x := by
  rw [List.set_append_right _ _ (Nat.le_add_right _ _), Nat.add_sub_cancel_left]
theorem G_ws {ws' : va_W} {D : va_G} (h : ws = ws') (K : G z D A nL ws' ce sl pc lv st) : G z D A nL ws ce sl pc lv st := h ▸ K
theorem n_obj (C : Cx z A l rm cc nL own) {a idx : Nat} {D : va_G} (hlk : Cond.methodLink own idx Lib.objectInit ∈ gw) (hi : Cond.instanceMethod Lib.objectInit ∈ gw) (hc : Cond.code Lib.objectInit ⟨#[0xb1]⟩ 1 none ∈ gw) (hd : decode cc pc = .ok (.invokespecial idx, 3)) (hR : 1 ≤ rm.frames ∧ 20 ≤ rm.locals) (hW : (st.map fun v => v.category).sum ≤ 8) (K : G z D A nL ws ce sl (pc + 3) lv st) : G z D A nL ws ce sl pc lv (.ref a :: st) := fun H locs ls hP hD hS hl => by
  obtain ⟨h1, h2⟩ := hR
  rw [← C.hR] at h1 h2
  exact W.objInit C.hx C.hb C.hown (C.hts _ hlk) (C.hts _ hi) (C.hts _ hc) (g := F0 (zm z) pc ls (.ref a :: st)) rfl (hl.1.trans C.hml.symm) rfl hd h1 (Nat.le_trans (Nat.add_le_add_right (lv_room hW) 12) h2) (K H locs ls hP hD hS hl)
theorem n_new (C : Cx z A l rm cc nL own) (X : Kn z g) {R : String} {T : u_T} {N ci idx : Nat} {fs : List Value} {ty : Nat → FieldType} (hin : ∀ w ∈ u_ws R T N, w ∈ gw) (hty : ∀ k, k < N → parseFieldDescriptor (T k).2.2.1 = some (ty k)) (hcl : Cond.classLink own idx R ∈ gw) (hinst : Cond.instantiable R N ∈ gw) (hini : Cond.initialized R ∈ gw) (hc : vwCl[ci]? = some (R, T, N)) (hfs : ∀ j, j < N → defaultValue (ty j) = vp_V fs j) (hce : ce + 1 ≤ rm.cells) (hsl : sl + N ≤ rm.slots) (hd : decode cc pc = .ok (.new idx, 3)) (K : ∀ q, G z g.1 A nL (w0 ++ (c ++ [(q, .inr (ci, fs))])) (ce + 1) (sl + N) (pc + 3) lv (.ref q :: st)) : G z g.1 A nL (w0 ++ c) ce sl pc lv st := fun H locs ls hP hD hS hl => by
  rw [← C.hR] at hce hsl
  exact va_new C.hx C.hb C.hts hin ty hty C.hown (C.hts _ hcl) (C.hts _ hinst) (C.hts _ hini) X.1 hP hD hS C.hA hc hfs hce hsl hd (fun q H1 hP1 hD1 hS1 => by rw [List.append_assoc] at hP1 hD1; exact K q H1 locs ls hP1 hD1 hS1 hl)
theorem ra_one {U : State} {c1 c2 : ClassId} {ty : FieldType} (h1 : va_RA U c1 ty) (h2 : va_RA U c2 ty) : c1 = c2 := by
  cases ty with
  | object C =>
    obtain ⟨_, _, _, _, _, h3⟩ := h1
    obtain ⟨_, _, _, _, _, h4⟩ := h2
    exact Option.some.inj (h3.symm.trans h4)
  | _ => exact Option.some.inj (Eq.trans (Eq.symm h1) h2)
theorem n_newa (C : Cx z A l rm cc nL own) (X : Kn z g) {atype : ArrayType} {ty : FieldType} {n t : Nat} {x : vp_A} (harr : Cond.arrayClass ty ∈ gw) (hty : newarray.typeOf atype = ty) (ht : (tys g)[t]? = some (cy g t, ty)) (hx : ∀ cA : ClassId, vp_cell cA x = arrV cA n (fun _ => defaultValue ty)) (hn : n < 2 ^ 20) (hby : n * componentBytes ty ≤ 536870912) (hce : ce + 1 ≤ rm.cells) (hsl : sl + n ≤ rm.slots) (hd : decode cc pc = .ok (.newarray atype, 2)) (K : ∀ q, G z g.1 A nL (w0 ++ (c ++ [(q, .inl (cy g t, x))])) (ce + 1) (sl + n) (pc + 2) lv (.ref q :: st)) : G z g.1 A nL (w0 ++ c) ce sl pc lv (.int (nI n) :: st) := fun H locs ls hP hD hS hl => by
  rw [← C.hR] at hce hsl
  subst hty
  refine va_newa C.hx C.hb (C.hts _ harr) rfl X.1 hP hD hS C.hA hx (nI_pos (by omega)) (nI_clamp (by omega)) hby hce hsl hd (fun q cA H1 hK1 hP1 hD1 hS1 => ?_)
  have e : cA = cy g t := ra_one (hK1.2 (tys g).length (cA, newarray.typeOf atype) (by rw [List.getElem?_append_right (Nat.le_refl _), Nat.sub_self]; rfl)).2 (X.1.2 t _ ht).2
  subst e
  rw [List.append_assoc] at hP1 hD1
  exact K q H1 locs ls hP1 hD1 hS1 hl
theorem n_newq (C : Cx z A l rm cc nL own) (X : Kn z g) {n idx : Nat} (hcl : Cond.classLink own idx FAMn ∈ gw) (hn : n < 2 ^ 20) (hce : ce + 1 ≤ rm.cells) (hsl : sl + n ≤ rm.slots) (hd : decode cc pc = .ok (.anewarray idx, 3)) (K : ∀ q, G z g.1 A nL (w0 ++ (c ++ [(q, .inl (cy g 4, n, .inr (.inr (.inr (.inr (fun _ => none))))))])) (ce + 1) (sl + n) (pc + 3) lv (.ref q :: st)) : G z g.1 A nL (w0 ++ c) ce sl pc lv (.int (nI n) :: st) := fun H locs ls hP hD hS hl => by
  rw [← C.hR] at hce hsl
  refine va_newq C.hx C.hb C.hown (C.hts _ hcl) X.2 X.1 hP hD hS C.hA (nI_pos (by omega)) (nI_clamp (by omega)) (by omega) hce hsl hd (fun q cA H1 hK1 hP1 hD1 hS1 => ?_)
  have e : cA = cy g 4 := ra_one (hK1.2 (tys g).length (cA, .object FAMn) (by rw [List.getElem?_append_right (Nat.le_refl _), Nat.sub_self]; rfl)).2 (X.1.2 4 (cy g 4, .object FAMn) rfl).2
  subst e
  rw [List.append_assoc] at hP1 hD1
  exact K q H1 locs ls hP1 hD1 hS1 hl
theorem n_putF (C : Cx z A l rm cc nL own) (X : Kn z g) (j : Nat) {a ci n i : Nat} {T : u_T} {N : Nat} {R : String} {fs : List Value} {v : Value} {ty : FieldType} {ty0 : Nat → FieldType} {c' : va_W} (he : c[j]? = some (a, .inr (ci, fs))) (hc : vwCl[ci]? = some (R, T, N)) (hin : ∀ w ∈ u_ws R T N, w ∈ gw) (hty : ∀ k, k < N → parseFieldDescriptor (T k).2.2.1 = some (ty0 k)) (hnm : ∀ a, a < N → ∀ b, b < N → a ≠ b → (T a).2.1 ≠ (T b).2.1) (hn : n < N) (hT : (T n).1 = R) (hw : Cond.fieldLink own i R (T n).2.1 (T n).2.2.1 ∈ gw) (hfin : (T n).2.2.2 = true) (hown : R = own) (hin2 : (zM z).name = "<init>") (hpd : parseFieldDescriptor (T n).2.2.1 = some ty) (hnr : narrow ty v = v) (hfit : fits ty v = true) (hlen : n < fs.length) (hd : decode cc pc = .ok (.putfield i, 3)) (hc' : c.set j (a, .inr (ci, fs.set n v)) = c') (K : G z g.1 A nL (w0 ++ c') ce sl (pc + 3) lv st) : G z g.1 A nL (w0 ++ c) ce sl pc lv (v :: .ref a :: st) :=
  fun H locs ls hP hD hS hl => va_putF C.hx C.hb C.hts hin ty0 hty hnm C.hown X.1 hP hD hS (w0.length + j) ((ap_get w0 c j).trans he) hc n hn (C.hts _ hw) (fun x h => by rw [hT] at h; exact h) hfin hin2 (hT.trans hown) hpd hnr hfit hlen hd (fun H1 locs1 hP1 hD1 hS1 => by rw [ap_set, hc'] at hP1 hD1; exact K H1 locs1 ls hP1 hD1 hS1 hl)
theorem n_put (C : Cx z A l rm cc nL own) (X : Kn z g) (j : Nat) {a ci n i : Nat} {T : u_T} {N : Nat} {R : String} {fs : List Value} {v : Value} {ty : FieldType} {ty0 : Nat → FieldType} {c' : va_W} (he : c[j]? = some (a, .inr (ci, fs))) (hc : vwCl[ci]? = some (R, T, N)) (hin : ∀ w ∈ u_ws R T N, w ∈ gw) (hty : ∀ k, k < N → parseFieldDescriptor (T k).2.2.1 = some (ty0 k)) (hnm : ∀ a, a < N → ∀ b, b < N → a ≠ b → (T a).2.1 ≠ (T b).2.1) (hn : n < N) (hT : (T n).1 = R) (hw : Cond.fieldLink own i R (T n).2.1 (T n).2.2.1 ∈ gw) (hfin : (T n).2.2.2 = false) (hpd : parseFieldDescriptor (T n).2.2.1 = some ty) (hnr : narrow ty v = v) (hfit : fits ty v = true) (hlen : n < fs.length) (hd : decode cc pc = .ok (.putfield i, 3)) (hc' : c.set j (a, .inr (ci, fs.set n v)) = c') (K : G z g.1 A nL (w0 ++ c') ce sl (pc + 3) lv st) : G z g.1 A nL (w0 ++ c) ce sl pc lv (v :: .ref a :: st) :=
  fun H locs ls hP hD hS hl => va_put C.hx C.hb C.hts hin ty0 hty hnm C.hown X.1 hP hD hS (w0.length + j) ((ap_get w0 c j).trans he) hc n hn (C.hts _ hw) (fun x h => by rw [hT] at h; exact h) hfin hpd hnr hfit hlen hd (fun H1 locs1 hP1 hD1 hS1 => by rw [ap_set, hc'] at hP1 hD1; exact K H1 locs1 ls hP1 hD1 hS1 hl)
theorem n_getf (C : Cx z A l rm cc nL own) (X : Kn z g) (j : Nat) {a ci n i : Nat} {T : u_T} {N : Nat} {R : String} {fs : List Value} {v : Value} (he : c[j]? = some (a, .inr (ci, fs))) (hc : vwCl[ci]? = some (R, T, N)) (hin : ∀ w ∈ u_ws R T N, w ∈ gw) (hn : n < N) (hT : (T n).1 = R) (hw : Cond.fieldLink own i R (T n).2.1 (T n).2.2.1 ∈ gw) (hv : fs[n]? = some v) (hd : decode cc pc = .ok (.getfield i, 3)) (K : G z g.1 A nL (w0 ++ c) ce sl (pc + 3) lv (v :: st)) : G z g.1 A nL (w0 ++ c) ce sl pc lv (.ref a :: st) :=
  fun H locs ls hP hD hS hl => va_get C.hx C.hb C.hts hin C.hown X.1 hP (w0.length + j) ((ap_get w0 c j).trans he) hc n hn (C.hts _ hw) (fun x h => by rw [hT] at h; exact h) hv hd (K H locs ls hP hD hS hl)
theorem n_alen (C : Cx z A l rm cc nL own) (X : Kn z g) (j t : Nat) {a n : Nat} {cA : ClassId} {x : vp_A} {ty : FieldType} (he : c[j]? = some (a, .inl (cA, x))) (ht : (tys g)[t]? = some (cA, ty)) (hx : x.1 = n) (hd : decode cc pc = .ok (.arraylength, 1)) (K : G z g.1 A nL (w0 ++ c) ce sl (pc + 1) lv (.int (nI n) :: st)) : G z g.1 A nL (w0 ++ c) ce sl pc lv (.ref a :: st) :=
  fun H locs ls hP hD hS hl => va_alen C.hx C.hb X.1 hP (w0.length + j) t ((ap_get w0 c j).trans he) ht (by rw [hx]; rfl) hd (K H locs ls hP hD hS hl)
theorem n_astq (C : Cx z A l rm cc nL own) (X : Kn z g) (j k : Nat) {a n i v ci : Nat} {vs : List Value} {f : Nat → Option Nat} {c' : va_W} (he : c[j]? = some (a, .inl (cy g 4, n, .inr (.inr (.inr (.inr f)))))) (hv : c[k]? = some (v, .inr (ci, vs))) (hc : vwCl[ci]? = some (RX3, TX3, 2)) (hi : i < n) (hn : n < 2 ^ 20) (hd : decode cc pc = .ok (.aastore, 1)) (hc' : c.set j (a, .inl (cy g 4, n, .inr (.inr (.inr (.inr (va_up f i (some v))))))) = c') (K : G z g.1 A nL (w0 ++ c') ce sl (pc + 1) lv st) : G z g.1 A nL (w0 ++ c) ce sl pc lv (.ref v :: .int (nI i) :: .ref a :: st) :=
  fun H locs ls hP hD hS hl => va_astq C.hx C.hb X.1 hP hD hS (w0.length + j) 4 (w0.length + k) ci ((ap_get w0 c j).trans he) rfl ((ap_get w0 c k).trans hv) hc (vp_in_nI hi (by omega)) hd (fun H1 locs1 hP1 hD1 hS1 => by rw [nI_clamp (by omega), ap_set, hc'] at hP1 hD1; exact K H1 locs1 ls hP1 hD1 hS1 hl)
theorem n_vret (C : Cx z A l rm cc nL own) {e0 : Nat × va_E} {post : va_W → Prop} (hd : decode cc pc = .ok (.return_, 1)) (hp : post c) (h1 : ce ≤ rm.cells) (h2 : sl ≤ rm.slots) (Rr : Rn z g A w0 e0 post rm) : G z g.1 A nL (w0 ++ c) ce sl pc lv [] := by
  intro H locs ls hP hD hS hl
  rw [Rr.2.2.1]
  rw [Rr.2.1] at hS hD
  exact W.widen h1 h2 (W.vret C.hx C.hb Rr.1 (fun t ht hW => ⟨rfl, ⟨c, hp, by rw [ht]; exact hP, hD⟩, hS.F ht⟩) hS.2.2 hd C.hlk)
theorem Pn_blind {avs : List Value} {sz : Nat} : FrameBlind (va_Pc avs (Pn g ws sz)) := by
  intro a U fr mk h
  obtain ⟨h1, h2, h3, h4, h5, h6⟩ := h
  exact ⟨h1, h2, h3, h4, va_K.moved (u := U) (U := U.calling fr mk a) (Vm.Alike.refl U.vm) h5, va_AO.moved (u := U) (U := U.calling fr mk a) (Vm.Alike.refl U.vm) h6⟩
theorem nA_free {H : Heap} {locs : List Loc} (hD : va_D A ws) (hS : va_S A (zs z).heap H locs) (hA : ∀ q, (zs z).heap.size ≤ q → A q) : ∀ q, va_A ws H.size q → A q := by
  rintro q (⟨k, e, h⟩ | h)
  · exact hD.2 k (q, e) h
  · exact hA q (Nat.le_trans hS.1 h)
theorem n_callI (C : Cx z A l rm cc nL own) (X : Kn z g) {y : MethodName} {cc' : ByteArray} {nL' n idx q : Nat} {rm' : Room} {e : va_E} {As rest st0 : List Value} {post : va_W → Prop} (M : MI y cc' nL' none n) (hy : y.name = "<init>") (V : Cond.instanceMethod y ∈ gw) (hM : Cn l y cc' nL' rm' g (w0 ++ c) (q, e) (.ref q :: As) post) (hlk : Cond.methodLink own idx y ∈ gw) (hn : As.length = n) (hR : rm'.frames + 1 ≤ rm.frames ∧ 8 + (nL' + 11) + rm'.locals ≤ rm.locals ∧ ce + rm'.cells ≤ rm.cells ∧ sl + rm'.slots ≤ rm.slots) (hst : st0 = As.reverse ++ .ref q :: rest) (hW : (rest.map fun v => v.category).sum ≤ 8) (hd : decode cc pc = .ok (.invokespecial idx, 3)) (K : ∀ c', post c' → G z g.1 A nL (w0 ++ (c ++ c')) (ce + rm'.cells) (sl + rm'.slots) (pc + 3) lv rest) : G z g.1 A nL (w0 ++ (c ++ [(q, e)])) ce sl pc lv st0 := by
  intro H locs ls hP hD hS hl
  rw [← List.append_assoc] at hP hD
  obtain ⟨hR1, hR2, hc3, hc4⟩ := hR
  rw [← C.hR] at hR1 hR2 hc3 hc4
  have hb := callB_of (R := zR z) (s := zs z) (args := za z) (own := own) (index := idx) n C.hts (gw_cons M.1) rfl (Eq.refl rm'.cells) (Eq.refl rm'.slots) (C.hts _ M.2.1) (C.hts _ hlk) M.2.2 ⟨hR1, hR2⟩
  have hr := va_runI (p := zp z) (l := zl z) (e := ze z) (R := zR z) (s := zs z) (m := zm z) (args := za z) (below := zb z) (meth := zM z) (c := zc z) (H := H) (locs := locs) (cells := ce) (slots := sl) (g := F0 (zm z) pc ls st0) (Ts := gw) (As := As) (rest := rest) (b := q) ⟨C.hx, C.hb, C.hml, C.hown, C.hts⟩ (by rw [C.hl]; exact hM H.size) ⟨hb, hy, C.hts _ V⟩ ⟨Pn_blind, fun U hU hw => ⟨rfl, by rw [hU], by rw [hU]; exact hP, hD.weaken (fun _ _ _ _ => trivial), va_K.moved hw.alike X.1, va_AO.moved hw.alike X.2⟩⟩ rfl hn hl.1 hst (lv_room hW) hd ⟨hc3, hc4⟩
  intro T0 hT X0
  obtain ⟨v, st₀, t, T', L, h0, X', hL, e1, e2, ⟨hv, ⟨c', hp, hP', hD'⟩, hF1, hF2⟩, sp⟩ := hr T0 hT X0
  cases hv
  rw [h0] at hF1 hF2
  rw [List.append_assoc w0 c c'] at hP' hD'
  have hfr := nA_free hD hS C.hA
  obtain ⟨t2, a1, b1⟩ := K c' hp T'.heap (locs ++ L) ls (by rw [e1]; exact hP') (hD'.weaken (fun _ _ _ h => hfr _ h)) ⟨Nat.le_trans hS.1 (by rw [e1]; exact hF1), fun q h1 h2 => by rw [e1, hF2 q (Nat.lt_of_lt_of_le h1 hS.1) (fun hv => h2 (hfr q hv))]; exact hS.2.1 q h1 h2, fun q hq => by
      rcases List.mem_append.mp hq with h | h
      · exact hS.2.2 q h
      · exact hfr _ (hL q h)⟩ hl T' rfl X'
  exact ⟨t2, sp t2 a1, b1⟩
end CN
