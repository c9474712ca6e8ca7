/-! typed memory: int fields, long fields, int rows, long rows -/
abbrev Mm : Type := (Nat → Int32) × (Nat → Int64) × (Nat → Nat → Int32) × (Nat → Nat → Int64)
def gI (μ : Mm) (k : Nat) : Int32 := μ.1 k
def gL (μ : Mm) (k : Nat) : Int64 := μ.2.1 k
def gA (μ : Mm) (k : Nat) : Nat → Int32 := μ.2.2.1 k
def gJ (μ : Mm) (k : Nat) : Nat → Int64 := μ.2.2.2 k
def sI (μ : Mm) (k : Nat) (v : Int32) : Mm := (va_up μ.1 k v, μ.2.1, μ.2.2.1, μ.2.2.2)
def sL (μ : Mm) (k : Nat) (v : Int64) : Mm := (μ.1, va_up μ.2.1 k v, μ.2.2.1, μ.2.2.2)
def sA (μ : Mm) (k : Nat) (v : Nat → Int32) : Mm := (μ.1, μ.2.1, va_up μ.2.2.1 k v, μ.2.2.2)
def sJ (μ : Mm) (k : Nat) (v : Nat → Int64) : Mm := (μ.1, μ.2.1, μ.2.2.1, va_up μ.2.2.2 k v)
theorem up_s {α : Type} (f : Nat → α) (k : Nat) (v : α) : va_up f k v k = v := by simp [va_up]
theorem up_n {α : Type} (f : Nat → α) {k j : Nat} (v : α) (h : j ≠ k) : va_up f k v j = f j := by simp [va_up, h]
theorem up_i {α : Type} (f : Nat → α) (k : Nat) : va_up f k (f k) = f := by funext j; by_cases h : j = k <;> simp [va_up, h]
theorem up_u {α : Type} (f : Nat → α) (k : Nat) (v w : α) : va_up (va_up f k v) k w = va_up f k w := by funext j; by_cases h : j = k <;> simp [va_up, h]
theorem up_c {α : Type} (f : Nat → α) {k j : Nat} (v w : α) (h : k ≠ j) : va_up (va_up f k v) j w = va_up (va_up f j w) k v := by
  funext i; by_cases h1 : i = k
  · subst h1; simp [va_up, h]
  · by_cases h2 : i = j
    · subst h2; simp [va_up, h1]
    · simp [va_up, h1, h2]

theorem gI_s (μ : Mm) (k : Nat) (v : Int32) : gI (sI μ k v) k = v := up_s _ k v
theorem gI_n (μ : Mm) {k j : Nat} (v : Int32) (h : j ≠ k) : gI (sI μ k v) j = gI μ j := up_n _ v h
theorem sI_i (μ : Mm) (k : Nat) : sI μ k (gI μ k) = μ := by simp only [sI, gI, up_i]
theorem sI_u (μ : Mm) (k : Nat) (v w : Int32) : sI (sI μ k v) k w = sI μ k w := by simp only [sI, up_u]
theorem sI_c (μ : Mm) {k j : Nat} (v w : Int32) (h : k ≠ j) : sI (sI μ k v) j w = sI (sI μ j w) k v := by simp only [sI]; rw [up_c _ v w h]
theorem gI_L (μ : Mm) (k j : Nat) (v : Int64) : gI (sL μ k v) j = gI μ j := rfl
theorem gI_A (μ : Mm) (k j : Nat) (v : Nat → Int32) : gI (sA μ k v) j = gI μ j := rfl
theorem gI_J (μ : Mm) (k j : Nat) (v : Nat → Int64) : gI (sJ μ k v) j = gI μ j := rfl
theorem gL_s (μ : Mm) (k : Nat) (v : Int64) : gL (sL μ k v) k = v := up_s _ k v
theorem gL_n (μ : Mm) {k j : Nat} (v : Int64) (h : j ≠ k) : gL (sL μ k v) j = gL μ j := up_n _ v h
theorem sL_i (μ : Mm) (k : Nat) : sL μ k (gL μ k) = μ := by simp only [sL, gL, up_i]
theorem sL_u (μ : Mm) (k : Nat) (v w : Int64) : sL (sL μ k v) k w = sL μ k w := by simp only [sL, up_u]
theorem sL_c (μ : Mm) {k j : Nat} (v w : Int64) (h : k ≠ j) : sL (sL μ k v) j w = sL (sL μ j w) k v := by simp only [sL]; rw [up_c _ v w h]
theorem gL_I (μ : Mm) (k j : Nat) (v : Int32) : gL (sI μ k v) j = gL μ j := rfl
theorem gL_A (μ : Mm) (k j : Nat) (v : Nat → Int32) : gL (sA μ k v) j = gL μ j := rfl
theorem gL_J (μ : Mm) (k j : Nat) (v : Nat → Int64) : gL (sJ μ k v) j = gL μ j := rfl
theorem gA_s (μ : Mm) (k : Nat) (v : Nat → Int32) : gA (sA μ k v) k = v := up_s _ k v
theorem gA_n (μ : Mm) {k j : Nat} (v : Nat → Int32) (h : j ≠ k) : gA (sA μ k v) j = gA μ j := up_n _ v h
theorem sA_i (μ : Mm) (k : Nat) : sA μ k (gA μ k) = μ := by simp only [sA, gA, up_i]
theorem sA_u (μ : Mm) (k : Nat) (v w : Nat → Int32) : sA (sA μ k v) k w = sA μ k w := by simp only [sA, up_u]
theorem sA_c (μ : Mm) {k j : Nat} (v w : Nat → Int32) (h : k ≠ j) : sA (sA μ k v) j w = sA (sA μ j w) k v := by simp only [sA]; rw [up_c _ v w h]
theorem gA_I (μ : Mm) (k j : Nat) (v : Int32) : gA (sI μ k v) j = gA μ j := rfl
theorem gA_L (μ : Mm) (k j : Nat) (v : Int64) : gA (sL μ k v) j = gA μ j := rfl
theorem gA_J (μ : Mm) (k j : Nat) (v : Nat → Int64) : gA (sJ μ k v) j = gA μ j := rfl
theorem gJ_s (μ : Mm) (k : Nat) (v : Nat → Int64) : gJ (sJ μ k v) k = v := up_s _ k v
theorem gJ_n (μ : Mm) {k j : Nat} (v : Nat → Int64) (h : j ≠ k) : gJ (sJ μ k v) j = gJ μ j := up_n _ v h
theorem sJ_i (μ : Mm) (k : Nat) : sJ μ k (gJ μ k) = μ := by simp only [sJ, gJ, up_i]
theorem sJ_u (μ : Mm) (k : Nat) (v w : Nat → Int64) : sJ (sJ μ k v) k w = sJ μ k w := by simp only [sJ, up_u]
theorem sJ_c (μ : Mm) {k j : Nat} (v w : Nat → Int64) (h : k ≠ j) : sJ (sJ μ k v) j w = sJ (sJ μ j w) k v := by simp only [sJ]; rw [up_c _ v w h]
theorem gJ_I (μ : Mm) (k j : Nat) (v : Int32) : gJ (sI μ k v) j = gJ μ j := rfl
theorem gJ_L (μ : Mm) (k j : Nat) (v : Int64) : gJ (sL μ k v) j = gJ μ j := rfl
theorem gJ_A (μ : Mm) (k j : Nat) (v : Nat → Int32) : gJ (sA μ k v) j = gJ μ j := rfl
theorem sL_I (μ : Mm) (k j : Nat) (v : Int32) (x : Int64) : sL (sI μ k v) j x = sI (sL μ j x) k v := rfl
theorem sA_I (μ : Mm) (k j : Nat) (v : Int32) (x : Nat → Int32) : sA (sI μ k v) j x = sI (sA μ j x) k v := rfl
theorem sA_L (μ : Mm) (k j : Nat) (v : Int64) (x : Nat → Int32) : sA (sL μ k v) j x = sL (sA μ j x) k v := rfl
theorem sJ_I (μ : Mm) (k j : Nat) (v : Int32) (x : Nat → Int64) : sJ (sI μ k v) j x = sI (sJ μ j x) k v := rfl
theorem sJ_L (μ : Mm) (k j : Nat) (v : Int64) (x : Nat → Int64) : sJ (sL μ k v) j x = sL (sJ μ j x) k v := rfl
theorem sJ_A (μ : Mm) (k j : Nat) (v : Nat → Int32) (x : Nat → Int64) : sJ (sA μ k v) j x = sA (sJ μ j x) k v := rfl
/-! layout: the classes' numbers, the array classes, the addresses, the two static rows -/
abbrev Gd : Type := va_G × (Nat → ClassId) × (Nat → Nat) × Nat × Nat
abbrev cy (g : Gd) (k : Nat) : ClassId := g.2.1 k
abbrev ad (g : Gd) (k : Nat) : Nat := g.2.2.1 k
def fo (i : Nat) : Nat := 28 + 2 * i
def fw (i : Nat) : Nat := 29 + 2 * i
abbrev rf (g : Gd) (k : Nat) : Value := .ref (ad g k)
abbrev jR (g : Gd) (n : Nat) (f : Nat → Int64) : va_E := .inl (cy g 2, n, .inr (.inl f))
abbrev iR (g : Gd) (t n : Nat) (f : Nat → Int32) : va_E := .inl (cy g t, n, .inl f)
abbrev aR (g : Gd) (n b : Nat) : va_E := .inl (cy g 4, n, .inr (.inr (.inr (.inr (fun i => some (ad g (fo (b + i))))))))
def WF (g : Gd) (μ : Mm) (k : Nat) : va_E := match k with
  | 0 => .inr (9, [rf g 1, rf g 2, rf g 3, rf g 6, rf g 8, rf g 9, rf g 10, rf g 12, rf g 15, rf g 18, rf g (fo 50), rf g (fo 51)])
  | 1 => .inr (3, [.int (gI μ 0), .int (gI μ 1)])
  | 2 => aR g 4 0
  | 3 => .inr (4, [.int (gI μ 2), .int (gI μ 3), rf g 4, rf g 5])
  | 4 => iR g 1 4 (gA μ 0)
  | 5 => aR g 16 4
  | 6 => .inr (8, [.int (gI μ 4), rf g 7])
  | 7 => iR g 0 120 (gA μ 1)
  | 8 => .inr (1, [rf g 1, rf g (fo 20), rf g (fo 21), rf g (fo 22)])
  | 9 => .inr (0, [rf g 1, rf g (fo 23), rf g (fo 24), rf g (fo 25)])
  | 10 => .inr (6, [rf g 1, rf g 11])
  | 11 => aR g 11 26
  | 12 => .inr (7, [rf g 1, rf g 8, rf g 13, rf g (fo 48), rf g (fo 49), rf g 14])
  | 13 => aR g 11 37
  | 14 => iR g 1 1024 (gA μ 2)
  | 15 => .inr (5, [rf g 1, rf g 16, rf g 17])
  | 16 => iR g 1 1024 (gA μ 3)
  | 17 => jR g 11 (gJ μ 52)
  | 18 => iR g 1 1024 (gA μ 4)
  | 19 => .inr (10, [.int (gI μ 5), .int (gI μ 6), rf g 20, rf g 21, rf g 22, .int (gI μ 7), rf g 23, .int (gI μ 8), rf g 24, .long (gL μ 0), .long (gL μ 1), rf g 25, .int (gI μ 9), rf g 26, .long (gL μ 2)])
  | 20 => iR g 3 4096 (gA μ 5)
  | 21 => iR g 3 16384 (gA μ 6)
  | 22 => iR g 1 4 (gA μ 7)
  | 23 => iR g 0 120 (gA μ 8)
  | 24 => iR g 3 1024 (gA μ 9)
  | 25 => iR g 1 1024 (gA μ 10)
  | 26 => iR g 1 11 (gA μ 11)
  | 27 => jR g 1 (gJ μ 53)
  | n + 28 => if n % 2 = 0 then .inr (2, [rf g 1, .ref (ad g (n + 29))]) else jR g 16 (gJ μ (n / 2))
theorem WF_fo (g : Gd) (μ : Mm) (i : Nat) : WF g μ (fo i) = .inr (2, [rf g 1, rf g (fw i)]) := by
  have h : fo i = 2 * i + 28 := by unfold fo; omega
  have h2 : fw i = 2 * i + 29 := by unfold fw; omega
  rw [h, h2]
  show (if (2 * i) % 2 = 0 then _ else _) = _
  rw [if_pos (by omega)]
theorem WF_fw (g : Gd) (μ : Mm) (i : Nat) : WF g μ (fw i) = jR g 16 (gJ μ i) := by
  have h : fw i = (2 * i + 1) + 28 := by unfold fw; omega
  rw [h]
  show (if (2 * i + 1) % 2 = 0 then _ else _) = _
  rw [if_neg (by omega), show (2 * i + 1) / 2 = i by omega]
def wd (g : Gd) (μ : Mm) : va_W := (List.range 132).map (fun k => (ad g k, WF g μ k))
theorem wd_get (g : Gd) (μ : Mm) {k : Nat} (h : k < 132) : (wd g μ)[k]? = some (ad g k, WF g μ k) := by
  simp [wd, List.getElem?_range h]
theorem wd_at {g : Gd} {μ : Mm} {k : Nat} {e : va_E} (h : k < 132) (he : WF g μ k = e) : (wd g μ)[k]? = some (ad g k, e) := by rw [wd_get g μ h, he]
theorem wd_inv {g : Gd} {μ : Mm} {k : Nat} {q : Nat × va_E} (h : (wd g μ)[k]? = some q) : k < 132 ∧ q = (ad g k, WF g μ k) := by
  have hk : k < 132 := by
    have := (List.getElem?_eq_some_iff.mp h).1
    simpa [wd] using this
  rw [wd_get g μ hk] at h
  exact ⟨hk, (Option.some.inj h).symm⟩
theorem wd_set {g : Gd} {μ μ' : Mm} {k : Nat} {e : va_E} (h : k < 132) (he : WF g μ' k = e) (hn : ∀ j, j < 132 → j ≠ k → WF g μ' j = WF g μ j) : (wd g μ).set k (ad g k, e) = wd g μ' := by
  apply List.ext_getElem?
  intro j
  by_cases hj : j < 132
  · rw [wd_get g μ' hj]
    by_cases hjk : k = j
    · subst hjk
      rw [List.getElem?_set_self (by simpa [wd] using h), he]
    · rw [List.getElem?_set_ne hjk, wd_get g μ hj, hn j hj (fun q => hjk q.symm)]
  · rw [List.getElem?_eq_none (by simp [wd]; omega), List.getElem?_eq_none (by simp [wd]; omega)]
theorem wd_D {A : Nat → Prop} {g : Gd} {μ : Mm} (μ' : Mm) (h : va_D A (wd g μ)) : va_D A (wd g μ') := by
  refine ⟨fun i j p q hp hq he => ?_, fun k q hk => ?_⟩
  · obtain ⟨hi, rfl⟩ := wd_inv hp
    obtain ⟨hj, rfl⟩ := wd_inv hq
    exact h.1 i j _ _ (wd_get g μ hi) (wd_get g μ hj) he
  · obtain ⟨hi, rfl⟩ := wd_inv hk
    exact (h.2 k _ (wd_get g μ hi) :)
def vA (g : Gd) (sz : Nat) : Nat → Prop := fun q => (∃ k, k < 132 ∧ q = ad g k) ∨ sz ≤ q
theorem vA_D {A : Nat → Prop} {g : Gd} {μ : Mm} {sz : Nat} (h : va_D A (wd g μ)) : va_D (vA g sz) (wd g μ) := by
  refine ⟨h.1, fun k q hk => ?_⟩
  obtain ⟨hi, rfl⟩ := wd_inv hk
  exact Or.inl ⟨k, hi, rfl⟩
theorem vA_free {A : Nat → Prop} {g : Gd} {μ : Mm} {H0 H : Heap} {locs : List Loc} (hD : va_D A (wd g μ)) (hS : va_S A H0 H locs) (hA : ∀ q, H0.size ≤ q → A q) : ∀ q, vA g H.size q → A q := by
  intro q h
  rcases h with ⟨k, hk, rfl⟩ | h
  · exact hD.2 k _ (wd_get g μ hk)
  · exact hA q (Nat.le_trans hS.1 h)
abbrev tys (g : Gd) : List (ClassId × FieldType) := [(cy g 0, .byte), (cy g 1, .int), (cy g 2, .long), (cy g 3, .boolean), (cy g 4, .object "SetFamilies$Family")]
def lackT (j : Nat) : Int64 := ([0x5555555555555555, 0x3333333333333333, 0x0F0F0F0F0F0F0F0F, 0x00FF00FF00FF00FF, 0x0000FFFF0000FFFF, 0x00000000FFFFFFFF] : List Int64).getD j 0
def sizeT (j : Nat) : Int64 := ([0x0000000000000001, 0x0000000100010116, 0x0001011601161668, 0x0116166816686880, 0x1668688068808000, 0x6880800080000000, 0x8000000000000000] : List Int64).getD j 0
abbrev nwB : MethodName := ⟨"SetFamilies", "branchEnd", "(II)I"⟩
abbrev nwH : MethodName := ⟨"SetFamilies", "holds", "(II)Z"⟩
/-- what is given of the statics, and three links between nest mates -/
def Sta (g : Gd) (A : Nat → Prop) (U : State) (H : Heap) : Prop :=
  va_Z "SetFamilies$Family" "LACKING" "[J" (.ref g.2.2.2.1) A U H ∧ va_T .long g.2.2.2.1 6 (fun j => .long (lackT j)) A U H ∧
  va_Z "SetFamilies$Family" "OF_SIZE" "[J" (.ref g.2.2.2.2) A U H ∧ va_T .long g.2.2.2.2 7 (fun j => .long (sizeT j)) A U H ∧
  va_Nw (.methodLinkNest "SetFamilies$Shattering" 43 nwB "SetFamilies") U ∧ va_Nw (.methodLinkNest "SetFamilies$SunflowerSearch" 56 nwB "SetFamilies") U ∧ va_Nw (.methodLinkNest "SetFamilies$Colex" 9 nwH "SetFamilies") U
theorem Sta.to {g : Gd} {A B : Nat → Prop} {s U : State} {H : Heap} {locs : List Loc} (h : Sta g A s s.heap) (hS : va_S A s.heap H locs) (hU : U.heap = H) (hW : s.WarmedH U.vm) (hB : ∀ q, B q → A q) : Sta g B U U.heap := by
  obtain ⟨h1, h2, h3, h4, h5, h6, h7⟩ := h
  rw [hU]
  exact ⟨va_Z.moved hW.alike ((h1.kept hS.2.1).narrow hB), va_T.moved hW.alike ((h2.kept hS.2.1).narrow hB), va_Z.moved hW.alike ((h3.kept hS.2.1).narrow hB), va_T.moved hW.alike ((h4.kept hS.2.1).narrow hB), va_Nw.warmM hW h5, va_Nw.warmM hW h6, va_Nw.warmM hW h7⟩
theorem Sta.blind {g : Gd} {A : Nat → Prop} {U V : State} (hh : V.heap = U.heap) (hv : V.vm = U.vm) (h : Sta g A U U.heap) : Sta g A V V.heap := by
  obtain ⟨h1, h2, h3, h4, h5, h6, h7⟩ := h
  rw [hh]
  have hq : U.vm.Alike V.vm := by rw [hv]; exact Vm.Alike.refl U.vm
  exact ⟨va_Z.moved hq h1, va_T.moved hq h2, va_Z.moved hq h3, va_T.moved hq h4, va_Nw.same rfl hv.symm h5, va_Nw.same rfl hv.symm h6, va_Nw.same rfl hv.symm h7⟩
/-! the machine, bundled -/
abbrev Zt : Type := Program × Launch × Env × Room × State × MethodId × Array Value × List Frame × Method × Code × (State → Prop)
abbrev zp (z : Zt) := z.1
abbrev zl (z : Zt) := z.2.1
abbrev ze (z : Zt) := z.2.2.1
abbrev zR (z : Zt) := z.2.2.2.1
abbrev zs (z : Zt) := z.2.2.2.2.1
abbrev zm (z : Zt) := z.2.2.2.2.2.1
abbrev za (z : Zt) := z.2.2.2.2.2.2.1
abbrev zb (z : Zt) := z.2.2.2.2.2.2.2.1
abbrev zM (z : Zt) := z.2.2.2.2.2.2.2.2.1
abbrev zc (z : Zt) := z.2.2.2.2.2.2.2.2.2.1
abbrev zQ (z : Zt) := z.2.2.2.2.2.2.2.2.2.2
/-- the machine goes on well from pc, with these locals and this stack, over every heap that holds the cells ws -/
def G (z : Zt) (D : va_G) (A : Nat → Prop) (nL : Nat) (ws : va_W) (ce sl pc : Nat) (lv : List (Nat × Value)) (st : List Value) : Prop :=
  ∀ (H : Heap) (locs : List Loc) (ls : Array Slot), va_P D vwCl ws H → va_D A ws → va_S A (zs z).heap H locs → lv_has ls nL lv →
    W (zp z) (zl z) (ze z) (zR z) (zs z) (zm z) (za z) (zb z) (zM z) (zc z) H locs ce sl (zQ z) (F0 (zm z) pc ls st)
/-- what stands all through a method -/
def Cx (z : Zt) (A : Nat → Prop) (l : Launch) (rm : Room) (cc : ByteArray) (nL : Nat) (own : String) : Prop :=
  (zp z).tables.exec = Jvm.exec ∧ (zc z).code = cc ∧ (zc z).maxLocals = nL ∧ (zs z).vm.findClass own = some (zm z).cls ∧ (∀ w ∈ gw, w.before (za z) (zs z) = true) ∧ (∀ q, (zs z).heap.size ≤ q → A q) ∧ (zM z).locks = false ∧ zl z = l ∧ zR z = rm
def Kx (z : Zt) (g : Gd) (A : Nat → Prop) : Prop := va_K g.1 vwCl (tys g) (zs z) ∧ Sta g A (zs z) (zs z).heap
section BASE
variable {z : Zt} {D : va_G} {A : Nat → Prop} {nL : Nat} {ws : va_W} {ce sl pc : Nat} {lv : List (Nat × Value)} {st : List Value} {l : Launch} {rm : Room} {cc : ByteArray} {own : String} {g : Gd} {μ μ' : Mm}
theorem Cx.hx (C : Cx z A l rm cc nL own) : (zp z).tables.exec = Jvm.exec := C.1
theorem Cx.hb (C : Cx z A l rm cc nL own) : (zc z).code = cc := C.2.1
theorem Cx.hml (C : Cx z A l rm cc nL own) : (zc z).maxLocals = nL := C.2.2.1
theorem Cx.hown (C : Cx z A l rm cc nL own) : (zs z).vm.findClass own = some (zm z).cls := C.2.2.2.1
theorem Cx.hts (C : Cx z A l rm cc nL own) : ∀ w ∈ gw, w.before (za z) (zs z) = true := C.2.2.2.2.1
theorem Cx.hA (C : Cx z A l rm cc nL own) : ∀ q, (zs z).heap.size ≤ q → A q := C.2.2.2.2.2.1
theorem Cx.hlk (C : Cx z A l rm cc nL own) : (zM z).locks = false := C.2.2.2.2.2.2.1
theorem Cx.hl (C : Cx z A l rm cc nL own) : zl z = l := C.2.2.2.2.2.2.2.1
theorem Cx.hR (C : Cx z A l rm cc nL own) : zR z = rm := C.2.2.2.2.2.2.2.2
theorem G_sub {lv' : List (Nat × Value)} (ks : List Nat) (h : lv_pick lv ks = lv') (K : G z D A nL ws ce sl pc lv' st) : G z D A nL ws ce sl pc lv st := fun H locs ls hP hD hS hl => K H locs ls hP hD hS (lv_sub hl ks h)
theorem G_top {x y : Int32} (h : x = y) (K : G z D A nL ws ce sl pc lv (.int y :: st)) : G z D A nL ws ce sl pc lv (.int x :: st) := h ▸ K
theorem G_topl {x y : Int64} (h : x = y) (K : G z D A nL ws ce sl pc lv (.long y :: st)) : G z D A nL ws ce sl pc lv (.long x :: st) := h ▸ K
theorem G_st {st' : List Value} (h : st = st') (K : G z D A nL ws ce sl pc lv st') : G z D A nL ws ce sl pc lv st := h ▸ K
theorem G_lv {lv' : List (Nat × Value)} (h : lv = lv') (K : G z D A nL ws ce sl pc lv' st) : G z D A nL ws ce sl pc lv st := h ▸ K
theorem G_mem (h : μ = μ') (K : G z D A nL (wd g μ') ce sl pc lv st) : G z D A nL (wd g μ) ce sl pc lv st := h ▸ K
theorem r_iadd (C : Cx z A l rm cc nL own) {x y v : Int32} (hd : decode cc pc = .ok (.iadd, 1)) (hv : x + y = v) (K : G z D A nL ws ce sl (pc + 1) lv (.int v :: st)) : G z D A nL ws ce sl pc lv (.int y :: .int x :: st) := fun H locs ls hP hD hS hl => lv_iadd C.hx C.hb hd (by rw [hv]; exact K H locs ls hP hD hS hl)
theorem r_isub (C : Cx z A l rm cc nL own) {x y v : Int32} (hd : decode cc pc = .ok (.isub, 1)) (hv : x - y = v) (K : G z D A nL ws ce sl (pc + 1) lv (.int v :: st)) : G z D A nL ws ce sl pc lv (.int y :: .int x :: st) := fun H locs ls hP hD hS hl => lv_isub C.hx C.hb hd (by rw [hv]; exact K H locs ls hP hD hS hl)
theorem r_imul (C : Cx z A l rm cc nL own) {x y v : Int32} (hd : decode cc pc = .ok (.imul, 1)) (hv : x * y = v) (K : G z D A nL ws ce sl (pc + 1) lv (.int v :: st)) : G z D A nL ws ce sl pc lv (.int y :: .int x :: st) := fun H locs ls hP hD hS hl => lv_imul C.hx C.hb hd (by rw [hv]; exact K H locs ls hP hD hS hl)
theorem r_iand (C : Cx z A l rm cc nL own) {x y v : Int32} (hd : decode cc pc = .ok (.iand, 1)) (hv : x &&& y = v) (K : G z D A nL ws ce sl (pc + 1) lv (.int v :: st)) : G z D A nL ws ce sl pc lv (.int y :: .int x :: st) := fun H locs ls hP hD hS hl => lv_iand C.hx C.hb hd (by rw [hv]; exact K H locs ls hP hD hS hl)
theorem r_ior (C : Cx z A l rm cc nL own) {x y v : Int32} (hd : decode cc pc = .ok (.ior, 1)) (hv : x ||| y = v) (K : G z D A nL ws ce sl (pc + 1) lv (.int v :: st)) : G z D A nL ws ce sl pc lv (.int y :: .int x :: st) := fun H locs ls hP hD hS hl => lv_ior C.hx C.hb hd (by rw [hv]; exact K H locs ls hP hD hS hl)
theorem r_ixor (C : Cx z A l rm cc nL own) {x y v : Int32} (hd : decode cc pc = .ok (.ixor, 1)) (hv : x ^^^ y = v) (K : G z D A nL ws ce sl (pc + 1) lv (.int v :: st)) : G z D A nL ws ce sl pc lv (.int y :: .int x :: st) := fun H locs ls hP hD hS hl => lv_ixor C.hx C.hb hd (by rw [hv]; exact K H locs ls hP hD hS hl)
theorem r_ladd (C : Cx z A l rm cc nL own) {x y v : Int64} (hd : decode cc pc = .ok (.ladd, 1)) (hv : x + y = v) (K : G z D A nL ws ce sl (pc + 1) lv (.long v :: st)) : G z D A nL ws ce sl pc lv (.long y :: .long x :: st) := fun H locs ls hP hD hS hl => lv_ladd C.hx C.hb hd (by rw [hv]; exact K H locs ls hP hD hS hl)
theorem r_lsub (C : Cx z A l rm cc nL own) {x y v : Int64} (hd : decode cc pc = .ok (.lsub, 1)) (hv : x - y = v) (K : G z D A nL ws ce sl (pc + 1) lv (.long v :: st)) : G z D A nL ws ce sl pc lv (.long y :: .long x :: st) := fun H locs ls hP hD hS hl => lv_lsub C.hx C.hb hd (by rw [hv]; exact K H locs ls hP hD hS hl)
theorem r_lmul (C : Cx z A l rm cc nL own) {x y v : Int64} (hd : decode cc pc = .ok (.lmul, 1)) (hv : x * y = v) (K : G z D A nL ws ce sl (pc + 1) lv (.long v :: st)) : G z D A nL ws ce sl pc lv (.long y :: .long x :: st) := fun H locs ls hP hD hS hl => lv_lmul C.hx C.hb hd (by rw [hv]; exact K H locs ls hP hD hS hl)
theorem r_land (C : Cx z A l rm cc nL own) {x y v : Int64} (hd : decode cc pc = .ok (.land, 1)) (hv : x &&& y = v) (K : G z D A nL ws ce sl (pc + 1) lv (.long v :: st)) : G z D A nL ws ce sl pc lv (.long y :: .long x :: st) := fun H locs ls hP hD hS hl => lv_land C.hx C.hb hd (by rw [hv]; exact K H locs ls hP hD hS hl)
theorem r_lor (C : Cx z A l rm cc nL own) {x y v : Int64} (hd : decode cc pc = .ok (.lor, 1)) (hv : x ||| y = v) (K : G z D A nL ws ce sl (pc + 1) lv (.long v :: st)) : G z D A nL ws ce sl pc lv (.long y :: .long x :: st) := fun H locs ls hP hD hS hl => lv_lor C.hx C.hb hd (by rw [hv]; exact K H locs ls hP hD hS hl)
theorem r_lxor (C : Cx z A l rm cc nL own) {x y v : Int64} (hd : decode cc pc = .ok (.lxor, 1)) (hv : x ^^^ y = v) (K : G z D A nL ws ce sl (pc + 1) lv (.long v :: st)) : G z D A nL ws ce sl pc lv (.long y :: .long x :: st) := fun H locs ls hP hD hS hl => lv_lxor C.hx C.hb hd (by rw [hv]; exact K H locs ls hP hD hS hl)
theorem r_ishl (C : Cx z A l rm cc nL own) {x y v : Int32} (hd : decode cc pc = .ok (.ishl, 1)) (hv : x <<< (y &&& 31) = v) (K : G z D A nL ws ce sl (pc + 1) lv (.int v :: st)) : G z D A nL ws ce sl pc lv (.int y :: .int x :: st) := fun H locs ls hP hD hS hl => lv_ishl C.hx C.hb hd (by rw [hv]; exact K H locs ls hP hD hS hl)
theorem r_ishr (C : Cx z A l rm cc nL own) {x y v : Int32} (hd : decode cc pc = .ok (.ishr, 1)) (hv : x >>> (y &&& 31) = v) (K : G z D A nL ws ce sl (pc + 1) lv (.int v :: st)) : G z D A nL ws ce sl pc lv (.int y :: .int x :: st) := fun H locs ls hP hD hS hl => lv_ishr C.hx C.hb hd (by rw [hv]; exact K H locs ls hP hD hS hl)
theorem r_idiv (C : Cx z A l rm cc nL own) {x y v : Int32} (hd : decode cc pc = .ok (.idiv, 1)) (hne : ¬ y = 0) (hv : x / y = v) (K : G z D A nL ws ce sl (pc + 1) lv (.int v :: st)) : G z D A nL ws ce sl pc lv (.int y :: .int x :: st) := fun H locs ls hP hD hS hl => lv_idiv C.hx C.hb hd hne (by rw [hv]; exact K H locs ls hP hD hS hl)
theorem r_irem (C : Cx z A l rm cc nL own) {x y v : Int32} (hd : decode cc pc = .ok (.irem, 1)) (hne : ¬ y = 0) (hv : x - x / y * y = v) (K : G z D A nL ws ce sl (pc + 1) lv (.int v :: st)) : G z D A nL ws ce sl pc lv (.int y :: .int x :: st) := fun H locs ls hP hD hS hl => lv_irem C.hx C.hb hd hne (by rw [hv]; exact K H locs ls hP hD hS hl)
theorem r_ldiv (C : Cx z A l rm cc nL own) {x y v : Int64} (hd : decode cc pc = .ok (.ldiv, 1)) (hne : ¬ y = 0) (hv : x / y = v) (K : G z D A nL ws ce sl (pc + 1) lv (.long v :: st)) : G z D A nL ws ce sl pc lv (.long y :: .long x :: st) := fun H locs ls hP hD hS hl => lv_ldiv C.hx C.hb hd hne (by rw [hv]; exact K H locs ls hP hD hS hl)
theorem r_lrem (C : Cx z A l rm cc nL own) {x y v : Int64} (hd : decode cc pc = .ok (.lrem, 1)) (hne : ¬ y = 0) (hv : x - x / y * y = v) (K : G z D A nL ws ce sl (pc + 1) lv (.long v :: st)) : G z D A nL ws ce sl pc lv (.long y :: .long x :: st) := fun H locs ls hP hD hS hl => lv_lrem C.hx C.hb hd hne (by rw [hv]; exact K H locs ls hP hD hS hl)
theorem r_ineg (C : Cx z A l rm cc nL own) {x v : Int32} (hd : decode cc pc = .ok (.ineg, 1)) (hv : -x = v) (K : G z D A nL ws ce sl (pc + 1) lv (.int v :: st)) : G z D A nL ws ce sl pc lv (.int x :: st) := fun H locs ls hP hD hS hl => lv_ineg C.hx C.hb hd (by rw [hv]; exact K H locs ls hP hD hS hl)
theorem r_lneg (C : Cx z A l rm cc nL own) {x v : Int64} (hd : decode cc pc = .ok (.lneg, 1)) (hv : -x = v) (K : G z D A nL ws ce sl (pc + 1) lv (.long v :: st)) : G z D A nL ws ce sl pc lv (.long x :: st) := fun H locs ls hP hD hS hl => lv_lneg C.hx C.hb hd (by rw [hv]; exact K H locs ls hP hD hS hl)
theorem r_iushr (C : Cx z A l rm cc nL own) {x y v : Int32} (hd : decode cc pc = .ok (.iushr, 1)) (hv : (x.toUInt32 >>> (y.toUInt32 &&& Int32.toUInt32 31)).toInt32 = v) (K : G z D A nL ws ce sl (pc + 1) lv (.int v :: st)) : G z D A nL ws ce sl pc lv (.int y :: .int x :: st) := fun H locs ls hP hD hS hl => lv_iushr C.hx C.hb hd hv (K H locs ls hP hD hS hl)
theorem r_lushr (C : Cx z A l rm cc nL own) {x v : Int64} {y : Int32} (hd : decode cc pc = .ok (.lushr, 1)) (hv : (x.toUInt64 >>> (y.toInt64.toUInt64 &&& Int64.toUInt64 63)).toInt64 = v) (K : G z D A nL ws ce sl (pc + 1) lv (.long v :: st)) : G z D A nL ws ce sl pc lv (.int y :: .long x :: st) := fun H locs ls hP hD hS hl => lv_lushr C.hx C.hb hd hv (K H locs ls hP hD hS hl)
theorem r_lshl (C : Cx z A l rm cc nL own) {x v : Int64} {y : Int32} (hd : decode cc pc = .ok (.lshl, 1)) (hv : x <<< (y.toInt64 &&& 63) = v) (K : G z D A nL ws ce sl (pc + 1) lv (.long v :: st)) : G z D A nL ws ce sl pc lv (.int y :: .long x :: st) := fun H locs ls hP hD hS hl => lv_lshl C.hx C.hb hd hv (K H locs ls hP hD hS hl)
theorem r_lshr (C : Cx z A l rm cc nL own) {x v : Int64} {y : Int32} (hd : decode cc pc = .ok (.lshr, 1)) (hv : x >>> (y.toInt64 &&& 63) = v) (K : G z D A nL ws ce sl (pc + 1) lv (.long v :: st)) : G z D A nL ws ce sl pc lv (.int y :: .long x :: st) := fun H locs ls hP hD hS hl => lv_lshr C.hx C.hb hd hv (K H locs ls hP hD hS hl)
theorem r_i2l (C : Cx z A l rm cc nL own) {x : Int32} {v : Int64} (hd : decode cc pc = .ok (.i2l, 1)) (hv : x.toInt64 = v) (K : G z D A nL ws ce sl (pc + 1) lv (.long v :: st)) : G z D A nL ws ce sl pc lv (.int x :: st) := fun H locs ls hP hD hS hl => lv_i2l C.hx C.hb hd hv (K H locs ls hP hD hS hl)
theorem r_l2i (C : Cx z A l rm cc nL own) {x : Int64} {v : Int32} (hd : decode cc pc = .ok (.l2i, 1)) (hv : x.toInt32 = v) (K : G z D A nL ws ce sl (pc + 1) lv (.int v :: st)) : G z D A nL ws ce sl pc lv (.long x :: st) := fun H locs ls hP hD hS hl => lv_l2i C.hx C.hb hd hv (K H locs ls hP hD hS hl)
theorem r_i2b (C : Cx z A l rm cc nL own) {x v : Int32} (hd : decode cc pc = .ok (.i2b, 1)) (hv : x.toInt8.toInt32 = v) (K : G z D A nL ws ce sl (pc + 1) lv (.int v :: st)) : G z D A nL ws ce sl pc lv (.int x :: st) := fun H locs ls hP hD hS hl => lv_i2b C.hx C.hb hd hv (K H locs ls hP hD hS hl)
theorem r_lcmp (C : Cx z A l rm cc nL own) {x y : Int64} (hd : decode cc pc = .ok (.lcmp, 1)) (K : G z D A nL ws ce sl (pc + 1) lv (.int (lg_cmp x y) :: st)) : G z D A nL ws ce sl pc lv (.long y :: .long x :: st) := fun H locs ls hP hD hS hl => W.lcmp C.hx C.hb hd (K H locs ls hP hD hS hl)
theorem r_iconst (C : Cx z A l rm cc nL own) {n : Int} {v : Int32} (hd : decode cc pc = .ok (.iconst n, 1)) (hv : Int32.ofInt n = v) (K : G z D A nL ws ce sl (pc + 1) lv (.int v :: st)) : G z D A nL ws ce sl pc lv (st) := fun H locs ls hP hD hS hl => lv_iconst C.hx C.hb hd hv (K H locs ls hP hD hS hl)
theorem r_bipush (C : Cx z A l rm cc nL own) {n : Int} {v : Int32} (hd : decode cc pc = .ok (.bipush n, 2)) (hv : (Int8.ofInt n).toInt32 = v) (K : G z D A nL ws ce sl (pc + 2) lv (.int v :: st)) : G z D A nL ws ce sl pc lv (st) := fun H locs ls hP hD hS hl => lv_bipush C.hx C.hb hd hv (K H locs ls hP hD hS hl)
theorem r_sipush (C : Cx z A l rm cc nL own) {n : Int} {v : Int32} (hd : decode cc pc = .ok (.sipush n, 3)) (hv : (Int16.ofInt n).toInt32 = v) (K : G z D A nL ws ce sl (pc + 3) lv (.int v :: st)) : G z D A nL ws ce sl pc lv (st) := fun H locs ls hP hD hS hl => lv_sipush C.hx C.hb hd hv (K H locs ls hP hD hS hl)
theorem r_lconst (C : Cx z A l rm cc nL own) {n : Fin 2} {v : Int64} (hd : decode cc pc = .ok (.lconst n, 1)) (hv : Int64.ofNat (n : Nat) = v) (K : G z D A nL ws ce sl (pc + 1) lv (.long v :: st)) : G z D A nL ws ce sl pc lv (st) := fun H locs ls hP hD hS hl => lv_lconst C.hx C.hb hd hv (K H locs ls hP hD hS hl)
theorem r_ldc (C : Cx z A l rm cc nL own) {i : Nat} {v : Int32} (hd : decode cc pc = .ok (.ldc i, 2)) (hw : Cond.constant own i v ∈ gw) (K : G z D A nL ws ce sl (pc + 2) lv (.int v :: st)) : G z D A nL ws ce sl pc lv (st) := fun H locs ls hP hD hS hl => lv_ldc C.hx C.hb C.hown (C.hts _ hw) hd (K H locs ls hP hD hS hl)
theorem r_ldcw (C : Cx z A l rm cc nL own) {i : Nat} {v : Int32} (hd : decode cc pc = .ok (.ldc_w i, 3)) (hw : Cond.constant own i v ∈ gw) (K : G z D A nL ws ce sl (pc + 3) lv (.int v :: st)) : G z D A nL ws ce sl pc lv (st) := fun H locs ls hP hD hS hl => lv_ldcw C.hx C.hb C.hown (C.hts _ hw) hd (K H locs ls hP hD hS hl)
theorem r_ldc2 (C : Cx z A l rm cc nL own) {i : Nat} {v : Int64} (hd : decode cc pc = .ok (.ldc2_w i, 3)) (hw : Cond.constantLong own i v ∈ gw) (K : G z D A nL ws ce sl (pc + 3) lv (.long v :: st)) : G z D A nL ws ce sl pc lv (st) := fun H locs ls hP hD hS hl => lv_ldc2 C.hx C.hb C.hown (C.hts _ hw) hd (K H locs ls hP hD hS hl)
theorem r_iload_n (C : Cx z A l rm cc nL own) {n : Fin 4} {x : Int32} (hd : decode cc pc = .ok (.iload_n n, 1)) (k : Nat) (hk : lv[k]? = some ((n : Nat), .int x)) (K : G z D A nL ws ce sl (pc + 1) lv (.int x :: st)) : G z D A nL ws ce sl pc lv st := fun H locs ls hP hD hS hl => lv_iload_n C.hx C.hb hd rfl (lv_at hl k hk) (K H locs ls hP hD hS hl)
theorem r_iload (C : Cx z A l rm cc nL own) {n : Nat} {x : Int32} (hd : decode cc pc = .ok (.iload n, 2)) (k : Nat) (hk : lv[k]? = some (n, .int x)) (K : G z D A nL ws ce sl (pc + 2) lv (.int x :: st)) : G z D A nL ws ce sl pc lv st := fun H locs ls hP hD hS hl => lv_iload C.hx C.hb hd (lv_at hl k hk) (K H locs ls hP hD hS hl)
theorem r_istore_n (C : Cx z A l rm cc nL own) {n : Fin 4} {x : Int32} {lv' : List (Nat × Value)} (i : Nat) (hd : decode cc pc = .ok (.istore_n n, 1)) (hi : (n : Nat) = i) (hn : i < nL) (hl : (i, Value.int x) :: lv.filter (fun q => !(q.1 == i) && !(q.1 + 1 == i && q.2.category == 2)) = lv') (K : G z D A nL ws ce sl (pc + 1) lv' st) : G z D A nL ws ce sl pc lv (.int x :: st) := fun H locs ls hP hD hS hl1 => lv_istore_n C.hx C.hb hd hi hl1 hn hl (fun ls2 h2 => K H locs ls2 hP hD hS h2)
theorem r_istore (C : Cx z A l rm cc nL own) {x : Int32} {lv' : List (Nat × Value)} (i : Nat) (hd : decode cc pc = .ok (.istore i, 2)) (hn : i < nL) (hl : (i, Value.int x) :: lv.filter (fun q => !(q.1 == i) && !(q.1 + 1 == i && q.2.category == 2)) = lv') (K : G z D A nL ws ce sl (pc + 2) lv' st) : G z D A nL ws ce sl pc lv (.int x :: st) := fun H locs ls hP hD hS hl1 => lv_istore C.hx C.hb hd hl1 hn hl (fun ls2 h2 => K H locs ls2 hP hD hS h2)
theorem r_lload_n (C : Cx z A l rm cc nL own) {n : Fin 4} {x : Int64} (hd : decode cc pc = .ok (.lload_n n, 1)) (k : Nat) (hk : lv[k]? = some ((n : Nat), .long x)) (K : G z D A nL ws ce sl (pc + 1) lv (.long x :: st)) : G z D A nL ws ce sl pc lv st := fun H locs ls hP hD hS hl => lv_lload_n C.hx C.hb hd rfl (lv_at hl k hk) (K H locs ls hP hD hS hl)
theorem r_lload (C : Cx z A l rm cc nL own) {n : Nat} {x : Int64} (hd : decode cc pc = .ok (.lload n, 2)) (k : Nat) (hk : lv[k]? = some (n, .long x)) (K : G z D A nL ws ce sl (pc + 2) lv (.long x :: st)) : G z D A nL ws ce sl pc lv st := fun H locs ls hP hD hS hl => lv_lload C.hx C.hb hd (lv_at hl k hk) (K H locs ls hP hD hS hl)
theorem r_lstore_n (C : Cx z A l rm cc nL own) {n : Fin 4} {x : Int64} {lv' : List (Nat × Value)} (i : Nat) (hd : decode cc pc = .ok (.lstore_n n, 1)) (hi : (n : Nat) = i) (hn : i + 1 < nL) (hl : (i, Value.long x) :: lv.filter (fun q => !(q.1 == i) && (!(q.1 == i + 1) && !(q.1 + 1 == i && q.2.category == 2))) = lv') (K : G z D A nL ws ce sl (pc + 1) lv' st) : G z D A nL ws ce sl pc lv (.long x :: st) := fun H locs ls hP hD hS hl1 => lv_lstore_n C.hx C.hb hd hi hl1 hn hl (fun ls2 h2 => K H locs ls2 hP hD hS h2)
theorem r_lstore (C : Cx z A l rm cc nL own) {x : Int64} {lv' : List (Nat × Value)} (i : Nat) (hd : decode cc pc = .ok (.lstore i, 2)) (hn : i + 1 < nL) (hl : (i, Value.long x) :: lv.filter (fun q => !(q.1 == i) && (!(q.1 == i + 1) && !(q.1 + 1 == i && q.2.category == 2))) = lv') (K : G z D A nL ws ce sl (pc + 2) lv' st) : G z D A nL ws ce sl pc lv (.long x :: st) := fun H locs ls hP hD hS hl1 => lv_lstore C.hx C.hb hd hl1 hn hl (fun ls2 h2 => K H locs ls2 hP hD hS h2)
theorem r_aload_n (C : Cx z A l rm cc nL own) {n : Fin 4} {x : Nat} (hd : decode cc pc = .ok (.aload_n n, 1)) (k : Nat) (hk : lv[k]? = some ((n : Nat), .ref x)) (K : G z D A nL ws ce sl (pc + 1) lv (.ref x :: st)) : G z D A nL ws ce sl pc lv st := fun H locs ls hP hD hS hl => lv_aload_n C.hx C.hb hd rfl (lv_at hl k hk) (K H locs ls hP hD hS hl)
theorem r_aload (C : Cx z A l rm cc nL own) {n : Nat} {x : Nat} (hd : decode cc pc = .ok (.aload n, 2)) (k : Nat) (hk : lv[k]? = some (n, .ref x)) (K : G z D A nL ws ce sl (pc + 2) lv (.ref x :: st)) : G z D A nL ws ce sl pc lv st := fun H locs ls hP hD hS hl => lv_aload C.hx C.hb hd (lv_at hl k hk) (K H locs ls hP hD hS hl)
theorem r_astore_n (C : Cx z A l rm cc nL own) {n : Fin 4} {x : Nat} {lv' : List (Nat × Value)} (i : Nat) (hd : decode cc pc = .ok (.astore_n n, 1)) (hi : (n : Nat) = i) (hn : i < nL) (hl : (i, Value.ref x) :: lv.filter (fun q => !(q.1 == i) && !(q.1 + 1 == i && q.2.category == 2)) = lv') (K : G z D A nL ws ce sl (pc + 1) lv' st) : G z D A nL ws ce sl pc lv (.ref x :: st) := fun H locs ls hP hD hS hl1 => lv_astore_n C.hx C.hb hd hi hl1 hn hl (fun ls2 h2 => K H locs ls2 hP hD hS h2)
theorem r_astore (C : Cx z A l rm cc nL own) {x : Nat} {lv' : List (Nat × Value)} (i : Nat) (hd : decode cc pc = .ok (.astore i, 2)) (hn : i < nL) (hl : (i, Value.ref x) :: lv.filter (fun q => !(q.1 == i) && !(q.1 + 1 == i && q.2.category == 2)) = lv') (K : G z D A nL ws ce sl (pc + 2) lv' st) : G z D A nL ws ce sl pc lv (.ref x :: st) := fun H locs ls hP hD hS hl1 => lv_astore C.hx C.hb hd hl1 hn hl (fun ls2 h2 => K H locs ls2 hP hD hS h2)
theorem r_iinc (C : Cx z A l rm cc nL own) {n : Int} {x v : Int32} {lv' : List (Nat × Value)} (i k : Nat) (hd : decode cc pc = .ok (.iinc i n, 3)) (hk : lv[k]? = some (i, .int x)) (hv : x + Int32.ofInt n = v) (hn : i < nL) (hl : (i, Value.int v) :: lv.filter (fun q => !(q.1 == i) && !(q.1 + 1 == i && q.2.category == 2)) = lv') (K : G z D A nL ws ce sl (pc + 3) lv' st) : G z D A nL ws ce sl pc lv st := fun H locs ls hP hD hS hl1 => lv_iinc C.hx C.hb hd hl1 hk hv hn hl (fun ls2 h2 => K H locs ls2 hP hD hS h2)
theorem r_dup (C : Cx z A l rm cc nL own) {va : Value} (hd : decode cc pc = .ok (.dup, 1)) (hc : va.category = 1) (K : G z D A nL ws ce sl (pc + 1) lv (va :: va :: st)) : G z D A nL ws ce sl pc lv (va :: st) := fun H locs ls hP hD hS hl => lv_dup C.hx C.hb hd hc (K H locs ls hP hD hS hl)
theorem r_dup2l (C : Cx z A l rm cc nL own) {va : Value} (hd : decode cc pc = .ok (.dup2, 1)) (hc : va.category = 2) (K : G z D A nL ws ce sl (pc + 1) lv (va :: va :: st)) : G z D A nL ws ce sl pc lv (va :: st) := fun H locs ls hP hD hS hl => lv_dup2_2 C.hx C.hb hd hc (K H locs ls hP hD hS hl)
theorem r_dup2 (C : Cx z A l rm cc nL own) {va vb : Value} (hd : decode cc pc = .ok (.dup2, 1)) (hc : va.category = 1) (hc2 : vb.category = 1) (K : G z D A nL ws ce sl (pc + 1) lv (va :: vb :: va :: vb :: st)) : G z D A nL ws ce sl pc lv (va :: vb :: st) := fun H locs ls hP hD hS hl => lv_dup2_11 C.hx C.hb hd hc hc2 (K H locs ls hP hD hS hl)
theorem r_dup_x1 (C : Cx z A l rm cc nL own) {va vb : Value} (hd : decode cc pc = .ok (.dup_x1, 1)) (hc : va.category = 1) (hc2 : vb.category = 1) (K : G z D A nL ws ce sl (pc + 1) lv (va :: vb :: va :: st)) : G z D A nL ws ce sl pc lv (va :: vb :: st) := fun H locs ls hP hD hS hl => lv_dup_x1 C.hx C.hb hd hc hc2 (K H locs ls hP hD hS hl)
theorem r_dup_x2 (C : Cx z A l rm cc nL own) {va vb vd : Value} (hd : decode cc pc = .ok (.dup_x2, 1)) (hc : va.category = 1) (hc2 : vb.category = 1) (hc3 : vd.category = 1) (K : G z D A nL ws ce sl (pc + 1) lv (va :: vb :: vd :: va :: st)) : G z D A nL ws ce sl pc lv (va :: vb :: vd :: st) := fun H locs ls hP hD hS hl => lv_dup_x2 C.hx C.hb hd hc hc2 hc3 (K H locs ls hP hD hS hl)
theorem r_pop (C : Cx z A l rm cc nL own) {va : Value} (hd : decode cc pc = .ok (.pop, 1)) (hc : va.category = 1) (K : G z D A nL ws ce sl (pc + 1) lv (st)) : G z D A nL ws ce sl pc lv (va :: st) := fun H locs ls hP hD hS hl => lv_pop C.hx C.hb hd hc (K H locs ls hP hD hS hl)
theorem r_pop2l (C : Cx z A l rm cc nL own) {va : Value} (hd : decode cc pc = .ok (.pop2, 1)) (hc : va.category = 2) (K : G z D A nL ws ce sl (pc + 1) lv (st)) : G z D A nL ws ce sl pc lv (va :: st) := fun H locs ls hP hD hS hl => lv_pop2_2 C.hx C.hb hd hc (K H locs ls hP hD hS hl)
theorem r_goto (C : Cx z A l rm cc nL own) {off : Int} (tgt : Nat) (hd : decode cc pc = .ok (.goto off, 3)) (ht : (pc : Int) + off = (tgt : Int)) (K : G z D A nL ws ce sl tgt lv st) : G z D A nL ws ce sl pc lv st := fun H locs ls hP hD hS hl => lv_goto C.hx C.hb hd ht (K H locs ls hP hD hS hl)
theorem r_if_eq (C : Cx z A l rm cc nL own) {x : Int32} {P : Prop} {off : Int} (tgt : Nat) (hd : decode cc pc = .ok (.ifCond .eq off, 3)) (ht : (pc : Int) + off = (tgt : Int)) (hc : (x = 0) ↔ P) (kt : P → G z D A nL ws ce sl tgt lv st) (kf : ¬ P → G z D A nL ws ce sl (pc + 3) lv st) : G z D A nL ws ce sl pc lv (.int x :: st) := fun H locs ls hP hD hS hl => lv_if_eq C.hx C.hb hd ht (fun h => kt (hc.mp h) H locs ls hP hD hS hl) (fun h => kf (fun q => h (hc.mpr q)) H locs ls hP hD hS hl)
theorem r_icmp_eq (C : Cx z A l rm cc nL own) {x y : Int32} {P : Prop} {off : Int} (tgt : Nat) (hd : decode cc pc = .ok (.if_icmp .eq off, 3)) (ht : (pc : Int) + off = (tgt : Int)) (hc : (x = y) ↔ P) (kt : P → G z D A nL ws ce sl tgt lv st) (kf : ¬ P → G z D A nL ws ce sl (pc + 3) lv st) : G z D A nL ws ce sl pc lv (.int y :: .int x :: st) := fun H locs ls hP hD hS hl => lv_icmp_eq C.hx C.hb hd ht (fun h => kt (hc.mp h) H locs ls hP hD hS hl) (fun h => kf (fun q => h (hc.mpr q)) H locs ls hP hD hS hl)
theorem r_if_ne (C : Cx z A l rm cc nL own) {x : Int32} {P : Prop} {off : Int} (tgt : Nat) (hd : decode cc pc = .ok (.ifCond .ne off, 3)) (ht : (pc : Int) + off = (tgt : Int)) (hc : (¬ x = 0) ↔ P) (kt : P → G z D A nL ws ce sl tgt lv st) (kf : ¬ P → G z D A nL ws ce sl (pc + 3) lv st) : G z D A nL ws ce sl pc lv (.int x :: st) := fun H locs ls hP hD hS hl => lv_if_ne C.hx C.hb hd ht (fun h => kt (hc.mp h) H locs ls hP hD hS hl) (fun h => kf (fun q => hc.mpr q h) H locs ls hP hD hS hl)
theorem r_icmp_ne (C : Cx z A l rm cc nL own) {x y : Int32} {P : Prop} {off : Int} (tgt : Nat) (hd : decode cc pc = .ok (.if_icmp .ne off, 3)) (ht : (pc : Int) + off = (tgt : Int)) (hc : (¬ x = y) ↔ P) (kt : P → G z D A nL ws ce sl tgt lv st) (kf : ¬ P → G z D A nL ws ce sl (pc + 3) lv st) : G z D A nL ws ce sl pc lv (.int y :: .int x :: st) := fun H locs ls hP hD hS hl => lv_icmp_ne C.hx C.hb hd ht (fun h => kt (hc.mp h) H locs ls hP hD hS hl) (fun h => kf (fun q => hc.mpr q h) H locs ls hP hD hS hl)
theorem r_if_lt (C : Cx z A l rm cc nL own) {x : Int32} {P : Prop} {off : Int} (tgt : Nat) (hd : decode cc pc = .ok (.ifCond .lt off, 3)) (ht : (pc : Int) + off = (tgt : Int)) (hc : (x < 0) ↔ P) (kt : P → G z D A nL ws ce sl tgt lv st) (kf : ¬ P → G z D A nL ws ce sl (pc + 3) lv st) : G z D A nL ws ce sl pc lv (.int x :: st) := fun H locs ls hP hD hS hl => lv_if_lt C.hx C.hb hd ht (fun h => kt (hc.mp h) H locs ls hP hD hS hl) (fun h => kf (fun q => h (hc.mpr q)) H locs ls hP hD hS hl)
theorem r_icmp_lt (C : Cx z A l rm cc nL own) {x y : Int32} {P : Prop} {off : Int} (tgt : Nat) (hd : decode cc pc = .ok (.if_icmp .lt off, 3)) (ht : (pc : Int) + off = (tgt : Int)) (hc : (x < y) ↔ P) (kt : P → G z D A nL ws ce sl tgt lv st) (kf : ¬ P → G z D A nL ws ce sl (pc + 3) lv st) : G z D A nL ws ce sl pc lv (.int y :: .int x :: st) := fun H locs ls hP hD hS hl => lv_icmp_lt C.hx C.hb hd ht (fun h => kt (hc.mp h) H locs ls hP hD hS hl) (fun h => kf (fun q => h (hc.mpr q)) H locs ls hP hD hS hl)
theorem r_if_ge (C : Cx z A l rm cc nL own) {x : Int32} {P : Prop} {off : Int} (tgt : Nat) (hd : decode cc pc = .ok (.ifCond .ge off, 3)) (ht : (pc : Int) + off = (tgt : Int)) (hc : (0 ≤ x) ↔ P) (kt : P → G z D A nL ws ce sl tgt lv st) (kf : ¬ P → G z D A nL ws ce sl (pc + 3) lv st) : G z D A nL ws ce sl pc lv (.int x :: st) := fun H locs ls hP hD hS hl => lv_if_ge C.hx C.hb hd ht (fun h => kt (hc.mp h) H locs ls hP hD hS hl) (fun h => kf (fun q => h (hc.mpr q)) H locs ls hP hD hS hl)
theorem r_icmp_ge (C : Cx z A l rm cc nL own) {x y : Int32} {P : Prop} {off : Int} (tgt : Nat) (hd : decode cc pc = .ok (.if_icmp .ge off, 3)) (ht : (pc : Int) + off = (tgt : Int)) (hc : (y ≤ x) ↔ P) (kt : P → G z D A nL ws ce sl tgt lv st) (kf : ¬ P → G z D A nL ws ce sl (pc + 3) lv st) : G z D A nL ws ce sl pc lv (.int y :: .int x :: st) := fun H locs ls hP hD hS hl => lv_icmp_ge C.hx C.hb hd ht (fun h => kt (hc.mp h) H locs ls hP hD hS hl) (fun h => kf (fun q => h (hc.mpr q)) H locs ls hP hD hS hl)
theorem r_if_gt (C : Cx z A l rm cc nL own) {x : Int32} {P : Prop} {off : Int} (tgt : Nat) (hd : decode cc pc = .ok (.ifCond .gt off, 3)) (ht : (pc : Int) + off = (tgt : Int)) (hc : (0 < x) ↔ P) (kt : P → G z D A nL ws ce sl tgt lv st) (kf : ¬ P → G z D A nL ws ce sl (pc + 3) lv st) : G z D A nL ws ce sl pc lv (.int x :: st) := fun H locs ls hP hD hS hl => lv_if_gt C.hx C.hb hd ht (fun h => kt (hc.mp h) H locs ls hP hD hS hl) (fun h => kf (fun q => h (hc.mpr q)) H locs ls hP hD hS hl)
theorem r_icmp_gt (C : Cx z A l rm cc nL own) {x y : Int32} {P : Prop} {off : Int} (tgt : Nat) (hd : decode cc pc = .ok (.if_icmp .gt off, 3)) (ht : (pc : Int) + off = (tgt : Int)) (hc : (y < x) ↔ P) (kt : P → G z D A nL ws ce sl tgt lv st) (kf : ¬ P → G z D A nL ws ce sl (pc + 3) lv st) : G z D A nL ws ce sl pc lv (.int y :: .int x :: st) := fun H locs ls hP hD hS hl => lv_icmp_gt C.hx C.hb hd ht (fun h => kt (hc.mp h) H locs ls hP hD hS hl) (fun h => kf (fun q => h (hc.mpr q)) H locs ls hP hD hS hl)
theorem r_if_le (C : Cx z A l rm cc nL own) {x : Int32} {P : Prop} {off : Int} (tgt : Nat) (hd : decode cc pc = .ok (.ifCond .le off, 3)) (ht : (pc : Int) + off = (tgt : Int)) (hc : (x ≤ 0) ↔ P) (kt : P → G z D A nL ws ce sl tgt lv st) (kf : ¬ P → G z D A nL ws ce sl (pc + 3) lv st) : G z D A nL ws ce sl pc lv (.int x :: st) := fun H locs ls hP hD hS hl => lv_if_le C.hx C.hb hd ht (fun h => kt (hc.mp h) H locs ls hP hD hS hl) (fun h => kf (fun q => h (hc.mpr q)) H locs ls hP hD hS hl)
theorem r_icmp_le (C : Cx z A l rm cc nL own) {x y : Int32} {P : Prop} {off : Int} (tgt : Nat) (hd : decode cc pc = .ok (.if_icmp .le off, 3)) (ht : (pc : Int) + off = (tgt : Int)) (hc : (x ≤ y) ↔ P) (kt : P → G z D A nL ws ce sl tgt lv st) (kf : ¬ P → G z D A nL ws ce sl (pc + 3) lv st) : G z D A nL ws ce sl pc lv (.int y :: .int x :: st) := fun H locs ls hP hD hS hl => lv_icmp_le C.hx C.hb hd ht (fun h => kt (hc.mp h) H locs ls hP hD hS hl) (fun h => kf (fun q => h (hc.mpr q)) H locs ls hP hD hS hl)
end BASE
