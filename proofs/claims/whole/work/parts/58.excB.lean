abbrev nIA : String := "java/lang/IllegalArgumentException"
abbrev nIO : String := "java/lang/IndexOutOfBoundsException"
abbrev nIS : String := "java/lang/IllegalStateException"
abbrev nRE : String := "java/lang/RuntimeException"
abbrev nEX : String := "java/lang/Exception"
/-- what a throw wants: two statics, words that are not good ones, six texts -/
def Ex (A : Nat → Prop) (U : State) (H : Heap) : Prop :=
  vx_Zq Bundle.tN "UNASSIGNED_STACK" Bundle.steD A U H ∧ vx_Zq Bundle.tN "SUPPRESSED_SENTINEL" Bundle.listD A U H ∧
  (va_Nw (.castable nIA nIA) U ∧ va_Nw (.castable nIO nIO) U ∧ va_Nw (.castable nIS nIS) U) ∧
  (va_Nw (.declares (Bundle.initS nRE)) U ∧ va_Nw (.declares (Bundle.initS nEX)) U ∧ va_Nw (.declares (Bundle.initS Bundle.tN)) U) ∧
  (va_Nc nIA nIO U ∧ va_Nc nIS nIA U) ∧
  ((∃ a, vk_R "SetFamilies" 279 "no such family" a U) ∧ (∃ a, vk_R "SetFamilies" 282 "out of range" a U) ∧ (∃ a, vk_R "SetFamilies" 284 "negative" a U) ∧
   (∃ a, vk_R "SetFamilies" 155 "the two elements are equal" a U) ∧ (∃ a, vk_R "SetFamilies" 244 "the text is full" a U) ∧ (∃ a, vk_R "SetFamilies" 256 "the undo stack is empty" a U))
theorem vkw {i : Nat} {t : String} {s U : State} (hW : s.WarmedH U.vm) (h : ∃ a, vk_R "SetFamilies" i t a s) : ∃ a, vk_R "SetFamilies" i t a U := by
  obtain ⟨a, h⟩ := h; exact ⟨a, vk_R.warm hW h⟩
theorem vks {i : Nat} {t : String} {s U : State} (hv : U.vm = s.vm) (h : ∃ a, vk_R "SetFamilies" i t a s) : ∃ a, vk_R "SetFamilies" i t a U := by
  obtain ⟨a, h⟩ := h; exact ⟨a, vk_R.same hv h⟩
theorem Ex.to {A B : Nat → Prop} {s U : State} {H : Heap} {locs : List Loc} (h : Ex A s s.heap) (hS : va_S A s.heap H locs) (hU : U.heap = H) (hW : s.WarmedH U.vm) (hB : ∀ q, B q → A q) : Ex B U U.heap := by
  obtain ⟨h1, h2, ⟨h3, h4, h5⟩, ⟨h6, h7, h8⟩, ⟨h9, h10⟩, k1, k2, k3, k4, k5, k6⟩ := h
  rw [hU]
  exact ⟨vx_Zq.moved hW.alike ((h1.kept hS.2.1).narrow hB), vx_Zq.moved hW.alike ((h2.kept hS.2.1).narrow hB), ⟨va_Nw.warmC hW h3, va_Nw.warmC hW h4, va_Nw.warmC hW h5⟩, ⟨va_Nw.warmD hW h6, va_Nw.warmD hW h7, va_Nw.warmD hW h8⟩, ⟨va_Nc.moved hW.alike h9, va_Nc.moved hW.alike h10⟩, vkw hW k1, vkw hW k2, vkw hW k3, vkw hW k4, vkw hW k5, vkw hW k6⟩
theorem Ex.blind {A : Nat → Prop} {U V : State} (hh : V.heap = U.heap) (hv : V.vm = U.vm) (h : Ex A U U.heap) : Ex A V V.heap := by
  obtain ⟨h1, h2, ⟨h3, h4, h5⟩, ⟨h6, h7, h8⟩, ⟨h9, h10⟩, k1, k2, k3, k4, k5, k6⟩ := h
  rw [hh]
  have hq : U.vm.Alike V.vm := by rw [hv]; exact Vm.Alike.refl U.vm
  exact ⟨vx_Zq.moved hq h1, vx_Zq.moved hq h2, ⟨va_Nw.same rfl hv.symm h3, va_Nw.same rfl hv.symm h4, va_Nw.same rfl hv.symm h5⟩, ⟨va_Nw.same rfl hv.symm h6, va_Nw.same rfl hv.symm h7, va_Nw.same rfl hv.symm h8⟩, ⟨va_Nc.moved hq h9, va_Nc.moved hq h10⟩, vks hv k1, vks hv k2, vks hv k3, vks hv k4, vks hv k5, vks hv k6⟩
theorem gw_fm {L : List Cond} (ps : List Nat) (hp : L.filter goodWord = ps.filterMap (fun i => tables_1[i]?)) : ∀ w ∈ L.filter goodWord, w ∈ gw := by
  intro w hw
  have hg := (List.mem_filter.mp hw).2
  rw [hp] at hw
  obtain ⟨i, -, hi⟩ := List.mem_filterMap.mp hw
  exact List.mem_filter.mpr ⟨List.mem_append_right _ (List.mem_of_getElem? hi), hg⟩
theorem at_IA : ∀ w ∈ (vx_atS "SetFamilies" 157 nIA [nRE, nEX]).filter goodWord, w ∈ gw := gw_fm [12, 593, 602, 606, 609, 611, 594, 595, 30, 31, 596, 601, 607, 627, 583, 628, 585, 629, 587, 597, 599, 589, 623, 624, 626, 589, 614, 615, 616, 617, 617, 618, 619, 620, 620, 621, 622, 623, 613, 572, 580, 581, 582, 584, 586, 588, 592, 591, 590] (by decide +kernel)
theorem ot_IA : ∀ w ∈ Cond.classLink "SetFamilies" 153 nIA :: Cond.initialized nIA :: vx_atS "SetFamilies" 157 nIA [nRE, nEX], vx_ot w = true := List.all_eq_true.mp (by decide +kernel)
theorem ng_IA : ∀ w ∈ (vx_atS "SetFamilies" 157 nIA [nRE, nEX]).filter (fun w => !goodWord w), w ∈ [Cond.castable nIA nIA, Cond.declares (Bundle.initS nRE), Cond.declares (Bundle.initS nEX), Cond.declares (Bundle.initS Bundle.tN)] := by decide +kernel
theorem cl_IA : Cond.classLink "SetFamilies" 153 nIA ∈ gw := hw_3_91
theorem in_IA : Cond.initialized nIA ∈ gw := hw_1_15
theorem at_IO : ∀ w ∈ (vx_atS "SetFamilies" 281 nIO [nRE, nEX]).filter goodWord, w ∈ gw := gw_fm [12, 593, 602, 606, 609, 611, 594, 595, 30, 31, 596, 601, 607, 627, 583, 628, 585, 629, 587, 597, 599, 589, 623, 624, 626, 589, 671, 672, 673, 617, 617, 618, 619, 620, 620, 621, 622, 623, 670, 661, 663, 605, 664, 665, 666, 667, 592, 591, 668] (by decide +kernel)
theorem ot_IO : ∀ w ∈ Cond.classLink "SetFamilies" 277 nIO :: Cond.initialized nIO :: vx_atS "SetFamilies" 281 nIO [nRE, nEX], vx_ot w = true := List.all_eq_true.mp (by decide +kernel)
theorem ng_IO : ∀ w ∈ (vx_atS "SetFamilies" 281 nIO [nRE, nEX]).filter (fun w => !goodWord w), w ∈ [Cond.castable nIO nIO, Cond.declares (Bundle.initS nRE), Cond.declares (Bundle.initS nEX), Cond.declares (Bundle.initS Bundle.tN)] := by decide +kernel
theorem cl_IO : Cond.classLink "SetFamilies" 277 nIO ∈ gw := hw_3_180
theorem in_IO : Cond.initialized nIO ∈ gw := hw_1_19
theorem at_IS : ∀ w ∈ (vx_atS "SetFamilies" 246 nIS [nRE, nEX]).filter goodWord, w ∈ gw := gw_fm [12, 593, 602, 606, 609, 611, 594, 595, 30, 31, 596, 601, 607, 627, 583, 628, 585, 629, 587, 597, 599, 589, 623, 624, 626, 589, 937, 938, 939, 617, 617, 618, 619, 620, 620, 621, 622, 623, 936, 927, 929, 604, 930, 931, 932, 933, 592, 591, 934] (by decide +kernel)
theorem ot_IS : ∀ w ∈ Cond.classLink "SetFamilies" 242 nIS :: Cond.initialized nIS :: vx_atS "SetFamilies" 246 nIS [nRE, nEX], vx_ot w = true := List.all_eq_true.mp (by decide +kernel)
theorem ng_IS : ∀ w ∈ (vx_atS "SetFamilies" 246 nIS [nRE, nEX]).filter (fun w => !goodWord w), w ∈ [Cond.castable nIS nIS, Cond.declares (Bundle.initS nRE), Cond.declares (Bundle.initS nEX), Cond.declares (Bundle.initS Bundle.tN)] := by decide +kernel
theorem cl_IS : Cond.classLink "SetFamilies" 242 nIS ∈ gw := hw_4_206
theorem in_IS : Cond.initialized nIS ∈ gw := hw_1_23
