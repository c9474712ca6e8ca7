def AllSt (l : Launch) (g : Gd) (Inv : Nat → Mm → Prop) : Prop := St_setGround l g Inv ∧ St_add l g Inv ∧ St_remove l g Inv ∧ St_has l g Inv ∧ St_size l g Inv ∧ St_get l g Inv ∧ St_degree l g Inv ∧ St_combine l g Inv ∧ St_derive l g Inv ∧ St_compress l g Inv ∧ St_shift l g Inv ∧ St_trace l g Inv ∧ St_segment l g Inv ∧ St_rank l g Inv ∧ St_unrank l g Inv ∧ St_cascade l g Inv ∧ St_shadowBound l g Inv ∧ St_excess l g Inv ∧ St_is l g Inv ∧ St_weight l g Inv ∧ St_dimension l g Inv ∧ St_shattered l g Inv ∧ St_crossing l g Inv ∧ St_sunflower l g Inv ∧ St_pairs l g Inv ∧ St_type l g Inv ∧ St_clearText l g Inv ∧ St_read l g Inv ∧ St_undo l g Inv ∧ St_digest l g Inv
theorem and31 (v : Int32) : ∃ c, c < 32 ∧ v &&& nI 31 = nI c := by
  refine ⟨(v.toBitVec &&& (nI 31).toBitVec).toNat, ?_, ?_⟩
  · rw [BitVec.toNat_and]; exact Nat.lt_of_le_of_lt Nat.and_le_right (by decide)
  · apply Int32.toBitVec_inj.mp
    rw [Int32.toBitVec_and]
    exact BitVec.eq_of_toNat_eq (by show _ = (BitVec.ofNat 32 _).toNat; rw [BitVec.toNat_ofNat]; exact (Nat.mod_eq_of_lt (BitVec.isLt _)).symm)
theorem len5 {L i : Nat} (hL : L ≤ 2560) (hi : i ≤ 3000) : nI L - nI 5 < nI i ↔ L < i + 5 := by
  rw [Int32.lt_iff_toInt_lt, pk_sub_toInt (by omega) (by decide), nI_toInt (by omega)]
  omega
set_option maxHeartbeats 1000000 in
set_option maxRecDepth 100000 in
theorem lp_law {z : Zt} {A : Nat → Prop} {l : Launch} {g : Gd} {b L : Nat} {xs : Nat → Int32} (C : Cx z A l room_1 cL_law 8 "SetFamiliesLaw") (X : Kx z g A) (Ee : Ex A (zs z) (zs z).heap) (Lz : Lx z A b L xs) {Inv : Nat → Mm → Prop} (hW : ∀ i μ, Inv i μ → Inv (i + 5) μ) (hA : AllSt l g Inv) (hL : L ≤ 2560) : ∀ (n_ i ce sl : Nat) (μ : Mm), L + 5 - i < n_ → i ≤ L + 4 → 5 * ce ≤ 5000 + i → 5 * sl ≤ 500000 + 6 * i → Inv i μ → G z g.1 A 8 (wd g μ) ce sl 23 [(0, .ref b), (1, .ref (ad g 0)), (2, .ref (ad g 19)), (3, .ref (ad g 27)), (4, .int (nI i))] [] := by
  intro n_
  induction n_ with
  | zero => intro i ce sl μ hm_; exact absurd hm_ (Nat.not_lt_zero _)
  | succ n_ ih =>
    intro i ce sl μ hm_ hi hce hsl hI
    have KT : ∀ (μ2 : Mm) (ce2 sl2 : Nat), i + 5 ≤ L → (5 * ce2 ≤ 5000 + i + 5 ∧ 5 * sl2 ≤ 500000 + 6 * (i + 5)) → Inv (i + 5) μ2 → G z g.1 A 8 (wd g μ2) ce2 sl2 2110 [(0, .ref b), (1, .ref (ad g 0)), (2, .ref (ad g 19)), (3, .ref (ad g 27)), (4, .int (nI i))] [] := by
      intro μ2 ce2 sl2 hi5 hb2 h2
      refine r_iinc C (v := (nI (i + 5))) (lv' := [(4, .int (nI (i + 5))), (0, .ref b), (1, .ref (ad g 0)), (2, .ref (ad g 19)), (3, .ref (ad g 27))]) 4 4 dL_law_2110 rfl (inc_N _ 5) (by decide) rfl ?_
      refine r_goto C 23 dL_law_2113 (by decide) ?_
      refine G_sub (lv' := [(0, .ref b), (1, .ref (ad g 0)), (2, .ref (ad g 19)), (3, .ref (ad g 27)), (4, .int (nI (i + 5)))]) [1, 2, 3, 4, 0] rfl ?_
      exact ih (i + 5) ce2 sl2 μ2 (by omega) (by omega) (by omega) (by omega) h2
    refine r_iload C dL_law_23 4 rfl ?_
    refine r_aload_n C dL_law_25 0 rfl ?_
    refine l_slen C Lz dL_law_26 ?_
    refine r_iconst C (v := (nI 5)) dL_law_27 rfl ?_
    refine r_isub C (v := (nI L - nI 5)) dL_law_28 rfl ?_
    refine r_icmp_gt C 2116 dL_law_29 (by decide) (len5 hL (by omega)) (fun h29 => ?_) (fun h29 => ?_)
    · refine r_iconst C (v := (nI 1)) dL_law_2116 rfl ?_
      exact l_ret C Lz dL_law_2117 (by omega) (by omega)
    · refine r_aload_n C dL_law_32 0 rfl ?_
      refine r_iload C dL_law_33 4 rfl ?_
      refine l_sld C Lz (j := i) (by omega) hL dL_law_35 ?_
      refine r_bipush C (v := (nI 31)) dL_law_36 (by decide) ?_
      refine r_iand C (v := ((xs i) &&& (nI 31))) dL_law_38 rfl ?_
      obtain ⟨c, hc, hcc⟩ := and31 (xs i)
      rw [hcc]
      rcases (show c = 0 ∨ c = 1 ∨ c = 2 ∨ c = 3 ∨ c = 4 ∨ c = 5 ∨ c = 6 ∨ c = 7 ∨ c = 8 ∨ c = 9 ∨ c = 10 ∨ c = 11 ∨ c = 12 ∨ c = 13 ∨ c = 14 ∨ c = 15 ∨ c = 16 ∨ c = 17 ∨ c = 18 ∨ c = 19 ∨ c = 20 ∨ c = 21 ∨ c = 22 ∨ c = 23 ∨ c = 24 ∨ c = 25 ∨ c = 26 ∨ c = 27 ∨ c = 28 ∨ c = 29 ∨ c = 30 ∨ c = 31 by omega) with rfl | rfl | rfl | rfl | rfl | rfl | rfl | rfl | rfl | rfl | rfl | rfl | rfl | rfl | rfl | rfl | rfl | rfl | rfl | rfl | rfl | rfl | rfl | rfl | rfl | rfl | rfl | rfl | rfl | rfl | rfl | rfl
      · refine r_tabIn C 172 dL_law_39 (by decide) (by decide) rfl (by decide) ?_
        exact lc_setGround C X Ee Lz (hA.1) hI (by omega) hL (by omega) (by omega) (fun μ2 h2 => KT μ2 (ce + 1) (sl + 6) (by omega) (by omega) h2)
      · refine r_tabIn C 228 dL_law_39 (by decide) (by decide) rfl (by decide) ?_
        exact lc_add C X Ee Lz (hA.2.1) hI (by omega) hL (by omega) (by omega) (fun μ2 h2 => KT μ2 (ce + 1) (sl + 6) (by omega) (by omega) h2)
      · refine r_tabIn C 303 dL_law_39 (by decide) (by decide) rfl (by decide) ?_
        exact lc_remove C X Ee Lz (hA.2.2.1) hI (by omega) hL (by omega) (by omega) (fun μ2 h2 => KT μ2 (ce + 1) (sl + 6) (by omega) (by omega) h2)
      · refine r_tabIn C 378 dL_law_39 (by decide) (by decide) rfl (by decide) ?_
        exact lc_has C X Ee Lz (hA.2.2.2.1) hI (by omega) hL (by omega) (by omega) (fun μ2 h2 => KT μ2 (ce + 1) (sl + 6) (by omega) (by omega) h2)
      · refine r_tabIn C 453 dL_law_39 (by decide) (by decide) rfl (by decide) ?_
        exact lc_size C X Ee Lz (hA.2.2.2.2.1) hI (by omega) hL (by omega) (by omega) (fun μ2 h2 => KT μ2 (ce + 1) (sl + 6) (by omega) (by omega) h2)
      · refine r_tabIn C 521 dL_law_39 (by decide) (by decide) rfl (by decide) ?_
        exact lc_get C X Ee Lz (hA.2.2.2.2.2.1) hI (by omega) hL (by omega) (by omega) (fun μ2 h2 => KT μ2 (ce + 1) (sl + 6) (by omega) (by omega) h2)
      · refine r_tabIn C 589 dL_law_39 (by decide) (by decide) rfl (by decide) ?_
        exact lc_degree C X Ee Lz (hA.2.2.2.2.2.2.1) hI (by omega) hL (by omega) (by omega) (fun μ2 h2 => KT μ2 (ce + 1) (sl + 6) (by omega) (by omega) h2)
      · refine r_tabIn C 657 dL_law_39 (by decide) (by decide) rfl (by decide) ?_
        exact lc_combine C X Ee Lz (hA.2.2.2.2.2.2.2.1) hI (by omega) hL (by omega) (by omega) (fun μ2 h2 => KT μ2 (ce + 1) (sl + 6) (by omega) (by omega) h2)
      · refine r_tabIn C 749 dL_law_39 (by decide) (by decide) rfl (by decide) ?_
        exact lc_derive C X Ee Lz (hA.2.2.2.2.2.2.2.2.1) hI (by omega) hL (by omega) (by omega) (fun μ2 h2 => KT μ2 (ce + 1) (sl + 6) (by omega) (by omega) h2)
      · refine r_tabIn C 829 dL_law_39 (by decide) (by decide) rfl (by decide) ?_
        exact lc_compress C X Ee Lz (hA.2.2.2.2.2.2.2.2.2.1) hI (by omega) hL (by omega) (by omega) (fun μ2 h2 => KT μ2 (ce + 1) (sl + 6) (by omega) (by omega) h2)
      · refine r_tabIn C 909 dL_law_39 (by decide) (by decide) rfl (by decide) ?_
        exact lc_shift C X Ee Lz (hA.2.2.2.2.2.2.2.2.2.2.1) hI (by omega) hL (by omega) (by omega) (fun μ2 h2 => KT μ2 (ce + 1) (sl + 6) (by omega) (by omega) h2)
      · refine r_tabIn C 965 dL_law_39 (by decide) (by decide) rfl (by decide) ?_
        exact lc_trace C X Ee Lz (hA.2.2.2.2.2.2.2.2.2.2.2.1) hI (by omega) hL (by omega) (by omega) (fun μ2 h2 => KT μ2 (ce + 1) (sl + 6) (by omega) (by omega) h2)
      · refine r_tabIn C 1045 dL_law_39 (by decide) (by decide) rfl (by decide) ?_
        exact lc_segment C X Ee Lz (hA.2.2.2.2.2.2.2.2.2.2.2.2.1) hI (by omega) hL (by omega) (by omega) (fun μ2 h2 => KT μ2 (ce + 1) (sl + 6) (by omega) (by omega) h2)
      · refine r_tabIn C 1125 dL_law_39 (by decide) (by decide) rfl (by decide) ?_
        exact lc_rank C X Ee Lz (hA.2.2.2.2.2.2.2.2.2.2.2.2.2.1) hI (by omega) hL (by omega) (by omega) (fun μ2 h2 => KT μ2 (ce + 1) (sl + 6) (by omega) (by omega) h2)
      · refine r_tabIn C 1181 dL_law_39 (by decide) (by decide) rfl (by decide) ?_
        exact lc_unrank C X Ee Lz (hA.2.2.2.2.2.2.2.2.2.2.2.2.2.2.1) hI (by omega) hL (by omega) (by omega) (fun μ2 h2 => KT μ2 (ce + 1) (sl + 6) (by omega) (by omega) h2)
      · refine r_tabIn C 1249 dL_law_39 (by decide) (by decide) rfl (by decide) ?_
        exact lc_cascade C X Ee Lz (hA.2.2.2.2.2.2.2.2.2.2.2.2.2.2.2.1) hI (by omega) hL (by omega) (by omega) (fun μ2 h2 => KT μ2 (ce + 1) (sl + 6) (by omega) (by omega) h2)
      · refine r_tabIn C 1329 dL_law_39 (by decide) (by decide) rfl (by decide) ?_
        exact lc_shadowBound C X Ee Lz (hA.2.2.2.2.2.2.2.2.2.2.2.2.2.2.2.2.1) hI (by omega) hL (by omega) (by omega) (fun μ2 h2 => KT μ2 (ce + 1) (sl + 6) (by omega) (by omega) h2)
      · refine r_tabIn C 1397 dL_law_39 (by decide) (by decide) rfl (by decide) ?_
        exact lc_excess C X Ee Lz (hA.2.2.2.2.2.2.2.2.2.2.2.2.2.2.2.2.2.1) hI (by omega) hL (by omega) (by omega) (fun μ2 h2 => KT μ2 (ce + 1) (sl + 6) (by omega) (by omega) h2)
      · refine r_tabIn C 1465 dL_law_39 (by decide) (by decide) rfl (by decide) ?_
        exact lc_is C X Ee Lz (hA.2.2.2.2.2.2.2.2.2.2.2.2.2.2.2.2.2.2.1) hI (by omega) hL (by omega) (by omega) (fun μ2 h2 => KT μ2 (ce + 1) (sl + 6) (by omega) (by omega) h2)
      · refine r_tabIn C 1540 dL_law_39 (by decide) (by decide) rfl (by decide) ?_
        exact lc_weight C X Ee Lz (hA.2.2.2.2.2.2.2.2.2.2.2.2.2.2.2.2.2.2.2.1) hI (by omega) hL (by omega) (by omega) (fun μ2 h2 => KT μ2 (ce + 1) (sl + 6) (by omega) (by omega) h2)
      · refine r_tabIn C 1623 dL_law_39 (by decide) (by decide) rfl (by decide) ?_
        exact lc_dimension C X Ee Lz (hA.2.2.2.2.2.2.2.2.2.2.2.2.2.2.2.2.2.2.2.2.1) hI (by omega) hL (by omega) (by omega) (fun μ2 h2 => KT μ2 (ce + 1) (sl + 6) (by omega) (by omega) h2)
      · refine r_tabIn C 1679 dL_law_39 (by decide) (by decide) rfl (by decide) ?_
        exact lc_shattered C X Ee Lz (hA.2.2.2.2.2.2.2.2.2.2.2.2.2.2.2.2.2.2.2.2.2.1) hI (by omega) hL (by omega) (by omega) (fun μ2 h2 => KT μ2 (ce + 1) (sl + 6) (by omega) (by omega) h2)
      · refine r_tabIn C 1735 dL_law_39 (by decide) (by decide) rfl (by decide) ?_
        exact lc_crossing C X Ee Lz (hA.2.2.2.2.2.2.2.2.2.2.2.2.2.2.2.2.2.2.2.2.2.2.1) hI (by omega) hL (by omega) (by omega) (fun μ2 h2 => KT μ2 (ce + 1) (sl + 6) (by omega) (by omega) h2)
      · refine r_tabIn C 1803 dL_law_39 (by decide) (by decide) rfl (by decide) ?_
        exact lc_sunflower C X Ee Lz (hA.2.2.2.2.2.2.2.2.2.2.2.2.2.2.2.2.2.2.2.2.2.2.2.1) hI (by omega) hL (by omega) (by omega) (fun μ2 h2 => KT μ2 (ce + 1) (sl + 6) (by omega) (by omega) h2)
      · refine r_tabIn C 1859 dL_law_39 (by decide) (by decide) rfl (by decide) ?_
        exact lc_pairs C X Ee Lz (hA.2.2.2.2.2.2.2.2.2.2.2.2.2.2.2.2.2.2.2.2.2.2.2.2.1) hI (by omega) hL (by omega) (by omega) (fun μ2 h2 => KT μ2 (ce + 1) (sl + 6) (by omega) (by omega) h2)
      · refine r_tabIn C 1927 dL_law_39 (by decide) (by decide) rfl (by decide) ?_
        exact lc_type C X Ee Lz (hA.2.2.2.2.2.2.2.2.2.2.2.2.2.2.2.2.2.2.2.2.2.2.2.2.2.1) hI (by omega) hL (by omega) (by omega) (fun μ2 h2 => KT μ2 (ce + 1) (sl + 6) (by omega) (by omega) h2)
      · refine r_tabIn C 1983 dL_law_39 (by decide) (by decide) rfl (by decide) ?_
        exact lc_clearText C X Ee Lz (hA.2.2.2.2.2.2.2.2.2.2.2.2.2.2.2.2.2.2.2.2.2.2.2.2.2.2.1) hI (by omega) hL (by omega) (by omega) (fun μ2 h2 => KT μ2 ce sl (by omega) (by omega) h2)
      · refine r_tabIn C 1996 dL_law_39 (by decide) (by decide) rfl (by decide) ?_
        exact lc_read C X Ee Lz (hA.2.2.2.2.2.2.2.2.2.2.2.2.2.2.2.2.2.2.2.2.2.2.2.2.2.2.2.1) hI (by omega) hL (by omega) (by omega) (fun μ2 h2 => KT μ2 (ce + 1) (sl + 6) (by omega) (by omega) h2)
      · refine r_tabIn C 2052 dL_law_39 (by decide) (by decide) rfl (by decide) ?_
        exact lc_undo C X Ee Lz (hA.2.2.2.2.2.2.2.2.2.2.2.2.2.2.2.2.2.2.2.2.2.2.2.2.2.2.2.2.1) hI (by omega) hL (by omega) (by omega) (fun μ2 h2 => KT μ2 (ce + 1) (sl + 6) (by omega) (by omega) h2)
      · refine r_tabIn C 2096 dL_law_39 (by decide) (by decide) rfl (by decide) ?_
        exact lc_digest C X Ee Lz (hA.2.2.2.2.2.2.2.2.2.2.2.2.2.2.2.2.2.2.2.2.2.2.2.2.2.2.2.2.2) hI (by omega) hL (by omega) (by omega) (fun μ2 h2 => KT μ2 ce sl (by omega) (by omega) h2)
      · refine r_tabOut C 2110 dL_law_39 (by decide) (by decide) ?_
        exact KT μ ce sl (by omega) (by omega) (hW i μ hI)
      · refine r_tabOut C 2110 dL_law_39 (by decide) (by decide) ?_
        exact KT μ ce sl (by omega) (by omega) (hW i μ hI)
