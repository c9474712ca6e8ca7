def be (c all : Nat) : Nat := if c = 0 then all + 1 else c + (c &&& (1024 - c))
theorem lb_ok : ∀ c, c < 1024 → nI c &&& -nI c = nI (c &&& (1024 - c)) := by decide +kernel
theorem be_le {c all : Nat} (hc : c < 1024) (ha : all < 1024) : be c all ≤ 2048 := by
  unfold be
  have h : c &&& (1024 - c) ≤ c := Nat.and_le_left
  split <;> omega
theorem pN_10 : ∀ c, c < 1024 → pN c ≤ 10 := by decide +kernel
theorem min10 {a : Nat} (h : a ≤ 10) : (if nI 10 < nI a then nI 10 else nI a) = nI a := if_neg (fun q => by have := (nI_ltI (by decide) (by omega)).mp q; omega)
theorem cnt_lt (j : Nat) : ∀ n, cnt (fun i => decide (i < j)) n = min n j
  | 0 => by simp [cnt]
  | n + 1 => by
    simp only [cnt]; rw [cnt_lt j n]
    by_cases h : n < j
    · simp only [h, decide_true, Bool.toNat_true]; omega
    · simp only [h, decide_false, Bool.toNat_false]; omega
theorem lowb_eq {x : Int64} {j : Nat} (hj : j < 64) (h1 : x.toBitVec.getLsbD j = true) (h2 : ∀ i, i < j → x.toBitVec.getLsbD i = false) : lowb x = j := by
  have e : (x &&& -x).toBitVec = BitVec.twoPow 64 j := by
    apply BitVec.eq_of_getLsbD_eq
    intro i hi
    rw [Int64.toBitVec_and, BitVec.getLsbD_and, Int64.toBitVec_neg, BitVec.getLsbD_neg, BitVec.getLsbD_twoPow]
    rcases Nat.lt_trichotomy i j with q | q | q
    · rw [h2 i q]; simp [show ¬ j = i by omega]
    · subst q
      rw [h1]
      have : ¬ ∃ k, k < i ∧ x.toBitVec.getLsbD k = true := fun ⟨k, a, b⟩ => by rw [h2 k a] at b; exact Bool.noConfusion b
      simp [this, hi]
    · have : ∃ k, k < i ∧ x.toBitVec.getLsbD k = true := ⟨j, q, h1⟩
      simp [this, hi, show ¬ j = i by omega]
  unfold lowb bc
  have e2 : ∀ i, i < 64 → (((x &&& -x) - 1).toBitVec).getLsbD i = decide (i < j) := by
    intro i hi
    rw [Int64.toBitVec_sub, e]
    show (BitVec.twoPow 64 j - 1#64).getLsbD i = _
    have e3 : BitVec.twoPow 64 j - 1#64 = BitVec.ofNat 64 (2 ^ j - 1) := by
      apply BitVec.eq_of_toNat_eq
      have hp : 2 ^ j < 2 ^ 64 := Nat.pow_lt_pow_right (by decide) hj
      have h0 := Nat.two_pow_pos j
      rw [BitVec.toNat_sub, BitVec.toNat_twoPow, BitVec.toNat_ofNat, BitVec.toNat_ofNat, Nat.mod_eq_of_lt hp]
      omega
    rw [e3, BitVec.getLsbD_ofNat, Nat.testBit_two_pow_sub_one]
    simp [hi]
  rw [cnt_congr e2, cnt_lt]
  omega
theorem lowb_lN {c : Nat} (h : 0 < c) (h64 : c < 2 ^ 64) : c.testBit (lowb (lN c)) = true ∧ ∀ i, i < lowb (lN c) → c.testBit i = false := by
  obtain ⟨j, hj, hl⟩ := pk_least (fun j => c.testBit j = true) (Nat.exists_testBit_of_ne_zero (by omega))
  have hj64 : j < 64 := by
    rcases Nat.lt_or_ge j 64 with q | q
    · exact q
    · rw [Nat.testBit_lt_two_pow (Nat.lt_of_lt_of_le h64 (Nat.pow_le_pow_right (by decide) q))] at hj; exact Bool.noConfusion hj
  have e : lowb (lN c) = j := lowb_eq hj64 (by rw [wb_tb, BitVec.getLsbD_ofNat, hj]; simp [hj64]) (fun i hi => by rw [wb_tb, BitVec.getLsbD_ofNat, Bool.eq_false_iff.mpr (hl i hi)]; simp)
  rw [e]
  exact ⟨hj, fun i hi => Bool.eq_false_iff.mpr (hl i hi)⟩
theorem lk_lo (c : Nat) (hc : c < 1024) (e : Nat) (_ : e < 11) (he : c < 2 ^ e) (h0 : 0 < c) : lowb (lN c) < e := by
  have h := (lowb_lN h0 (by omega)).1
  rcases Nat.lt_or_ge (lowb (lN c)) e with q | q
  · exact q
  · rw [Nat.testBit_lt_two_pow (Nat.lt_of_lt_of_le he (Nat.pow_le_pow_right (by decide) q))] at h; exact Bool.noConfusion h
set_option maxHeartbeats 1000000 in
set_option maxRecDepth 100000 in
theorem c_branchEnd (l : Launch) {c a : Nat} (hc : c < 1024) (ha : a < 1024) : Cp l yX10_branchEnd cX10_branchEnd 2 (some .int) (rmk 0 0) [.int (nI c), .int (nI a)] (some (.int (nI (be c a)))) := by
  refine Cp.of (D := (fun _ => 0, fun _ _ => 0)) (by decide) (Nat.le_of_ble_eq_true rfl) (fun z A C Rr => ?_)
  refine r_iload_n C dX10_branchEnd_0 0 rfl ?_
  refine r_if_ne C 10 dX10_branchEnd_1 (by decide) (zI_ne (by omega)) (fun h1 => ?_) (fun h1 => ?_)
  · refine r_iload_n C dX10_branchEnd_10 0 rfl ?_
    refine r_iload_n C dX10_branchEnd_11 0 rfl ?_
    refine r_iload_n C dX10_branchEnd_12 0 rfl ?_
    refine r_ineg C (v := (-(nI c))) dX10_branchEnd_13 rfl ?_
    refine r_iand C (v := (nI (c &&& (1024 - c)))) dX10_branchEnd_14 (lb_ok c hc) ?_
    refine r_iadd C (v := (nI (c + (c &&& (1024 - c))))) dX10_branchEnd_15 (nI_add _ _) ?_
    refine G_top (y := (nI (be c a))) (by rw [be, if_neg h1]) ?_
    exact p_iret C dX10_branchEnd_16 Rr
  · refine r_iload_n C dX10_branchEnd_4 1 rfl ?_
    refine r_iconst C (v := (nI 1)) dX10_branchEnd_5 rfl ?_
    refine r_iadd C (v := (nI (a + 1))) dX10_branchEnd_6 (nI_add _ _) ?_
    refine r_goto C 16 dX10_branchEnd_7 (by decide) ?_
    refine G_top (y := (nI (be c a))) (by rw [be, if_pos (Decidable.not_not.mp h1)]) ?_
    exact p_iret C dX10_branchEnd_16 Rr
def mTr (μ : Mm) (nw f c : Nat) : Mm := if pN c = 0 then mCpy μ (26 + pN c) f else mFgt (mCpy μ (26 + pN c) (26 + (pN c - 1))) nw (26 + pN c) (lowb (lN c))
def mLk (μ : Mm) (nw f c : Nat) : Mm := if pN c = 0 then mCpy μ (37 + pN c) f else mJL (mClr μ (37 + pN c)) nw (37 + pN c) (37 + (pN c - 1)) (lowb (lN c))
theorem gI_mTr {μ : Mm} {nw f c q : Nat} : gI (mTr μ nw f c) q = gI μ q := by
  unfold mTr; split
  · exact gI_mCpy
  · exact gI_mFgt.trans gI_mCpy
theorem gI_mLk {μ : Mm} {nw f c q : Nat} : gI (mLk μ nw f c) q = gI μ q := by
  unfold mLk; split
  · exact gI_mCpy
  · exact gI_mJL.trans gI_mClr
theorem pN_0 : pN 0 = 0 := by decide
set_option maxHeartbeats 1000000 in
set_option maxRecDepth 100000 in
theorem c_layTrace (l : Launch) (g : Gd) (μ : Mm) {n nw f c : Nat} (hO : Ok μ n nw) (hf : f < 52) (hc : c < 2 ^ n) : Ct l yX7_layTrace cX7_layTrace 5 (some (.object "SetFamilies$Family")) (rmk 3 64) g [.ref (ad g 10), .ref (ad g (fo f)), .int (nI c)] μ (some (.ref (ad g (fo (26 + pN c))))) (mTr μ nw f c) := by
  obtain ⟨hn, hw, hn10, hnw, hs, h1n⟩ := hO
  have h1024 := pw10 hn10
  refine Ct.of (by decide) (Nat.le_of_ble_eq_true rfl) (fun z A C X Rr => ?_)
  have hp10 := pN_10 c (by omega)
  refine r_iload_n C dX7_layTrace_0 2 rfl ?_
  refine r_callP C (As := [.int (nI c)]) (rest := []) (st1 := [.int (nI (pN c))]) miJ6_bitCount_0f7a4 msJ6_bitCount_0f7a4 (c_bitCountI l (n := c) (by omega)) hw_2_224 rfl ⟨by decide, by decide, rfl, rfl, by decide, by decide⟩ rfl (Nat.le_of_ble_eq_true rfl) dX7_layTrace_1 rfl ?_
  refine r_bipush C (v := (nI 10)) dX7_layTrace_4 (by decide) ?_
  refine r_mmin C (v := (nI (pN c))) hw_2_229 ⟨by decide, Nat.le_of_ble_eq_true rfl, by decide, by decide⟩ dX7_layTrace_6 (min10 hp10) ?_
  refine r_istore_n C (lv' := [(3, .int (nI (pN c))), (0, .ref (ad g 10)), (1, .ref (ad g (fo f))), (2, .int (nI c))]) 3 dX7_layTrace_9 rfl (by decide) rfl ?_
  refine r_aload_n C dX7_layTrace_10 1 rfl ?_
  refine r_get C X (k := 10) (R := RX7) (T := TX7) (N := 2) (n := 1) (v := .ref (ad g 11)) (by decide) rfl rfl inw7 (by decide) rfl hw_1_159 rfl dX7_layTrace_11 ?_
  refine r_iload_n C dX7_layTrace_14 0 rfl ?_
  refine r_aald C X (k := 11) (n := 11) (b := 26) (by decide) rfl (by omega) (by decide) dX7_layTrace_15 ?_
  refine r_astore C (lv' := [(4, .ref (ad g (fo (26 + (pN c))))), (3, .int (nI (pN c))), (0, .ref (ad g 10)), (1, .ref (ad g (fo f))), (2, .int (nI c))]) 4 dX7_layTrace_16 (by decide) rfl ?_
  refine r_iload_n C dX7_layTrace_18 1 rfl ?_
  refine r_if_ne C 31 dX7_layTrace_19 (by decide) (zI_ne (by omega)) (fun h19 => ?_) (fun h19 => ?_)
  · rw [mTr, if_neg h19] at Rr
    have hlo : lowb (lN c) < n := lk_lo c (by omega) n (by omega) hc (Nat.pos_of_ne_zero (fun q => h19 (by rw [q]; exact pN_0)))
    refine r_aload C dX7_layTrace_31 0 rfl ?_
    refine r_aload_n C dX7_layTrace_33 2 rfl ?_
    refine r_get C X (k := 10) (R := RX7) (T := TX7) (N := 2) (n := 1) (v := .ref (ad g 11)) (by decide) rfl rfl inw7 (by decide) rfl hw_1_159 rfl dX7_layTrace_34 ?_
    refine r_iload_n C dX7_layTrace_37 1 rfl ?_
    refine r_iconst C (v := (nI 1)) dX7_layTrace_38 rfl ?_
    refine r_isub C (v := (nI (pN c - 1))) dX7_layTrace_39 (pk_sub (by omega)) ?_
    refine r_aald C X (k := 11) (n := 11) (b := 26) (by decide) rfl (by omega) (by decide) dX7_layTrace_40 ?_
    refine r_callV C X (As := [.ref (ad g (fo (26 + (pN c - 1))))]) (rest := []) (st1 := []) (μ' := (mCpy μ (26 + (pN c)) (26 + (pN c - 1)))) (k := (fo (26 + (pN c)))) (T := TX3) miX3_copy mvX3_copy (c_copy l g μ (i := (26 + (pN c))) (j := (26 + (pN c - 1))) (by omega) (by omega)) hw_2_232 (fo_lt (by omega)) (WF_fo g _ (26 + (pN c))) rfl rfl ⟨by decide, by decide, rfl, rfl, by decide, by decide⟩ rfl (Nat.le_of_ble_eq_true rfl) dX7_layTrace_41 rfl ?_
    refine r_aload C dX7_layTrace_44 0 rfl ?_
    refine r_iload_n C dX7_layTrace_46 4 rfl ?_
    refine r_i2l C (v := (lN c)) dX7_layTrace_47 (nI_l (by omega)) ?_
    refine r_callP C (As := [.long (lN c)]) (rest := [.ref (ad g (fo (26 + (pN c))))]) (st1 := [.int (nI (lowb (lN c))), .ref (ad g (fo (26 + (pN c))))]) miX3_lowestBit msX3_lowestBit (c_lowestBit l (lN c)) hw_2_233 rfl ⟨by decide, by decide, rfl, rfl, by decide, by decide⟩ rfl (Nat.le_of_ble_eq_true rfl) dX7_layTrace_48 rfl ?_
    refine r_callV C X (As := [.int (nI (lowb (lN c)))]) (rest := []) (st1 := []) (μ' := (mFgt (mCpy μ (26 + (pN c)) (26 + (pN c - 1))) nw (26 + (pN c)) (lowb (lN c)))) (k := (fo (26 + (pN c)))) (T := TX3) miX3_forget mvX3_forget (c_forget l g (mCpy μ (26 + (pN c)) (26 + (pN c - 1))) (i := (26 + (pN c))) (e := lowb (lN c)) (nw := nw) (gI_mCpy.trans hw) (by omega) (by omega) (by omega) (hs _ hlo)) hw_2_234 (fo_lt (by omega)) (WF_fo g _ (26 + (pN c))) rfl rfl ⟨by decide, by decide, rfl, rfl, by decide, by decide⟩ rfl (Nat.le_of_ble_eq_true rfl) dX7_layTrace_51 rfl ?_
    refine r_aload C dX7_layTrace_54 0 rfl ?_
    exact r_aret C dX7_layTrace_56 Rr
  · rw [mTr, if_pos (Decidable.not_not.mp h19)] at Rr
    refine r_aload C dX7_layTrace_22 0 rfl ?_
    refine r_aload_n C dX7_layTrace_24 3 rfl ?_
    refine r_callV C X (As := [.ref (ad g (fo f))]) (rest := []) (st1 := []) (μ' := (mCpy μ (26 + (pN c)) f)) (k := (fo (26 + (pN c)))) (T := TX3) miX3_copy mvX3_copy (c_copy l g μ (i := (26 + (pN c))) (j := f) (by omega) (by omega)) hw_2_232 (fo_lt (by omega)) (WF_fo g _ (26 + (pN c))) rfl rfl ⟨by decide, by decide, rfl, rfl, by decide, by decide⟩ rfl (Nat.le_of_ble_eq_true rfl) dX7_layTrace_25 rfl ?_
    refine r_goto C 54 dX7_layTrace_28 (by decide) ?_
    refine r_aload C dX7_layTrace_54 0 rfl ?_
    exact r_aret C dX7_layTrace_56 Rr
set_option maxHeartbeats 1000000 in
set_option maxRecDepth 100000 in
theorem c_layLink (l : Launch) (g : Gd) (μ : Mm) {n nw f c : Nat} (hO : Ok μ n nw) (hf : f < 52) (hc : c < 2 ^ n) : Ct l yX8_layLink cX8_layLink 5 (some (.object "SetFamilies$Family")) (rmk 2 61) g [.ref (ad g 12), .ref (ad g (fo f)), .int (nI c)] μ (some (.ref (ad g (fo (37 + pN c))))) (mLk μ nw f c) := by
  obtain ⟨hn, hw, hn10, hnw, hs, h1n⟩ := hO
  have h1024 := pw10 hn10
  refine Ct.of (by decide) (Nat.le_of_ble_eq_true rfl) (fun z A C X Rr => ?_)
  have hp10 := pN_10 c (by omega)
  refine r_iload_n C dX8_layLink_0 2 rfl ?_
  refine r_callP C (As := [.int (nI c)]) (rest := []) (st1 := [.int (nI (pN c))]) miJ6_bitCount_0f7a4 msJ6_bitCount_0f7a4 (c_bitCountI l (n := c) (by omega)) hw_3_15 rfl ⟨by decide, by decide, rfl, rfl, by decide, by decide⟩ rfl (Nat.le_of_ble_eq_true rfl) dX8_layLink_1 rfl ?_
  refine r_bipush C (v := (nI 10)) dX8_layLink_4 (by decide) ?_
  refine r_mmin C (v := (nI (pN c))) hw_3_16 ⟨by decide, Nat.le_of_ble_eq_true rfl, by decide, by decide⟩ dX8_layLink_6 (min10 hp10) ?_
  refine r_istore_n C (lv' := [(3, .int (nI (pN c))), (0, .ref (ad g 12)), (1, .ref (ad g (fo f))), (2, .int (nI c))]) 3 dX8_layLink_9 rfl (by decide) rfl ?_
  refine r_aload_n C dX8_layLink_10 1 rfl ?_
  refine r_get C X (k := 12) (R := RX8) (T := TX8) (N := 6) (n := 2) (v := .ref (ad g 13)) (by decide) rfl rfl inw8 (by decide) rfl hw_1_175 rfl dX8_layLink_11 ?_
  refine r_iload_n C dX8_layLink_14 0 rfl ?_
  refine r_aald C X (k := 13) (n := 11) (b := 37) (by decide) rfl (by omega) (by decide) dX8_layLink_15 ?_
  refine r_astore C (lv' := [(4, .ref (ad g (fo (37 + (pN c))))), (3, .int (nI (pN c))), (0, .ref (ad g 12)), (1, .ref (ad g (fo f))), (2, .int (nI c))]) 4 dX8_layLink_16 (by decide) rfl ?_
  refine r_iload_n C dX8_layLink_18 1 rfl ?_
  refine r_if_ne C 31 dX8_layLink_19 (by decide) (zI_ne (by omega)) (fun h19 => ?_) (fun h19 => ?_)
  · rw [mLk, if_neg h19] at Rr
    have hlo : lowb (lN c) < n := lk_lo c (by omega) n (by omega) hc (Nat.pos_of_ne_zero (fun q => h19 (by rw [q]; exact pN_0)))
    refine r_aload C dX8_layLink_31 0 rfl ?_
    refine r_callV C X (As := []) (rest := []) (st1 := []) (μ' := (mClr μ (37 + (pN c)))) (k := (fo (37 + (pN c)))) (T := TX3) miX3_clear mvX3_clear (c_clear l g μ (i := (37 + (pN c))) (by omega)) hw_3_18 (fo_lt (by omega)) (WF_fo g _ (37 + (pN c))) rfl rfl ⟨by decide, by decide, rfl, rfl, by decide, by decide⟩ rfl (Nat.le_of_ble_eq_true rfl) dX8_layLink_33 rfl ?_
    refine r_aload C dX8_layLink_36 0 rfl ?_
    refine r_aload_n C dX8_layLink_38 2 rfl ?_
    refine r_get C X (k := 12) (R := RX8) (T := TX8) (N := 6) (n := 2) (v := .ref (ad g 13)) (by decide) rfl rfl inw8 (by decide) rfl hw_1_175 rfl dX8_layLink_39 ?_
    refine r_iload_n C dX8_layLink_42 1 rfl ?_
    refine r_iconst C (v := (nI 1)) dX8_layLink_43 rfl ?_
    refine r_isub C (v := (nI (pN c - 1))) dX8_layLink_44 (pk_sub (by omega)) ?_
    refine r_aald C X (k := 13) (n := 11) (b := 37) (by decide) rfl (by omega) (by decide) dX8_layLink_45 ?_
    refine r_iload_n C dX8_layLink_46 4 rfl ?_
    refine r_i2l C (v := (lN c)) dX8_layLink_47 (nI_l (by omega)) ?_
    refine r_callP C (As := [.long (lN c)]) (rest := [.ref (ad g (fo (37 + (pN c - 1)))), .ref (ad g (fo (37 + (pN c))))]) (st1 := [.int (nI (lowb (lN c))), .ref (ad g (fo (37 + (pN c - 1)))), .ref (ad g (fo (37 + (pN c))))]) miX3_lowestBit msX3_lowestBit (c_lowestBit l (lN c)) hw_3_19 rfl ⟨by decide, by decide, rfl, rfl, by decide, by decide⟩ rfl (Nat.le_of_ble_eq_true rfl) dX8_layLink_48 rfl ?_
    refine r_callV C X (As := [.ref (ad g (fo (37 + (pN c - 1)))), .int (nI (lowb (lN c)))]) (rest := []) (st1 := []) (μ' := (mJL (mClr μ (37 + (pN c))) nw (37 + (pN c)) (37 + (pN c - 1)) (lowb (lN c)))) (k := (fo (37 + (pN c)))) (T := TX3) miX3_joinLowered mvX3_joinLowered (c_joinLowered l g (mClr μ (37 + (pN c))) (i := (37 + (pN c))) (j := (37 + (pN c - 1))) (e := lowb (lN c)) (nw := nw) (gI_mClr.trans hw) (by omega) (by omega) (by omega) (by omega) (hs _ hlo)) hw_3_20 (fo_lt (by omega)) (WF_fo g _ (37 + (pN c))) rfl rfl ⟨by decide, by decide, rfl, rfl, by decide, by decide⟩ rfl (Nat.le_of_ble_eq_true rfl) dX8_layLink_51 rfl ?_
    refine r_aload C dX8_layLink_54 0 rfl ?_
    exact r_aret C dX8_layLink_56 Rr
  · rw [mLk, if_pos (Decidable.not_not.mp h19)] at Rr
    refine r_aload C dX8_layLink_22 0 rfl ?_
    refine r_aload_n C dX8_layLink_24 3 rfl ?_
    refine r_callV C X (As := [.ref (ad g (fo f))]) (rest := []) (st1 := []) (μ' := (mCpy μ (37 + (pN c)) f)) (k := (fo (37 + (pN c)))) (T := TX3) miX3_copy mvX3_copy (c_copy l g μ (i := (37 + (pN c))) (j := f) (by omega) (by omega)) hw_3_17 (fo_lt (by omega)) (WF_fo g _ (37 + (pN c))) rfl rfl ⟨by decide, by decide, rfl, rfl, by decide, by decide⟩ rfl (Nat.le_of_ble_eq_true rfl) dX8_layLink_25 rfl ?_
    refine r_goto C 54 dX8_layLink_28 (by decide) ?_
    refine r_aload C dX8_layLink_54 0 rfl ?_
    exact r_aret C dX8_layLink_56 Rr
def flF (n nw f : Nat) : Nat → Nat → Nat → Nat → Nat → Mm → Mm × Nat
  | 0, _, _, b, _, M => (M, b)
  | r + 1, k, nx, b, bs, M =>
    if k < nx then flF n nw f r (k + 1) nx b bs M
    else if ct (mTr M nw f k) nw (26 + pN k) = 2 ^ pN ((2 ^ n - 1) ^^^ k) ∧ bs ≤ pN ((2 ^ n - 1) ^^^ k) then
      flF n nw f r (k + 1) (be k (2 ^ n - 1)) ((2 ^ n - 1) ^^^ k) (pN ((2 ^ n - 1) ^^^ k)) (mTr M nw f k)
    else flF n nw f r (k + 1) (if bs < pN ((2 ^ n - 1) ^^^ k) then k + 1 else be k (2 ^ n - 1)) b bs (mTr M nw f k)
theorem gI_flF {n nw f q : Nat} : ∀ (r k nx b bs : Nat) (M : Mm), gI (flF n nw f r k nx b bs M).1 q = gI M q
  | 0, _, _, _, _, _ => rfl
  | r + 1, k, nx, b, bs, M => by
    rw [flF]
    split
    · exact gI_flF _ _ _ _ _ _
    · split
      · exact (gI_flF _ _ _ _ _ _).trans gI_mTr
      · exact (gI_flF _ _ _ _ _ _).trans gI_mTr
theorem pw_pN {a : Nat} (h : a < 1024) : 2 ^ pN a ≤ 1024 := Nat.pow_le_pow_right (by decide) (pN_10 a h)
set_option maxHeartbeats 1000000 in
set_option maxRecDepth 100000 in
theorem lp_firstLargest {z : Zt} {A : Nat → Prop} {l : Launch} {g : Gd} (C : Cx z A l (rmk 4 88) cX7_firstLargest 9 "SetFamilies$Shattering") (X : Kx z g A) {n nw f : Nat} (hn10 : n ≤ 10) (hnw : nw ≤ 16) (hs : ∀ e, e < n → 6 ≤ e → 2 ^ (e - 6) ≤ nw) (h1n : 1 ≤ n) (hf : f < 52) (h1024 : 2 ^ n ≤ 1024) (h2n : 0 < 2 ^ n) : ∀ (n_ : Nat) (k nx bs b : Nat) (M : Mm), 2 ^ n - k < n_ → k ≤ 2 ^ n → nx ≤ 2048 → bs ≤ 10 → b < 1024 → gI M 0 = nI n → gI M 1 = nI nw → Rx z g A (some .int) (some (.int (nI (flF n nw f (2 ^ n - k) k nx b bs M).2))) (flF n nw f (2 ^ n - k) k nx b bs M).1 → G z g.1 A 9 (wd g M) 0 0 28 [(6, .int (nI k)), (5, .int (nI nx)), (4, .int (nI bs)), (3, .int (nI b)), (2, .int (nI (2 ^ n - 1))), (0, .ref (ad g 10)), (1, .ref (ad g (fo f)))] [] := by
  intro n_
  induction n_ with
  | zero => intro k nx bs b M hm_; exact absurd hm_ (Nat.not_lt_zero _)
  | succ n_ ih =>
    intro k nx bs b M hm_ hk hnx hbs hb hn hw Rr
    refine r_iload C dX7_firstLargest_28 0 rfl ?_
    refine r_iload_n C dX7_firstLargest_30 4 rfl ?_
    refine r_icmp_gt C 116 dX7_firstLargest_31 (by decide) (nI_ltI (by omega) (by omega)) (fun h31 => ?_) (fun h31 => ?_)
    · rw [show 2 ^ n - k = 0 by omega, flF] at Rr
      refine r_iload_n C dX7_firstLargest_116 3 rfl ?_
      exact r_iret C dX7_firstLargest_117 Rr
    · rw [show 2 ^ n - k = (2 ^ n - (k + 1)) + 1 by omega, flF] at Rr
      refine r_iload C dX7_firstLargest_34 0 rfl ?_
      refine r_iload C dX7_firstLargest_36 1 rfl ?_
      refine r_icmp_ge C 44 dX7_firstLargest_38 (by decide) (nI_leI (by omega) (by omega)) (fun h38 => ?_) (fun h38 => ?_)
      · rw [if_neg (by omega)] at Rr
        have hkp : (2 ^ n - 1) ^^^ k < 1024 := Nat.lt_of_lt_of_le (Nat.xor_lt_two_pow (n := n) (by omega) (by omega)) h1024
        have hpk := pN_10 _ hkp
        have hpw := pw_pN hkp
        have hpn := pN_10 k (by omega)
        have hbe := be_le (c := k) (all := 2 ^ n - 1) (by omega) (by omega)
        have hct := ct_le (μ := mTr M nw f k) (i := 26 + pN k) hnw
        refine r_iload_n C dX7_firstLargest_44 4 rfl ?_
        refine r_iload C dX7_firstLargest_45 0 rfl ?_
        refine r_ixor C (v := (nI ((2 ^ n - 1) ^^^ k))) dX7_firstLargest_47 (nxor _ _) ?_
        refine r_istore C (lv' := [(7, .int (nI ((2 ^ n - 1) ^^^ k))), (6, .int (nI k)), (5, .int (nI nx)), (4, .int (nI bs)), (3, .int (nI b)), (2, .int (nI (2 ^ n - 1))), (0, .ref (ad g 10)), (1, .ref (ad g (fo f)))]) 7 dX7_firstLargest_48 (by decide) rfl ?_
        refine r_iload C dX7_firstLargest_50 0 rfl ?_
        refine r_callP C (As := [.int (nI ((2 ^ n - 1) ^^^ k))]) (rest := []) (st1 := [.int (nI (pN ((2 ^ n - 1) ^^^ k)))]) miJ6_bitCount_0f7a4 msJ6_bitCount_0f7a4 (c_bitCountI l (n := (2 ^ n - 1) ^^^ k) (by omega)) hw_2_224 rfl ⟨by decide, by decide, rfl, rfl, by decide, by decide⟩ rfl (Nat.le_of_ble_eq_true rfl) dX7_firstLargest_52 rfl ?_
        refine r_istore C (lv' := [(8, .int (nI (pN ((2 ^ n - 1) ^^^ k)))), (7, .int (nI ((2 ^ n - 1) ^^^ k))), (6, .int (nI k)), (5, .int (nI nx)), (4, .int (nI bs)), (3, .int (nI b)), (2, .int (nI (2 ^ n - 1))), (0, .ref (ad g 10)), (1, .ref (ad g (fo f)))]) 8 dX7_firstLargest_55 (by decide) rfl ?_
        refine r_aload_n C dX7_firstLargest_57 7 rfl ?_
        refine r_aload_n C dX7_firstLargest_58 8 rfl ?_
        refine r_iload C dX7_firstLargest_59 2 rfl ?_
        refine r_callV C X (As := [.ref (ad g (fo f)), .int (nI k)]) (rest := []) (st1 := [.ref (ad g (fo (26 + pN k)))]) (μ' := (mTr M nw f k)) (k := 10) (T := TX7) miX7_layTrace mvX7_layTrace (c_layTrace l g M (n := n) (nw := nw) (f := f) (c := k) ⟨hn, hw, hn10, hnw, hs, h1n⟩ (by omega) (by omega)) hw_2_225 (by decide) rfl rfl rfl ⟨by decide, by decide, rfl, rfl, by decide, by decide⟩ rfl (Nat.le_of_ble_eq_true rfl) dX7_firstLargest_61 rfl ?_
        refine r_callV C X (As := []) (rest := []) (st1 := [.int (nI (sm (fun w => bc (gJ (mTr M nw f k) (26 + pN k) w)) nw))]) (μ' := (mTr M nw f k)) (k := (fo (26 + pN k))) (T := TX3) miX3_count mvX3_count (c_count l g (mTr M nw f k) (i := (26 + pN k)) (nw := nw) (gI_mTr.trans hw) (by omega) (by omega)) hw_2_219 (fo_lt (by omega)) (WF_fo g _ (26 + pN k)) rfl rfl ⟨by decide, by decide, rfl, rfl, by decide, by decide⟩ rfl (Nat.le_of_ble_eq_true rfl) dX7_firstLargest_64 rfl ?_
        refine G_top (y := (nI (ct (mTr M nw f k) nw (26 + pN k)))) rfl ?_
        refine r_iconst C (v := (nI 1)) dX7_firstLargest_67 rfl ?_
        refine r_iload C dX7_firstLargest_68 0 rfl ?_
        refine r_ishl C (v := (nI (2 ^ (pN ((2 ^ n - 1) ^^^ k))))) dX7_firstLargest_70 (nshl1 (by omega)) ?_
        refine r_icmp_ne C 88 dX7_firstLargest_71 (by decide) (not_congr (nI_eq (by omega) (by omega))) (fun h71 => ?_) (fun h71 => ?_)
        · rw [if_neg (fun q => h71 q.1)] at Rr
          refine r_iload C dX7_firstLargest_88 0 rfl ?_
          refine r_iload C dX7_firstLargest_90 4 rfl ?_
          refine r_icmp_le C 102 dX7_firstLargest_92 (by decide) (nI_leI (by omega) (by omega)) (fun h92 => ?_) (fun h92 => ?_)
          · rw [if_neg (by omega)] at Rr
            refine r_iload C dX7_firstLargest_102 2 rfl ?_
            refine r_iload_n C dX7_firstLargest_104 6 rfl ?_
            refine r_callPN C (As := [.int (nI k), .int (nI (2 ^ n - 1))]) (rest := []) (st1 := [.int (nI (be k (2 ^ n - 1)))]) miX10_branchEnd msX10_branchEnd (c_branchEnd l (c := k) (a := 2 ^ n - 1) (by omega) (by omega)) X.2.2.2.2.2.1 rfl ⟨by decide, by decide, rfl, rfl, by decide, by decide⟩ rfl (Nat.le_of_ble_eq_true rfl) dX7_firstLargest_105 rfl ?_
            refine r_istore C (lv' := [(5, .int (nI (be k (2 ^ n - 1)))), (8, .int (nI (pN ((2 ^ n - 1) ^^^ k)))), (7, .int (nI ((2 ^ n - 1) ^^^ k))), (6, .int (nI k)), (4, .int (nI bs)), (3, .int (nI b)), (2, .int (nI (2 ^ n - 1))), (0, .ref (ad g 10)), (1, .ref (ad g (fo f)))]) 5 dX7_firstLargest_108 (by decide) rfl ?_
            refine r_iinc C (v := (nI (k + 1))) (lv' := [(6, .int (nI (k + 1))), (5, .int (nI (be k (2 ^ n - 1)))), (8, .int (nI (pN ((2 ^ n - 1) ^^^ k)))), (7, .int (nI ((2 ^ n - 1) ^^^ k))), (4, .int (nI bs)), (3, .int (nI b)), (2, .int (nI (2 ^ n - 1))), (0, .ref (ad g 10)), (1, .ref (ad g (fo f)))]) 6 3 dX7_firstLargest_110 rfl (inc_N _ 1) (by decide) rfl ?_
            refine r_goto C 28 dX7_firstLargest_113 (by decide) ?_
            refine G_sub (lv' := [(6, .int (nI (k + 1))), (5, .int (nI (be k (2 ^ n - 1)))), (4, .int (nI bs)), (3, .int (nI b)), (2, .int (nI (2 ^ n - 1))), (0, .ref (ad g 10)), (1, .ref (ad g (fo f)))]) [0, 1, 4, 5, 6, 7, 8] rfl ?_
            exact ih (k + 1) (be k (2 ^ n - 1)) bs b (mTr M nw f k) (by omega) (by omega) (by omega) (by omega) (by omega) (gI_mTr.trans hn) (gI_mTr.trans hw) Rr
          · rw [if_pos (by omega)] at Rr
            refine r_iload C dX7_firstLargest_95 2 rfl ?_
            refine r_iconst C (v := (nI 1)) dX7_firstLargest_97 rfl ?_
            refine r_iadd C (v := (nI (k + 1))) dX7_firstLargest_98 (nI_add _ _) ?_
            refine r_goto C 108 dX7_firstLargest_99 (by decide) ?_
            refine r_istore C (lv' := [(5, .int (nI (k + 1))), (8, .int (nI (pN ((2 ^ n - 1) ^^^ k)))), (7, .int (nI ((2 ^ n - 1) ^^^ k))), (6, .int (nI k)), (4, .int (nI bs)), (3, .int (nI b)), (2, .int (nI (2 ^ n - 1))), (0, .ref (ad g 10)), (1, .ref (ad g (fo f)))]) 5 dX7_firstLargest_108 (by decide) rfl ?_
            refine r_iinc C (v := (nI (k + 1))) (lv' := [(6, .int (nI (k + 1))), (5, .int (nI (k + 1))), (8, .int (nI (pN ((2 ^ n - 1) ^^^ k)))), (7, .int (nI ((2 ^ n - 1) ^^^ k))), (4, .int (nI bs)), (3, .int (nI b)), (2, .int (nI (2 ^ n - 1))), (0, .ref (ad g 10)), (1, .ref (ad g (fo f)))]) 6 3 dX7_firstLargest_110 rfl (inc_N _ 1) (by decide) rfl ?_
            refine r_goto C 28 dX7_firstLargest_113 (by decide) ?_
            refine G_sub (lv' := [(6, .int (nI (k + 1))), (5, .int (nI (k + 1))), (4, .int (nI bs)), (3, .int (nI b)), (2, .int (nI (2 ^ n - 1))), (0, .ref (ad g 10)), (1, .ref (ad g (fo f)))]) [0, 1, 4, 5, 6, 7, 8] rfl ?_
            exact ih (k + 1) (k + 1) bs b (mTr M nw f k) (by omega) (by omega) (by omega) (by omega) (by omega) (gI_mTr.trans hn) (gI_mTr.trans hw) Rr
        · refine r_iload C dX7_firstLargest_74 0 rfl ?_
          refine r_iload C dX7_firstLargest_76 4 rfl ?_
          refine r_icmp_lt C 88 dX7_firstLargest_78 (by decide) (nI_ltI (by omega) (by omega)) (fun h78 => ?_) (fun h78 => ?_)
          · rw [if_neg (fun q => by omega)] at Rr
            refine r_iload C dX7_firstLargest_88 0 rfl ?_
            refine r_iload C dX7_firstLargest_90 4 rfl ?_
            refine r_icmp_le C 102 dX7_firstLargest_92 (by decide) (nI_leI (by omega) (by omega)) (fun h92 => ?_) (fun h92 => ?_)
            · rw [if_neg (by omega)] at Rr
              refine r_iload C dX7_firstLargest_102 2 rfl ?_
              refine r_iload_n C dX7_firstLargest_104 6 rfl ?_
              refine r_callPN C (As := [.int (nI k), .int (nI (2 ^ n - 1))]) (rest := []) (st1 := [.int (nI (be k (2 ^ n - 1)))]) miX10_branchEnd msX10_branchEnd (c_branchEnd l (c := k) (a := 2 ^ n - 1) (by omega) (by omega)) X.2.2.2.2.2.1 rfl ⟨by decide, by decide, rfl, rfl, by decide, by decide⟩ rfl (Nat.le_of_ble_eq_true rfl) dX7_firstLargest_105 rfl ?_
              refine r_istore C (lv' := [(5, .int (nI (be k (2 ^ n - 1)))), (8, .int (nI (pN ((2 ^ n - 1) ^^^ k)))), (7, .int (nI ((2 ^ n - 1) ^^^ k))), (6, .int (nI k)), (4, .int (nI bs)), (3, .int (nI b)), (2, .int (nI (2 ^ n - 1))), (0, .ref (ad g 10)), (1, .ref (ad g (fo f)))]) 5 dX7_firstLargest_108 (by decide) rfl ?_
              refine r_iinc C (v := (nI (k + 1))) (lv' := [(6, .int (nI (k + 1))), (5, .int (nI (be k (2 ^ n - 1)))), (8, .int (nI (pN ((2 ^ n - 1) ^^^ k)))), (7, .int (nI ((2 ^ n - 1) ^^^ k))), (4, .int (nI bs)), (3, .int (nI b)), (2, .int (nI (2 ^ n - 1))), (0, .ref (ad g 10)), (1, .ref (ad g (fo f)))]) 6 3 dX7_firstLargest_110 rfl (inc_N _ 1) (by decide) rfl ?_
              refine r_goto C 28 dX7_firstLargest_113 (by decide) ?_
              refine G_sub (lv' := [(6, .int (nI (k + 1))), (5, .int (nI (be k (2 ^ n - 1)))), (4, .int (nI bs)), (3, .int (nI b)), (2, .int (nI (2 ^ n - 1))), (0, .ref (ad g 10)), (1, .ref (ad g (fo f)))]) [0, 1, 4, 5, 6, 7, 8] rfl ?_
              exact ih (k + 1) (be k (2 ^ n - 1)) bs b (mTr M nw f k) (by omega) (by omega) (by omega) (by omega) (by omega) (gI_mTr.trans hn) (gI_mTr.trans hw) Rr
            · rw [if_pos (by omega)] at Rr
              refine r_iload C dX7_firstLargest_95 2 rfl ?_
              refine r_iconst C (v := (nI 1)) dX7_firstLargest_97 rfl ?_
              refine r_iadd C (v := (nI (k + 1))) dX7_firstLargest_98 (nI_add _ _) ?_
              refine r_goto C 108 dX7_firstLargest_99 (by decide) ?_
              refine r_istore C (lv' := [(5, .int (nI (k + 1))), (8, .int (nI (pN ((2 ^ n - 1) ^^^ k)))), (7, .int (nI ((2 ^ n - 1) ^^^ k))), (6, .int (nI k)), (4, .int (nI bs)), (3, .int (nI b)), (2, .int (nI (2 ^ n - 1))), (0, .ref (ad g 10)), (1, .ref (ad g (fo f)))]) 5 dX7_firstLargest_108 (by decide) rfl ?_
              refine r_iinc C (v := (nI (k + 1))) (lv' := [(6, .int (nI (k + 1))), (5, .int (nI (k + 1))), (8, .int (nI (pN ((2 ^ n - 1) ^^^ k)))), (7, .int (nI ((2 ^ n - 1) ^^^ k))), (4, .int (nI bs)), (3, .int (nI b)), (2, .int (nI (2 ^ n - 1))), (0, .ref (ad g 10)), (1, .ref (ad g (fo f)))]) 6 3 dX7_firstLargest_110 rfl (inc_N _ 1) (by decide) rfl ?_
              refine r_goto C 28 dX7_firstLargest_113 (by decide) ?_
              refine G_sub (lv' := [(6, .int (nI (k + 1))), (5, .int (nI (k + 1))), (4, .int (nI bs)), (3, .int (nI b)), (2, .int (nI (2 ^ n - 1))), (0, .ref (ad g 10)), (1, .ref (ad g (fo f)))]) [0, 1, 4, 5, 6, 7, 8] rfl ?_
              exact ih (k + 1) (k + 1) bs b (mTr M nw f k) (by omega) (by omega) (by omega) (by omega) (by omega) (gI_mTr.trans hn) (gI_mTr.trans hw) Rr
          · rw [if_pos ⟨Decidable.not_not.mp h71, by omega⟩] at Rr
            refine r_iload C dX7_firstLargest_81 1 rfl ?_
            refine r_istore_n C (lv' := [(3, .int (nI ((2 ^ n - 1) ^^^ k))), (8, .int (nI (pN ((2 ^ n - 1) ^^^ k)))), (7, .int (nI ((2 ^ n - 1) ^^^ k))), (6, .int (nI k)), (5, .int (nI nx)), (4, .int (nI bs)), (2, .int (nI (2 ^ n - 1))), (0, .ref (ad g 10)), (1, .ref (ad g (fo f)))]) 3 dX7_firstLargest_83 rfl (by decide) rfl ?_
            refine r_iload C dX7_firstLargest_84 1 rfl ?_
            refine r_istore C (lv' := [(4, .int (nI (pN ((2 ^ n - 1) ^^^ k)))), (3, .int (nI ((2 ^ n - 1) ^^^ k))), (8, .int (nI (pN ((2 ^ n - 1) ^^^ k)))), (7, .int (nI ((2 ^ n - 1) ^^^ k))), (6, .int (nI k)), (5, .int (nI nx)), (2, .int (nI (2 ^ n - 1))), (0, .ref (ad g 10)), (1, .ref (ad g (fo f)))]) 4 dX7_firstLargest_86 (by decide) rfl ?_
            refine r_iload C dX7_firstLargest_88 2 rfl ?_
            refine r_iload C dX7_firstLargest_90 0 rfl ?_
            refine r_icmp_le C 102 dX7_firstLargest_92 (by decide) (nI_leI (by omega) (by omega)) (fun h92 => ?_) (fun h92 => ?_)
            · refine r_iload C dX7_firstLargest_102 4 rfl ?_
              refine r_iload_n C dX7_firstLargest_104 6 rfl ?_
              refine r_callPN C (As := [.int (nI k), .int (nI (2 ^ n - 1))]) (rest := []) (st1 := [.int (nI (be k (2 ^ n - 1)))]) miX10_branchEnd msX10_branchEnd (c_branchEnd l (c := k) (a := 2 ^ n - 1) (by omega) (by omega)) X.2.2.2.2.2.1 rfl ⟨by decide, by decide, rfl, rfl, by decide, by decide⟩ rfl (Nat.le_of_ble_eq_true rfl) dX7_firstLargest_105 rfl ?_
              refine r_istore C (lv' := [(5, .int (nI (be k (2 ^ n - 1)))), (4, .int (nI (pN ((2 ^ n - 1) ^^^ k)))), (3, .int (nI ((2 ^ n - 1) ^^^ k))), (8, .int (nI (pN ((2 ^ n - 1) ^^^ k)))), (7, .int (nI ((2 ^ n - 1) ^^^ k))), (6, .int (nI k)), (2, .int (nI (2 ^ n - 1))), (0, .ref (ad g 10)), (1, .ref (ad g (fo f)))]) 5 dX7_firstLargest_108 (by decide) rfl ?_
              refine r_iinc C (v := (nI (k + 1))) (lv' := [(6, .int (nI (k + 1))), (5, .int (nI (be k (2 ^ n - 1)))), (4, .int (nI (pN ((2 ^ n - 1) ^^^ k)))), (3, .int (nI ((2 ^ n - 1) ^^^ k))), (8, .int (nI (pN ((2 ^ n - 1) ^^^ k)))), (7, .int (nI ((2 ^ n - 1) ^^^ k))), (2, .int (nI (2 ^ n - 1))), (0, .ref (ad g 10)), (1, .ref (ad g (fo f)))]) 6 5 dX7_firstLargest_110 rfl (inc_N _ 1) (by decide) rfl ?_
              refine r_goto C 28 dX7_firstLargest_113 (by decide) ?_
              refine G_sub (lv' := [(6, .int (nI (k + 1))), (5, .int (nI (be k (2 ^ n - 1)))), (4, .int (nI (pN ((2 ^ n - 1) ^^^ k)))), (3, .int (nI ((2 ^ n - 1) ^^^ k))), (2, .int (nI (2 ^ n - 1))), (0, .ref (ad g 10)), (1, .ref (ad g (fo f)))]) [0, 1, 2, 3, 6, 7, 8] rfl ?_
              exact ih (k + 1) (be k (2 ^ n - 1)) (pN ((2 ^ n - 1) ^^^ k)) ((2 ^ n - 1) ^^^ k) (mTr M nw f k) (by omega) (by omega) (by omega) (by omega) (by omega) (gI_mTr.trans hn) (gI_mTr.trans hw) Rr
            · exact absurd h92 (by omega)
      · rw [if_pos (by omega)] at Rr
        refine r_goto C 110 dX7_firstLargest_41 (by decide) ?_
        refine r_iinc C (v := (nI (k + 1))) (lv' := [(6, .int (nI (k + 1))), (5, .int (nI nx)), (4, .int (nI bs)), (3, .int (nI b)), (2, .int (nI (2 ^ n - 1))), (0, .ref (ad g 10)), (1, .ref (ad g (fo f)))]) 6 0 dX7_firstLargest_110 rfl (inc_N _ 1) (by decide) rfl ?_
        refine r_goto C 28 dX7_firstLargest_113 (by decide) ?_
        exact ih (k + 1) nx bs b M (by omega) (by omega) (by omega) (by omega) (by omega) hn hw Rr
set_option maxHeartbeats 1000000 in
set_option maxRecDepth 100000 in
theorem c_firstLargest (l : Launch) (g : Gd) (μ : Mm) {n nw f : Nat} (hO : Ok μ n nw) (hf : f < 52) : Ct l yX7_firstLargest cX7_firstLargest 9 (some .int) (rmk 4 88) g [.ref (ad g 10), .ref (ad g (fo f))] μ (some (.int (if ct μ nw f = 0 then (-1) else nI (flF n nw f (2 ^ n) 0 0 0 0 μ).2))) (if ct μ nw f = 0 then μ else (flF n nw f (2 ^ n) 0 0 0 0 μ).1) := by
  obtain ⟨hn, hw, hn10, hnw, hs, h1n⟩ := hO
  have h1024 := pw10 hn10
  refine Ct.of (by decide) (Nat.le_of_ble_eq_true rfl) (fun z A C X Rr => ?_)
  have hct := ct_le (μ := μ) (i := f) hnw
  have h2n := Nat.two_pow_pos n
  refine r_aload_n C dX7_firstLargest_0 1 rfl ?_
  refine r_callV C X (As := []) (rest := []) (st1 := [.int (nI (sm (fun w => bc (gJ μ f w)) nw))]) (μ' := μ) (k := (fo f)) (T := TX3) miX3_count mvX3_count (c_count l g μ (i := f) (nw := nw) hw (by omega) (by omega)) hw_2_219 (fo_lt (by omega)) (WF_fo g _ f) rfl rfl ⟨by decide, by decide, rfl, rfl, by decide, by decide⟩ rfl (Nat.le_of_ble_eq_true rfl) dX7_firstLargest_1 rfl ?_
  refine G_top (y := (nI (ct μ nw f))) rfl ?_
  refine r_if_ne C 9 dX7_firstLargest_4 (by decide) (zI_ne (by omega)) (fun h4 => ?_) (fun h4 => ?_)
  · rw [if_neg h4, if_neg h4] at Rr
    refine r_aload_n C dX7_firstLargest_9 0 rfl ?_
    refine r_get C X (k := 10) (R := RX7) (T := TX7) (N := 2) (n := 0) (v := .ref (ad g 1)) (by decide) rfl rfl inw7 (by decide) rfl hw_1_158 rfl dX7_firstLargest_10 ?_
    refine r_callV C X (As := []) (rest := []) (st1 := [.int (nI (2 ^ n - 1))]) (μ' := μ) (k := 1) (T := TX4) miX4_everything mvX4_everything (c_everything l g μ (n := n) hn (by omega)) hw_2_220 (by decide) rfl rfl rfl ⟨by decide, by decide, rfl, rfl, by decide, by decide⟩ rfl (Nat.le_of_ble_eq_true rfl) dX7_firstLargest_13 rfl ?_
    refine r_istore_n C (lv' := [(2, .int (nI (2 ^ n - 1))), (0, .ref (ad g 10)), (1, .ref (ad g (fo f)))]) 2 dX7_firstLargest_16 rfl (by decide) rfl ?_
    refine r_iconst C (v := (nI 0)) dX7_firstLargest_17 rfl ?_
    refine r_istore_n C (lv' := [(3, .int (nI 0)), (2, .int (nI (2 ^ n - 1))), (0, .ref (ad g 10)), (1, .ref (ad g (fo f)))]) 3 dX7_firstLargest_18 rfl (by decide) rfl ?_
    refine r_iconst C (v := (nI 0)) dX7_firstLargest_19 rfl ?_
    refine r_istore C (lv' := [(4, .int (nI 0)), (3, .int (nI 0)), (2, .int (nI (2 ^ n - 1))), (0, .ref (ad g 10)), (1, .ref (ad g (fo f)))]) 4 dX7_firstLargest_20 (by decide) rfl ?_
    refine r_iconst C (v := (nI 0)) dX7_firstLargest_22 rfl ?_
    refine r_istore C (lv' := [(5, .int (nI 0)), (4, .int (nI 0)), (3, .int (nI 0)), (2, .int (nI (2 ^ n - 1))), (0, .ref (ad g 10)), (1, .ref (ad g (fo f)))]) 5 dX7_firstLargest_23 (by decide) rfl ?_
    refine r_iconst C (v := (nI 0)) dX7_firstLargest_25 rfl ?_
    refine r_istore C (lv' := [(6, .int (nI 0)), (5, .int (nI 0)), (4, .int (nI 0)), (3, .int (nI 0)), (2, .int (nI (2 ^ n - 1))), (0, .ref (ad g 10)), (1, .ref (ad g (fo f)))]) 6 dX7_firstLargest_26 (by decide) rfl ?_
    exact lp_firstLargest C X hn10 hnw hs h1n hf h1024 h2n (2 ^ n + 1) 0 0 0 0 μ (by omega) (by omega) (by omega) (by omega) (by omega) hn hw Rr
  · rw [if_pos (Decidable.not_not.mp h4), if_pos (Decidable.not_not.mp h4)] at Rr
    refine r_iconst C (v := (-1)) dX7_firstLargest_7 rfl ?_
    exact r_iret C dX7_firstLargest_8 Rr
