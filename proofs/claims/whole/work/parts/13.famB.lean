set_option maxHeartbeats 1000000 in
set_option maxRecDepth 100000 in
theorem c_clear (l : Launch) (g : Gd) (μ : Mm) {i : Nat} (hi : i < 52) : Ct l yX3_clear cX3_clear 1 none (rmk 1 24) g [.ref (ad g (fo i))] μ none (sJ μ i (rowU 16 (fun _ => lN 0) (gJ μ i))) := by
  refine Ct.of (by decide) (Nat.le_of_ble_eq_true rfl) (fun z A C X Rr => ?_)
  refine r_aload_n C dX3_clear_0 0 rfl ?_
  refine r_get C X (k := (fo i)) (R := RX3) (T := TX3) (N := 2) (n := 1) (v := .ref (ad g (fw i))) (fo_lt (by omega)) (WF_fo g _ i) rfl inw3 (by decide) rfl hw_1_63 rfl dX3_clear_1 ?_
  refine r_lconst C (v := (lN 0)) dX3_clear_4 rfl ?_
  refine r_callS C X (As := [.ref (ad g (fw i)), .long (lN 0)]) (rest := []) (st1 := []) (μ' := (sJ μ i (rowU 16 (fun _ => (lN 0)) (gJ μ i)))) miJ7_fill_d0a16 msJ7_fill_d0a16 (c_fill l g μ (i := i) (by omega) (lN 0)) hw_2_65 rfl ⟨by decide, by decide, rfl, rfl, by decide, by decide⟩ rfl (Nat.le_of_ble_eq_true rfl) dX3_clear_5 rfl ?_
  exact r_vret C dX3_clear_8 Rr
set_option maxHeartbeats 1000000 in
set_option maxRecDepth 100000 in
theorem c_copy (l : Launch) (g : Gd) (μ : Mm) {i j : Nat} (hi : i < 52) (hj : j < 52) : Ct l yX3_copy cX3_copy 2 none (rmk 1 40) g [.ref (ad g (fo i)), .ref (ad g (fo j))] μ none (sJ μ i (rowU 16 (gJ μ j) (gJ μ i))) := by
  refine Ct.of (by decide) (Nat.le_of_ble_eq_true rfl) (fun z A C X Rr => ?_)
  refine r_aload_n C dX3_copy_0 1 rfl ?_
  refine r_get C X (k := (fo j)) (R := RX3) (T := TX3) (N := 2) (n := 1) (v := .ref (ad g (fw j))) (fo_lt (by omega)) (WF_fo g _ j) rfl inw3 (by decide) rfl hw_1_63 rfl dX3_copy_1 ?_
  refine r_iconst C (v := (nI 0)) dX3_copy_4 rfl ?_
  refine r_aload_n C dX3_copy_5 0 rfl ?_
  refine r_get C X (k := (fo i)) (R := RX3) (T := TX3) (N := 2) (n := 1) (v := .ref (ad g (fw i))) (fo_lt (by omega)) (WF_fo g _ i) rfl inw3 (by decide) rfl hw_1_63 rfl dX3_copy_6 ?_
  refine r_iconst C (v := (nI 0)) dX3_copy_9 rfl ?_
  refine r_bipush C (v := (nI 16)) dX3_copy_10 (by decide) ?_
  refine r_copyF C X (by omega) (by omega) hw_2_80 ⟨by decide, Nat.le_of_ble_eq_true rfl⟩ dX3_copy_12 ?_
  exact r_vret C dX3_copy_15 Rr
def bt (x : Nat → Int64) (c : Nat) : Bool := (x (c / 64)).toBitVec.getLsbD (c % 64)
theorem bw_eq (c : Nat) : bw c = lN (2 ^ (c % 64)) := by
  unfold bw shlW
  have h : c &&& 63 = c % 64 := by rw [show (63 : Nat) = 2 ^ 6 - 1 from rfl, Nat.and_two_pow_sub_one_eq_mod]
  have := wb_shl 1 (k := c &&& 63) (by rw [h]; omega)
  rw [h] at this ⊢
  rw [Nat.one_mul] at this
  exact this
theorem bw_bit (c : Nat) {j : Nat} (hj : j < 64) : (bw c).toBitVec.getLsbD j = decide (j = c % 64) := by
  rw [bw_eq, wb_tb, BitVec.getLsbD_ofNat, Nat.testBit_two_pow]
  simp only [hj, decide_true, Bool.true_and]
  exact decide_eq_decide.mpr ⟨fun h => h.symm, fun h => h.symm⟩
theorem bw_and0 (a : Int64) (c : Nat) : a &&& bw c = lN 0 ↔ a.toBitVec.getLsbD (c % 64) = false := by
  have hc : c % 64 < 64 := Nat.mod_lt _ (by decide)
  constructor
  · intro h
    have := congrArg (fun v : Int64 => v.toBitVec.getLsbD (c % 64)) h
    simp only [Int64.toBitVec_and, BitVec.getLsbD_and, bw_bit c hc, wb_tb] at this
    simpa using this
  · intro h
    apply wb_inj
    apply BitVec.eq_of_getLsbD_eq
    intro j hj
    rw [Int64.toBitVec_and, BitVec.getLsbD_and, bw_bit c hj, wb_tb]
    by_cases e : j = c % 64
    · subst e; rw [h]; simp
    · simp [e]
def putW (x : Nat → Int64) (c : Nat) : Nat → Int64 := vp_updL x (c / 64) (x (c / 64) ||| bw c)
def dropW (x : Nat → Int64) (c : Nat) : Nat → Int64 := vp_updL x (c / 64) (x (c / 64) &&& (bw c ^^^ (-1)))
set_option maxHeartbeats 1000000 in
set_option maxRecDepth 100000 in
theorem c_contains (l : Launch) (g : Gd) (μ : Mm) {i c : Nat} (hi : i < 52) (hc : c < 1024) : Ct l yX3_contains cX3_contains 2 (some .boolean) (rmk 1 20) g [.ref (ad g (fo i)), .int (nI c)] μ (some (.int (bI (bt (gJ μ i) c)))) μ := by
  refine Ct.of (by decide) (Nat.le_of_ble_eq_true rfl) (fun z A C X Rr => ?_)
  refine r_aload_n C dX3_contains_0 0 rfl ?_
  refine r_get C X (k := (fo i)) (R := RX3) (T := TX3) (N := 2) (n := 1) (v := .ref (ad g (fw i))) (fo_lt (by omega)) (WF_fo g _ i) rfl inw3 (by decide) rfl hw_1_63 rfl dX3_contains_1 ?_
  refine r_iload_n C dX3_contains_4 1 rfl ?_
  refine r_callP C (As := [.int (nI c)]) (rest := [.ref (ad g (fw i))]) (st1 := [.int (nI (c / 64)), .ref (ad g (fw i))]) miX3_wordOf msX3_wordOf (c_wordOf l (c := c) (by omega)) hw_2_140 rfl ⟨by decide, by decide, rfl, rfl, by decide, by decide⟩ rfl (Nat.le_of_ble_eq_true rfl) dX3_contains_5 rfl ?_
  refine r_lald C X (k := (fw i)) (v := (gJ μ i (c / 64))) (fw_lt (by omega)) (WF_fw g _ i) (by omega) (by decide) rfl dX3_contains_8 ?_
  refine r_iload_n C dX3_contains_9 1 rfl ?_
  refine r_callP C (As := [.int (nI c)]) (rest := [.long (gJ μ i (c / 64))]) (st1 := [.long (bw c), .long (gJ μ i (c / 64))]) miX3_bitOf msX3_bitOf (c_bitOf l c) hw_2_143 rfl ⟨by decide, by decide, rfl, rfl, by decide, by decide⟩ rfl (Nat.le_of_ble_eq_true rfl) dX3_contains_10 rfl ?_
  refine r_land C (v := ((gJ μ i (c / 64)) &&& (bw c))) dX3_contains_13 rfl ?_
  refine r_lconst C (v := (lN 0)) dX3_contains_14 rfl ?_
  refine r_lcmp C dX3_contains_15 ?_
  refine r_if_eq C 23 dX3_contains_16 (by decide) (lgc_eq _ _) (fun h16 => ?_) (fun h16 => ?_)
  · refine r_iconst C (v := (nI 0)) dX3_contains_23 rfl ?_
    refine G_top (y := (bI (bt (gJ μ i) c))) (b0 ((bw_and0 _ _).mp h16)) ?_
    exact r_zret C dX3_contains_24 (nar_b _) Rr
  · refine r_iconst C (v := (nI 1)) dX3_contains_19 rfl ?_
    refine r_goto C 24 dX3_contains_20 (by decide) ?_
    refine G_top (y := (bI (bt (gJ μ i) c))) (b1 (eq_true_of_ne_false (fun q => h16 ((bw_and0 _ _).mpr q)))) ?_
    exact r_zret C dX3_contains_24 (nar_b _) Rr
set_option maxHeartbeats 1000000 in
set_option maxRecDepth 100000 in
theorem c_put (l : Launch) (g : Gd) (μ : Mm) {i c : Nat} (hi : i < 52) (hc : c < 1024) : Ct l yX3_put cX3_put 2 none (rmk 1 20) g [.ref (ad g (fo i)), .int (nI c)] μ none (sJ μ i (putW (gJ μ i) c)) := by
  refine Ct.of (by decide) (Nat.le_of_ble_eq_true rfl) (fun z A C X Rr => ?_)
  refine r_aload_n C dX3_put_0 0 rfl ?_
  refine r_get C X (k := (fo i)) (R := RX3) (T := TX3) (N := 2) (n := 1) (v := .ref (ad g (fw i))) (fo_lt (by omega)) (WF_fo g _ i) rfl inw3 (by decide) rfl hw_1_63 rfl dX3_put_1 ?_
  refine r_iload_n C dX3_put_4 1 rfl ?_
  refine r_callP C (As := [.int (nI c)]) (rest := [.ref (ad g (fw i))]) (st1 := [.int (nI (c / 64)), .ref (ad g (fw i))]) miX3_wordOf msX3_wordOf (c_wordOf l (c := c) (by omega)) hw_2_140 rfl ⟨by decide, by decide, rfl, rfl, by decide, by decide⟩ rfl (Nat.le_of_ble_eq_true rfl) dX3_put_5 rfl ?_
  refine r_dup2 C dX3_put_8 rfl rfl ?_
  refine r_lald C X (k := (fw i)) (v := (gJ μ i (c / 64))) (fw_lt (by omega)) (WF_fw g _ i) (by omega) (by decide) rfl dX3_put_9 ?_
  refine r_iload_n C dX3_put_10 1 rfl ?_
  refine r_callP C (As := [.int (nI c)]) (rest := [.long (gJ μ i (c / 64)), .int (nI (c / 64)), .ref (ad g (fw i))]) (st1 := [.long (bw c), .long (gJ μ i (c / 64)), .int (nI (c / 64)), .ref (ad g (fw i))]) miX3_bitOf msX3_bitOf (c_bitOf l c) hw_2_143 rfl ⟨by decide, by decide, rfl, rfl, by decide, by decide⟩ rfl (Nat.le_of_ble_eq_true rfl) dX3_put_11 rfl ?_
  refine r_lor C (v := ((gJ μ i (c / 64)) ||| (bw c))) dX3_put_14 rfl ?_
  refine r_last C X (k := (fw i)) (f' := putW (gJ μ i) c) (μ' := (sJ μ i (putW (gJ μ i) c))) (fw_lt (by omega)) (WF_fw g _ i) (by omega) (by decide) rfl dX3_put_15 (WF_sJ_fw g _ _ _) (WF_sJ_ne g _ (by omega) _) ?_
  exact r_vret C dX3_put_16 Rr
set_option maxHeartbeats 1000000 in
set_option maxRecDepth 100000 in
theorem c_drop (l : Launch) (g : Gd) (μ : Mm) {i c : Nat} (hi : i < 52) (hc : c < 1024) : Ct l yX3_drop cX3_drop 2 none (rmk 1 20) g [.ref (ad g (fo i)), .int (nI c)] μ none (sJ μ i (dropW (gJ μ i) c)) := by
  refine Ct.of (by decide) (Nat.le_of_ble_eq_true rfl) (fun z A C X Rr => ?_)
  refine r_aload_n C dX3_drop_0 0 rfl ?_
  refine r_get C X (k := (fo i)) (R := RX3) (T := TX3) (N := 2) (n := 1) (v := .ref (ad g (fw i))) (fo_lt (by omega)) (WF_fo g _ i) rfl inw3 (by decide) rfl hw_1_63 rfl dX3_drop_1 ?_
  refine r_iload_n C dX3_drop_4 1 rfl ?_
  refine r_callP C (As := [.int (nI c)]) (rest := [.ref (ad g (fw i))]) (st1 := [.int (nI (c / 64)), .ref (ad g (fw i))]) miX3_wordOf msX3_wordOf (c_wordOf l (c := c) (by omega)) hw_2_140 rfl ⟨by decide, by decide, rfl, rfl, by decide, by decide⟩ rfl (Nat.le_of_ble_eq_true rfl) dX3_drop_5 rfl ?_
  refine r_dup2 C dX3_drop_8 rfl rfl ?_
  refine r_lald C X (k := (fw i)) (v := (gJ μ i (c / 64))) (fw_lt (by omega)) (WF_fw g _ i) (by omega) (by decide) rfl dX3_drop_9 ?_
  refine r_iload_n C dX3_drop_10 1 rfl ?_
  refine r_callP C (As := [.int (nI c)]) (rest := [.long (gJ μ i (c / 64)), .int (nI (c / 64)), .ref (ad g (fw i))]) (st1 := [.long (bw c), .long (gJ μ i (c / 64)), .int (nI (c / 64)), .ref (ad g (fw i))]) miX3_bitOf msX3_bitOf (c_bitOf l c) hw_2_143 rfl ⟨by decide, by decide, rfl, rfl, by decide, by decide⟩ rfl (Nat.le_of_ble_eq_true rfl) dX3_drop_11 rfl ?_
  refine r_ldc2 C dX3_drop_14 hw_2_44 ?_
  refine r_lxor C (v := ((bw c) ^^^ (-1))) dX3_drop_17 rfl ?_
  refine r_land C (v := ((gJ μ i (c / 64)) &&& ((bw c) ^^^ (-1)))) dX3_drop_18 rfl ?_
  refine r_last C X (k := (fw i)) (f' := dropW (gJ μ i) c) (μ' := (sJ μ i (dropW (gJ μ i) c))) (fw_lt (by omega)) (WF_fw g _ i) (by omega) (by decide) rfl dX3_drop_19 (WF_sJ_fw g _ _ _) (WF_sJ_ne g _ (by omega) _) ?_
  exact r_vret C dX3_drop_20 Rr
set_option maxHeartbeats 1000000 in
set_option maxRecDepth 100000 in
theorem lp_count {z : Zt} {A : Nat → Prop} {l : Launch} {g : Gd} {μ : Mm} (C : Cx z A l (rmk 1 21) cX3_count 3 "SetFamilies$Family") (X : Kx z g A) {i nw : Nat} (hw : gI μ 1 = nI nw) (hnw : nw ≤ 16) (hi : i < 52)  (Rr : Rx z g A (some .int) (some (.int (nI (sm (fun w => bc (gJ μ i w)) nw)))) μ) : ∀ (n_ : Nat) (k : Nat), nw - k < n_ → k ≤ nw → G z g.1 A 3 (wd g μ) 0 0 4 [(2, .int (nI k)), (1, .int (nI (sm (fun w => bc (gJ μ i w)) k))), (0, .ref (ad g (fo i)))] [] := by
  intro n_
  induction n_ with
  | zero => intro k hm_; exact absurd hm_ (Nat.not_lt_zero _)
  | succ n_ ih =>
    intro k hm_ hk
    refine r_iload_n C dX3_count_4 0 rfl ?_
    refine r_aload_n C dX3_count_5 2 rfl ?_
    refine r_get C X (k := (fo i)) (R := RX3) (T := TX3) (N := 2) (n := 0) (v := .ref (ad g 1)) (fo_lt (by omega)) (WF_fo g _ i) rfl inw3 (by decide) rfl hw_1_62 rfl dX3_count_6 ?_
    refine r_get C X (k := 1) (R := RX4) (T := TX4) (N := 2) (n := 1) (v := .int (gI μ 1)) (by decide) rfl rfl inw4 (by decide) rfl hw_1_49 rfl dX3_count_9 ?_
    refine G_top (y := (nI nw)) hw ?_
    refine r_icmp_ge C 33 dX3_count_12 (by decide) (nI_leI (by omega) (by omega)) (fun h12 => ?_) (fun h12 => ?_)
    · have hkn : k = nw := by omega
      subst hkn
      refine r_iload_n C dX3_count_33 1 rfl ?_
      exact r_iret C dX3_count_34 Rr
    · refine r_iload_n C dX3_count_15 1 rfl ?_
      refine r_aload_n C dX3_count_16 2 rfl ?_
      refine r_get C X (k := (fo i)) (R := RX3) (T := TX3) (N := 2) (n := 1) (v := .ref (ad g (fw i))) (fo_lt (by omega)) (WF_fo g _ i) rfl inw3 (by decide) rfl hw_1_63 rfl dX3_count_17 ?_
      refine r_iload_n C dX3_count_20 0 rfl ?_
      refine r_lald C X (k := (fw i)) (v := (gJ μ i k)) (fw_lt (by omega)) (WF_fw g _ i) (by omega) (by decide) rfl dX3_count_21 ?_
      refine r_callP C (As := [.long (gJ μ i k)]) (rest := [.int (nI (sm (fun w => bc (gJ μ i w)) k))]) (st1 := [.int (nI (bc (gJ μ i k))), .int (nI (sm (fun w => bc (gJ μ i w)) k))]) miJ13_bitCount_95d88 msJ13_bitCount_95d88 (c_bitCountL l (gJ μ i k)) hw_2_26 rfl ⟨by decide, by decide, rfl, rfl, by decide, by decide⟩ rfl (Nat.le_of_ble_eq_true rfl) dX3_count_22 rfl ?_
      refine r_iadd C (v := (nI (sm (fun w => bc (gJ μ i w)) (k + 1)))) dX3_count_25 (nI_add _ _) ?_
      refine r_istore_n C (lv' := [(1, .int (nI (sm (fun w => bc (gJ μ i w)) (k + 1)))), (2, .int (nI k)), (0, .ref (ad g (fo i)))]) 1 dX3_count_26 rfl (by decide) rfl ?_
      refine r_iinc C (v := (nI (k + 1))) (lv' := [(2, .int (nI (k + 1))), (1, .int (nI (sm (fun w => bc (gJ μ i w)) (k + 1)))), (0, .ref (ad g (fo i)))]) 2 1 dX3_count_27 rfl (inc_N _ 1) (by decide) rfl ?_
      refine r_goto C 4 dX3_count_30 (by decide) ?_
      exact ih (k + 1) (by omega) (by omega)
set_option maxHeartbeats 1000000 in
set_option maxRecDepth 100000 in
theorem c_count (l : Launch) (g : Gd) (μ : Mm) {i nw : Nat} (hw : gI μ 1 = nI nw) (hnw : nw ≤ 16) (hi : i < 52)  : Ct l yX3_count cX3_count 3 (some .int) (rmk 1 21) g [.ref (ad g (fo i))] μ (some (.int (nI (sm (fun w => bc (gJ μ i w)) nw)))) μ := by
  refine Ct.of (by decide) (Nat.le_of_ble_eq_true rfl) (fun z A C X Rr => ?_)
  refine r_iconst C (v := (nI 0)) dX3_count_0 rfl ?_
  refine r_istore_n C (lv' := [(1, .int (nI 0)), (0, .ref (ad g (fo i)))]) 1 dX3_count_1 rfl (by decide) rfl ?_
  refine r_iconst C (v := (nI 0)) dX3_count_2 rfl ?_
  refine r_istore_n C (lv' := [(2, .int (nI 0)), (1, .int (nI 0)), (0, .ref (ad g (fo i)))]) 2 dX3_count_3 rfl (by decide) rfl ?_
  exact lp_count C X hw hnw hi  Rr (nw + 1) 0 (by omega) (by omega)
set_option maxHeartbeats 1000000 in
set_option maxRecDepth 100000 in
theorem lp_countOfSize {z : Zt} {A : Nat → Prop} {l : Launch} {g : Gd} {μ : Mm} (C : Cx z A l (rmk 2 42) cX3_countOfSize 4 "SetFamilies$Family") (X : Kx z g A) {i nw : Nat} (hw : gI μ 1 = nI nw) (hnw : nw ≤ 16) (hi : i < 52) {m : Nat} (hm : m < 2 ^ 30) (Rr : Rx z g A (some .int) (some (.int (nI (sm (fun w => bc (gJ μ i w &&& oz w m)) nw)))) μ) : ∀ (n_ : Nat) (k : Nat), nw - k < n_ → k ≤ nw → G z g.1 A 4 (wd g μ) 0 0 4 [(3, .int (nI k)), (2, .int (nI (sm (fun w => bc (gJ μ i w &&& oz w m)) k))), (0, .ref (ad g (fo i))), (1, .int (nI m))] [] := by
  intro n_
  induction n_ with
  | zero => intro k hm_; exact absurd hm_ (Nat.not_lt_zero _)
  | succ n_ ih =>
    intro k hm_ hk
    refine r_iload_n C dX3_countOfSize_4 0 rfl ?_
    refine r_aload_n C dX3_countOfSize_5 2 rfl ?_
    refine r_get C X (k := (fo i)) (R := RX3) (T := TX3) (N := 2) (n := 0) (v := .ref (ad g 1)) (fo_lt (by omega)) (WF_fo g _ i) rfl inw3 (by decide) rfl hw_1_62 rfl dX3_countOfSize_6 ?_
    refine r_get C X (k := 1) (R := RX4) (T := TX4) (N := 2) (n := 1) (v := .int (gI μ 1)) (by decide) rfl rfl inw4 (by decide) rfl hw_1_49 rfl dX3_countOfSize_9 ?_
    refine G_top (y := (nI nw)) hw ?_
    refine r_icmp_ge C 39 dX3_countOfSize_12 (by decide) (nI_leI (by omega) (by omega)) (fun h12 => ?_) (fun h12 => ?_)
    · have hkn : k = nw := by omega
      subst hkn
      refine r_iload_n C dX3_countOfSize_39 1 rfl ?_
      exact r_iret C dX3_countOfSize_40 Rr
    · refine r_iload_n C dX3_countOfSize_15 1 rfl ?_
      refine r_aload_n C dX3_countOfSize_16 2 rfl ?_
      refine r_get C X (k := (fo i)) (R := RX3) (T := TX3) (N := 2) (n := 1) (v := .ref (ad g (fw i))) (fo_lt (by omega)) (WF_fo g _ i) rfl inw3 (by decide) rfl hw_1_63 rfl dX3_countOfSize_17 ?_
      refine r_iload_n C dX3_countOfSize_20 0 rfl ?_
      refine r_lald C X (k := (fw i)) (v := (gJ μ i k)) (fw_lt (by omega)) (WF_fw g _ i) (by omega) (by decide) rfl dX3_countOfSize_21 ?_
      refine r_iload_n C dX3_countOfSize_22 0 rfl ?_
      refine r_iload_n C dX3_countOfSize_23 3 rfl ?_
      refine r_callS C X (As := [.int (nI k), .int (nI m)]) (rest := [.long (gJ μ i k), .int (nI (sm (fun w => bc (gJ μ i w &&& oz w m)) k))]) (st1 := [.long (oz k m), .long (gJ μ i k), .int (nI (sm (fun w => bc (gJ μ i w &&& oz w m)) k))]) (μ' := μ) miX3_ofSize msX3_ofSize (c_ofSize l g μ (w := k) (k := m) (by omega) (by omega)) hw_2_196 rfl ⟨by decide, by decide, rfl, rfl, by decide, by decide⟩ rfl (Nat.le_of_ble_eq_true rfl) dX3_countOfSize_24 rfl ?_
      refine r_land C (v := ((gJ μ i k) &&& (oz k m))) dX3_countOfSize_27 rfl ?_
      refine r_callP C (As := [.long ((gJ μ i k) &&& (oz k m))]) (rest := [.int (nI (sm (fun w => bc (gJ μ i w &&& oz w m)) k))]) (st1 := [.int (nI (bc ((gJ μ i k) &&& (oz k m)))), .int (nI (sm (fun w => bc (gJ μ i w &&& oz w m)) k))]) miJ13_bitCount_95d88 msJ13_bitCount_95d88 (c_bitCountL l ((gJ μ i k) &&& (oz k m))) hw_2_26 rfl ⟨by decide, by decide, rfl, rfl, by decide, by decide⟩ rfl (Nat.le_of_ble_eq_true rfl) dX3_countOfSize_28 rfl ?_
      refine r_iadd C (v := (nI (sm (fun w => bc (gJ μ i w &&& oz w m)) (k + 1)))) dX3_countOfSize_31 (nI_add _ _) ?_
      refine r_istore_n C (lv' := [(2, .int (nI (sm (fun w => bc (gJ μ i w &&& oz w m)) (k + 1)))), (3, .int (nI k)), (0, .ref (ad g (fo i))), (1, .int (nI m))]) 2 dX3_countOfSize_32 rfl (by decide) rfl ?_
      refine r_iinc C (v := (nI (k + 1))) (lv' := [(3, .int (nI (k + 1))), (2, .int (nI (sm (fun w => bc (gJ μ i w &&& oz w m)) (k + 1)))), (0, .ref (ad g (fo i))), (1, .int (nI m))]) 3 1 dX3_countOfSize_33 rfl (inc_N _ 1) (by decide) rfl ?_
      refine r_goto C 4 dX3_countOfSize_36 (by decide) ?_
      exact ih (k + 1) (by omega) (by omega)
set_option maxHeartbeats 1000000 in
set_option maxRecDepth 100000 in
theorem c_countOfSize (l : Launch) (g : Gd) (μ : Mm) {i nw : Nat} (hw : gI μ 1 = nI nw) (hnw : nw ≤ 16) (hi : i < 52) {m : Nat} (hm : m < 2 ^ 30) : Ct l yX3_countOfSize cX3_countOfSize 4 (some .int) (rmk 2 42) g [.ref (ad g (fo i)), .int (nI m)] μ (some (.int (nI (sm (fun w => bc (gJ μ i w &&& oz w m)) nw)))) μ := by
  refine Ct.of (by decide) (Nat.le_of_ble_eq_true rfl) (fun z A C X Rr => ?_)
  refine r_iconst C (v := (nI 0)) dX3_countOfSize_0 rfl ?_
  refine r_istore_n C (lv' := [(2, .int (nI 0)), (0, .ref (ad g (fo i))), (1, .int (nI m))]) 2 dX3_countOfSize_1 rfl (by decide) rfl ?_
  refine r_iconst C (v := (nI 0)) dX3_countOfSize_2 rfl ?_
  refine r_istore_n C (lv' := [(3, .int (nI 0)), (2, .int (nI 0)), (0, .ref (ad g (fo i))), (1, .int (nI m))]) 3 dX3_countOfSize_3 rfl (by decide) rfl ?_
  exact lp_countOfSize C X hw hnw hi hm Rr (nw + 1) 0 (by omega) (by omega)
set_option maxHeartbeats 1000000 in
set_option maxRecDepth 100000 in
theorem lp_countHolding {z : Zt} {A : Nat → Prop} {l : Launch} {g : Gd} {μ : Mm} (C : Cx z A l (rmk 1 21) cX3_countHolding 4 "SetFamilies$Family") (X : Kx z g A) {i nw : Nat} (hw : gI μ 1 = nI nw) (hnw : nw ≤ 16) (hi : i < 52) {e : Nat} (he : e < 10) (Rr : Rx z g A (some .int) (some (.int (nI (sm (fun w => bc (gJ μ i w &&& (lk w e ^^^ (-1)))) nw)))) μ) : ∀ (n_ : Nat) (k : Nat), nw - k < n_ → k ≤ nw → G z g.1 A 4 (wd g μ) 0 0 4 [(3, .int (nI k)), (2, .int (nI (sm (fun w => bc (gJ μ i w &&& (lk w e ^^^ (-1)))) k))), (0, .ref (ad g (fo i))), (1, .int (nI e))] [] := by
  intro n_
  induction n_ with
  | zero => intro k hm_; exact absurd hm_ (Nat.not_lt_zero _)
  | succ n_ ih =>
    intro k hm_ hk
    refine r_iload_n C dX3_countHolding_4 0 rfl ?_
    refine r_aload_n C dX3_countHolding_5 2 rfl ?_
    refine r_get C X (k := (fo i)) (R := RX3) (T := TX3) (N := 2) (n := 0) (v := .ref (ad g 1)) (fo_lt (by omega)) (WF_fo g _ i) rfl inw3 (by decide) rfl hw_1_62 rfl dX3_countHolding_6 ?_
    refine r_get C X (k := 1) (R := RX4) (T := TX4) (N := 2) (n := 1) (v := .int (gI μ 1)) (by decide) rfl rfl inw4 (by decide) rfl hw_1_49 rfl dX3_countHolding_9 ?_
    refine G_top (y := (nI nw)) hw ?_
    refine r_icmp_ge C 43 dX3_countHolding_12 (by decide) (nI_leI (by omega) (by omega)) (fun h12 => ?_) (fun h12 => ?_)
    · have hkn : k = nw := by omega
      subst hkn
      refine r_iload_n C dX3_countHolding_43 1 rfl ?_
      exact r_iret C dX3_countHolding_44 Rr
    · refine r_iload_n C dX3_countHolding_15 1 rfl ?_
      refine r_aload_n C dX3_countHolding_16 2 rfl ?_
      refine r_get C X (k := (fo i)) (R := RX3) (T := TX3) (N := 2) (n := 1) (v := .ref (ad g (fw i))) (fo_lt (by omega)) (WF_fo g _ i) rfl inw3 (by decide) rfl hw_1_63 rfl dX3_countHolding_17 ?_
      refine r_iload_n C dX3_countHolding_20 0 rfl ?_
      refine r_lald C X (k := (fw i)) (v := (gJ μ i k)) (fw_lt (by omega)) (WF_fw g _ i) (by omega) (by decide) rfl dX3_countHolding_21 ?_
      refine r_iload_n C dX3_countHolding_22 0 rfl ?_
      refine r_iload_n C dX3_countHolding_23 3 rfl ?_
      refine r_callS C X (As := [.int (nI k), .int (nI e)]) (rest := [.long (gJ μ i k), .int (nI (sm (fun w => bc (gJ μ i w &&& (lk w e ^^^ (-1)))) k))]) (st1 := [.long (lk k e), .long (gJ μ i k), .int (nI (sm (fun w => bc (gJ μ i w &&& (lk w e ^^^ (-1)))) k))]) (μ' := μ) miX3_lacking msX3_lacking (c_lacking l g μ (w := k) (e := e) (by omega) (by omega)) hw_2_39 rfl ⟨by decide, by decide, rfl, rfl, by decide, by decide⟩ rfl (Nat.le_of_ble_eq_true rfl) dX3_countHolding_24 rfl ?_
      refine r_ldc2 C dX3_countHolding_27 hw_2_44 ?_
      refine r_lxor C (v := ((lk k e) ^^^ (-1))) dX3_countHolding_30 rfl ?_
      refine r_land C (v := ((gJ μ i k) &&& ((lk k e) ^^^ (-1)))) dX3_countHolding_31 rfl ?_
      refine r_callP C (As := [.long ((gJ μ i k) &&& ((lk k e) ^^^ (-1)))]) (rest := [.int (nI (sm (fun w => bc (gJ μ i w &&& (lk w e ^^^ (-1)))) k))]) (st1 := [.int (nI (bc ((gJ μ i k) &&& ((lk k e) ^^^ (-1))))), .int (nI (sm (fun w => bc (gJ μ i w &&& (lk w e ^^^ (-1)))) k))]) miJ13_bitCount_95d88 msJ13_bitCount_95d88 (c_bitCountL l ((gJ μ i k) &&& ((lk k e) ^^^ (-1)))) hw_2_26 rfl ⟨by decide, by decide, rfl, rfl, by decide, by decide⟩ rfl (Nat.le_of_ble_eq_true rfl) dX3_countHolding_32 rfl ?_
      refine r_iadd C (v := (nI (sm (fun w => bc (gJ μ i w &&& (lk w e ^^^ (-1)))) (k + 1)))) dX3_countHolding_35 (nI_add _ _) ?_
      refine r_istore_n C (lv' := [(2, .int (nI (sm (fun w => bc (gJ μ i w &&& (lk w e ^^^ (-1)))) (k + 1)))), (3, .int (nI k)), (0, .ref (ad g (fo i))), (1, .int (nI e))]) 2 dX3_countHolding_36 rfl (by decide) rfl ?_
      refine r_iinc C (v := (nI (k + 1))) (lv' := [(3, .int (nI (k + 1))), (2, .int (nI (sm (fun w => bc (gJ μ i w &&& (lk w e ^^^ (-1)))) (k + 1)))), (0, .ref (ad g (fo i))), (1, .int (nI e))]) 3 1 dX3_countHolding_37 rfl (inc_N _ 1) (by decide) rfl ?_
      refine r_goto C 4 dX3_countHolding_40 (by decide) ?_
      exact ih (k + 1) (by omega) (by omega)
set_option maxHeartbeats 1000000 in
set_option maxRecDepth 100000 in
theorem c_countHolding (l : Launch) (g : Gd) (μ : Mm) {i nw : Nat} (hw : gI μ 1 = nI nw) (hnw : nw ≤ 16) (hi : i < 52) {e : Nat} (he : e < 10) : Ct l yX3_countHolding cX3_countHolding 4 (some .int) (rmk 1 21) g [.ref (ad g (fo i)), .int (nI e)] μ (some (.int (nI (sm (fun w => bc (gJ μ i w &&& (lk w e ^^^ (-1)))) nw)))) μ := by
  refine Ct.of (by decide) (Nat.le_of_ble_eq_true rfl) (fun z A C X Rr => ?_)
  refine r_iconst C (v := (nI 0)) dX3_countHolding_0 rfl ?_
  refine r_istore_n C (lv' := [(2, .int (nI 0)), (0, .ref (ad g (fo i))), (1, .int (nI e))]) 2 dX3_countHolding_1 rfl (by decide) rfl ?_
  refine r_iconst C (v := (nI 0)) dX3_countHolding_2 rfl ?_
  refine r_istore_n C (lv' := [(3, .int (nI 0)), (2, .int (nI 0)), (0, .ref (ad g (fo i))), (1, .int (nI e))]) 3 dX3_countHolding_3 rfl (by decide) rfl ?_
  exact lp_countHolding C X hw hnw hi he Rr (nw + 1) 0 (by omega) (by omega)
set_option maxHeartbeats 1000000 in
set_option maxRecDepth 100000 in
theorem lp_join {z : Zt} {A : Nat → Prop} {l : Launch} {g : Gd} {μ : Mm} (C : Cx z A l (rmk 0 0) cX3_join 3 "SetFamilies$Family") (X : Kx z g A) {i nw : Nat} (hw : gI μ 1 = nI nw) (hnw : nw ≤ 16) (hi : i < 52) {j : Nat} (hj : j < 52) (Rr : Rx z g A none none (sJ μ i (rowU nw (fun w => gJ μ i w ||| gJ μ j w) (gJ μ i)))) : ∀ (n_ : Nat) (k : Nat), nw - k < n_ → k ≤ nw → G z g.1 A 3 (wd g (sJ μ i (rowU k (fun w => gJ μ i w ||| gJ μ j w) (gJ μ i)))) 0 0 2 [(2, .int (nI k)), (0, .ref (ad g (fo i))), (1, .ref (ad g (fo j)))] [] := by
  intro n_
  induction n_ with
  | zero => intro k hm_; exact absurd hm_ (Nat.not_lt_zero _)
  | succ n_ ih =>
    intro k hm_ hk
    refine r_iload_n C dX3_join_2 0 rfl ?_
    refine r_aload_n C dX3_join_3 1 rfl ?_
    refine r_get C X (k := (fo i)) (R := RX3) (T := TX3) (N := 2) (n := 0) (v := .ref (ad g 1)) (fo_lt (by omega)) (WF_fo g _ i) rfl inw3 (by decide) rfl hw_1_62 rfl dX3_join_4 ?_
    refine r_get C X (k := 1) (R := RX4) (T := TX4) (N := 2) (n := 1) (v := .int (gI (sJ μ i (rowU k (fun w => gJ μ i w ||| gJ μ j w) (gJ μ i))) 1)) (by decide) rfl rfl inw4 (by decide) rfl hw_1_49 rfl dX3_join_7 ?_
    refine G_top (y := (nI nw)) ((gI_J _ _ _ _).trans hw) ?_
    refine r_icmp_ge C 34 dX3_join_10 (by decide) (nI_leI (by omega) (by omega)) (fun h10 => ?_) (fun h10 => ?_)
    · have hkn : k = nw := by omega
      subst hkn
      exact r_vret C dX3_join_34 Rr
    · refine r_aload_n C dX3_join_13 1 rfl ?_
      refine r_get C X (k := (fo i)) (R := RX3) (T := TX3) (N := 2) (n := 1) (v := .ref (ad g (fw i))) (fo_lt (by omega)) (WF_fo g _ i) rfl inw3 (by decide) rfl hw_1_63 rfl dX3_join_14 ?_
      refine r_iload_n C dX3_join_17 0 rfl ?_
      refine r_dup2 C dX3_join_18 rfl rfl ?_
      refine r_lald C X (k := (fw i)) (v := (gJ μ i k)) (fw_lt (by omega)) (WF_fw g _ i) (by omega) (by decide) (ldU (by omega)) dX3_join_19 ?_
      refine r_aload_n C dX3_join_20 2 rfl ?_
      refine r_get C X (k := (fo j)) (R := RX3) (T := TX3) (N := 2) (n := 1) (v := .ref (ad g (fw j))) (fo_lt (by omega)) (WF_fo g _ j) rfl inw3 (by decide) rfl hw_1_63 rfl dX3_join_21 ?_
      refine r_iload_n C dX3_join_24 0 rfl ?_
      refine r_lald C X (k := (fw j)) (v := (gJ μ j k)) (fw_lt (by omega)) (WF_fw g _ j) (by omega) (by decide) (ldU (by omega)) dX3_join_25 ?_
      refine r_lor C (v := ((gJ μ i k) ||| (gJ μ j k))) dX3_join_26 rfl ?_
      refine r_lastF C X (f' := rowU (k + 1) (fun w => gJ μ i w ||| gJ μ j w) (gJ μ i)) (by omega) (by omega) (rowU_s _ _ _ rfl) dX3_join_27 ?_
      refine r_iinc C (v := (nI (k + 1))) (lv' := [(2, .int (nI (k + 1))), (0, .ref (ad g (fo i))), (1, .ref (ad g (fo j)))]) 2 0 dX3_join_28 rfl (inc_N _ 1) (by decide) rfl ?_
      refine r_goto C 2 dX3_join_31 (by decide) ?_
      exact ih (k + 1) (by omega) (by omega)
set_option maxHeartbeats 1000000 in
set_option maxRecDepth 100000 in
theorem c_join (l : Launch) (g : Gd) (μ : Mm) {i nw : Nat} (hw : gI μ 1 = nI nw) (hnw : nw ≤ 16) (hi : i < 52) {j : Nat} (hj : j < 52) : Ct l yX3_join cX3_join 3 none (rmk 0 0) g [.ref (ad g (fo i)), .ref (ad g (fo j))] μ none (sJ μ i (rowU nw (fun w => gJ μ i w ||| gJ μ j w) (gJ μ i))) := by
  refine Ct.of (by decide) (Nat.le_of_ble_eq_true rfl) (fun z A C X Rr => ?_)
  refine r_iconst C (v := (nI 0)) dX3_join_0 rfl ?_
  refine r_istore_n C (lv' := [(2, .int (nI 0)), (0, .ref (ad g (fo i))), (1, .ref (ad g (fo j)))]) 2 dX3_join_1 rfl (by decide) rfl ?_
  refine G_mem (show μ = sJ μ i (rowU 0 (fun w => gJ μ i w ||| gJ μ j w) (gJ μ i)) by rw [rowU_0, sJ_i]) ?_
  exact lp_join C X hw hnw hi hj Rr (nw + 1) 0 (by omega) (by omega)
set_option maxHeartbeats 1000000 in
set_option maxRecDepth 100000 in
theorem lp_meet {z : Zt} {A : Nat → Prop} {l : Launch} {g : Gd} {μ : Mm} (C : Cx z A l (rmk 0 0) cX3_meet 3 "SetFamilies$Family") (X : Kx z g A) {i nw : Nat} (hw : gI μ 1 = nI nw) (hnw : nw ≤ 16) (hi : i < 52) {j : Nat} (hj : j < 52) (Rr : Rx z g A none none (sJ μ i (rowU nw (fun w => gJ μ i w &&& gJ μ j w) (gJ μ i)))) : ∀ (n_ : Nat) (k : Nat), nw - k < n_ → k ≤ nw → G z g.1 A 3 (wd g (sJ μ i (rowU k (fun w => gJ μ i w &&& gJ μ j w) (gJ μ i)))) 0 0 2 [(2, .int (nI k)), (0, .ref (ad g (fo i))), (1, .ref (ad g (fo j)))] [] := by
  intro n_
  induction n_ with
  | zero => intro k hm_; exact absurd hm_ (Nat.not_lt_zero _)
  | succ n_ ih =>
    intro k hm_ hk
    refine r_iload_n C dX3_meet_2 0 rfl ?_
    refine r_aload_n C dX3_meet_3 1 rfl ?_
    refine r_get C X (k := (fo i)) (R := RX3) (T := TX3) (N := 2) (n := 0) (v := .ref (ad g 1)) (fo_lt (by omega)) (WF_fo g _ i) rfl inw3 (by decide) rfl hw_1_62 rfl dX3_meet_4 ?_
    refine r_get C X (k := 1) (R := RX4) (T := TX4) (N := 2) (n := 1) (v := .int (gI (sJ μ i (rowU k (fun w => gJ μ i w &&& gJ μ j w) (gJ μ i))) 1)) (by decide) rfl rfl inw4 (by decide) rfl hw_1_49 rfl dX3_meet_7 ?_
    refine G_top (y := (nI nw)) ((gI_J _ _ _ _).trans hw) ?_
    refine r_icmp_ge C 34 dX3_meet_10 (by decide) (nI_leI (by omega) (by omega)) (fun h10 => ?_) (fun h10 => ?_)
    · have hkn : k = nw := by omega
      subst hkn
      exact r_vret C dX3_meet_34 Rr
    · refine r_aload_n C dX3_meet_13 1 rfl ?_
      refine r_get C X (k := (fo i)) (R := RX3) (T := TX3) (N := 2) (n := 1) (v := .ref (ad g (fw i))) (fo_lt (by omega)) (WF_fo g _ i) rfl inw3 (by decide) rfl hw_1_63 rfl dX3_meet_14 ?_
      refine r_iload_n C dX3_meet_17 0 rfl ?_
      refine r_dup2 C dX3_meet_18 rfl rfl ?_
      refine r_lald C X (k := (fw i)) (v := (gJ μ i k)) (fw_lt (by omega)) (WF_fw g _ i) (by omega) (by decide) (ldU (by omega)) dX3_meet_19 ?_
      refine r_aload_n C dX3_meet_20 2 rfl ?_
      refine r_get C X (k := (fo j)) (R := RX3) (T := TX3) (N := 2) (n := 1) (v := .ref (ad g (fw j))) (fo_lt (by omega)) (WF_fo g _ j) rfl inw3 (by decide) rfl hw_1_63 rfl dX3_meet_21 ?_
      refine r_iload_n C dX3_meet_24 0 rfl ?_
      refine r_lald C X (k := (fw j)) (v := (gJ μ j k)) (fw_lt (by omega)) (WF_fw g _ j) (by omega) (by decide) (ldU (by omega)) dX3_meet_25 ?_
      refine r_land C (v := ((gJ μ i k) &&& (gJ μ j k))) dX3_meet_26 rfl ?_
      refine r_lastF C X (f' := rowU (k + 1) (fun w => gJ μ i w &&& gJ μ j w) (gJ μ i)) (by omega) (by omega) (rowU_s _ _ _ rfl) dX3_meet_27 ?_
      refine r_iinc C (v := (nI (k + 1))) (lv' := [(2, .int (nI (k + 1))), (0, .ref (ad g (fo i))), (1, .ref (ad g (fo j)))]) 2 0 dX3_meet_28 rfl (inc_N _ 1) (by decide) rfl ?_
      refine r_goto C 2 dX3_meet_31 (by decide) ?_
      exact ih (k + 1) (by omega) (by omega)
set_option maxHeartbeats 1000000 in
set_option maxRecDepth 100000 in
theorem c_meet (l : Launch) (g : Gd) (μ : Mm) {i nw : Nat} (hw : gI μ 1 = nI nw) (hnw : nw ≤ 16) (hi : i < 52) {j : Nat} (hj : j < 52) : Ct l yX3_meet cX3_meet 3 none (rmk 0 0) g [.ref (ad g (fo i)), .ref (ad g (fo j))] μ none (sJ μ i (rowU nw (fun w => gJ μ i w &&& gJ μ j w) (gJ μ i))) := by
  refine Ct.of (by decide) (Nat.le_of_ble_eq_true rfl) (fun z A C X Rr => ?_)
  refine r_iconst C (v := (nI 0)) dX3_meet_0 rfl ?_
  refine r_istore_n C (lv' := [(2, .int (nI 0)), (0, .ref (ad g (fo i))), (1, .ref (ad g (fo j)))]) 2 dX3_meet_1 rfl (by decide) rfl ?_
  refine G_mem (show μ = sJ μ i (rowU 0 (fun w => gJ μ i w &&& gJ μ j w) (gJ μ i)) by rw [rowU_0, sJ_i]) ?_
  exact lp_meet C X hw hnw hi hj Rr (nw + 1) 0 (by omega) (by omega)
set_option maxHeartbeats 1000000 in
set_option maxRecDepth 100000 in
theorem lp_subtract {z : Zt} {A : Nat → Prop} {l : Launch} {g : Gd} {μ : Mm} (C : Cx z A l (rmk 0 0) cX3_subtract 3 "SetFamilies$Family") (X : Kx z g A) {i nw : Nat} (hw : gI μ 1 = nI nw) (hnw : nw ≤ 16) (hi : i < 52) {j : Nat} (hj : j < 52) (Rr : Rx z g A none none (sJ μ i (rowU nw (fun w => gJ μ i w &&& (gJ μ j w ^^^ (-1))) (gJ μ i)))) : ∀ (n_ : Nat) (k : Nat), nw - k < n_ → k ≤ nw → G z g.1 A 3 (wd g (sJ μ i (rowU k (fun w => gJ μ i w &&& (gJ μ j w ^^^ (-1))) (gJ μ i)))) 0 0 2 [(2, .int (nI k)), (0, .ref (ad g (fo i))), (1, .ref (ad g (fo j)))] [] := by
  intro n_
  induction n_ with
  | zero => intro k hm_; exact absurd hm_ (Nat.not_lt_zero _)
  | succ n_ ih =>
    intro k hm_ hk
    refine r_iload_n C dX3_subtract_2 0 rfl ?_
    refine r_aload_n C dX3_subtract_3 1 rfl ?_
    refine r_get C X (k := (fo i)) (R := RX3) (T := TX3) (N := 2) (n := 0) (v := .ref (ad g 1)) (fo_lt (by omega)) (WF_fo g _ i) rfl inw3 (by decide) rfl hw_1_62 rfl dX3_subtract_4 ?_
    refine r_get C X (k := 1) (R := RX4) (T := TX4) (N := 2) (n := 1) (v := .int (gI (sJ μ i (rowU k (fun w => gJ μ i w &&& (gJ μ j w ^^^ (-1))) (gJ μ i))) 1)) (by decide) rfl rfl inw4 (by decide) rfl hw_1_49 rfl dX3_subtract_7 ?_
    refine G_top (y := (nI nw)) ((gI_J _ _ _ _).trans hw) ?_
    refine r_icmp_ge C 38 dX3_subtract_10 (by decide) (nI_leI (by omega) (by omega)) (fun h10 => ?_) (fun h10 => ?_)
    · have hkn : k = nw := by omega
      subst hkn
      exact r_vret C dX3_subtract_38 Rr
    · refine r_aload_n C dX3_subtract_13 1 rfl ?_
      refine r_get C X (k := (fo i)) (R := RX3) (T := TX3) (N := 2) (n := 1) (v := .ref (ad g (fw i))) (fo_lt (by omega)) (WF_fo g _ i) rfl inw3 (by decide) rfl hw_1_63 rfl dX3_subtract_14 ?_
      refine r_iload_n C dX3_subtract_17 0 rfl ?_
      refine r_dup2 C dX3_subtract_18 rfl rfl ?_
      refine r_lald C X (k := (fw i)) (v := (gJ μ i k)) (fw_lt (by omega)) (WF_fw g _ i) (by omega) (by decide) (ldU (by omega)) dX3_subtract_19 ?_
      refine r_aload_n C dX3_subtract_20 2 rfl ?_
      refine r_get C X (k := (fo j)) (R := RX3) (T := TX3) (N := 2) (n := 1) (v := .ref (ad g (fw j))) (fo_lt (by omega)) (WF_fo g _ j) rfl inw3 (by decide) rfl hw_1_63 rfl dX3_subtract_21 ?_
      refine r_iload_n C dX3_subtract_24 0 rfl ?_
      refine r_lald C X (k := (fw j)) (v := (gJ μ j k)) (fw_lt (by omega)) (WF_fw g _ j) (by omega) (by decide) (ldU (by omega)) dX3_subtract_25 ?_
      refine r_ldc2 C dX3_subtract_26 hw_2_44 ?_
      refine r_lxor C (v := ((gJ μ j k) ^^^ (-1))) dX3_subtract_29 rfl ?_
      refine r_land C (v := ((gJ μ i k) &&& ((gJ μ j k) ^^^ (-1)))) dX3_subtract_30 rfl ?_
      refine r_lastF C X (f' := rowU (k + 1) (fun w => gJ μ i w &&& (gJ μ j w ^^^ (-1))) (gJ μ i)) (by omega) (by omega) (rowU_s _ _ _ rfl) dX3_subtract_31 ?_
      refine r_iinc C (v := (nI (k + 1))) (lv' := [(2, .int (nI (k + 1))), (0, .ref (ad g (fo i))), (1, .ref (ad g (fo j)))]) 2 0 dX3_subtract_32 rfl (inc_N _ 1) (by decide) rfl ?_
      refine r_goto C 2 dX3_subtract_35 (by decide) ?_
      exact ih (k + 1) (by omega) (by omega)
set_option maxHeartbeats 1000000 in
set_option maxRecDepth 100000 in
theorem c_subtract (l : Launch) (g : Gd) (μ : Mm) {i nw : Nat} (hw : gI μ 1 = nI nw) (hnw : nw ≤ 16) (hi : i < 52) {j : Nat} (hj : j < 52) : Ct l yX3_subtract cX3_subtract 3 none (rmk 0 0) g [.ref (ad g (fo i)), .ref (ad g (fo j))] μ none (sJ μ i (rowU nw (fun w => gJ μ i w &&& (gJ μ j w ^^^ (-1))) (gJ μ i))) := by
  refine Ct.of (by decide) (Nat.le_of_ble_eq_true rfl) (fun z A C X Rr => ?_)
  refine r_iconst C (v := (nI 0)) dX3_subtract_0 rfl ?_
  refine r_istore_n C (lv' := [(2, .int (nI 0)), (0, .ref (ad g (fo i))), (1, .ref (ad g (fo j)))]) 2 dX3_subtract_1 rfl (by decide) rfl ?_
  refine G_mem (show μ = sJ μ i (rowU 0 (fun w => gJ μ i w &&& (gJ μ j w ^^^ (-1))) (gJ μ i)) by rw [rowU_0, sJ_i]) ?_
  exact lp_subtract C X hw hnw hi hj Rr (nw + 1) 0 (by omega) (by omega)
set_option maxHeartbeats 1000000 in
set_option maxRecDepth 100000 in
theorem lp_differ {z : Zt} {A : Nat → Prop} {l : Launch} {g : Gd} {μ : Mm} (C : Cx z A l (rmk 0 0) cX3_differ 3 "SetFamilies$Family") (X : Kx z g A) {i nw : Nat} (hw : gI μ 1 = nI nw) (hnw : nw ≤ 16) (hi : i < 52) {j : Nat} (hj : j < 52) (Rr : Rx z g A none none (sJ μ i (rowU nw (fun w => gJ μ i w ^^^ gJ μ j w) (gJ μ i)))) : ∀ (n_ : Nat) (k : Nat), nw - k < n_ → k ≤ nw → G z g.1 A 3 (wd g (sJ μ i (rowU k (fun w => gJ μ i w ^^^ gJ μ j w) (gJ μ i)))) 0 0 2 [(2, .int (nI k)), (0, .ref (ad g (fo i))), (1, .ref (ad g (fo j)))] [] := by
  intro n_
  induction n_ with
  | zero => intro k hm_; exact absurd hm_ (Nat.not_lt_zero _)
  | succ n_ ih =>
    intro k hm_ hk
    refine r_iload_n C dX3_differ_2 0 rfl ?_
    refine r_aload_n C dX3_differ_3 1 rfl ?_
    refine r_get C X (k := (fo i)) (R := RX3) (T := TX3) (N := 2) (n := 0) (v := .ref (ad g 1)) (fo_lt (by omega)) (WF_fo g _ i) rfl inw3 (by decide) rfl hw_1_62 rfl dX3_differ_4 ?_
    refine r_get C X (k := 1) (R := RX4) (T := TX4) (N := 2) (n := 1) (v := .int (gI (sJ μ i (rowU k (fun w => gJ μ i w ^^^ gJ μ j w) (gJ μ i))) 1)) (by decide) rfl rfl inw4 (by decide) rfl hw_1_49 rfl dX3_differ_7 ?_
    refine G_top (y := (nI nw)) ((gI_J _ _ _ _).trans hw) ?_
    refine r_icmp_ge C 34 dX3_differ_10 (by decide) (nI_leI (by omega) (by omega)) (fun h10 => ?_) (fun h10 => ?_)
    · have hkn : k = nw := by omega
      subst hkn
      exact r_vret C dX3_differ_34 Rr
    · refine r_aload_n C dX3_differ_13 1 rfl ?_
      refine r_get C X (k := (fo i)) (R := RX3) (T := TX3) (N := 2) (n := 1) (v := .ref (ad g (fw i))) (fo_lt (by omega)) (WF_fo g _ i) rfl inw3 (by decide) rfl hw_1_63 rfl dX3_differ_14 ?_
      refine r_iload_n C dX3_differ_17 0 rfl ?_
      refine r_dup2 C dX3_differ_18 rfl rfl ?_
      refine r_lald C X (k := (fw i)) (v := (gJ μ i k)) (fw_lt (by omega)) (WF_fw g _ i) (by omega) (by decide) (ldU (by omega)) dX3_differ_19 ?_
      refine r_aload_n C dX3_differ_20 2 rfl ?_
      refine r_get C X (k := (fo j)) (R := RX3) (T := TX3) (N := 2) (n := 1) (v := .ref (ad g (fw j))) (fo_lt (by omega)) (WF_fo g _ j) rfl inw3 (by decide) rfl hw_1_63 rfl dX3_differ_21 ?_
      refine r_iload_n C dX3_differ_24 0 rfl ?_
      refine r_lald C X (k := (fw j)) (v := (gJ μ j k)) (fw_lt (by omega)) (WF_fw g _ j) (by omega) (by decide) (ldU (by omega)) dX3_differ_25 ?_
      refine r_lxor C (v := ((gJ μ i k) ^^^ (gJ μ j k))) dX3_differ_26 rfl ?_
      refine r_lastF C X (f' := rowU (k + 1) (fun w => gJ μ i w ^^^ gJ μ j w) (gJ μ i)) (by omega) (by omega) (rowU_s _ _ _ rfl) dX3_differ_27 ?_
      refine r_iinc C (v := (nI (k + 1))) (lv' := [(2, .int (nI (k + 1))), (0, .ref (ad g (fo i))), (1, .ref (ad g (fo j)))]) 2 0 dX3_differ_28 rfl (inc_N _ 1) (by decide) rfl ?_
      refine r_goto C 2 dX3_differ_31 (by decide) ?_
      exact ih (k + 1) (by omega) (by omega)
set_option maxHeartbeats 1000000 in
set_option maxRecDepth 100000 in
theorem c_differ (l : Launch) (g : Gd) (μ : Mm) {i nw : Nat} (hw : gI μ 1 = nI nw) (hnw : nw ≤ 16) (hi : i < 52) {j : Nat} (hj : j < 52) : Ct l yX3_differ cX3_differ 3 none (rmk 0 0) g [.ref (ad g (fo i)), .ref (ad g (fo j))] μ none (sJ μ i (rowU nw (fun w => gJ μ i w ^^^ gJ μ j w) (gJ μ i))) := by
  refine Ct.of (by decide) (Nat.le_of_ble_eq_true rfl) (fun z A C X Rr => ?_)
  refine r_iconst C (v := (nI 0)) dX3_differ_0 rfl ?_
  refine r_istore_n C (lv' := [(2, .int (nI 0)), (0, .ref (ad g (fo i))), (1, .ref (ad g (fo j)))]) 2 dX3_differ_1 rfl (by decide) rfl ?_
  refine G_mem (show μ = sJ μ i (rowU 0 (fun w => gJ μ i w ^^^ gJ μ j w) (gJ μ i)) by rw [rowU_0, sJ_i]) ?_
  exact lp_differ C X hw hnw hi hj Rr (nw + 1) 0 (by omega) (by omega)
set_option maxHeartbeats 1000000 in
set_option maxRecDepth 100000 in
theorem lp_keepOfSize {z : Zt} {A : Nat → Prop} {l : Launch} {g : Gd} {μ : Mm} (C : Cx z A l (rmk 2 42) cX3_keepOfSize 3 "SetFamilies$Family") (X : Kx z g A) {i nw : Nat} (hw : gI μ 1 = nI nw) (hnw : nw ≤ 16) (hi : i < 52) {m : Nat} (hm : m < 2 ^ 30) (Rr : Rx z g A none none (sJ μ i (rowU nw (fun w => gJ μ i w &&& oz w m) (gJ μ i)))) : ∀ (n_ : Nat) (k : Nat), nw - k < n_ → k ≤ nw → G z g.1 A 3 (wd g (sJ μ i (rowU k (fun w => gJ μ i w &&& oz w m) (gJ μ i)))) 0 0 2 [(2, .int (nI k)), (0, .ref (ad g (fo i))), (1, .int (nI m))] [] := by
  intro n_
  induction n_ with
  | zero => intro k hm_; exact absurd hm_ (Nat.not_lt_zero _)
  | succ n_ ih =>
    intro k hm_ hk
    refine r_iload_n C dX3_keepOfSize_2 0 rfl ?_
    refine r_aload_n C dX3_keepOfSize_3 1 rfl ?_
    refine r_get C X (k := (fo i)) (R := RX3) (T := TX3) (N := 2) (n := 0) (v := .ref (ad g 1)) (fo_lt (by omega)) (WF_fo g _ i) rfl inw3 (by decide) rfl hw_1_62 rfl dX3_keepOfSize_4 ?_
    refine r_get C X (k := 1) (R := RX4) (T := TX4) (N := 2) (n := 1) (v := .int (gI (sJ μ i (rowU k (fun w => gJ μ i w &&& oz w m) (gJ μ i))) 1)) (by decide) rfl rfl inw4 (by decide) rfl hw_1_49 rfl dX3_keepOfSize_7 ?_
    refine G_top (y := (nI nw)) ((gI_J _ _ _ _).trans hw) ?_
    refine r_icmp_ge C 33 dX3_keepOfSize_10 (by decide) (nI_leI (by omega) (by omega)) (fun h10 => ?_) (fun h10 => ?_)
    · have hkn : k = nw := by omega
      subst hkn
      exact r_vret C dX3_keepOfSize_33 Rr
    · refine r_aload_n C dX3_keepOfSize_13 1 rfl ?_
      refine r_get C X (k := (fo i)) (R := RX3) (T := TX3) (N := 2) (n := 1) (v := .ref (ad g (fw i))) (fo_lt (by omega)) (WF_fo g _ i) rfl inw3 (by decide) rfl hw_1_63 rfl dX3_keepOfSize_14 ?_
      refine r_iload_n C dX3_keepOfSize_17 0 rfl ?_
      refine r_dup2 C dX3_keepOfSize_18 rfl rfl ?_
      refine r_lald C X (k := (fw i)) (v := (gJ μ i k)) (fw_lt (by omega)) (WF_fw g _ i) (by omega) (by decide) (ldU (by omega)) dX3_keepOfSize_19 ?_
      refine r_iload_n C dX3_keepOfSize_20 0 rfl ?_
      refine r_iload_n C dX3_keepOfSize_21 2 rfl ?_
      refine r_callS C X (As := [.int (nI k), .int (nI m)]) (rest := [.long (gJ μ i k), .int (nI k), .ref (ad g (fw i))]) (st1 := [.long (oz k m), .long (gJ μ i k), .int (nI k), .ref (ad g (fw i))]) (μ' := (sJ μ i (rowU k (fun w => gJ μ i w &&& oz w m) (gJ μ i)))) miX3_ofSize msX3_ofSize (c_ofSize l g (sJ μ i (rowU k (fun w => gJ μ i w &&& oz w m) (gJ μ i))) (w := k) (k := m) (by omega) (by omega)) hw_2_196 rfl ⟨by decide, by decide, rfl, rfl, by decide, by decide⟩ rfl (Nat.le_of_ble_eq_true rfl) dX3_keepOfSize_22 rfl ?_
      refine r_land C (v := ((gJ μ i k) &&& (oz k m))) dX3_keepOfSize_25 rfl ?_
      refine r_lastF C X (f' := rowU (k + 1) (fun w => gJ μ i w &&& oz w m) (gJ μ i)) (by omega) (by omega) (rowU_s _ _ _ rfl) dX3_keepOfSize_26 ?_
      refine r_iinc C (v := (nI (k + 1))) (lv' := [(2, .int (nI (k + 1))), (0, .ref (ad g (fo i))), (1, .int (nI m))]) 2 0 dX3_keepOfSize_27 rfl (inc_N _ 1) (by decide) rfl ?_
      refine r_goto C 2 dX3_keepOfSize_30 (by decide) ?_
      exact ih (k + 1) (by omega) (by omega)
set_option maxHeartbeats 1000000 in
set_option maxRecDepth 100000 in
theorem c_keepOfSize (l : Launch) (g : Gd) (μ : Mm) {i nw : Nat} (hw : gI μ 1 = nI nw) (hnw : nw ≤ 16) (hi : i < 52) {m : Nat} (hm : m < 2 ^ 30) : Ct l yX3_keepOfSize cX3_keepOfSize 3 none (rmk 2 42) g [.ref (ad g (fo i)), .int (nI m)] μ none (sJ μ i (rowU nw (fun w => gJ μ i w &&& oz w m) (gJ μ i))) := by
  refine Ct.of (by decide) (Nat.le_of_ble_eq_true rfl) (fun z A C X Rr => ?_)
  refine r_iconst C (v := (nI 0)) dX3_keepOfSize_0 rfl ?_
  refine r_istore_n C (lv' := [(2, .int (nI 0)), (0, .ref (ad g (fo i))), (1, .int (nI m))]) 2 dX3_keepOfSize_1 rfl (by decide) rfl ?_
  refine G_mem (show μ = sJ μ i (rowU 0 (fun w => gJ μ i w &&& oz w m) (gJ μ i)) by rw [rowU_0, sJ_i]) ?_
  exact lp_keepOfSize C X hw hnw hi hm Rr (nw + 1) 0 (by omega) (by omega)
set_option maxHeartbeats 1000000 in
set_option maxRecDepth 100000 in
theorem lp_keepLacking {z : Zt} {A : Nat → Prop} {l : Launch} {g : Gd} {μ : Mm} (C : Cx z A l (rmk 1 21) cX3_keepLacking 3 "SetFamilies$Family") (X : Kx z g A) {i nw : Nat} (hw : gI μ 1 = nI nw) (hnw : nw ≤ 16) (hi : i < 52) {e : Nat} (he : e < 10) (Rr : Rx z g A none none (sJ μ i (rowU nw (fun w => gJ μ i w &&& lk w e) (gJ μ i)))) : ∀ (n_ : Nat) (k : Nat), nw - k < n_ → k ≤ nw → G z g.1 A 3 (wd g (sJ μ i (rowU k (fun w => gJ μ i w &&& lk w e) (gJ μ i)))) 0 0 2 [(2, .int (nI k)), (0, .ref (ad g (fo i))), (1, .int (nI e))] [] := by
  intro n_
  induction n_ with
  | zero => intro k hm_; exact absurd hm_ (Nat.not_lt_zero _)
  | succ n_ ih =>
    intro k hm_ hk
    refine r_iload_n C dX3_keepLacking_2 0 rfl ?_
    refine r_aload_n C dX3_keepLacking_3 1 rfl ?_
    refine r_get C X (k := (fo i)) (R := RX3) (T := TX3) (N := 2) (n := 0) (v := .ref (ad g 1)) (fo_lt (by omega)) (WF_fo g _ i) rfl inw3 (by decide) rfl hw_1_62 rfl dX3_keepLacking_4 ?_
    refine r_get C X (k := 1) (R := RX4) (T := TX4) (N := 2) (n := 1) (v := .int (gI (sJ μ i (rowU k (fun w => gJ μ i w &&& lk w e) (gJ μ i))) 1)) (by decide) rfl rfl inw4 (by decide) rfl hw_1_49 rfl dX3_keepLacking_7 ?_
    refine G_top (y := (nI nw)) ((gI_J _ _ _ _).trans hw) ?_
    refine r_icmp_ge C 33 dX3_keepLacking_10 (by decide) (nI_leI (by omega) (by omega)) (fun h10 => ?_) (fun h10 => ?_)
    · have hkn : k = nw := by omega
      subst hkn
      exact r_vret C dX3_keepLacking_33 Rr
    · refine r_aload_n C dX3_keepLacking_13 1 rfl ?_
      refine r_get C X (k := (fo i)) (R := RX3) (T := TX3) (N := 2) (n := 1) (v := .ref (ad g (fw i))) (fo_lt (by omega)) (WF_fo g _ i) rfl inw3 (by decide) rfl hw_1_63 rfl dX3_keepLacking_14 ?_
      refine r_iload_n C dX3_keepLacking_17 0 rfl ?_
      refine r_dup2 C dX3_keepLacking_18 rfl rfl ?_
      refine r_lald C X (k := (fw i)) (v := (gJ μ i k)) (fw_lt (by omega)) (WF_fw g _ i) (by omega) (by decide) (ldU (by omega)) dX3_keepLacking_19 ?_
      refine r_iload_n C dX3_keepLacking_20 0 rfl ?_
      refine r_iload_n C dX3_keepLacking_21 2 rfl ?_
      refine r_callS C X (As := [.int (nI k), .int (nI e)]) (rest := [.long (gJ μ i k), .int (nI k), .ref (ad g (fw i))]) (st1 := [.long (lk k e), .long (gJ μ i k), .int (nI k), .ref (ad g (fw i))]) (μ' := (sJ μ i (rowU k (fun w => gJ μ i w &&& lk w e) (gJ μ i)))) miX3_lacking msX3_lacking (c_lacking l g (sJ μ i (rowU k (fun w => gJ μ i w &&& lk w e) (gJ μ i))) (w := k) (e := e) (by omega) (by omega)) hw_2_39 rfl ⟨by decide, by decide, rfl, rfl, by decide, by decide⟩ rfl (Nat.le_of_ble_eq_true rfl) dX3_keepLacking_22 rfl ?_
      refine r_land C (v := ((gJ μ i k) &&& (lk k e))) dX3_keepLacking_25 rfl ?_
      refine r_lastF C X (f' := rowU (k + 1) (fun w => gJ μ i w &&& lk w e) (gJ μ i)) (by omega) (by omega) (rowU_s _ _ _ rfl) dX3_keepLacking_26 ?_
      refine r_iinc C (v := (nI (k + 1))) (lv' := [(2, .int (nI (k + 1))), (0, .ref (ad g (fo i))), (1, .int (nI e))]) 2 0 dX3_keepLacking_27 rfl (inc_N _ 1) (by decide) rfl ?_
      refine r_goto C 2 dX3_keepLacking_30 (by decide) ?_
      exact ih (k + 1) (by omega) (by omega)
set_option maxHeartbeats 1000000 in
set_option maxRecDepth 100000 in
theorem c_keepLacking (l : Launch) (g : Gd) (μ : Mm) {i nw : Nat} (hw : gI μ 1 = nI nw) (hnw : nw ≤ 16) (hi : i < 52) {e : Nat} (he : e < 10) : Ct l yX3_keepLacking cX3_keepLacking 3 none (rmk 1 21) g [.ref (ad g (fo i)), .int (nI e)] μ none (sJ μ i (rowU nw (fun w => gJ μ i w &&& lk w e) (gJ μ i))) := by
  refine Ct.of (by decide) (Nat.le_of_ble_eq_true rfl) (fun z A C X Rr => ?_)
  refine r_iconst C (v := (nI 0)) dX3_keepLacking_0 rfl ?_
  refine r_istore_n C (lv' := [(2, .int (nI 0)), (0, .ref (ad g (fo i))), (1, .int (nI e))]) 2 dX3_keepLacking_1 rfl (by decide) rfl ?_
  refine G_mem (show μ = sJ μ i (rowU 0 (fun w => gJ μ i w &&& lk w e) (gJ μ i)) by rw [rowU_0, sJ_i]) ?_
  exact lp_keepLacking C X hw hnw hi he Rr (nw + 1) 0 (by omega) (by omega)
set_option maxHeartbeats 1000000 in
set_option maxRecDepth 100000 in
theorem lp_keepHolding {z : Zt} {A : Nat → Prop} {l : Launch} {g : Gd} {μ : Mm} (C : Cx z A l (rmk 1 21) cX3_keepHolding 3 "SetFamilies$Family") (X : Kx z g A) {i nw : Nat} (hw : gI μ 1 = nI nw) (hnw : nw ≤ 16) (hi : i < 52) {e : Nat} (he : e < 10) (Rr : Rx z g A none none (sJ μ i (rowU nw (fun w => gJ μ i w &&& (lk w e ^^^ (-1))) (gJ μ i)))) : ∀ (n_ : Nat) (k : Nat), nw - k < n_ → k ≤ nw → G z g.1 A 3 (wd g (sJ μ i (rowU k (fun w => gJ μ i w &&& (lk w e ^^^ (-1))) (gJ μ i)))) 0 0 2 [(2, .int (nI k)), (0, .ref (ad g (fo i))), (1, .int (nI e))] [] := by
  intro n_
  induction n_ with
  | zero => intro k hm_; exact absurd hm_ (Nat.not_lt_zero _)
  | succ n_ ih =>
    intro k hm_ hk
    refine r_iload_n C dX3_keepHolding_2 0 rfl ?_
    refine r_aload_n C dX3_keepHolding_3 1 rfl ?_
    refine r_get C X (k := (fo i)) (R := RX3) (T := TX3) (N := 2) (n := 0) (v := .ref (ad g 1)) (fo_lt (by omega)) (WF_fo g _ i) rfl inw3 (by decide) rfl hw_1_62 rfl dX3_keepHolding_4 ?_
    refine r_get C X (k := 1) (R := RX4) (T := TX4) (N := 2) (n := 1) (v := .int (gI (sJ μ i (rowU k (fun w => gJ μ i w &&& (lk w e ^^^ (-1))) (gJ μ i))) 1)) (by decide) rfl rfl inw4 (by decide) rfl hw_1_49 rfl dX3_keepHolding_7 ?_
    refine G_top (y := (nI nw)) ((gI_J _ _ _ _).trans hw) ?_
    refine r_icmp_ge C 37 dX3_keepHolding_10 (by decide) (nI_leI (by omega) (by omega)) (fun h10 => ?_) (fun h10 => ?_)
    · have hkn : k = nw := by omega
      subst hkn
      exact r_vret C dX3_keepHolding_37 Rr
    · refine r_aload_n C dX3_keepHolding_13 1 rfl ?_
      refine r_get C X (k := (fo i)) (R := RX3) (T := TX3) (N := 2) (n := 1) (v := .ref (ad g (fw i))) (fo_lt (by omega)) (WF_fo g _ i) rfl inw3 (by decide) rfl hw_1_63 rfl dX3_keepHolding_14 ?_
      refine r_iload_n C dX3_keepHolding_17 0 rfl ?_
      refine r_dup2 C dX3_keepHolding_18 rfl rfl ?_
      refine r_lald C X (k := (fw i)) (v := (gJ μ i k)) (fw_lt (by omega)) (WF_fw g _ i) (by omega) (by decide) (ldU (by omega)) dX3_keepHolding_19 ?_
      refine r_iload_n C dX3_keepHolding_20 0 rfl ?_
      refine r_iload_n C dX3_keepHolding_21 2 rfl ?_
      refine r_callS C X (As := [.int (nI k), .int (nI e)]) (rest := [.long (gJ μ i k), .int (nI k), .ref (ad g (fw i))]) (st1 := [.long (lk k e), .long (gJ μ i k), .int (nI k), .ref (ad g (fw i))]) (μ' := (sJ μ i (rowU k (fun w => gJ μ i w &&& (lk w e ^^^ (-1))) (gJ μ i)))) miX3_lacking msX3_lacking (c_lacking l g (sJ μ i (rowU k (fun w => gJ μ i w &&& (lk w e ^^^ (-1))) (gJ μ i))) (w := k) (e := e) (by omega) (by omega)) hw_2_39 rfl ⟨by decide, by decide, rfl, rfl, by decide, by decide⟩ rfl (Nat.le_of_ble_eq_true rfl) dX3_keepHolding_22 rfl ?_
      refine r_ldc2 C dX3_keepHolding_25 hw_2_44 ?_
      refine r_lxor C (v := ((lk k e) ^^^ (-1))) dX3_keepHolding_28 rfl ?_
      refine r_land C (v := ((gJ μ i k) &&& ((lk k e) ^^^ (-1)))) dX3_keepHolding_29 rfl ?_
      refine r_lastF C X (f' := rowU (k + 1) (fun w => gJ μ i w &&& (lk w e ^^^ (-1))) (gJ μ i)) (by omega) (by omega) (rowU_s _ _ _ rfl) dX3_keepHolding_30 ?_
      refine r_iinc C (v := (nI (k + 1))) (lv' := [(2, .int (nI (k + 1))), (0, .ref (ad g (fo i))), (1, .int (nI e))]) 2 0 dX3_keepHolding_31 rfl (inc_N _ 1) (by decide) rfl ?_
      refine r_goto C 2 dX3_keepHolding_34 (by decide) ?_
      exact ih (k + 1) (by omega) (by omega)
set_option maxHeartbeats 1000000 in
set_option maxRecDepth 100000 in
theorem c_keepHolding (l : Launch) (g : Gd) (μ : Mm) {i nw : Nat} (hw : gI μ 1 = nI nw) (hnw : nw ≤ 16) (hi : i < 52) {e : Nat} (he : e < 10) : Ct l yX3_keepHolding cX3_keepHolding 3 none (rmk 1 21) g [.ref (ad g (fo i)), .int (nI e)] μ none (sJ μ i (rowU nw (fun w => gJ μ i w &&& (lk w e ^^^ (-1))) (gJ μ i))) := by
  refine Ct.of (by decide) (Nat.le_of_ble_eq_true rfl) (fun z A C X Rr => ?_)
  refine r_iconst C (v := (nI 0)) dX3_keepHolding_0 rfl ?_
  refine r_istore_n C (lv' := [(2, .int (nI 0)), (0, .ref (ad g (fo i))), (1, .int (nI e))]) 2 dX3_keepHolding_1 rfl (by decide) rfl ?_
  refine G_mem (show μ = sJ μ i (rowU 0 (fun w => gJ μ i w &&& (lk w e ^^^ (-1))) (gJ μ i)) by rw [rowU_0, sJ_i]) ?_
  exact lp_keepHolding C X hw hnw hi he Rr (nw + 1) 0 (by omega) (by omega)
def eqTo (x y : Nat → Int64) : Nat → Bool
  | 0 => true
  | n + 1 => eqTo x y n && decide (x n = y n)
theorem eqTo_mono {x y : Nat → Int64} {k : Nat} : ∀ {n : Nat}, k ≤ n → eqTo x y n = true → eqTo x y k = true
  | 0, h, e => by rw [Nat.le_zero.mp h]; exact e
  | n + 1, h, e => by
    rcases Nat.lt_or_eq_of_le h with h1 | h1
    · simp only [eqTo, Bool.and_eq_true] at e; exact eqTo_mono (Nat.lt_succ_iff.mp h1) e.1
    · rw [h1]; exact e
set_option maxHeartbeats 1000000 in
set_option maxRecDepth 100000 in
theorem lp_sameAs {z : Zt} {A : Nat → Prop} {l : Launch} {g : Gd} {μ : Mm} (C : Cx z A l (rmk 0 0) cX3_sameAs 3 "SetFamilies$Family") (X : Kx z g A) {i j nw : Nat} (hw : gI μ 1 = nI nw) (hnw : nw ≤ 16) (hi : i < 52) (hj : j < 52) (Rr : Rx z g A (some .boolean) (some (.int (bI (eqTo (gJ μ i) (gJ μ j) nw)))) μ) : ∀ (n_ : Nat) (k : Nat), nw - k < n_ → k ≤ nw → eqTo (gJ μ i) (gJ μ j) k = true → G z g.1 A 3 (wd g μ) 0 0 2 [(2, .int (nI k)), (0, .ref (ad g (fo i))), (1, .ref (ad g (fo j)))] [] := by
  intro n_
  induction n_ with
  | zero => intro k hm_; exact absurd hm_ (Nat.not_lt_zero _)
  | succ n_ ih =>
    intro k hm_ hk he
    refine r_iload_n C dX3_sameAs_2 0 rfl ?_
    refine r_aload_n C dX3_sameAs_3 1 rfl ?_
    refine r_get C X (k := (fo i)) (R := RX3) (T := TX3) (N := 2) (n := 0) (v := .ref (ad g 1)) (fo_lt (by omega)) (WF_fo g _ i) rfl inw3 (by decide) rfl hw_1_62 rfl dX3_sameAs_4 ?_
    refine r_get C X (k := 1) (R := RX4) (T := TX4) (N := 2) (n := 1) (v := .int (gI μ 1)) (by decide) rfl rfl inw4 (by decide) rfl hw_1_49 rfl dX3_sameAs_7 ?_
    refine G_top (y := (nI nw)) hw ?_
    refine r_icmp_ge C 37 dX3_sameAs_10 (by decide) (nI_leI (by omega) (by omega)) (fun h10 => ?_) (fun h10 => ?_)
    · have hkn : k = nw := by omega
      subst hkn
      refine r_iconst C (v := (nI 1)) dX3_sameAs_37 rfl ?_
      refine G_top (y := (bI (eqTo (gJ μ i) (gJ μ j) k))) (b1 he) ?_
      exact r_zret C dX3_sameAs_38 (nar_b _) Rr
    · refine r_aload_n C dX3_sameAs_13 1 rfl ?_
      refine r_get C X (k := (fo i)) (R := RX3) (T := TX3) (N := 2) (n := 1) (v := .ref (ad g (fw i))) (fo_lt (by omega)) (WF_fo g _ i) rfl inw3 (by decide) rfl hw_1_63 rfl dX3_sameAs_14 ?_
      refine r_iload_n C dX3_sameAs_17 0 rfl ?_
      refine r_lald C X (k := (fw i)) (v := (gJ μ i k)) (fw_lt (by omega)) (WF_fw g _ i) (by omega) (by decide) rfl dX3_sameAs_18 ?_
      refine r_aload_n C dX3_sameAs_19 2 rfl ?_
      refine r_get C X (k := (fo j)) (R := RX3) (T := TX3) (N := 2) (n := 1) (v := .ref (ad g (fw j))) (fo_lt (by omega)) (WF_fo g _ j) rfl inw3 (by decide) rfl hw_1_63 rfl dX3_sameAs_20 ?_
      refine r_iload_n C dX3_sameAs_23 0 rfl ?_
      refine r_lald C X (k := (fw j)) (v := (gJ μ j k)) (fw_lt (by omega)) (WF_fw g _ j) (by omega) (by decide) rfl dX3_sameAs_24 ?_
      refine r_lcmp C dX3_sameAs_25 ?_
      refine r_if_eq C 31 dX3_sameAs_26 (by decide) (lgc_eq _ _) (fun h26 => ?_) (fun h26 => ?_)
      · refine r_iinc C (v := (nI (k + 1))) (lv' := [(2, .int (nI (k + 1))), (0, .ref (ad g (fo i))), (1, .ref (ad g (fo j)))]) 2 0 dX3_sameAs_31 rfl (inc_N _ 1) (by decide) rfl ?_
        refine r_goto C 2 dX3_sameAs_34 (by decide) ?_
        exact ih (k + 1) (by omega) (by omega) (by simp only [eqTo, he, h26, decide_true, Bool.and_self])
      · refine r_iconst C (v := (nI 0)) dX3_sameAs_29 rfl ?_
        refine G_top (y := (bI (eqTo (gJ μ i) (gJ μ j) nw))) (b0 (Bool.eq_false_iff.mpr (fun q => by have := eqTo_mono (k := k + 1) (by omega) q; simp only [eqTo, h26, decide_false, Bool.and_false] at this; exact Bool.noConfusion this))) ?_
        exact r_zret C dX3_sameAs_30 (nar_b _) Rr
set_option maxHeartbeats 1000000 in
set_option maxRecDepth 100000 in
theorem c_sameAs (l : Launch) (g : Gd) (μ : Mm) {i j nw : Nat} (hw : gI μ 1 = nI nw) (hnw : nw ≤ 16) (hi : i < 52) (hj : j < 52) : Ct l yX3_sameAs cX3_sameAs 3 (some .boolean) (rmk 0 0) g [.ref (ad g (fo i)), .ref (ad g (fo j))] μ (some (.int (bI (eqTo (gJ μ i) (gJ μ j) nw)))) μ := by
  refine Ct.of (by decide) (Nat.le_of_ble_eq_true rfl) (fun z A C X Rr => ?_)
  refine r_iconst C (v := (nI 0)) dX3_sameAs_0 rfl ?_
  refine r_istore_n C (lv' := [(2, .int (nI 0)), (0, .ref (ad g (fo i))), (1, .ref (ad g (fo j)))]) 2 dX3_sameAs_1 rfl (by decide) rfl ?_
  exact lp_sameAs C X hw hnw hi hj Rr (nw + 1) 0 (by omega) (by omega) rfl
