set_option maxHeartbeats 1000000 in
set_option maxRecDepth 100000 in
theorem y_hasC (l : Launch) (g : Gd) (μ : Mm) {n nw f e : Nat} (hn : gI μ 0 = nI n) (hn10 : n ≤ 10) (hw : gI μ 1 = nI nw) (hnw : nw ≤ 16) (hf : f < 4) (he : e < 2 ^ n) : Ct l yX10_has cX10_has 3 (some .boolean) (rmk 2 43) g [.ref (ad g 0), .int (nI f), .int (nI e)] μ (some (.int (bI (bt (gJ μ (0 + f)) e)))) μ := by
  have h1024 := pw10 hn10
  have h2n := Nat.two_pow_pos n
  refine Ct.of (by decide) (Nat.le_of_ble_eq_true rfl) (fun z A C X Rr => ?_)
  refine r_iload_n C dX10_has_0 1 rfl ?_
  refine r_callP C (As := [.int (nI f)]) (rest := []) (st1 := []) miX10_checkFamily msX10_checkFamily (y_checkFamily l (f := f) (by omega)) hw_3_177 rfl ⟨by decide, by decide, rfl, rfl, by decide, by decide⟩ rfl (Nat.le_of_ble_eq_true rfl) dX10_has_1 rfl ?_
  refine r_aload_n C dX10_has_4 0 rfl ?_
  refine r_iload_n C dX10_has_5 2 rfl ?_
  refine r_callV C X (As := [.int (nI e)]) (rest := []) (st1 := []) (μ' := μ) (k := 0) (T := TX10) miX10_checkSet mvX10_checkSet (y_checkSet l g μ (n := n) (e := e) hn (by omega) (by omega)) hw_3_196 (by decide) rfl rfl rfl ⟨by decide, by decide, rfl, rfl, by decide, by decide⟩ rfl (Nat.le_of_ble_eq_true rfl) dX10_has_6 rfl ?_
  refine r_aload_n C dX10_has_9 0 rfl ?_
  refine r_get C X (k := 0) (R := RX10) (T := TX10) (N := 12) (n := 1) (v := .ref (ad g 2)) (by decide) rfl rfl inw10 (by decide) rfl hw_1_209 rfl dX10_has_10 ?_
  refine r_iload_n C dX10_has_13 1 rfl ?_
  refine r_aald C X (k := 2) (n := 4) (b := 0) (by decide) rfl (by omega) (by decide) dX10_has_14 ?_
  refine r_iload_n C dX10_has_15 2 rfl ?_
  refine r_callV C X (As := [.int (nI e)]) (rest := []) (st1 := [.int (bI (bt (gJ μ (0 + f)) e))]) (μ' := μ) (k := (fo (0 + f))) (T := TX3) miX3_contains mvX3_contains (c_contains l g μ (i := (0 + f)) (c := e) (by omega) (by omega)) hw_3_201 (fo_lt (by omega)) (WF_fo g _ (0 + f)) rfl rfl ⟨by decide, by decide, rfl, rfl, by decide, by decide⟩ rfl (Nat.le_of_ble_eq_true rfl) dX10_has_16 rfl ?_
  exact r_zret C dX10_has_19 (nar_b _) Rr
set_option maxHeartbeats 1000000 in
set_option maxRecDepth 100000 in
theorem y_rankC (l : Launch) (g : Gd) (μ : Mm) {n nw e : Nat} (hn : gI μ 0 = nI n) (hn10 : n ≤ 10) (hw : gI μ 1 = nI nw) (hnw : nw ≤ 16) (he : e < 1024) : Ct l yX10_rank cX10_rank 2 (some .int) (rmk 2 48) g [.ref (ad g 0), .int (nI e)] μ (some (.int (nI ((rkF e 10).1)))) μ := by
  have h1024 := pw10 hn10
  have h2n := Nat.two_pow_pos n
  refine Ct.of (by decide) (Nat.le_of_ble_eq_true rfl) (fun z A C X Rr => ?_)
  refine r_iload_n C dX10_rank_0 1 rfl ?_
  refine r_iconst C (v := (nI 0)) dX10_rank_1 rfl ?_
  refine r_sipush C (v := (nI 1023)) dX10_rank_2 (by decide) ?_
  refine r_callP C (As := [.int (nI e), .int (nI 0), .int (nI 1023)]) (rest := []) (st1 := []) miX10_checkRange msX10_checkRange (y_checkRange l (v := (nI e)) (a := (nI 0)) (b := (nI 1023)) ((nI_leI (by omega) (by omega)).mpr (by omega)) ((nI_leI (by omega) (by omega)).mpr (by omega))) hw_3_88 rfl ⟨by decide, by decide, rfl, rfl, by decide, by decide⟩ rfl (Nat.le_of_ble_eq_true rfl) dX10_rank_5 rfl ?_
  refine r_iload_n C dX10_rank_8 1 rfl ?_
  refine r_callS C X (As := [.int (nI e)]) (rest := []) (st1 := [.int (nI ((rkF e 10).1))]) (μ' := μ) miX0_rankOf msX0_rankOf (c_rankOf l g μ (c := e) (by omega)) hw_4_110 rfl ⟨by decide, by decide, rfl, rfl, by decide, by decide⟩ rfl (Nat.le_of_ble_eq_true rfl) dX10_rank_9 rfl ?_
  exact r_iret C dX10_rank_12 Rr
set_option maxHeartbeats 1000000 in
set_option maxRecDepth 100000 in
theorem y_unrankC (l : Launch) (g : Gd) (μ : Mm) {n nw k ix : Nat} (hn : gI μ 0 = nI n) (hn10 : n ≤ 10) (hw : gI μ 1 = nI nw) (hnw : nw ≤ 16) (hk : k ≤ 10) (hix : ix < 2 ^ 31) : Ct l yX10_unrank cX10_unrank 3 (some .int) (rmk 2 52) g [.ref (ad g 0), .int (nI k), .int (nI ix)] μ (some (.int (if ix < ch 10 k then nI (soF 10 k ix 0) else (-1)))) μ := by
  have h1024 := pw10 hn10
  have h2n := Nat.two_pow_pos n
  refine Ct.of (by decide) (Nat.le_of_ble_eq_true rfl) (fun z A C X Rr => ?_)
  refine r_iload_n C dX10_unrank_0 1 rfl ?_
  refine r_iconst C (v := (nI 0)) dX10_unrank_1 rfl ?_
  refine r_bipush C (v := (nI 10)) dX10_unrank_2 (by decide) ?_
  refine r_callP C (As := [.int (nI k), .int (nI 0), .int (nI 10)]) (rest := []) (st1 := []) miX10_checkRange msX10_checkRange (y_checkRange l (v := (nI k)) (a := (nI 0)) (b := (nI 10)) ((nI_leI (by omega) (by omega)).mpr (by omega)) ((nI_leI (by omega) (by omega)).mpr (by omega))) hw_3_88 rfl ⟨by decide, by decide, rfl, rfl, by decide, by decide⟩ rfl (Nat.le_of_ble_eq_true rfl) dX10_unrank_4 rfl ?_
  refine r_iload_n C dX10_unrank_7 2 rfl ?_
  refine r_callP C (As := [.int (nI ix)]) (rest := []) (st1 := []) miX10_checkNotNegative msX10_checkNotNegative (y_checkNotNegative l (v := ix) (by omega)) hw_3_235 rfl ⟨by decide, by decide, rfl, rfl, by decide, by decide⟩ rfl (Nat.le_of_ble_eq_true rfl) dX10_unrank_8 rfl ?_
  refine r_iload_n C dX10_unrank_11 1 rfl ?_
  refine r_iload_n C dX10_unrank_12 2 rfl ?_
  refine r_callP C (As := [.int (nI k), .int (nI ix)]) (rest := []) (st1 := [.int (if ix < ch 10 k then nI (soF 10 k ix 0) else (-1))]) miX0_setOf msX0_setOf (c_setOf l (k := k) (r := ix) (by omega) (by omega)) hw_4_121 rfl ⟨by decide, by decide, rfl, rfl, by decide, by decide⟩ rfl (Nat.le_of_ble_eq_true rfl) dX10_unrank_13 rfl ?_
  exact r_iret C dX10_unrank_16 Rr
set_option maxHeartbeats 1000000 in
set_option maxRecDepth 100000 in
theorem y_getC (l : Launch) (g : Gd) (μ : Mm) {n nw f ix : Nat} (hn : gI μ 0 = nI n) (hn10 : n ≤ 10) (hw : gI μ 1 = nI nw) (hnw : nw ≤ 16) (hf : f < 4) (hix : ix < 2 ^ 31) : Ct l yX10_get cX10_get 3 (some .int) (rmk 4 91) g [.ref (ad g 0), .int (nI f), .int (nI ix)] μ (some (.int (atR (gJ μ (0 + f)) nw 0 ix))) μ := by
  have h1024 := pw10 hn10
  have h2n := Nat.two_pow_pos n
  refine Ct.of (by decide) (Nat.le_of_ble_eq_true rfl) (fun z A C X Rr => ?_)
  refine r_iload_n C dX10_get_0 1 rfl ?_
  refine r_callP C (As := [.int (nI f)]) (rest := []) (st1 := []) miX10_checkFamily msX10_checkFamily (y_checkFamily l (f := f) (by omega)) hw_3_177 rfl ⟨by decide, by decide, rfl, rfl, by decide, by decide⟩ rfl (Nat.le_of_ble_eq_true rfl) dX10_get_1 rfl ?_
  refine r_iload_n C dX10_get_4 2 rfl ?_
  refine r_callP C (As := [.int (nI ix)]) (rest := []) (st1 := []) miX10_checkNotNegative msX10_checkNotNegative (y_checkNotNegative l (v := ix) (by omega)) hw_3_235 rfl ⟨by decide, by decide, rfl, rfl, by decide, by decide⟩ rfl (Nat.le_of_ble_eq_true rfl) dX10_get_5 rfl ?_
  refine r_aload_n C dX10_get_8 0 rfl ?_
  refine r_get C X (k := 0) (R := RX10) (T := TX10) (N := 12) (n := 1) (v := .ref (ad g 2)) (by decide) rfl rfl inw10 (by decide) rfl hw_1_209 rfl dX10_get_9 ?_
  refine r_iload_n C dX10_get_12 1 rfl ?_
  refine r_aald C X (k := 2) (n := 4) (b := 0) (by decide) rfl (by omega) (by decide) dX10_get_13 ?_
  refine r_iload_n C dX10_get_14 2 rfl ?_
  refine r_callV C X (As := [.int (nI ix)]) (rest := []) (st1 := [.int (atR (gJ μ (0 + f)) nw 0 ix)]) (μ' := μ) (k := (fo (0 + f))) (T := TX3) miX3_atIndex mvX3_atIndex (c_atIndex l g μ (i := (0 + f)) (nw := nw) (m := ix) hw (by omega) (by omega) (by omega)) hw_2_109 (fo_lt (by omega)) (WF_fo g _ (0 + f)) rfl rfl ⟨by decide, by decide, rfl, rfl, by decide, by decide⟩ rfl (Nat.le_of_ble_eq_true rfl) dX10_get_15 rfl ?_
  exact r_iret C dX10_get_18 Rr
set_option maxHeartbeats 1000000 in
set_option maxRecDepth 100000 in
theorem y_degreeC (l : Launch) (g : Gd) (μ : Mm) {n nw f x : Nat} (hn : gI μ 0 = nI n) (hn10 : n ≤ 10) (hw : gI μ 1 = nI nw) (hnw : nw ≤ 16) (hf : f < 4) (hx : x < n) : Ct l yX10_degree cX10_degree 3 (some .int) (rmk 2 44) g [.ref (ad g 0), .int (nI f), .int (nI x)] μ (some (.int (nI (sm (fun w => bc (gJ μ (0 + f) w &&& (lk w x ^^^ (-1)))) nw)))) μ := by
  have h1024 := pw10 hn10
  have h2n := Nat.two_pow_pos n
  refine Ct.of (by decide) (Nat.le_of_ble_eq_true rfl) (fun z A C X Rr => ?_)
  refine r_iload_n C dX10_degree_0 1 rfl ?_
  refine r_callP C (As := [.int (nI f)]) (rest := []) (st1 := []) miX10_checkFamily msX10_checkFamily (y_checkFamily l (f := f) (by omega)) hw_3_177 rfl ⟨by decide, by decide, rfl, rfl, by decide, by decide⟩ rfl (Nat.le_of_ble_eq_true rfl) dX10_degree_1 rfl ?_
  refine r_aload_n C dX10_degree_4 0 rfl ?_
  refine r_iload_n C dX10_degree_5 2 rfl ?_
  refine r_callV C X (As := [.int (nI x)]) (rest := []) (st1 := []) (μ' := μ) (k := 0) (T := TX10) miX10_checkElement mvX10_checkElement (y_checkElement l g μ (n := n) (x := x) hn (by omega) (by omega)) hw_4_6 (by decide) rfl rfl rfl ⟨by decide, by decide, rfl, rfl, by decide, by decide⟩ rfl (Nat.le_of_ble_eq_true rfl) dX10_degree_6 rfl ?_
  refine r_aload_n C dX10_degree_9 0 rfl ?_
  refine r_get C X (k := 0) (R := RX10) (T := TX10) (N := 12) (n := 1) (v := .ref (ad g 2)) (by decide) rfl rfl inw10 (by decide) rfl hw_1_209 rfl dX10_degree_10 ?_
  refine r_iload_n C dX10_degree_13 1 rfl ?_
  refine r_aald C X (k := 2) (n := 4) (b := 0) (by decide) rfl (by omega) (by decide) dX10_degree_14 ?_
  refine r_iload_n C dX10_degree_15 2 rfl ?_
  refine r_callV C X (As := [.int (nI x)]) (rest := []) (st1 := [.int (nI (sm (fun w => bc (gJ μ (0 + f) w &&& (lk w x ^^^ (-1)))) nw))]) (μ' := μ) (k := (fo (0 + f))) (T := TX3) miX3_countHolding mvX3_countHolding (c_countHolding l g μ (i := (0 + f)) (nw := nw) (e := x) hw (by omega) (by omega) (by omega)) hw_2_35 (fo_lt (by omega)) (WF_fo g _ (0 + f)) rfl rfl ⟨by decide, by decide, rfl, rfl, by decide, by decide⟩ rfl (Nat.le_of_ble_eq_true rfl) dX10_degree_16 rfl ?_
  exact r_iret C dX10_degree_19 Rr
