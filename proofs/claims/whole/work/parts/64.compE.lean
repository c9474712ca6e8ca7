set_option maxHeartbeats 1000000 in
set_option maxRecDepth 100000 in
theorem y_dimensionC (l : Launch) (g : Gd) (μ : Mm) {n nw f : Nat} (hO : Ok μ n nw) (hf : f < 4) : Ct l yX10_dimension cX10_dimension 2 (some .int) (rmk 5 116) g [.ref (ad g 0), .int (nI f)] μ (some (.int (sonA (flA μ n nw (0 + f))))) (flM μ n nw (0 + f)) := by
  obtain ⟨hn, hw, hn10, hnw, hs, h1n⟩ := hO
  have h1024 := pw10 hn10
  have h2n := Nat.two_pow_pos n
  refine Ct.of (by decide) (Nat.le_of_ble_eq_true rfl) (fun z A C X Rr => ?_)
  refine r_iload_n C dX10_dimension_0 1 rfl ?_
  refine r_callP C (As := [.int (nI f)]) (rest := []) (st1 := []) miX10_checkFamily msX10_checkFamily (y_checkFamily l (f := f) (by omega)) hw_3_177 rfl ⟨by decide, by decide, rfl, rfl, by decide, by decide⟩ rfl (Nat.le_of_ble_eq_true rfl) dX10_dimension_1 rfl ?_
  refine r_aload_n C dX10_dimension_4 0 rfl ?_
  refine r_get C X (k := 0) (R := RX10) (T := TX10) (N := 12) (n := 6) (v := .ref (ad g 10)) (by decide) rfl rfl inw10 (by decide) rfl hw_1_214 rfl dX10_dimension_5 ?_
  refine r_aload_n C dX10_dimension_8 0 rfl ?_
  refine r_get C X (k := 0) (R := RX10) (T := TX10) (N := 12) (n := 1) (v := .ref (ad g 2)) (by decide) rfl rfl inw10 (by decide) rfl hw_1_209 rfl dX10_dimension_9 ?_
  refine r_iload_n C dX10_dimension_12 1 rfl ?_
  refine r_aald C X (k := 2) (n := 4) (b := 0) (by decide) rfl (by omega) (by decide) dX10_dimension_13 ?_
  refine r_callV C X (As := [.ref (ad g (fo (0 + f)))]) (rest := []) (st1 := [.int (flA μ n nw (0 + f))]) (μ' := (flM μ n nw (0 + f))) (k := 10) (T := TX7) miX7_firstLargest mvX7_firstLargest (c_firstLargest l g μ (n := n) (nw := nw) (f := (0 + f)) ⟨hn, hw, hn10, hnw, hs, h1n⟩ (by omega)) hw_2_215 (by decide) rfl rfl rfl ⟨by decide, by decide, rfl, rfl, by decide, by decide⟩ rfl (Nat.le_of_ble_eq_true rfl) dX10_dimension_14 rfl ?_
  refine r_callP C (As := [.int (flA μ n nw (0 + f))]) (rest := []) (st1 := [.int (sonA (flA μ n nw (0 + f)))]) miX10_sizeOrNone msX10_sizeOrNone (c_sizeOrNone l (v := (flA μ n nw (0 + f))) (flA_ok h1024)) hw_3_2 rfl ⟨by decide, by decide, rfl, rfl, by decide, by decide⟩ rfl (Nat.le_of_ble_eq_true rfl) dX10_dimension_17 rfl ?_
  exact r_iret C dX10_dimension_20 Rr
set_option maxHeartbeats 1000000 in
set_option maxRecDepth 100000 in
theorem y_pairsC (l : Launch) (g : Gd) (μ : Mm) {n nw f k : Nat} (hO : Ok μ n nw) (hf : f < 4) (hk : k ≤ n) : Ct l yX10_pairs cX10_pairs 3 (some .int) (rmk 4 89) g [.ref (ad g 0), .int (nI f), .int (nI k)] μ (some (.int ((gJ (mPC μ n (0 + f)) 52 k).toInt32))) (mPC μ n (0 + f)) := by
  obtain ⟨hn, hw, hn10, hnw, hs, h1n⟩ := hO
  have h1024 := pw10 hn10
  have h2n := Nat.two_pow_pos n
  refine Ct.of (by decide) (Nat.le_of_ble_eq_true rfl) (fun z A C X Rr => ?_)
  refine r_iload_n C dX10_pairs_0 1 rfl ?_
  refine r_callP C (As := [.int (nI f)]) (rest := []) (st1 := []) miX10_checkFamily msX10_checkFamily (y_checkFamily l (f := f) (by omega)) hw_3_177 rfl ⟨by decide, by decide, rfl, rfl, by decide, by decide⟩ rfl (Nat.le_of_ble_eq_true rfl) dX10_pairs_1 rfl ?_
  refine r_iload_n C dX10_pairs_4 2 rfl ?_
  refine r_iconst C (v := (nI 0)) dX10_pairs_5 rfl ?_
  refine r_aload_n C dX10_pairs_6 0 rfl ?_
  refine r_get C X (k := 0) (R := RX10) (T := TX10) (N := 12) (n := 0) (v := .ref (ad g 1)) (by decide) rfl rfl inw10 (by decide) rfl hw_1_208 rfl dX10_pairs_7 ?_
  refine r_get C X (k := 1) (R := RX4) (T := TX4) (N := 2) (n := 0) (v := .int (gI μ 0)) (by decide) rfl rfl inw4 (by decide) rfl hw_1_42 rfl dX10_pairs_10 ?_
  refine G_top (y := (nI n)) hn ?_
  refine r_callP C (As := [.int (nI k), .int (nI 0), .int (nI n)]) (rest := []) (st1 := []) miX10_checkRange msX10_checkRange (y_checkRange l (v := (nI k)) (a := (nI 0)) (b := (nI n)) ((nI_leI (by omega) (by omega)).mpr (by omega)) ((nI_leI (by omega) (by omega)).mpr (by omega))) hw_3_88 rfl ⟨by decide, by decide, rfl, rfl, by decide, by decide⟩ rfl (Nat.le_of_ble_eq_true rfl) dX10_pairs_13 rfl ?_
  refine r_aload_n C dX10_pairs_16 0 rfl ?_
  refine r_get C X (k := 0) (R := RX10) (T := TX10) (N := 12) (n := 8) (v := .ref (ad g 15)) (by decide) rfl rfl inw10 (by decide) rfl hw_1_216 rfl dX10_pairs_17 ?_
  refine r_aload_n C dX10_pairs_20 0 rfl ?_
  refine r_get C X (k := 0) (R := RX10) (T := TX10) (N := 12) (n := 1) (v := .ref (ad g 2)) (by decide) rfl rfl inw10 (by decide) rfl hw_1_209 rfl dX10_pairs_21 ?_
  refine r_iload_n C dX10_pairs_24 1 rfl ?_
  refine r_aald C X (k := 2) (n := 4) (b := 0) (by decide) rfl (by omega) (by decide) dX10_pairs_25 ?_
  refine r_callV C X (As := [.ref (ad g (fo (0 + f)))]) (rest := []) (st1 := []) (μ' := (mPC μ n (0 + f))) (k := 15) (T := TX6) miX6_countAll mvX6_countAll (c_countAll l g μ (n := n) (nw := nw) (f := (0 + f)) ⟨hn, hw, hn10, hnw, hs, h1n⟩ (by omega)) hw_3_43 (by decide) rfl rfl rfl ⟨by decide, by decide, rfl, rfl, by decide, by decide⟩ rfl (Nat.le_of_ble_eq_true rfl) dX10_pairs_26 rfl ?_
  refine r_aload_n C dX10_pairs_29 0 rfl ?_
  refine r_get C X (k := 0) (R := RX10) (T := TX10) (N := 12) (n := 8) (v := .ref (ad g 15)) (by decide) rfl rfl inw10 (by decide) rfl hw_1_216 rfl dX10_pairs_30 ?_
  refine r_iload_n C dX10_pairs_33 2 rfl ?_
  refine r_callV C X (As := [.int (nI k)]) (rest := []) (st1 := [.int ((gJ (mPC μ n (0 + f)) 52 k).toInt32)]) (μ' := (mPC μ n (0 + f))) (k := 15) (T := TX6) miX6_withCommon mvX6_withCommon (c_withCommon l g (mPC μ n (0 + f)) (c := k) (by omega)) hw_3_61 (by decide) rfl rfl rfl ⟨by decide, by decide, rfl, rfl, by decide, by decide⟩ rfl (Nat.le_of_ble_eq_true rfl) dX10_pairs_34 rfl ?_
  exact r_iret C dX10_pairs_37 Rr
set_option maxHeartbeats 1000000 in
set_option maxRecDepth 100000 in
theorem y_clearTextC (l : Launch) (g : Gd) (μ : Mm) {n nw tl : Nat} (hO : Ok μ n nw) (h4 : gI μ 4 = nI tl) : Ct l yX10_clearText cX10_clearText 2 (some .int) (rmk 0 0) g [.ref (ad g 0)] μ (some (.int (nI tl))) (sI μ 4 (nI 0)) := by
  obtain ⟨hn, hw, hn10, hnw, hs, h1n⟩ := hO
  have h1024 := pw10 hn10
  have h2n := Nat.two_pow_pos n
  refine Ct.of (by decide) (Nat.le_of_ble_eq_true rfl) (fun z A C X Rr => ?_)
  refine r_aload_n C dX10_clearText_0 0 rfl ?_
  refine r_get C X (k := 0) (R := RX10) (T := TX10) (N := 12) (n := 3) (v := .ref (ad g 6)) (by decide) rfl rfl inw10 (by decide) rfl hw_1_211 rfl dX10_clearText_1 ?_
  refine r_get C X (k := 6) (R := RX9) (T := TX9) (N := 2) (n := 0) (v := .int (gI μ 4)) (by decide) rfl rfl inw9 (by decide) rfl hw_1_100 rfl dX10_clearText_4 ?_
  refine G_top (y := (nI tl)) h4 ?_
  refine r_istore_n C (lv' := [(1, .int (nI tl)), (0, .ref (ad g 0))]) 1 dX10_clearText_7 rfl (by decide) rfl ?_
  refine r_aload_n C dX10_clearText_8 1 rfl ?_
  refine r_get C X (k := 0) (R := RX10) (T := TX10) (N := 12) (n := 3) (v := .ref (ad g 6)) (by decide) rfl rfl inw10 (by decide) rfl hw_1_211 rfl dX10_clearText_9 ?_
  refine r_iconst C (v := (nI 0)) dX10_clearText_12 rfl ?_
  refine r_put C X (μ' := (sI μ 4 (nI 0))) (k := 6) (R := RX9) (T := TX9) (N := 2) (n := 0) (v := .int (nI 0)) (ty := .int) (by decide) rfl rfl inw9 tyX9_ok nmX9 (by decide) rfl hw_1_100 rfl rfl rfl rfl (Nat.le_of_ble_eq_true rfl) dX10_clearText_13 (WF_sI4_at g _ _) (WF_sI4_ne g _ _) ?_
  refine r_iload_n C dX10_clearText_16 0 rfl ?_
  exact r_iret C dX10_clearText_17 Rr
