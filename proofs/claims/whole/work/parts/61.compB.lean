set_option maxHeartbeats 1000000 in
set_option maxRecDepth 100000 in
theorem y_checkSet (l : Launch) (g : Gd) (μ : Mm) {n e : Nat} (hn : gI μ 0 = nI n) (hn10 : n ≤ 10) (he : e < 2 ^ n) : Ct l yX10_checkSet cX10_checkSet 2 none (rmk 1 22) g [.ref (ad g 0), .int (nI e)] μ none μ := by
  have h1024 := pw10 hn10
  have h2n := Nat.two_pow_pos n
  refine Ct.of (by decide) (Nat.le_of_ble_eq_true rfl) (fun z A C X Rr => ?_)
  refine r_iload_n C dX10_checkSet_0 1 rfl ?_
  refine r_iconst C (v := (nI 0)) dX10_checkSet_1 rfl ?_
  refine r_aload_n C dX10_checkSet_2 0 rfl ?_
  refine r_get C X (k := 0) (R := RX10) (T := TX10) (N := 12) (n := 0) (v := .ref (ad g 1)) (by decide) rfl rfl inw10 (by decide) rfl hw_1_208 rfl dX10_checkSet_3 ?_
  refine r_callV C X (As := []) (rest := [.int (nI 0), .int (nI e)]) (st1 := [.int (nI (2 ^ n - 1)), .int (nI 0), .int (nI e)]) (μ' := μ) (k := 1) (T := TX4) miX4_everything mvX4_everything (c_everything l g μ (n := n) hn (by omega)) hw_3_200 (by decide) rfl rfl rfl ⟨by decide, by decide, rfl, rfl, by decide, by decide⟩ rfl (Nat.le_of_ble_eq_true rfl) dX10_checkSet_6 rfl ?_
  refine r_callP C (As := [.int (nI e), .int (nI 0), .int (nI (2 ^ n - 1))]) (rest := []) (st1 := []) miX10_checkRange msX10_checkRange (y_checkRange l (v := (nI e)) (a := (nI 0)) (b := (nI (2 ^ n - 1))) ((nI_leI (by omega) (by omega)).mpr (by omega)) ((nI_leI (by omega) (by omega)).mpr (by omega))) hw_3_88 rfl ⟨by decide, by decide, rfl, rfl, by decide, by decide⟩ rfl (Nat.le_of_ble_eq_true rfl) dX10_checkSet_9 rfl ?_
  exact r_vret C dX10_checkSet_12 Rr
set_option maxHeartbeats 1000000 in
set_option maxRecDepth 100000 in
theorem y_checkElement (l : Launch) (g : Gd) (μ : Mm) {n x : Nat} (hn : gI μ 0 = nI n) (hn10 : n ≤ 10) (hx : x < n) : Ct l yX10_checkElement cX10_checkElement 2 none (rmk 1 22) g [.ref (ad g 0), .int (nI x)] μ none μ := by
  refine Ct.of (by decide) (Nat.le_of_ble_eq_true rfl) (fun z A C X Rr => ?_)
  refine r_iload_n C dX10_checkElement_0 1 rfl ?_
  refine r_iconst C (v := (nI 0)) dX10_checkElement_1 rfl ?_
  refine r_aload_n C dX10_checkElement_2 0 rfl ?_
  refine r_get C X (k := 0) (R := RX10) (T := TX10) (N := 12) (n := 0) (v := .ref (ad g 1)) (by decide) rfl rfl inw10 (by decide) rfl hw_1_208 rfl dX10_checkElement_3 ?_
  refine r_get C X (k := 1) (R := RX4) (T := TX4) (N := 2) (n := 0) (v := .int (gI μ 0)) (by decide) rfl rfl inw4 (by decide) rfl hw_1_42 rfl dX10_checkElement_6 ?_
  refine G_top (y := (nI n)) hn ?_
  refine r_iconst C (v := (nI 1)) dX10_checkElement_9 rfl ?_
  refine r_isub C (v := (nI (n - 1))) dX10_checkElement_10 (pk_sub (by omega)) ?_
  refine r_callP C (As := [.int (nI x), .int (nI 0), .int (nI (n - 1))]) (rest := []) (st1 := []) miX10_checkRange msX10_checkRange (y_checkRange l (v := (nI x)) (a := (nI 0)) (b := (nI (n - 1))) ((nI_leI (by omega) (by omega)).mpr (by omega)) ((nI_leI (by omega) (by omega)).mpr (by omega))) hw_3_88 rfl ⟨by decide, by decide, rfl, rfl, by decide, by decide⟩ rfl (Nat.le_of_ble_eq_true rfl) dX10_checkElement_11 rfl ?_
  exact r_vret C dX10_checkElement_14 Rr
