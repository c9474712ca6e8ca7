theorem no_fam {v : Int32} (h1 : ¬ v < 0) (h2 : v < nI 4) : inI v (nI 0) (nI 3) = true := by
  have e4 : (nI 4).toInt = 4 := by decide
  have e3 : (nI 3).toInt = 3 := by decide
  have e0 : (nI 0).toInt = 0 := by decide
  have e00 : (0 : Int32).toInt = 0 := by decide
  rw [Int32.lt_iff_toInt_lt] at h1 h2
  exact decide_eq_true ⟨Int32.le_iff_toInt_le.mpr (by omega), Int32.le_iff_toInt_le.mpr (by omega)⟩
theorem no_rng {v a b : Int32} (h1 : ¬ v < a) (h2 : v ≤ b) : inI v a b = true := decide_eq_true ⟨Int32.not_lt.mp h1, h2⟩
set_option maxHeartbeats 1000000 in
set_option maxRecDepth 100000 in
theorem z_checkFamily (l : Launch) (g : Gd) (μ : Mm) (hl : l.stackTraces = false) {v : Int32} (hv : inI v (nI 0) (nI 3) = false) : Cz l yX10_checkFamily cX10_checkFamily 1 none (rmz 6 90) g [.int v] μ nIO := by
  refine Cz.of (by decide) (Nat.le_of_ble_eq_true rfl) (fun z A C X Ee Rr => ?_)
  refine r_iload_n C dX10_checkFamily_0 0 rfl ?_
  refine r_if_lt C 9 dX10_checkFamily_1 (by decide) Iff.rfl (fun h1 => ?_) (fun h1 => ?_)
  · exact r_throwW (pc := 9) C Ee hl (X := nIO) (by decide) cl_IO in_IO at_IO ng_IO ot_IO Ee.2.2.1.2.1 Ee.2.2.2.2.2.1 dX10_checkFamily_9 dX10_checkFamily_12 dX10_checkFamily_13 dX10_checkFamily_16 dX10_checkFamily_19 ⟨by decide, by decide, by decide, by decide⟩ Rr
  · refine r_iload_n C dX10_checkFamily_4 0 rfl ?_
    refine r_iconst C (v := (nI 4)) dX10_checkFamily_5 rfl ?_
    refine r_icmp_lt C 20 dX10_checkFamily_6 (by decide) Iff.rfl (fun h6 => ?_) (fun h6 => ?_)
    · exact absurd (no_fam h1 h6) (ne_true_of_eq_false hv)
    · exact r_throwW (pc := 9) C Ee hl (X := nIO) (by decide) cl_IO in_IO at_IO ng_IO ot_IO Ee.2.2.1.2.1 Ee.2.2.2.2.2.1 dX10_checkFamily_9 dX10_checkFamily_12 dX10_checkFamily_13 dX10_checkFamily_16 dX10_checkFamily_19 ⟨by decide, by decide, by decide, by decide⟩ Rr
set_option maxHeartbeats 1000000 in
set_option maxRecDepth 100000 in
theorem z_checkRange (l : Launch) (g : Gd) (μ : Mm) (hl : l.stackTraces = false) {v a b : Int32} (hv : inI v a b = false) : Cz l yX10_checkRange cX10_checkRange 3 none (rmz 6 90) g [.int v, .int a, .int b] μ nIA := by
  refine Cz.of (by decide) (Nat.le_of_ble_eq_true rfl) (fun z A C X Ee Rr => ?_)
  refine r_iload_n C dX10_checkRange_0 0 rfl ?_
  refine r_iload_n C dX10_checkRange_1 1 rfl ?_
  refine r_icmp_lt C 10 dX10_checkRange_2 (by decide) Iff.rfl (fun h2 => ?_) (fun h2 => ?_)
  · exact r_throwW (pc := 10) C Ee hl (X := nIA) (by decide) cl_IA in_IA at_IA ng_IA ot_IA Ee.2.2.1.1 Ee.2.2.2.2.2.2.1 dX10_checkRange_10 dX10_checkRange_13 dX10_checkRange_14 dX10_checkRange_17 dX10_checkRange_20 ⟨by decide, by decide, by decide, by decide⟩ Rr
  · refine r_iload_n C dX10_checkRange_5 0 rfl ?_
    refine r_iload_n C dX10_checkRange_6 2 rfl ?_
    refine r_icmp_le C 21 dX10_checkRange_7 (by decide) Iff.rfl (fun h7 => ?_) (fun h7 => ?_)
    · exact absurd (no_rng h2 h7) (ne_true_of_eq_false hv)
    · exact r_throwW (pc := 10) C Ee hl (X := nIA) (by decide) cl_IA in_IA at_IA ng_IA ot_IA Ee.2.2.1.1 Ee.2.2.2.2.2.2.1 dX10_checkRange_10 dX10_checkRange_13 dX10_checkRange_14 dX10_checkRange_17 dX10_checkRange_20 ⟨by decide, by decide, by decide, by decide⟩ Rr
set_option maxHeartbeats 1000000 in
set_option maxRecDepth 100000 in
theorem z_checkNotNegative (l : Launch) (g : Gd) (μ : Mm) (hl : l.stackTraces = false) {v : Int32} (hv : v < 0) : Cz l yX10_checkNotNegative cX10_checkNotNegative 1 none (rmz 6 90) g [.int v] μ nIA := by
  refine Cz.of (by decide) (Nat.le_of_ble_eq_true rfl) (fun z A C X Ee Rr => ?_)
  refine r_iload_n C dX10_checkNotNegative_0 0 rfl ?_
  refine r_if_ge C 15 dX10_checkNotNegative_1 (by decide) Iff.rfl (fun h1 => ?_) (fun h1 => ?_)
  · exact absurd hv (Int32.not_lt.mpr h1)
  · exact r_throwW (pc := 4) C Ee hl (X := nIA) (by decide) cl_IA in_IA at_IA ng_IA ot_IA Ee.2.2.1.1 Ee.2.2.2.2.2.2.2.1 dX10_checkNotNegative_4 dX10_checkNotNegative_7 dX10_checkNotNegative_8 dX10_checkNotNegative_11 dX10_checkNotNegative_14 ⟨by decide, by decide, by decide, by decide⟩ Rr
set_option maxHeartbeats 1000000 in
set_option maxRecDepth 100000 in
theorem z_checkSet (l : Launch) (g : Gd) (μ : Mm) (hl : l.stackTraces = false) {n nw : Nat} (hO : Ok μ n nw) {v : Int32} (hv : inI v (nI 0) (nI (2 ^ n - 1)) = false) : Cz l yX10_checkSet cX10_checkSet 2 none (rmz 7 112) g [.ref (ad g 0), .int v] μ nIA := by
  obtain ⟨hn, hw, hn10, hnw, hs, h1n⟩ := hO
  have h1024 := pw10 hn10
  have h2n := Nat.two_pow_pos n
  refine Cz.of (by decide) (Nat.le_of_ble_eq_true rfl) (fun z A C X Ee Rr => ?_)
  refine r_iload_n C dX10_checkSet_0 1 rfl ?_
  refine r_iconst C (v := (nI 0)) dX10_checkSet_1 rfl ?_
  refine r_aload_n C dX10_checkSet_2 0 rfl ?_
  refine r_get C X (k := 0) (R := RX10) (T := TX10) (N := 12) (n := 0) (v := .ref (ad g 1)) (by decide) rfl rfl inw10 (by decide) rfl hw_1_208 rfl dX10_checkSet_3 ?_
  refine r_callV C X (As := []) (rest := [.int (nI 0), .int v]) (st1 := [.int (nI (2 ^ n - 1)), .int (nI 0), .int v]) (μ' := μ) (k := 1) (T := TX4) miX4_everything mvX4_everything (c_everything l g μ (n := n) hn (by omega)) hw_3_200 (by decide) rfl rfl rfl ⟨by decide, by decide, rfl, rfl, by decide, by decide⟩ rfl (Nat.le_of_ble_eq_true rfl) dX10_checkSet_6 rfl ?_
  exact r_xS C X Ee (As := [.int v, .int (nI 0), .int (nI (2 ^ n - 1))]) (rest := []) miX10_checkRange msX10_checkRange (z_checkRange l g μ hl (v := v) (a := (nI 0)) (b := (nI (2 ^ n - 1))) hv) hw_3_88 rfl ⟨by decide, by decide, rfl, rfl, by decide, by decide⟩ rfl (Nat.le_of_ble_eq_true rfl) dX10_checkSet_9 (x_out C Rr)
set_option maxHeartbeats 1000000 in
set_option maxRecDepth 100000 in
theorem z_checkElement (l : Launch) (g : Gd) (μ : Mm) (hl : l.stackTraces = false) {n nw : Nat} (hO : Ok μ n nw) {v : Int32} (hv : inI v (nI 0) (nI (n - 1)) = false) : Cz l yX10_checkElement cX10_checkElement 2 none (rmz 7 112) g [.ref (ad g 0), .int v] μ nIA := by
  obtain ⟨hn, hw, hn10, hnw, hs, h1n⟩ := hO
  have h1024 := pw10 hn10
  have h2n := Nat.two_pow_pos n
  refine Cz.of (by decide) (Nat.le_of_ble_eq_true rfl) (fun z A C X Ee Rr => ?_)
  refine r_iload_n C dX10_checkElement_0 1 rfl ?_
  refine r_iconst C (v := (nI 0)) dX10_checkElement_1 rfl ?_
  refine r_aload_n C dX10_checkElement_2 0 rfl ?_
  refine r_get C X (k := 0) (R := RX10) (T := TX10) (N := 12) (n := 0) (v := .ref (ad g 1)) (by decide) rfl rfl inw10 (by decide) rfl hw_1_208 rfl dX10_checkElement_3 ?_
  refine r_get C X (k := 1) (R := RX4) (T := TX4) (N := 2) (n := 0) (v := .int (gI μ 0)) (by decide) rfl rfl inw4 (by decide) rfl hw_1_42 rfl dX10_checkElement_6 ?_
  refine G_top (y := (nI n)) hn ?_
  refine r_iconst C (v := (nI 1)) dX10_checkElement_9 rfl ?_
  refine r_isub C (v := (nI (n - 1))) dX10_checkElement_10 (pk_sub (by omega)) ?_
  exact r_xS C X Ee (As := [.int v, .int (nI 0), .int (nI (n - 1))]) (rest := []) miX10_checkRange msX10_checkRange (z_checkRange l g μ hl (v := v) (a := (nI 0)) (b := (nI (n - 1))) hv) hw_3_88 rfl ⟨by decide, by decide, rfl, rfl, by decide, by decide⟩ rfl (Nat.le_of_ble_eq_true rfl) dX10_checkElement_11 (x_out C Rr)
