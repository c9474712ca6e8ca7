set_option maxHeartbeats 1000000 in
set_option maxRecDepth 100000 in
theorem y_shadowBoundC (l : Launch) (g : Gd) (μ : Mm) {n nw m k : Nat} (hO : Ok μ n nw) (hm : m ≤ 1000000) (hk : 1 ≤ k) (hk10 : k ≤ 10) : Ct l yX10_shadowBound cX10_shadowBound 3 (some .int) (rmk 3 72) g [.ref (ad g 0), .int (nI m), .int (nI k)] μ (some (.int (nI (lshF k m)))) μ := by
  obtain ⟨hn, hw, hn10, hnw, hs, h1n⟩ := hO
  have h1024 := pw10 hn10
  have h2n := Nat.two_pow_pos n
  refine Ct.of (by decide) (Nat.le_of_ble_eq_true rfl) (fun z A C X Rr => ?_)
  refine r_iload_n C dX10_shadowBound_0 1 rfl ?_
  refine r_iconst C (v := (nI 0)) dX10_shadowBound_1 rfl ?_
  refine r_ldc C dX10_shadowBound_2 hw_4_131 ?_
  refine G_top (y := (nI 1000000)) (by decide) ?_
  refine r_callP C (As := [.int (nI m), .int (nI 0), .int (nI 1000000)]) (rest := []) (st1 := []) miX10_checkRange msX10_checkRange (y_checkRange l (v := (nI m)) (a := (nI 0)) (b := (nI 1000000)) ((nI_leI (by omega) (by omega)).mpr (by omega)) ((nI_leI (by omega) (by omega)).mpr (by omega))) hw_3_88 rfl ⟨by decide, by decide, rfl, rfl, by decide, by decide⟩ rfl (Nat.le_of_ble_eq_true rfl) dX10_shadowBound_4 rfl ?_
  refine r_iload_n C dX10_shadowBound_7 2 rfl ?_
  refine r_iconst C (v := (nI 1)) dX10_shadowBound_8 rfl ?_
  refine r_bipush C (v := (nI 10)) dX10_shadowBound_9 (by decide) ?_
  refine r_callP C (As := [.int (nI k), .int (nI 1), .int (nI 10)]) (rest := []) (st1 := []) miX10_checkRange msX10_checkRange (y_checkRange l (v := (nI k)) (a := (nI 1)) (b := (nI 10)) ((nI_leI (by omega) (by omega)).mpr (by omega)) ((nI_leI (by omega) (by omega)).mpr (by omega))) hw_3_88 rfl ⟨by decide, by decide, rfl, rfl, by decide, by decide⟩ rfl (Nat.le_of_ble_eq_true rfl) dX10_shadowBound_11 rfl ?_
  refine r_iload_n C dX10_shadowBound_14 1 rfl ?_
  refine r_iload_n C dX10_shadowBound_15 2 rfl ?_
  refine r_callP C (As := [.int (nI m), .int (nI k)]) (rest := []) (st1 := [.int (nI (lshF k m))]) miX0_leastShadow msX0_leastShadow (c_leastShadow l (m := m) (k := k) (by omega) (by omega)) hw_3_73 rfl ⟨by decide, by decide, rfl, rfl, by decide, by decide⟩ rfl (Nat.le_of_ble_eq_true rfl) dX10_shadowBound_16 rfl ?_
  exact r_iret C dX10_shadowBound_19 Rr
set_option maxHeartbeats 1000000 in
set_option maxRecDepth 100000 in
theorem y_cascadeC (l : Launch) (g : Gd) (μ : Mm) {n nw m k ix : Nat} (hO : Ok μ n nw) (hm1 : 1 ≤ m) (hm : m ≤ 1000000) (hk : 1 ≤ k) (hk10 : k ≤ 10) (hix : ix < 2 ^ 31) : Ct l yX10_cascade cX10_cascade 4 (some .int) (rmk 3 71) g [.ref (ad g 0), .int (nI m), .int (nI k), .int (nI ix)] μ (some (.int (casF k ix k m))) μ := by
  obtain ⟨hn, hw, hn10, hnw, hs, h1n⟩ := hO
  have h1024 := pw10 hn10
  have h2n := Nat.two_pow_pos n
  refine Ct.of (by decide) (Nat.le_of_ble_eq_true rfl) (fun z A C X Rr => ?_)
  refine r_iload_n C dX10_cascade_0 1 rfl ?_
  refine r_iconst C (v := (nI 1)) dX10_cascade_1 rfl ?_
  refine r_ldc C dX10_cascade_2 hw_4_131 ?_
  refine G_top (y := (nI 1000000)) (by decide) ?_
  refine r_callP C (As := [.int (nI m), .int (nI 1), .int (nI 1000000)]) (rest := []) (st1 := []) miX10_checkRange msX10_checkRange (y_checkRange l (v := (nI m)) (a := (nI 1)) (b := (nI 1000000)) ((nI_leI (by omega) (by omega)).mpr (by omega)) ((nI_leI (by omega) (by omega)).mpr (by omega))) hw_3_88 rfl ⟨by decide, by decide, rfl, rfl, by decide, by decide⟩ rfl (Nat.le_of_ble_eq_true rfl) dX10_cascade_4 rfl ?_
  refine r_iload_n C dX10_cascade_7 2 rfl ?_
  refine r_iconst C (v := (nI 1)) dX10_cascade_8 rfl ?_
  refine r_bipush C (v := (nI 10)) dX10_cascade_9 (by decide) ?_
  refine r_callP C (As := [.int (nI k), .int (nI 1), .int (nI 10)]) (rest := []) (st1 := []) miX10_checkRange msX10_checkRange (y_checkRange l (v := (nI k)) (a := (nI 1)) (b := (nI 10)) ((nI_leI (by omega) (by omega)).mpr (by omega)) ((nI_leI (by omega) (by omega)).mpr (by omega))) hw_3_88 rfl ⟨by decide, by decide, rfl, rfl, by decide, by decide⟩ rfl (Nat.le_of_ble_eq_true rfl) dX10_cascade_11 rfl ?_
  refine r_iload_n C dX10_cascade_14 3 rfl ?_
  refine r_callP C (As := [.int (nI ix)]) (rest := []) (st1 := []) miX10_checkNotNegative msX10_checkNotNegative (y_checkNotNegative l (v := ix) (by omega)) hw_3_235 rfl ⟨by decide, by decide, rfl, rfl, by decide, by decide⟩ rfl (Nat.le_of_ble_eq_true rfl) dX10_cascade_15 rfl ?_
  refine r_iload_n C dX10_cascade_18 1 rfl ?_
  refine r_iload_n C dX10_cascade_19 2 rfl ?_
  refine r_iload_n C dX10_cascade_20 3 rfl ?_
  refine r_callP C (As := [.int (nI m), .int (nI k), .int (nI ix)]) (rest := []) (st1 := [.int (casF k ix k m)]) miX0_cascadeNumber msX0_cascadeNumber (c_cascadeNumber l (m := m) (k := k) (q := ix) (by omega) (by omega) (by omega)) hw_4_132 rfl ⟨by decide, by decide, rfl, rfl, by decide, by decide⟩ rfl (Nat.le_of_ble_eq_true rfl) dX10_cascade_21 rfl ?_
  exact r_iret C dX10_cascade_24 Rr
set_option maxHeartbeats 1000000 in
set_option maxRecDepth 100000 in
theorem y_crossingC (l : Launch) (g : Gd) (μ : Mm) {n nw a b : Nat} (hO : Ok μ n nw) (ha : a < 4) (hb : b < 4) : Ct l yX10_crossing cX10_crossing 3 (some .int) (rmk 5 115) g [.ref (ad g 0), .int (nI a), .int (nI b)] μ (some (.int (fdA μ n nw (0 + a) (0 + b)))) (fdM μ n nw (0 + a) (0 + b)) := by
  obtain ⟨hn, hw, hn10, hnw, hs, h1n⟩ := hO
  have h1024 := pw10 hn10
  have h2n := Nat.two_pow_pos n
  refine Ct.of (by decide) (Nat.le_of_ble_eq_true rfl) (fun z A C X Rr => ?_)
  refine r_iload_n C dX10_crossing_0 1 rfl ?_
  refine r_callP C (As := [.int (nI a)]) (rest := []) (st1 := []) miX10_checkFamily msX10_checkFamily (y_checkFamily l (f := a) (by omega)) hw_3_177 rfl ⟨by decide, by decide, rfl, rfl, by decide, by decide⟩ rfl (Nat.le_of_ble_eq_true rfl) dX10_crossing_1 rfl ?_
  refine r_iload_n C dX10_crossing_4 2 rfl ?_
  refine r_callP C (As := [.int (nI b)]) (rest := []) (st1 := []) miX10_checkFamily msX10_checkFamily (y_checkFamily l (f := b) (by omega)) hw_3_177 rfl ⟨by decide, by decide, rfl, rfl, by decide, by decide⟩ rfl (Nat.le_of_ble_eq_true rfl) dX10_crossing_5 rfl ?_
  refine r_aload_n C dX10_crossing_8 0 rfl ?_
  refine r_aload_n C dX10_crossing_9 0 rfl ?_
  refine r_get C X (k := 0) (R := RX10) (T := TX10) (N := 12) (n := 1) (v := .ref (ad g 2)) (by decide) rfl rfl inw10 (by decide) rfl hw_1_209 rfl dX10_crossing_10 ?_
  refine r_iload_n C dX10_crossing_13 1 rfl ?_
  refine r_aald C X (k := 2) (n := 4) (b := 0) (by decide) rfl (by omega) (by decide) dX10_crossing_14 ?_
  refine r_aload_n C dX10_crossing_15 0 rfl ?_
  refine r_get C X (k := 0) (R := RX10) (T := TX10) (N := 12) (n := 1) (v := .ref (ad g 2)) (by decide) rfl rfl inw10 (by decide) rfl hw_1_209 rfl dX10_crossing_16 ?_
  refine r_iload_n C dX10_crossing_19 2 rfl ?_
  refine r_aald C X (k := 2) (n := 4) (b := 0) (by decide) rfl (by omega) (by decide) dX10_crossing_20 ?_
  refine r_callV C X (As := [.ref (ad g (fo (0 + a))), .ref (ad g (fo (0 + b)))]) (rest := []) (st1 := [.int (fdA μ n nw (0 + a) (0 + b))]) (μ' := (fdM μ n nw (0 + a) (0 + b))) (k := 0) (T := TX10) miX10_firstDisjointPair mvX10_firstDisjointPair (c_firstDisjointPair l g μ (n := n) (nw := nw) (a := (0 + a)) (b := (0 + b)) ⟨hn, hw, hn10, hnw, hs, h1n⟩ (by omega) (by omega)) hw_2_91 (by decide) rfl rfl rfl ⟨by decide, by decide, rfl, rfl, by decide, by decide⟩ rfl (Nat.le_of_ble_eq_true rfl) dX10_crossing_21 rfl ?_
  exact r_iret C dX10_crossing_24 Rr
set_option maxHeartbeats 1000000 in
set_option maxRecDepth 100000 in
theorem y_isC (l : Launch) (g : Gd) (μ : Mm) {n nw f p : Nat} (hO : Ok μ n nw) (hf : f < 4) (hp : p < 6) : Ct l yX10_is cX10_is 3 (some .boolean) (rmk 6 137) g [.ref (ad g 0), .int (nI f), .int (nI p)] μ (some (.int (bI (hpA μ n nw (0 + f) p)))) (hpM μ n nw (0 + f) p) := by
  obtain ⟨hn, hw, hn10, hnw, hs, h1n⟩ := hO
  have h1024 := pw10 hn10
  have h2n := Nat.two_pow_pos n
  refine Ct.of (by decide) (Nat.le_of_ble_eq_true rfl) (fun z A C X Rr => ?_)
  refine r_iload_n C dX10_is_0 1 rfl ?_
  refine r_callP C (As := [.int (nI f)]) (rest := []) (st1 := []) miX10_checkFamily msX10_checkFamily (y_checkFamily l (f := f) (by omega)) hw_3_177 rfl ⟨by decide, by decide, rfl, rfl, by decide, by decide⟩ rfl (Nat.le_of_ble_eq_true rfl) dX10_is_1 rfl ?_
  refine r_iload_n C dX10_is_4 2 rfl ?_
  refine r_iconst C (v := (nI 0)) dX10_is_5 rfl ?_
  refine r_iconst C (v := (nI 5)) dX10_is_6 rfl ?_
  refine r_callP C (As := [.int (nI p), .int (nI 0), .int (nI 5)]) (rest := []) (st1 := []) miX10_checkRange msX10_checkRange (y_checkRange l (v := (nI p)) (a := (nI 0)) (b := (nI 5)) ((nI_leI (by omega) (by omega)).mpr (by omega)) ((nI_leI (by omega) (by omega)).mpr (by omega))) hw_3_88 rfl ⟨by decide, by decide, rfl, rfl, by decide, by decide⟩ rfl (Nat.le_of_ble_eq_true rfl) dX10_is_7 rfl ?_
  refine r_aload_n C dX10_is_10 0 rfl ?_
  refine r_aload_n C dX10_is_11 0 rfl ?_
  refine r_get C X (k := 0) (R := RX10) (T := TX10) (N := 12) (n := 1) (v := .ref (ad g 2)) (by decide) rfl rfl inw10 (by decide) rfl hw_1_209 rfl dX10_is_12 ?_
  refine r_iload_n C dX10_is_15 1 rfl ?_
  refine r_aald C X (k := 2) (n := 4) (b := 0) (by decide) rfl (by omega) (by decide) dX10_is_16 ?_
  refine r_iload_n C dX10_is_17 2 rfl ?_
  refine r_callV C X (As := [.ref (ad g (fo (0 + f))), .int (nI p)]) (rest := []) (st1 := [.int (bI (hpA μ n nw (0 + f) p))]) (μ' := (hpM μ n nw (0 + f) p)) (k := 0) (T := TX10) miX10_hasProperty mvX10_hasProperty (c_hasProperty l g μ (n := n) (nw := nw) (f := (0 + f)) (p := p) ⟨hn, hw, hn10, hnw, hs, h1n⟩ (by omega) (by omega)) hw_2_49 (by decide) rfl rfl rfl ⟨by decide, by decide, rfl, rfl, by decide, by decide⟩ rfl (Nat.le_of_ble_eq_true rfl) dX10_is_18 rfl ?_
  exact r_zret C dX10_is_21 (nar_b _) Rr
set_option maxHeartbeats 1000000 in
set_option maxRecDepth 100000 in
theorem y_weightC (l : Launch) (g : Gd) (μ : Mm) {n nw f : Nat} (hO : Ok μ n nw) (hf : f < 4) (d : Bool) : Ct l yX10_weight cX10_weight 3 (some .long) (rmk 4 92) g [.ref (ad g 0), .int (nI f), .int (bI d)] μ (some (.long (lN (wtA μ n nw (0 + f) d)))) μ := by
  obtain ⟨hn, hw, hn10, hnw, hs, h1n⟩ := hO
  have h1024 := pw10 hn10
  have h2n := Nat.two_pow_pos n
  refine Ct.of (by decide) (Nat.le_of_ble_eq_true rfl) (fun z A C X Rr => ?_)
  refine r_iload_n C dX10_weight_0 1 rfl ?_
  refine r_callP C (As := [.int (nI f)]) (rest := []) (st1 := []) miX10_checkFamily msX10_checkFamily (y_checkFamily l (f := f) (by omega)) hw_3_177 rfl ⟨by decide, by decide, rfl, rfl, by decide, by decide⟩ rfl (Nat.le_of_ble_eq_true rfl) dX10_weight_1 rfl ?_
  refine r_aload_n C dX10_weight_4 0 rfl ?_
  refine r_aload_n C dX10_weight_5 0 rfl ?_
  refine r_get C X (k := 0) (R := RX10) (T := TX10) (N := 12) (n := 1) (v := .ref (ad g 2)) (by decide) rfl rfl inw10 (by decide) rfl hw_1_209 rfl dX10_weight_6 ?_
  refine r_iload_n C dX10_weight_9 1 rfl ?_
  refine r_aald C X (k := 2) (n := 4) (b := 0) (by decide) rfl (by omega) (by decide) dX10_weight_10 ?_
  refine r_iload_n C dX10_weight_11 2 rfl ?_
  refine r_callV C X (As := [.ref (ad g (fo (0 + f))), .int (bI d)]) (rest := []) (st1 := [.long (lN (wtA μ n nw (0 + f) d))]) (μ' := μ) (k := 0) (T := TX10) miX10_weightOf mvX10_weightOf (c_weightOf l g μ (n := n) (nw := nw) (f := (0 + f)) ⟨hn, hw, hn10, hnw, hs, h1n⟩ (by omega) d) hw_2_182 (by decide) rfl rfl rfl ⟨by decide, by decide, rfl, rfl, by decide, by decide⟩ rfl (Nat.le_of_ble_eq_true rfl) dX10_weight_12 rfl ?_
  exact r_lret C dX10_weight_15 Rr
set_option maxHeartbeats 1000000 in
set_option maxRecDepth 100000 in
theorem y_excessC (l : Launch) (g : Gd) (μ : Mm) {n nw f lv : Nat} (hO : Ok μ n nw) (hf : f < 4) (hl : 1 ≤ lv) (hl10 : lv ≤ n) : Ct l yX10_excess cX10_excess 3 (some .int) (rmk 4 94) g [.ref (ad g 0), .int (nI f), .int (nI lv)] μ (some (.int (exA μ n nw (0 + f) lv))) (exM μ n nw (0 + f) lv) := by
  obtain ⟨hn, hw, hn10, hnw, hs, h1n⟩ := hO
  have h1024 := pw10 hn10
  have h2n := Nat.two_pow_pos n
  refine Ct.of (by decide) (Nat.le_of_ble_eq_true rfl) (fun z A C X Rr => ?_)
  refine r_iload_n C dX10_excess_0 1 rfl ?_
  refine r_callP C (As := [.int (nI f)]) (rest := []) (st1 := []) miX10_checkFamily msX10_checkFamily (y_checkFamily l (f := f) (by omega)) hw_3_177 rfl ⟨by decide, by decide, rfl, rfl, by decide, by decide⟩ rfl (Nat.le_of_ble_eq_true rfl) dX10_excess_1 rfl ?_
  refine r_iload_n C dX10_excess_4 2 rfl ?_
  refine r_iconst C (v := (nI 1)) dX10_excess_5 rfl ?_
  refine r_aload_n C dX10_excess_6 0 rfl ?_
  refine r_get C X (k := 0) (R := RX10) (T := TX10) (N := 12) (n := 0) (v := .ref (ad g 1)) (by decide) rfl rfl inw10 (by decide) rfl hw_1_208 rfl dX10_excess_7 ?_
  refine r_get C X (k := 1) (R := RX4) (T := TX4) (N := 2) (n := 0) (v := .int (gI μ 0)) (by decide) rfl rfl inw4 (by decide) rfl hw_1_42 rfl dX10_excess_10 ?_
  refine G_top (y := (nI n)) hn ?_
  refine r_callP C (As := [.int (nI lv), .int (nI 1), .int (nI n)]) (rest := []) (st1 := []) miX10_checkRange msX10_checkRange (y_checkRange l (v := (nI lv)) (a := (nI 1)) (b := (nI n)) ((nI_leI (by omega) (by omega)).mpr (by omega)) ((nI_leI (by omega) (by omega)).mpr (by omega))) hw_3_88 rfl ⟨by decide, by decide, rfl, rfl, by decide, by decide⟩ rfl (Nat.le_of_ble_eq_true rfl) dX10_excess_13 rfl ?_
  refine r_aload_n C dX10_excess_16 0 rfl ?_
  refine r_aload_n C dX10_excess_17 0 rfl ?_
  refine r_get C X (k := 0) (R := RX10) (T := TX10) (N := 12) (n := 1) (v := .ref (ad g 2)) (by decide) rfl rfl inw10 (by decide) rfl hw_1_209 rfl dX10_excess_18 ?_
  refine r_iload_n C dX10_excess_21 1 rfl ?_
  refine r_aald C X (k := 2) (n := 4) (b := 0) (by decide) rfl (by omega) (by decide) dX10_excess_22 ?_
  refine r_iload_n C dX10_excess_23 2 rfl ?_
  refine r_callV C X (As := [.ref (ad g (fo (0 + f))), .int (nI lv)]) (rest := []) (st1 := [.int (exA μ n nw (0 + f) lv)]) (μ' := (exM μ n nw (0 + f) lv)) (k := 0) (T := TX10) miX10_excessOf mvX10_excessOf (c_excessOf l g μ (n := n) (nw := nw) (f := (0 + f)) (lv := lv) ⟨hn, hw, hn10, hnw, hs, h1n⟩ (by omega) (by omega)) hw_3_65 (by decide) rfl rfl rfl ⟨by decide, by decide, rfl, rfl, by decide, by decide⟩ rfl (Nat.le_of_ble_eq_true rfl) dX10_excess_24 rfl ?_
  exact r_iret C dX10_excess_27 Rr
set_option maxHeartbeats 1000000 in
set_option maxRecDepth 100000 in
theorem y_shatteredC (l : Launch) (g : Gd) (μ : Mm) {n nw f : Nat} (hO : Ok μ n nw) (hf : f < 4) : Ct l yX10_shattered cX10_shattered 2 (some .int) (rmk 5 116) g [.ref (ad g 0), .int (nI f)] μ (some (.int (flA μ n nw (0 + f)))) (flM μ n nw (0 + f)) := by
  obtain ⟨hn, hw, hn10, hnw, hs, h1n⟩ := hO
  have h1024 := pw10 hn10
  have h2n := Nat.two_pow_pos n
  refine Ct.of (by decide) (Nat.le_of_ble_eq_true rfl) (fun z A C X Rr => ?_)
  refine r_iload_n C dX10_shattered_0 1 rfl ?_
  refine r_callP C (As := [.int (nI f)]) (rest := []) (st1 := []) miX10_checkFamily msX10_checkFamily (y_checkFamily l (f := f) (by omega)) hw_3_177 rfl ⟨by decide, by decide, rfl, rfl, by decide, by decide⟩ rfl (Nat.le_of_ble_eq_true rfl) dX10_shattered_1 rfl ?_
  refine r_aload_n C dX10_shattered_4 0 rfl ?_
  refine r_get C X (k := 0) (R := RX10) (T := TX10) (N := 12) (n := 6) (v := .ref (ad g 10)) (by decide) rfl rfl inw10 (by decide) rfl hw_1_214 rfl dX10_shattered_5 ?_
  refine r_aload_n C dX10_shattered_8 0 rfl ?_
  refine r_get C X (k := 0) (R := RX10) (T := TX10) (N := 12) (n := 1) (v := .ref (ad g 2)) (by decide) rfl rfl inw10 (by decide) rfl hw_1_209 rfl dX10_shattered_9 ?_
  refine r_iload_n C dX10_shattered_12 1 rfl ?_
  refine r_aald C X (k := 2) (n := 4) (b := 0) (by decide) rfl (by omega) (by decide) dX10_shattered_13 ?_
  refine r_callV C X (As := [.ref (ad g (fo (0 + f)))]) (rest := []) (st1 := [.int (flA μ n nw (0 + f))]) (μ' := (flM μ n nw (0 + f))) (k := 10) (T := TX7) miX7_firstLargest mvX7_firstLargest (c_firstLargest l g μ (n := n) (nw := nw) (f := (0 + f)) ⟨hn, hw, hn10, hnw, hs, h1n⟩ (by omega)) hw_2_215 (by decide) rfl rfl rfl ⟨by decide, by decide, rfl, rfl, by decide, by decide⟩ rfl (Nat.le_of_ble_eq_true rfl) dX10_shattered_14 rfl ?_
  exact r_iret C dX10_shattered_17 Rr
set_option maxHeartbeats 1000000 in
set_option maxRecDepth 100000 in
theorem y_sunflowerC (l : Launch) (g : Gd) (μ : Mm) {n nw f : Nat} (hO : Ok μ n nw) (hf : f < 4) : Ct l yX10_sunflower cX10_sunflower 2 (some .int) (rmk 6 136) g [.ref (ad g 0), .int (nI f)] μ (some (.int ((lcF n nw (0 + f) (2 ^ n) 0 0 μ).2))) ((lcF n nw (0 + f) (2 ^ n) 0 0 μ).1) := by
  obtain ⟨hn, hw, hn10, hnw, hs, h1n⟩ := hO
  have h1024 := pw10 hn10
  have h2n := Nat.two_pow_pos n
  refine Ct.of (by decide) (Nat.le_of_ble_eq_true rfl) (fun z A C X Rr => ?_)
  refine r_iload_n C dX10_sunflower_0 1 rfl ?_
  refine r_callP C (As := [.int (nI f)]) (rest := []) (st1 := []) miX10_checkFamily msX10_checkFamily (y_checkFamily l (f := f) (by omega)) hw_3_177 rfl ⟨by decide, by decide, rfl, rfl, by decide, by decide⟩ rfl (Nat.le_of_ble_eq_true rfl) dX10_sunflower_1 rfl ?_
  refine r_aload_n C dX10_sunflower_4 0 rfl ?_
  refine r_get C X (k := 0) (R := RX10) (T := TX10) (N := 12) (n := 7) (v := .ref (ad g 12)) (by decide) rfl rfl inw10 (by decide) rfl hw_1_215 rfl dX10_sunflower_5 ?_
  refine r_aload_n C dX10_sunflower_8 0 rfl ?_
  refine r_get C X (k := 0) (R := RX10) (T := TX10) (N := 12) (n := 1) (v := .ref (ad g 2)) (by decide) rfl rfl inw10 (by decide) rfl hw_1_209 rfl dX10_sunflower_9 ?_
  refine r_iload_n C dX10_sunflower_12 1 rfl ?_
  refine r_aald C X (k := 2) (n := 4) (b := 0) (by decide) rfl (by omega) (by decide) dX10_sunflower_13 ?_
  refine r_callV C X (As := [.ref (ad g (fo (0 + f)))]) (rest := []) (st1 := [.int ((lcF n nw (0 + f) (2 ^ n) 0 0 μ).2)]) (μ' := ((lcF n nw (0 + f) (2 ^ n) 0 0 μ).1)) (k := 12) (T := TX8) miX8_leastCore mvX8_leastCore (c_leastCore l g μ (n := n) (nw := nw) (f := (0 + f)) ⟨hn, hw, hn10, hnw, hs, h1n⟩ (by omega)) hw_3_6 (by decide) rfl rfl rfl ⟨by decide, by decide, rfl, rfl, by decide, by decide⟩ rfl (Nat.le_of_ble_eq_true rfl) dX10_sunflower_14 rfl ?_
  exact r_iret C dX10_sunflower_17 Rr
