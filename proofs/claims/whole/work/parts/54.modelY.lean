set_option maxHeartbeats 1000000 in
set_option maxRecDepth 100000 in
theorem n_has (l : Launch) (g : Gd) (μ : Mm) {n : Nat} (hn6 : gI μ 6 = nI n) (h1n : 1 ≤ n) (hn10 : n ≤ 10) (f s : Int32)  (hno : ((inI f (nI 0) (nI 3)) && (inI s (nI 0) (nI (2 ^ n - 1)))) = false) : Ct l yX11_has cX11_has 3 (some .boolean) (rmk 2 43) g [.ref (ad g 19), .int f, .int s] μ (some (.int (nI 0))) (mgM μ (inI f (nI 0) (nI 3)) (inI s (nI 0) (nI (2 ^ n - 1)))) := by
  have h1024 := pw10 hn10
  have h2n := Nat.two_pow_pos n
  refine Ct.of (by decide) (Nat.le_of_ble_eq_true rfl) (fun z A C X Rr => ?_)
  refine r_aload_n C dX11_has_0 0 rfl ?_
  refine r_iload_n C dX11_has_1 1 rfl ?_
  refine r_callP C (As := [.int f]) (rest := [.ref (ad g 19)]) (st1 := [.int (bI (inI f (nI 0) (nI 3))), .ref (ad g 19)]) miX11_isPlace msX11_isPlace (c_isPlace l f) hw_5_92 rfl ⟨by decide, by decide, rfl, rfl, by decide, by decide⟩ rfl (Nat.le_of_ble_eq_true rfl) dX11_has_2 rfl ?_
  refine r_aload_n C dX11_has_5 0 rfl ?_
  refine r_iload_n C dX11_has_6 2 rfl ?_
  refine r_callV C X (As := [.int s]) (rest := [.int (bI (inI f (nI 0) (nI 3))), .ref (ad g 19)]) (st1 := [.int (bI (inI s (nI 0) (nI (2 ^ n - 1)))), .int (bI (inI f (nI 0) (nI 3))), .ref (ad g 19)]) (μ' := μ) (k := 19) (T := TX11) miX11_isCode mvX11_isCode (c_isCode l g μ (n := n) hn6 (by omega) s) hw_5_95 (by decide) rfl rfl rfl ⟨by decide, by decide, rfl, rfl, by decide, by decide⟩ rfl (Nat.le_of_ble_eq_true rfl) dX11_has_7 rfl ?_
  refine r_callV C X (As := [.int (bI (inI f (nI 0) (nI 3))), .int (bI (inI s (nI 0) (nI (2 ^ n - 1))))]) (rest := []) (st1 := [.int (bI ((inI f (nI 0) (nI 3)) && (inI s (nI 0) (nI (2 ^ n - 1)))))]) (μ' := (mgM μ (inI f (nI 0) (nI 3)) (inI s (nI 0) (nI (2 ^ n - 1))))) (k := 19) (T := TX11) miX11_mayGo mvX11_mayGo (c_mayGo l g μ (inI f (nI 0) (nI 3)) (inI s (nI 0) (nI (2 ^ n - 1)))) hw_5_103 (by decide) rfl rfl rfl ⟨by decide, by decide, rfl, rfl, by decide, by decide⟩ rfl (Nat.le_of_ble_eq_true rfl) dX11_has_10 rfl ?_
  refine r_if_eq C 35 dX11_has_13 (by decide) (bI_eq _) (fun h13 => ?_) (fun h13 => ?_)
  · refine r_iconst C (v := (nI 0)) dX11_has_35 rfl ?_
    exact r_zret C dX11_has_36 (by decide) Rr
  · exact absurd hno h13
set_option maxHeartbeats 1000000 in
set_option maxRecDepth 100000 in
theorem n_size (l : Launch) (g : Gd) (μ : Mm) {n : Nat} (hn6 : gI μ 6 = nI n) (h1n : 1 ≤ n) (hn10 : n ≤ 10) (f lv : Int32)  (hno : ((inI f (nI 0) (nI 3)) && (inI lv (-1) (nI n))) = false) : Ct l yX11_size cX11_size 3 (some .int) (rmk 2 42) g [.ref (ad g 19), .int f, .int lv] μ (some (.int (nI 0))) (mgM μ (inI f (nI 0) (nI 3)) (inI lv (-1) (nI n))) := by
  have h1024 := pw10 hn10
  have h2n := Nat.two_pow_pos n
  refine Ct.of (by decide) (Nat.le_of_ble_eq_true rfl) (fun z A C X Rr => ?_)
  refine r_aload_n C dX11_size_0 0 rfl ?_
  refine r_iload_n C dX11_size_1 1 rfl ?_
  refine r_callP C (As := [.int f]) (rest := [.ref (ad g 19)]) (st1 := [.int (bI (inI f (nI 0) (nI 3))), .ref (ad g 19)]) miX11_isPlace msX11_isPlace (c_isPlace l f) hw_5_92 rfl ⟨by decide, by decide, rfl, rfl, by decide, by decide⟩ rfl (Nat.le_of_ble_eq_true rfl) dX11_size_2 rfl ?_
  refine r_iload_n C dX11_size_5 2 rfl ?_
  refine r_iconst C (v := (-1)) dX11_size_6 rfl ?_
  refine r_aload_n C dX11_size_7 0 rfl ?_
  refine r_get C X (k := 19) (R := RX11) (T := TX11) (N := 15) (n := 1) (v := .int (gI μ 6)) (by decide) rfl rfl inw11 (by decide) rfl hw_5_19 rfl dX11_size_8 ?_
  refine G_top (y := (nI n)) hn6 ?_
  refine r_callP C (As := [.int lv, .int (-1), .int (nI n)]) (rest := [.int (bI (inI f (nI 0) (nI 3))), .ref (ad g 19)]) (st1 := [.int (bI (inI lv (-1) (nI n))), .int (bI (inI f (nI 0) (nI 3))), .ref (ad g 19)]) miX11_in msX11_in (c_in l lv (-1) (nI n)) hw_5_77 rfl ⟨by decide, by decide, rfl, rfl, by decide, by decide⟩ rfl (Nat.le_of_ble_eq_true rfl) dX11_size_11 rfl ?_
  refine r_callV C X (As := [.int (bI (inI f (nI 0) (nI 3))), .int (bI (inI lv (-1) (nI n)))]) (rest := []) (st1 := [.int (bI ((inI f (nI 0) (nI 3)) && (inI lv (-1) (nI n))))]) (μ' := (mgM μ (inI f (nI 0) (nI 3)) (inI lv (-1) (nI n)))) (k := 19) (T := TX11) miX11_mayGo mvX11_mayGo (c_mayGo l g μ (inI f (nI 0) (nI 3)) (inI lv (-1) (nI n))) hw_5_103 (by decide) rfl rfl rfl ⟨by decide, by decide, rfl, rfl, by decide, by decide⟩ rfl (Nat.le_of_ble_eq_true rfl) dX11_size_14 rfl ?_
  refine r_if_eq C 29 dX11_size_17 (by decide) (bI_eq _) (fun h17 => ?_) (fun h17 => ?_)
  · refine r_iconst C (v := (nI 0)) dX11_size_29 rfl ?_
    exact r_iret C dX11_size_30 Rr
  · exact absurd hno h17
set_option maxHeartbeats 1000000 in
set_option maxRecDepth 100000 in
theorem n_degree (l : Launch) (g : Gd) (μ : Mm) {n : Nat} (hn6 : gI μ 6 = nI n) (h1n : 1 ≤ n) (hn10 : n ≤ 10) (f x : Int32)  (hno : ((inI f (nI 0) (nI 3)) && (inI x (nI 0) (nI (n - 1)))) = false) : Ct l yX11_degree cX11_degree 3 (some .int) (rmk 2 43) g [.ref (ad g 19), .int f, .int x] μ (some (.int (nI 0))) (mgM μ (inI f (nI 0) (nI 3)) (inI x (nI 0) (nI (n - 1)))) := by
  have h1024 := pw10 hn10
  have h2n := Nat.two_pow_pos n
  refine Ct.of (by decide) (Nat.le_of_ble_eq_true rfl) (fun z A C X Rr => ?_)
  refine r_aload_n C dX11_degree_0 0 rfl ?_
  refine r_iload_n C dX11_degree_1 1 rfl ?_
  refine r_callP C (As := [.int f]) (rest := [.ref (ad g 19)]) (st1 := [.int (bI (inI f (nI 0) (nI 3))), .ref (ad g 19)]) miX11_isPlace msX11_isPlace (c_isPlace l f) hw_5_92 rfl ⟨by decide, by decide, rfl, rfl, by decide, by decide⟩ rfl (Nat.le_of_ble_eq_true rfl) dX11_degree_2 rfl ?_
  refine r_aload_n C dX11_degree_5 0 rfl ?_
  refine r_iload_n C dX11_degree_6 2 rfl ?_
  refine r_callV C X (As := [.int x]) (rest := [.int (bI (inI f (nI 0) (nI 3))), .ref (ad g 19)]) (st1 := [.int (bI (inI x (nI 0) (nI (n - 1)))), .int (bI (inI f (nI 0) (nI 3))), .ref (ad g 19)]) (μ' := μ) (k := 19) (T := TX11) miX11_isElement mvX11_isElement (c_isElement l g μ (n := n) hn6 (by omega) x) hw_5_134 (by decide) rfl rfl rfl ⟨by decide, by decide, rfl, rfl, by decide, by decide⟩ rfl (Nat.le_of_ble_eq_true rfl) dX11_degree_7 rfl ?_
  refine r_callV C X (As := [.int (bI (inI f (nI 0) (nI 3))), .int (bI (inI x (nI 0) (nI (n - 1))))]) (rest := []) (st1 := [.int (bI ((inI f (nI 0) (nI 3)) && (inI x (nI 0) (nI (n - 1)))))]) (μ' := (mgM μ (inI f (nI 0) (nI 3)) (inI x (nI 0) (nI (n - 1))))) (k := 19) (T := TX11) miX11_mayGo mvX11_mayGo (c_mayGo l g μ (inI f (nI 0) (nI 3)) (inI x (nI 0) (nI (n - 1)))) hw_5_103 (by decide) rfl rfl rfl ⟨by decide, by decide, rfl, rfl, by decide, by decide⟩ rfl (Nat.le_of_ble_eq_true rfl) dX11_degree_10 rfl ?_
  refine r_if_eq C 25 dX11_degree_13 (by decide) (bI_eq _) (fun h13 => ?_) (fun h13 => ?_)
  · refine r_iconst C (v := (nI 0)) dX11_degree_25 rfl ?_
    exact r_iret C dX11_degree_26 Rr
  · exact absurd hno h13
set_option maxHeartbeats 1000000 in
set_option maxRecDepth 100000 in
theorem n_is (l : Launch) (g : Gd) (μ : Mm) {n : Nat} (hn6 : gI μ 6 = nI n) (h1n : 1 ≤ n) (hn10 : n ≤ 10) (f p : Int32)  (hno : ((inI f (nI 0) (nI 3)) && (inI p (nI 0) (nI 5))) = false) : Ct l yX11_is cX11_is 3 (some .boolean) (rmk 2 42) g [.ref (ad g 19), .int f, .int p] μ (some (.int (nI 0))) (mgM μ (inI f (nI 0) (nI 3)) (inI p (nI 0) (nI 5))) := by
  have h1024 := pw10 hn10
  have h2n := Nat.two_pow_pos n
  refine Ct.of (by decide) (Nat.le_of_ble_eq_true rfl) (fun z A C X Rr => ?_)
  refine r_aload_n C dX11_is_0 0 rfl ?_
  refine r_iload_n C dX11_is_1 1 rfl ?_
  refine r_callP C (As := [.int f]) (rest := [.ref (ad g 19)]) (st1 := [.int (bI (inI f (nI 0) (nI 3))), .ref (ad g 19)]) miX11_isPlace msX11_isPlace (c_isPlace l f) hw_5_92 rfl ⟨by decide, by decide, rfl, rfl, by decide, by decide⟩ rfl (Nat.le_of_ble_eq_true rfl) dX11_is_2 rfl ?_
  refine r_iload_n C dX11_is_5 2 rfl ?_
  refine r_iconst C (v := (nI 0)) dX11_is_6 rfl ?_
  refine r_iconst C (v := (nI 5)) dX11_is_7 rfl ?_
  refine r_callP C (As := [.int p, .int (nI 0), .int (nI 5)]) (rest := [.int (bI (inI f (nI 0) (nI 3))), .ref (ad g 19)]) (st1 := [.int (bI (inI p (nI 0) (nI 5))), .int (bI (inI f (nI 0) (nI 3))), .ref (ad g 19)]) miX11_in msX11_in (c_in l p (nI 0) (nI 5)) hw_5_77 rfl ⟨by decide, by decide, rfl, rfl, by decide, by decide⟩ rfl (Nat.le_of_ble_eq_true rfl) dX11_is_8 rfl ?_
  refine r_callV C X (As := [.int (bI (inI f (nI 0) (nI 3))), .int (bI (inI p (nI 0) (nI 5)))]) (rest := []) (st1 := [.int (bI ((inI f (nI 0) (nI 3)) && (inI p (nI 0) (nI 5))))]) (μ' := (mgM μ (inI f (nI 0) (nI 3)) (inI p (nI 0) (nI 5)))) (k := 19) (T := TX11) miX11_mayGo mvX11_mayGo (c_mayGo l g μ (inI f (nI 0) (nI 3)) (inI p (nI 0) (nI 5))) hw_5_103 (by decide) rfl rfl rfl ⟨by decide, by decide, rfl, rfl, by decide, by decide⟩ rfl (Nat.le_of_ble_eq_true rfl) dX11_is_11 rfl ?_
  refine r_if_eq C 30 dX11_is_14 (by decide) (bI_eq _) (fun h14 => ?_) (fun h14 => ?_)
  · refine r_iconst C (v := (nI 0)) dX11_is_30 rfl ?_
    exact r_zret C dX11_is_31 (by decide) Rr
  · exact absurd hno h14
set_option maxHeartbeats 1000000 in
set_option maxRecDepth 100000 in
theorem n_excess (l : Launch) (g : Gd) (μ : Mm) {n : Nat} (hn6 : gI μ 6 = nI n) (h1n : 1 ≤ n) (hn10 : n ≤ 10) (f lv : Int32)  (hno : ((inI f (nI 0) (nI 3)) && (inI lv (nI 1) (nI n))) = false) : Ct l yX11_excess cX11_excess 3 (some .int) (rmk 2 42) g [.ref (ad g 19), .int f, .int lv] μ (some (.int (nI 0))) (mgM μ (inI f (nI 0) (nI 3)) (inI lv (nI 1) (nI n))) := by
  have h1024 := pw10 hn10
  have h2n := Nat.two_pow_pos n
  refine Ct.of (by decide) (Nat.le_of_ble_eq_true rfl) (fun z A C X Rr => ?_)
  refine r_aload_n C dX11_excess_0 0 rfl ?_
  refine r_iload_n C dX11_excess_1 1 rfl ?_
  refine r_callP C (As := [.int f]) (rest := [.ref (ad g 19)]) (st1 := [.int (bI (inI f (nI 0) (nI 3))), .ref (ad g 19)]) miX11_isPlace msX11_isPlace (c_isPlace l f) hw_5_92 rfl ⟨by decide, by decide, rfl, rfl, by decide, by decide⟩ rfl (Nat.le_of_ble_eq_true rfl) dX11_excess_2 rfl ?_
  refine r_iload_n C dX11_excess_5 2 rfl ?_
  refine r_iconst C (v := (nI 1)) dX11_excess_6 rfl ?_
  refine r_aload_n C dX11_excess_7 0 rfl ?_
  refine r_get C X (k := 19) (R := RX11) (T := TX11) (N := 15) (n := 1) (v := .int (gI μ 6)) (by decide) rfl rfl inw11 (by decide) rfl hw_5_19 rfl dX11_excess_8 ?_
  refine G_top (y := (nI n)) hn6 ?_
  refine r_callP C (As := [.int lv, .int (nI 1), .int (nI n)]) (rest := [.int (bI (inI f (nI 0) (nI 3))), .ref (ad g 19)]) (st1 := [.int (bI (inI lv (nI 1) (nI n))), .int (bI (inI f (nI 0) (nI 3))), .ref (ad g 19)]) miX11_in msX11_in (c_in l lv (nI 1) (nI n)) hw_5_77 rfl ⟨by decide, by decide, rfl, rfl, by decide, by decide⟩ rfl (Nat.le_of_ble_eq_true rfl) dX11_excess_11 rfl ?_
  refine r_callV C X (As := [.int (bI (inI f (nI 0) (nI 3))), .int (bI (inI lv (nI 1) (nI n)))]) (rest := []) (st1 := [.int (bI ((inI f (nI 0) (nI 3)) && (inI lv (nI 1) (nI n))))]) (μ' := (mgM μ (inI f (nI 0) (nI 3)) (inI lv (nI 1) (nI n)))) (k := 19) (T := TX11) miX11_mayGo mvX11_mayGo (c_mayGo l g μ (inI f (nI 0) (nI 3)) (inI lv (nI 1) (nI n))) hw_5_103 (by decide) rfl rfl rfl ⟨by decide, by decide, rfl, rfl, by decide, by decide⟩ rfl (Nat.le_of_ble_eq_true rfl) dX11_excess_14 rfl ?_
  refine r_if_eq C 29 dX11_excess_17 (by decide) (bI_eq _) (fun h17 => ?_) (fun h17 => ?_)
  · refine r_iconst C (v := (nI 0)) dX11_excess_29 rfl ?_
    exact r_iret C dX11_excess_30 Rr
  · exact absurd hno h17
set_option maxHeartbeats 1000000 in
set_option maxRecDepth 100000 in
theorem n_pairs (l : Launch) (g : Gd) (μ : Mm) {n : Nat} (hn6 : gI μ 6 = nI n) (h1n : 1 ≤ n) (hn10 : n ≤ 10) (f k : Int32)  (hno : ((inI f (nI 0) (nI 3)) && (inI k (nI 0) (nI n))) = false) : Ct l yX11_pairs cX11_pairs 3 (some .int) (rmk 2 42) g [.ref (ad g 19), .int f, .int k] μ (some (.int (nI 0))) (mgM μ (inI f (nI 0) (nI 3)) (inI k (nI 0) (nI n))) := by
  have h1024 := pw10 hn10
  have h2n := Nat.two_pow_pos n
  refine Ct.of (by decide) (Nat.le_of_ble_eq_true rfl) (fun z A C X Rr => ?_)
  refine r_aload_n C dX11_pairs_0 0 rfl ?_
  refine r_iload_n C dX11_pairs_1 1 rfl ?_
  refine r_callP C (As := [.int f]) (rest := [.ref (ad g 19)]) (st1 := [.int (bI (inI f (nI 0) (nI 3))), .ref (ad g 19)]) miX11_isPlace msX11_isPlace (c_isPlace l f) hw_5_92 rfl ⟨by decide, by decide, rfl, rfl, by decide, by decide⟩ rfl (Nat.le_of_ble_eq_true rfl) dX11_pairs_2 rfl ?_
  refine r_iload_n C dX11_pairs_5 2 rfl ?_
  refine r_iconst C (v := (nI 0)) dX11_pairs_6 rfl ?_
  refine r_aload_n C dX11_pairs_7 0 rfl ?_
  refine r_get C X (k := 19) (R := RX11) (T := TX11) (N := 15) (n := 1) (v := .int (gI μ 6)) (by decide) rfl rfl inw11 (by decide) rfl hw_5_19 rfl dX11_pairs_8 ?_
  refine G_top (y := (nI n)) hn6 ?_
  refine r_callP C (As := [.int k, .int (nI 0), .int (nI n)]) (rest := [.int (bI (inI f (nI 0) (nI 3))), .ref (ad g 19)]) (st1 := [.int (bI (inI k (nI 0) (nI n))), .int (bI (inI f (nI 0) (nI 3))), .ref (ad g 19)]) miX11_in msX11_in (c_in l k (nI 0) (nI n)) hw_5_77 rfl ⟨by decide, by decide, rfl, rfl, by decide, by decide⟩ rfl (Nat.le_of_ble_eq_true rfl) dX11_pairs_11 rfl ?_
  refine r_callV C X (As := [.int (bI (inI f (nI 0) (nI 3))), .int (bI (inI k (nI 0) (nI n)))]) (rest := []) (st1 := [.int (bI ((inI f (nI 0) (nI 3)) && (inI k (nI 0) (nI n))))]) (μ' := (mgM μ (inI f (nI 0) (nI 3)) (inI k (nI 0) (nI n)))) (k := 19) (T := TX11) miX11_mayGo mvX11_mayGo (c_mayGo l g μ (inI f (nI 0) (nI 3)) (inI k (nI 0) (nI n))) hw_5_103 (by decide) rfl rfl rfl ⟨by decide, by decide, rfl, rfl, by decide, by decide⟩ rfl (Nat.le_of_ble_eq_true rfl) dX11_pairs_14 rfl ?_
  refine r_if_ne C 22 dX11_pairs_17 (by decide) (bI_ne _) (fun h17 => ?_) (fun h17 => ?_)
  · exact absurd h17 (ts_f hno)
  · refine r_iconst C (v := (nI 0)) dX11_pairs_20 rfl ?_
    exact r_iret C dX11_pairs_21 Rr
set_option maxHeartbeats 1000000 in
set_option maxRecDepth 100000 in
theorem n_sunflower (l : Launch) (g : Gd) (μ : Mm) {n : Nat} (hn6 : gI μ 6 = nI n) (h1n : 1 ≤ n) (hn10 : n ≤ 10) (f : Int32)  (hno : ((inI f (nI 0) (nI 3)) && true) = false) : Ct l yX11_sunflower cX11_sunflower 2 (some .int) (rmk 2 42) g [.ref (ad g 19), .int f] μ (some (.int (nI 0))) (mgM μ (inI f (nI 0) (nI 3)) true) := by
  have h1024 := pw10 hn10
  have h2n := Nat.two_pow_pos n
  refine Ct.of (by decide) (Nat.le_of_ble_eq_true rfl) (fun z A C X Rr => ?_)
  refine r_aload_n C dX11_sunflower_0 0 rfl ?_
  refine r_iload_n C dX11_sunflower_1 1 rfl ?_
  refine r_callP C (As := [.int f]) (rest := [.ref (ad g 19)]) (st1 := [.int (bI (inI f (nI 0) (nI 3))), .ref (ad g 19)]) miX11_isPlace msX11_isPlace (c_isPlace l f) hw_5_92 rfl ⟨by decide, by decide, rfl, rfl, by decide, by decide⟩ rfl (Nat.le_of_ble_eq_true rfl) dX11_sunflower_2 rfl ?_
  refine r_iconst C (v := (nI 1)) dX11_sunflower_5 rfl ?_
  refine G_top (y := (bI true)) rfl ?_
  refine r_callV C X (As := [.int (bI (inI f (nI 0) (nI 3))), .int (bI true)]) (rest := []) (st1 := [.int (bI ((inI f (nI 0) (nI 3)) && true))]) (μ' := (mgM μ (inI f (nI 0) (nI 3)) true)) (k := 19) (T := TX11) miX11_mayGo mvX11_mayGo (c_mayGo l g μ (inI f (nI 0) (nI 3)) true) hw_5_103 (by decide) rfl rfl rfl ⟨by decide, by decide, rfl, rfl, by decide, by decide⟩ rfl (Nat.le_of_ble_eq_true rfl) dX11_sunflower_6 rfl ?_
  refine r_if_eq C 20 dX11_sunflower_9 (by decide) (bI_eq _) (fun h9 => ?_) (fun h9 => ?_)
  · refine r_iconst C (v := (nI 0)) dX11_sunflower_20 rfl ?_
    exact r_iret C dX11_sunflower_21 Rr
  · exact absurd hno h9
set_option maxHeartbeats 1000000 in
set_option maxRecDepth 100000 in
theorem n_shattered (l : Launch) (g : Gd) (μ : Mm) {n : Nat} (hn6 : gI μ 6 = nI n) (h1n : 1 ≤ n) (hn10 : n ≤ 10) (f : Int32)  (hno : ((inI f (nI 0) (nI 3)) && true) = false) : Ct l yX11_shattered cX11_shattered 2 (some .int) (rmk 2 42) g [.ref (ad g 19), .int f] μ (some (.int (nI 0))) (mgM μ (inI f (nI 0) (nI 3)) true) := by
  have h1024 := pw10 hn10
  have h2n := Nat.two_pow_pos n
  refine Ct.of (by decide) (Nat.le_of_ble_eq_true rfl) (fun z A C X Rr => ?_)
  refine r_aload_n C dX11_shattered_0 0 rfl ?_
  refine r_iload_n C dX11_shattered_1 1 rfl ?_
  refine r_callP C (As := [.int f]) (rest := [.ref (ad g 19)]) (st1 := [.int (bI (inI f (nI 0) (nI 3))), .ref (ad g 19)]) miX11_isPlace msX11_isPlace (c_isPlace l f) hw_5_92 rfl ⟨by decide, by decide, rfl, rfl, by decide, by decide⟩ rfl (Nat.le_of_ble_eq_true rfl) dX11_shattered_2 rfl ?_
  refine r_iconst C (v := (nI 1)) dX11_shattered_5 rfl ?_
  refine G_top (y := (bI true)) rfl ?_
  refine r_callV C X (As := [.int (bI (inI f (nI 0) (nI 3))), .int (bI true)]) (rest := []) (st1 := [.int (bI ((inI f (nI 0) (nI 3)) && true))]) (μ' := (mgM μ (inI f (nI 0) (nI 3)) true)) (k := 19) (T := TX11) miX11_mayGo mvX11_mayGo (c_mayGo l g μ (inI f (nI 0) (nI 3)) true) hw_5_103 (by decide) rfl rfl rfl ⟨by decide, by decide, rfl, rfl, by decide, by decide⟩ rfl (Nat.le_of_ble_eq_true rfl) dX11_shattered_6 rfl ?_
  refine r_if_eq C 20 dX11_shattered_9 (by decide) (bI_eq _) (fun h9 => ?_) (fun h9 => ?_)
  · refine r_iconst C (v := (nI 0)) dX11_shattered_20 rfl ?_
    exact r_iret C dX11_shattered_21 Rr
  · exact absurd hno h9
set_option maxHeartbeats 1000000 in
set_option maxRecDepth 100000 in
theorem n_dimension (l : Launch) (g : Gd) (μ : Mm) {n : Nat} (hn6 : gI μ 6 = nI n) (h1n : 1 ≤ n) (hn10 : n ≤ 10) (f : Int32)  (hno : ((inI f (nI 0) (nI 3)) && true) = false) : Ct l yX11_dimension cX11_dimension 3 (some .int) (rmk 2 42) g [.ref (ad g 19), .int f] μ (some (.int (nI 0))) (mgM μ (inI f (nI 0) (nI 3)) true) := by
  have h1024 := pw10 hn10
  have h2n := Nat.two_pow_pos n
  refine Ct.of (by decide) (Nat.le_of_ble_eq_true rfl) (fun z A C X Rr => ?_)
  refine r_aload_n C dX11_dimension_0 0 rfl ?_
  refine r_iload_n C dX11_dimension_1 1 rfl ?_
  refine r_callP C (As := [.int f]) (rest := [.ref (ad g 19)]) (st1 := [.int (bI (inI f (nI 0) (nI 3))), .ref (ad g 19)]) miX11_isPlace msX11_isPlace (c_isPlace l f) hw_5_92 rfl ⟨by decide, by decide, rfl, rfl, by decide, by decide⟩ rfl (Nat.le_of_ble_eq_true rfl) dX11_dimension_2 rfl ?_
  refine r_iconst C (v := (nI 1)) dX11_dimension_5 rfl ?_
  refine G_top (y := (bI true)) rfl ?_
  refine r_callV C X (As := [.int (bI (inI f (nI 0) (nI 3))), .int (bI true)]) (rest := []) (st1 := [.int (bI ((inI f (nI 0) (nI 3)) && true))]) (μ' := (mgM μ (inI f (nI 0) (nI 3)) true)) (k := 19) (T := TX11) miX11_mayGo mvX11_mayGo (c_mayGo l g μ (inI f (nI 0) (nI 3)) true) hw_5_103 (by decide) rfl rfl rfl ⟨by decide, by decide, rfl, rfl, by decide, by decide⟩ rfl (Nat.le_of_ble_eq_true rfl) dX11_dimension_6 rfl ?_
  refine r_if_ne C 14 dX11_dimension_9 (by decide) (bI_ne _) (fun h9 => ?_) (fun h9 => ?_)
  · exact absurd h9 (ts_f hno)
  · refine r_iconst C (v := (nI 0)) dX11_dimension_12 rfl ?_
    exact r_iret C dX11_dimension_13 Rr
set_option maxHeartbeats 1000000 in
set_option maxRecDepth 100000 in
theorem n_shift (l : Launch) (g : Gd) (μ : Mm) {n : Nat} (hn6 : gI μ 6 = nI n) (h1n : 1 ≤ n) (hn10 : n ≤ 10) (f : Int32)  (hno : ((inI f (nI 0) (nI 3)) && true) = false) : Ct l yX11_shift cX11_shift 7 (some .int) (rmk 2 42) g [.ref (ad g 19), .int f] μ (some (.int (nI 0))) (mgM μ (inI f (nI 0) (nI 3)) true) := by
  have h1024 := pw10 hn10
  have h2n := Nat.two_pow_pos n
  refine Ct.of (by decide) (Nat.le_of_ble_eq_true rfl) (fun z A C X Rr => ?_)
  refine r_aload_n C dX11_shift_0 0 rfl ?_
  refine r_iload_n C dX11_shift_1 1 rfl ?_
  refine r_callP C (As := [.int f]) (rest := [.ref (ad g 19)]) (st1 := [.int (bI (inI f (nI 0) (nI 3))), .ref (ad g 19)]) miX11_isPlace msX11_isPlace (c_isPlace l f) hw_5_92 rfl ⟨by decide, by decide, rfl, rfl, by decide, by decide⟩ rfl (Nat.le_of_ble_eq_true rfl) dX11_shift_2 rfl ?_
  refine r_iconst C (v := (nI 1)) dX11_shift_5 rfl ?_
  refine G_top (y := (bI true)) rfl ?_
  refine r_callV C X (As := [.int (bI (inI f (nI 0) (nI 3))), .int (bI true)]) (rest := []) (st1 := [.int (bI ((inI f (nI 0) (nI 3)) && true))]) (μ' := (mgM μ (inI f (nI 0) (nI 3)) true)) (k := 19) (T := TX11) miX11_mayGo mvX11_mayGo (c_mayGo l g μ (inI f (nI 0) (nI 3)) true) hw_5_103 (by decide) rfl rfl rfl ⟨by decide, by decide, rfl, rfl, by decide, by decide⟩ rfl (Nat.le_of_ble_eq_true rfl) dX11_shift_6 rfl ?_
  refine r_if_ne C 14 dX11_shift_9 (by decide) (bI_ne _) (fun h9 => ?_) (fun h9 => ?_)
  · exact absurd h9 (ts_f hno)
  · refine r_iconst C (v := (nI 0)) dX11_shift_12 rfl ?_
    exact r_iret C dX11_shift_13 Rr
set_option maxHeartbeats 1000000 in
set_option maxRecDepth 100000 in
theorem n_read (l : Launch) (g : Gd) (μ : Mm) {n : Nat} (hn6 : gI μ 6 = nI n) (h1n : 1 ≤ n) (hn10 : n ≤ 10) (f : Int32)  (hno : ((inI f (nI 0) (nI 3)) && true) = false) : Ct l yX11_read cX11_read 6 (some .int) (rmk 2 42) g [.ref (ad g 19), .int f] μ (some (.int (nI 0))) (mgM μ (inI f (nI 0) (nI 3)) true) := by
  have h1024 := pw10 hn10
  have h2n := Nat.two_pow_pos n
  refine Ct.of (by decide) (Nat.le_of_ble_eq_true rfl) (fun z A C X Rr => ?_)
  refine r_aload_n C dX11_read_0 0 rfl ?_
  refine r_iload_n C dX11_read_1 1 rfl ?_
  refine r_callP C (As := [.int f]) (rest := [.ref (ad g 19)]) (st1 := [.int (bI (inI f (nI 0) (nI 3))), .ref (ad g 19)]) miX11_isPlace msX11_isPlace (c_isPlace l f) hw_5_92 rfl ⟨by decide, by decide, rfl, rfl, by decide, by decide⟩ rfl (Nat.le_of_ble_eq_true rfl) dX11_read_2 rfl ?_
  refine r_iconst C (v := (nI 1)) dX11_read_5 rfl ?_
  refine G_top (y := (bI true)) rfl ?_
  refine r_callV C X (As := [.int (bI (inI f (nI 0) (nI 3))), .int (bI true)]) (rest := []) (st1 := [.int (bI ((inI f (nI 0) (nI 3)) && true))]) (μ' := (mgM μ (inI f (nI 0) (nI 3)) true)) (k := 19) (T := TX11) miX11_mayGo mvX11_mayGo (c_mayGo l g μ (inI f (nI 0) (nI 3)) true) hw_5_103 (by decide) rfl rfl rfl ⟨by decide, by decide, rfl, rfl, by decide, by decide⟩ rfl (Nat.le_of_ble_eq_true rfl) dX11_read_6 rfl ?_
  refine r_if_ne C 14 dX11_read_9 (by decide) (bI_ne _) (fun h9 => ?_) (fun h9 => ?_)
  · exact absurd h9 (ts_f hno)
  · refine r_iconst C (v := (nI 0)) dX11_read_12 rfl ?_
    exact r_iret C dX11_read_13 Rr
set_option maxHeartbeats 1000000 in
set_option maxRecDepth 100000 in
theorem n_weight (l : Launch) (g : Gd) (μ : Mm) {n : Nat} (hn6 : gI μ 6 = nI n) (h1n : 1 ≤ n) (hn10 : n ≤ 10) (f : Int32) (d : Bool) (hno : ((inI f (nI 0) (nI 3)) && true) = false) : Ct l yX11_weight cX11_weight 3 (some .long) (rmk 2 42) g [.ref (ad g 19), .int f, .int (bI d)] μ (some (.long (lN 0))) (mgM μ (inI f (nI 0) (nI 3)) true) := by
  have h1024 := pw10 hn10
  have h2n := Nat.two_pow_pos n
  refine Ct.of (by decide) (Nat.le_of_ble_eq_true rfl) (fun z A C X Rr => ?_)
  refine r_aload_n C dX11_weight_0 0 rfl ?_
  refine r_iload_n C dX11_weight_1 1 rfl ?_
  refine r_callP C (As := [.int f]) (rest := [.ref (ad g 19)]) (st1 := [.int (bI (inI f (nI 0) (nI 3))), .ref (ad g 19)]) miX11_isPlace msX11_isPlace (c_isPlace l f) hw_5_92 rfl ⟨by decide, by decide, rfl, rfl, by decide, by decide⟩ rfl (Nat.le_of_ble_eq_true rfl) dX11_weight_2 rfl ?_
  refine r_iconst C (v := (nI 1)) dX11_weight_5 rfl ?_
  refine G_top (y := (bI true)) rfl ?_
  refine r_callV C X (As := [.int (bI (inI f (nI 0) (nI 3))), .int (bI true)]) (rest := []) (st1 := [.int (bI ((inI f (nI 0) (nI 3)) && true))]) (μ' := (mgM μ (inI f (nI 0) (nI 3)) true)) (k := 19) (T := TX11) miX11_mayGo mvX11_mayGo (c_mayGo l g μ (inI f (nI 0) (nI 3)) true) hw_5_103 (by decide) rfl rfl rfl ⟨by decide, by decide, rfl, rfl, by decide, by decide⟩ rfl (Nat.le_of_ble_eq_true rfl) dX11_weight_6 rfl ?_
  refine r_if_ne C 14 dX11_weight_9 (by decide) (bI_ne _) (fun h9 => ?_) (fun h9 => ?_)
  · exact absurd h9 (ts_f hno)
  · refine r_lconst C (v := (lN 0)) dX11_weight_12 rfl ?_
    exact r_lret C dX11_weight_13 Rr
set_option maxHeartbeats 1000000 in
set_option maxRecDepth 100000 in
theorem n_changes (l : Launch) (g : Gd) (μ : Mm) {n : Nat} (hn6 : gI μ 6 = nI n) (h1n : 1 ≤ n) (hn10 : n ≤ 10) (f s : Int32) (to : Bool) (hno : ((inI f (nI 0) (nI 3)) && (inI s (nI 0) (nI (2 ^ n - 1)))) = false) : Ct l yX11_changes cX11_changes 5 (some .boolean) (rmk 2 43) g [.ref (ad g 19), .int f, .int s, .int (bI to)] μ (some (.int (nI 0))) (mgM μ (inI f (nI 0) (nI 3)) (inI s (nI 0) (nI (2 ^ n - 1)))) := by
  have h1024 := pw10 hn10
  have h2n := Nat.two_pow_pos n
  refine Ct.of (by decide) (Nat.le_of_ble_eq_true rfl) (fun z A C X Rr => ?_)
  refine r_aload_n C dX11_changes_0 0 rfl ?_
  refine r_iload_n C dX11_changes_1 1 rfl ?_
  refine r_callP C (As := [.int f]) (rest := [.ref (ad g 19)]) (st1 := [.int (bI (inI f (nI 0) (nI 3))), .ref (ad g 19)]) miX11_isPlace msX11_isPlace (c_isPlace l f) hw_5_92 rfl ⟨by decide, by decide, rfl, rfl, by decide, by decide⟩ rfl (Nat.le_of_ble_eq_true rfl) dX11_changes_2 rfl ?_
  refine r_aload_n C dX11_changes_5 0 rfl ?_
  refine r_iload_n C dX11_changes_6 2 rfl ?_
  refine r_callV C X (As := [.int s]) (rest := [.int (bI (inI f (nI 0) (nI 3))), .ref (ad g 19)]) (st1 := [.int (bI (inI s (nI 0) (nI (2 ^ n - 1)))), .int (bI (inI f (nI 0) (nI 3))), .ref (ad g 19)]) (μ' := μ) (k := 19) (T := TX11) miX11_isCode mvX11_isCode (c_isCode l g μ (n := n) hn6 (by omega) s) hw_5_95 (by decide) rfl rfl rfl ⟨by decide, by decide, rfl, rfl, by decide, by decide⟩ rfl (Nat.le_of_ble_eq_true rfl) dX11_changes_7 rfl ?_
  refine r_callV C X (As := [.int (bI (inI f (nI 0) (nI 3))), .int (bI (inI s (nI 0) (nI (2 ^ n - 1))))]) (rest := []) (st1 := [.int (bI ((inI f (nI 0) (nI 3)) && (inI s (nI 0) (nI (2 ^ n - 1)))))]) (μ' := (mgM μ (inI f (nI 0) (nI 3)) (inI s (nI 0) (nI (2 ^ n - 1))))) (k := 19) (T := TX11) miX11_mayGo mvX11_mayGo (c_mayGo l g μ (inI f (nI 0) (nI 3)) (inI s (nI 0) (nI (2 ^ n - 1)))) hw_5_103 (by decide) rfl rfl rfl ⟨by decide, by decide, rfl, rfl, by decide, by decide⟩ rfl (Nat.le_of_ble_eq_true rfl) dX11_changes_10 rfl ?_
  refine r_if_ne C 18 dX11_changes_13 (by decide) (bI_ne _) (fun h13 => ?_) (fun h13 => ?_)
  · exact absurd h13 (ts_f hno)
  · refine r_iconst C (v := (nI 0)) dX11_changes_16 rfl ?_
    exact r_zret C dX11_changes_17 (by decide) Rr
set_option maxHeartbeats 1000000 in
set_option maxRecDepth 100000 in
theorem n_add (l : Launch) (g : Gd) (μ : Mm) {n : Nat} (hn6 : gI μ 6 = nI n) (h1n : 1 ≤ n) (hn10 : n ≤ 10) (f s : Int32) (hno : (inI f (nI 0) (nI 3) && inI s (nI 0) (nI (2 ^ n - 1))) = false) : Ct l yX11_add cX11_add 3 (some .boolean) (rmk 3 67) g [.ref (ad g 19), .int f, .int s] μ (some (.int (nI 0))) (mgM μ (inI f (nI 0) (nI 3)) (inI s (nI 0) (nI (2 ^ n - 1)))) := by
  refine Ct.of (by decide) (Nat.le_of_ble_eq_true rfl) (fun z A C X Rr => ?_)
  refine r_aload_n C dX11_add_0 0 rfl ?_
  refine r_iload_n C dX11_add_1 1 rfl ?_
  refine r_iload_n C dX11_add_2 2 rfl ?_
  refine r_iconst C (v := (nI 1)) dX11_add_3 rfl ?_
  refine G_top (y := (bI true)) rfl ?_
  refine r_callV C X (As := [.int f, .int s, .int (bI true)]) (rest := []) (st1 := [.int (nI 0)]) (μ' := (mgM μ (inI f (nI 0) (nI 3)) (inI s (nI 0) (nI (2 ^ n - 1))))) (k := 19) (T := TX11) miX11_changes mvX11_changes (n_changes l g μ hn6 h1n hn10 f s true hno) hw_5_88 (by decide) rfl rfl rfl ⟨by decide, by decide, rfl, rfl, by decide, by decide⟩ rfl (Nat.le_of_ble_eq_true rfl) dX11_add_4 rfl ?_
  exact r_zret C dX11_add_7 (by decide) Rr
set_option maxHeartbeats 1000000 in
set_option maxRecDepth 100000 in
theorem n_remove (l : Launch) (g : Gd) (μ : Mm) {n : Nat} (hn6 : gI μ 6 = nI n) (h1n : 1 ≤ n) (hn10 : n ≤ 10) (f s : Int32) (hno : (inI f (nI 0) (nI 3) && inI s (nI 0) (nI (2 ^ n - 1))) = false) : Ct l yX11_remove cX11_remove 3 (some .boolean) (rmk 3 67) g [.ref (ad g 19), .int f, .int s] μ (some (.int (nI 0))) (mgM μ (inI f (nI 0) (nI 3)) (inI s (nI 0) (nI (2 ^ n - 1)))) := by
  refine Ct.of (by decide) (Nat.le_of_ble_eq_true rfl) (fun z A C X Rr => ?_)
  refine r_aload_n C dX11_remove_0 0 rfl ?_
  refine r_iload_n C dX11_remove_1 1 rfl ?_
  refine r_iload_n C dX11_remove_2 2 rfl ?_
  refine r_iconst C (v := (nI 0)) dX11_remove_3 rfl ?_
  refine G_top (y := (bI false)) rfl ?_
  refine r_callV C X (As := [.int f, .int s, .int (bI false)]) (rest := []) (st1 := [.int (nI 0)]) (μ' := (mgM μ (inI f (nI 0) (nI 3)) (inI s (nI 0) (nI (2 ^ n - 1))))) (k := 19) (T := TX11) miX11_changes mvX11_changes (n_changes l g μ hn6 h1n hn10 f s false hno) hw_5_88 (by decide) rfl rfl rfl ⟨by decide, by decide, rfl, rfl, by decide, by decide⟩ rfl (Nat.le_of_ble_eq_true rfl) dX11_remove_4 rfl ?_
  exact r_zret C dX11_remove_7 (by decide) Rr
set_option maxHeartbeats 1000000 in
set_option maxRecDepth 100000 in
theorem n_get (l : Launch) (g : Gd) (μ : Mm) {n : Nat} (hn6 : gI μ 6 = nI n) (h1n : 1 ≤ n) (hn10 : n ≤ 10) (f ix : Int32)  (hno : ((inI f (nI 0) (nI 3)) && (decide (0 ≤ ix))) = false) : Ct l yX11_get cX11_get 5 (some .int) (rmk 2 42) g [.ref (ad g 19), .int f, .int ix] μ (some (.int (nI 0))) (mgM μ (inI f (nI 0) (nI 3)) (decide (0 ≤ ix))) := by
  have h1024 := pw10 hn10
  have h2n := Nat.two_pow_pos n
  refine Ct.of (by decide) (Nat.le_of_ble_eq_true rfl) (fun z A C X Rr => ?_)
  refine r_aload_n C dX11_get_0 0 rfl ?_
  refine r_iload_n C dX11_get_1 1 rfl ?_
  refine r_callP C (As := [.int f]) (rest := [.ref (ad g 19)]) (st1 := [.int (bI (inI f (nI 0) (nI 3))), .ref (ad g 19)]) miX11_isPlace msX11_isPlace (c_isPlace l f) hw_5_92 rfl ⟨by decide, by decide, rfl, rfl, by decide, by decide⟩ rfl (Nat.le_of_ble_eq_true rfl) dX11_get_2 rfl ?_
  refine r_iload_n C dX11_get_5 2 rfl ?_
  refine r_if_lt C 13 dX11_get_6 (by decide) Iff.rfl (fun h6 => ?_) (fun h6 => ?_)
  · refine r_iconst C (v := (nI 0)) dX11_get_13 rfl ?_
    refine G_top (y := (bI (decide (0 ≤ ix)))) (bd0 (Int32.not_le.mpr h6)) ?_
    refine r_callV C X (As := [.int (bI (inI f (nI 0) (nI 3))), .int (bI (decide (0 ≤ ix)))]) (rest := []) (st1 := [.int (bI ((inI f (nI 0) (nI 3)) && (decide (0 ≤ ix))))]) (μ' := (mgM μ (inI f (nI 0) (nI 3)) (decide (0 ≤ ix)))) (k := 19) (T := TX11) miX11_mayGo mvX11_mayGo (c_mayGo l g μ (inI f (nI 0) (nI 3)) (decide (0 ≤ ix))) hw_5_103 (by decide) rfl rfl rfl ⟨by decide, by decide, rfl, rfl, by decide, by decide⟩ rfl (Nat.le_of_ble_eq_true rfl) dX11_get_14 rfl ?_
    refine r_if_ne C 22 dX11_get_17 (by decide) (bI_ne _) (fun h17 => ?_) (fun h17 => ?_)
    · exact absurd h17 (ts_f hno)
    · refine r_iconst C (v := (nI 0)) dX11_get_20 rfl ?_
      exact r_iret C dX11_get_21 Rr
  · refine r_iconst C (v := (nI 1)) dX11_get_9 rfl ?_
    refine r_goto C 14 dX11_get_10 (by decide) ?_
    refine G_top (y := (bI (decide (0 ≤ ix)))) (bd1 (Int32.not_lt.mp h6)) ?_
    refine r_callV C X (As := [.int (bI (inI f (nI 0) (nI 3))), .int (bI (decide (0 ≤ ix)))]) (rest := []) (st1 := [.int (bI ((inI f (nI 0) (nI 3)) && (decide (0 ≤ ix))))]) (μ' := (mgM μ (inI f (nI 0) (nI 3)) (decide (0 ≤ ix)))) (k := 19) (T := TX11) miX11_mayGo mvX11_mayGo (c_mayGo l g μ (inI f (nI 0) (nI 3)) (decide (0 ≤ ix))) hw_5_103 (by decide) rfl rfl rfl ⟨by decide, by decide, rfl, rfl, by decide, by decide⟩ rfl (Nat.le_of_ble_eq_true rfl) dX11_get_14 rfl ?_
    refine r_if_ne C 22 dX11_get_17 (by decide) (bI_ne _) (fun h17 => ?_) (fun h17 => ?_)
    · exact absurd h17 (ts_f hno)
    · refine r_iconst C (v := (nI 0)) dX11_get_20 rfl ?_
      exact r_iret C dX11_get_21 Rr
set_option maxHeartbeats 1000000 in
set_option maxRecDepth 100000 in
theorem n_crossing (l : Launch) (g : Gd) (μ : Mm) {n : Nat} (hn6 : gI μ 6 = nI n) (h1n : 1 ≤ n) (hn10 : n ≤ 10) (a b : Int32)  (hno : ((inI a (nI 0) (nI 3) && inI b (nI 0) (nI 3)) && true) = false) : Ct l yX11_crossing cX11_crossing 3 (some .int) (rmk 2 42) g [.ref (ad g 19), .int a, .int b] μ (some (.int (nI 0))) (mgM μ (inI a (nI 0) (nI 3) && inI b (nI 0) (nI 3)) true) := by
  have h1024 := pw10 hn10
  have h2n := Nat.two_pow_pos n
  refine Ct.of (by decide) (Nat.le_of_ble_eq_true rfl) (fun z A C X Rr => ?_)
  refine r_aload_n C dX11_crossing_0 0 rfl ?_
  refine r_iload_n C dX11_crossing_1 1 rfl ?_
  refine r_callP C (As := [.int a]) (rest := [.ref (ad g 19)]) (st1 := [.int (bI (inI a (nI 0) (nI 3))), .ref (ad g 19)]) miX11_isPlace msX11_isPlace (c_isPlace l a) hw_5_92 rfl ⟨by decide, by decide, rfl, rfl, by decide, by decide⟩ rfl (Nat.le_of_ble_eq_true rfl) dX11_crossing_2 rfl ?_
  refine r_if_eq C 19 dX11_crossing_5 (by decide) (bI_eq _) (fun h5 => ?_) (fun h5 => ?_)
  · refine r_iconst C (v := (nI 0)) dX11_crossing_19 rfl ?_
    refine G_top (y := (bI (inI a (nI 0) (nI 3) && inI b (nI 0) (nI 3)))) (b0 (by rw [h5]; rfl)) ?_
    refine r_iconst C (v := (nI 1)) dX11_crossing_20 rfl ?_
    refine G_top (y := (bI true)) rfl ?_
    refine r_callV C X (As := [.int (bI (inI a (nI 0) (nI 3) && inI b (nI 0) (nI 3))), .int (bI true)]) (rest := []) (st1 := [.int (bI ((inI a (nI 0) (nI 3) && inI b (nI 0) (nI 3)) && true))]) (μ' := (mgM μ (inI a (nI 0) (nI 3) && inI b (nI 0) (nI 3)) true)) (k := 19) (T := TX11) miX11_mayGo mvX11_mayGo (c_mayGo l g μ (inI a (nI 0) (nI 3) && inI b (nI 0) (nI 3)) true) hw_5_103 (by decide) rfl rfl rfl ⟨by decide, by decide, rfl, rfl, by decide, by decide⟩ rfl (Nat.le_of_ble_eq_true rfl) dX11_crossing_21 rfl ?_
    refine r_if_eq C 36 dX11_crossing_24 (by decide) (bI_eq _) (fun h24 => ?_) (fun h24 => ?_)
    · refine r_iconst C (v := (nI 0)) dX11_crossing_36 rfl ?_
      exact r_iret C dX11_crossing_37 Rr
    · exact absurd hno h24
  · refine r_iload_n C dX11_crossing_8 2 rfl ?_
    refine r_callP C (As := [.int b]) (rest := [.ref (ad g 19)]) (st1 := [.int (bI (inI b (nI 0) (nI 3))), .ref (ad g 19)]) miX11_isPlace msX11_isPlace (c_isPlace l b) hw_5_92 rfl ⟨by decide, by decide, rfl, rfl, by decide, by decide⟩ rfl (Nat.le_of_ble_eq_true rfl) dX11_crossing_9 rfl ?_
    refine r_if_eq C 19 dX11_crossing_12 (by decide) (bI_eq _) (fun h12 => ?_) (fun h12 => ?_)
    · refine r_iconst C (v := (nI 0)) dX11_crossing_19 rfl ?_
      refine G_top (y := (bI (inI a (nI 0) (nI 3) && inI b (nI 0) (nI 3)))) (b0 (by rw [h12, Bool.and_false])) ?_
      refine r_iconst C (v := (nI 1)) dX11_crossing_20 rfl ?_
      refine G_top (y := (bI true)) rfl ?_
      refine r_callV C X (As := [.int (bI (inI a (nI 0) (nI 3) && inI b (nI 0) (nI 3))), .int (bI true)]) (rest := []) (st1 := [.int (bI ((inI a (nI 0) (nI 3) && inI b (nI 0) (nI 3)) && true))]) (μ' := (mgM μ (inI a (nI 0) (nI 3) && inI b (nI 0) (nI 3)) true)) (k := 19) (T := TX11) miX11_mayGo mvX11_mayGo (c_mayGo l g μ (inI a (nI 0) (nI 3) && inI b (nI 0) (nI 3)) true) hw_5_103 (by decide) rfl rfl rfl ⟨by decide, by decide, rfl, rfl, by decide, by decide⟩ rfl (Nat.le_of_ble_eq_true rfl) dX11_crossing_21 rfl ?_
      refine r_if_eq C 36 dX11_crossing_24 (by decide) (bI_eq _) (fun h24 => ?_) (fun h24 => ?_)
      · refine r_iconst C (v := (nI 0)) dX11_crossing_36 rfl ?_
        exact r_iret C dX11_crossing_37 Rr
      · exact absurd hno h24
    · refine r_iconst C (v := (nI 1)) dX11_crossing_15 rfl ?_
      refine r_goto C 20 dX11_crossing_16 (by decide) ?_
      refine G_top (y := (bI (inI a (nI 0) (nI 3) && inI b (nI 0) (nI 3)))) (b1 (by rw [ts_t h5, ts_t h12]; rfl)) ?_
      refine r_iconst C (v := (nI 1)) dX11_crossing_20 rfl ?_
      refine G_top (y := (bI true)) rfl ?_
      refine r_callV C X (As := [.int (bI (inI a (nI 0) (nI 3) && inI b (nI 0) (nI 3))), .int (bI true)]) (rest := []) (st1 := [.int (bI ((inI a (nI 0) (nI 3) && inI b (nI 0) (nI 3)) && true))]) (μ' := (mgM μ (inI a (nI 0) (nI 3) && inI b (nI 0) (nI 3)) true)) (k := 19) (T := TX11) miX11_mayGo mvX11_mayGo (c_mayGo l g μ (inI a (nI 0) (nI 3) && inI b (nI 0) (nI 3)) true) hw_5_103 (by decide) rfl rfl rfl ⟨by decide, by decide, rfl, rfl, by decide, by decide⟩ rfl (Nat.le_of_ble_eq_true rfl) dX11_crossing_21 rfl ?_
      refine r_if_eq C 36 dX11_crossing_24 (by decide) (bI_eq _) (fun h24 => ?_) (fun h24 => ?_)
      · refine r_iconst C (v := (nI 0)) dX11_crossing_36 rfl ?_
        exact r_iret C dX11_crossing_37 Rr
      · exact absurd hno h24
set_option maxHeartbeats 1000000 in
set_option maxRecDepth 100000 in
theorem n_derive (l : Launch) (g : Gd) (μ : Mm) {n : Nat} (hn6 : gI μ 6 = nI n) (h1n : 1 ≤ n) (hn10 : n ≤ 10) (q p f : Int32)  (hno : ((inI q (nI 0) (nI 3) && inI f (nI 0) (nI 3)) && (inI p (nI 0) (nI 9))) = false) : Ct l yX11_derive cX11_derive 5 (some .int) (rmk 2 42) g [.ref (ad g 19), .int q, .int p, .int f] μ (some (.int (nI 0))) (mgM μ (inI q (nI 0) (nI 3) && inI f (nI 0) (nI 3)) (inI p (nI 0) (nI 9))) := by
  have h1024 := pw10 hn10
  have h2n := Nat.two_pow_pos n
  refine Ct.of (by decide) (Nat.le_of_ble_eq_true rfl) (fun z A C X Rr => ?_)
  refine r_aload_n C dX11_derive_0 0 rfl ?_
  refine r_iload_n C dX11_derive_1 1 rfl ?_
  refine r_callP C (As := [.int q]) (rest := [.ref (ad g 19)]) (st1 := [.int (bI (inI q (nI 0) (nI 3))), .ref (ad g 19)]) miX11_isPlace msX11_isPlace (c_isPlace l q) hw_5_92 rfl ⟨by decide, by decide, rfl, rfl, by decide, by decide⟩ rfl (Nat.le_of_ble_eq_true rfl) dX11_derive_2 rfl ?_
  refine r_if_eq C 19 dX11_derive_5 (by decide) (bI_eq _) (fun h5 => ?_) (fun h5 => ?_)
  · refine r_iconst C (v := (nI 0)) dX11_derive_19 rfl ?_
    refine G_top (y := (bI (inI q (nI 0) (nI 3) && inI f (nI 0) (nI 3)))) (b0 (by rw [h5]; rfl)) ?_
    refine r_iload_n C dX11_derive_20 2 rfl ?_
    refine r_iconst C (v := (nI 0)) dX11_derive_21 rfl ?_
    refine r_bipush C (v := (nI 9)) dX11_derive_22 (by decide) ?_
    refine r_callP C (As := [.int p, .int (nI 0), .int (nI 9)]) (rest := [.int (bI (inI q (nI 0) (nI 3) && inI f (nI 0) (nI 3))), .ref (ad g 19)]) (st1 := [.int (bI (inI p (nI 0) (nI 9))), .int (bI (inI q (nI 0) (nI 3) && inI f (nI 0) (nI 3))), .ref (ad g 19)]) miX11_in msX11_in (c_in l p (nI 0) (nI 9)) hw_5_77 rfl ⟨by decide, by decide, rfl, rfl, by decide, by decide⟩ rfl (Nat.le_of_ble_eq_true rfl) dX11_derive_24 rfl ?_
    refine r_callV C X (As := [.int (bI (inI q (nI 0) (nI 3) && inI f (nI 0) (nI 3))), .int (bI (inI p (nI 0) (nI 9)))]) (rest := []) (st1 := [.int (bI ((inI q (nI 0) (nI 3) && inI f (nI 0) (nI 3)) && (inI p (nI 0) (nI 9))))]) (μ' := (mgM μ (inI q (nI 0) (nI 3) && inI f (nI 0) (nI 3)) (inI p (nI 0) (nI 9)))) (k := 19) (T := TX11) miX11_mayGo mvX11_mayGo (c_mayGo l g μ (inI q (nI 0) (nI 3) && inI f (nI 0) (nI 3)) (inI p (nI 0) (nI 9))) hw_5_103 (by decide) rfl rfl rfl ⟨by decide, by decide, rfl, rfl, by decide, by decide⟩ rfl (Nat.le_of_ble_eq_true rfl) dX11_derive_27 rfl ?_
    refine r_if_ne C 35 dX11_derive_30 (by decide) (bI_ne _) (fun h30 => ?_) (fun h30 => ?_)
    · exact absurd h30 (ts_f hno)
    · refine r_iconst C (v := (nI 0)) dX11_derive_33 rfl ?_
      exact r_iret C dX11_derive_34 Rr
  · refine r_iload_n C dX11_derive_8 3 rfl ?_
    refine r_callP C (As := [.int f]) (rest := [.ref (ad g 19)]) (st1 := [.int (bI (inI f (nI 0) (nI 3))), .ref (ad g 19)]) miX11_isPlace msX11_isPlace (c_isPlace l f) hw_5_92 rfl ⟨by decide, by decide, rfl, rfl, by decide, by decide⟩ rfl (Nat.le_of_ble_eq_true rfl) dX11_derive_9 rfl ?_
    refine r_if_eq C 19 dX11_derive_12 (by decide) (bI_eq _) (fun h12 => ?_) (fun h12 => ?_)
    · refine r_iconst C (v := (nI 0)) dX11_derive_19 rfl ?_
      refine G_top (y := (bI (inI q (nI 0) (nI 3) && inI f (nI 0) (nI 3)))) (b0 (by rw [h12, Bool.and_false])) ?_
      refine r_iload_n C dX11_derive_20 2 rfl ?_
      refine r_iconst C (v := (nI 0)) dX11_derive_21 rfl ?_
      refine r_bipush C (v := (nI 9)) dX11_derive_22 (by decide) ?_
      refine r_callP C (As := [.int p, .int (nI 0), .int (nI 9)]) (rest := [.int (bI (inI q (nI 0) (nI 3) && inI f (nI 0) (nI 3))), .ref (ad g 19)]) (st1 := [.int (bI (inI p (nI 0) (nI 9))), .int (bI (inI q (nI 0) (nI 3) && inI f (nI 0) (nI 3))), .ref (ad g 19)]) miX11_in msX11_in (c_in l p (nI 0) (nI 9)) hw_5_77 rfl ⟨by decide, by decide, rfl, rfl, by decide, by decide⟩ rfl (Nat.le_of_ble_eq_true rfl) dX11_derive_24 rfl ?_
      refine r_callV C X (As := [.int (bI (inI q (nI 0) (nI 3) && inI f (nI 0) (nI 3))), .int (bI (inI p (nI 0) (nI 9)))]) (rest := []) (st1 := [.int (bI ((inI q (nI 0) (nI 3) && inI f (nI 0) (nI 3)) && (inI p (nI 0) (nI 9))))]) (μ' := (mgM μ (inI q (nI 0) (nI 3) && inI f (nI 0) (nI 3)) (inI p (nI 0) (nI 9)))) (k := 19) (T := TX11) miX11_mayGo mvX11_mayGo (c_mayGo l g μ (inI q (nI 0) (nI 3) && inI f (nI 0) (nI 3)) (inI p (nI 0) (nI 9))) hw_5_103 (by decide) rfl rfl rfl ⟨by decide, by decide, rfl, rfl, by decide, by decide⟩ rfl (Nat.le_of_ble_eq_true rfl) dX11_derive_27 rfl ?_
      refine r_if_ne C 35 dX11_derive_30 (by decide) (bI_ne _) (fun h30 => ?_) (fun h30 => ?_)
      · exact absurd h30 (ts_f hno)
      · refine r_iconst C (v := (nI 0)) dX11_derive_33 rfl ?_
        exact r_iret C dX11_derive_34 Rr
    · refine r_iconst C (v := (nI 1)) dX11_derive_15 rfl ?_
      refine r_goto C 20 dX11_derive_16 (by decide) ?_
      refine G_top (y := (bI (inI q (nI 0) (nI 3) && inI f (nI 0) (nI 3)))) (b1 (by rw [ts_t h5, ts_t h12]; rfl)) ?_
      refine r_iload_n C dX11_derive_20 2 rfl ?_
      refine r_iconst C (v := (nI 0)) dX11_derive_21 rfl ?_
      refine r_bipush C (v := (nI 9)) dX11_derive_22 (by decide) ?_
      refine r_callP C (As := [.int p, .int (nI 0), .int (nI 9)]) (rest := [.int (bI (inI q (nI 0) (nI 3) && inI f (nI 0) (nI 3))), .ref (ad g 19)]) (st1 := [.int (bI (inI p (nI 0) (nI 9))), .int (bI (inI q (nI 0) (nI 3) && inI f (nI 0) (nI 3))), .ref (ad g 19)]) miX11_in msX11_in (c_in l p (nI 0) (nI 9)) hw_5_77 rfl ⟨by decide, by decide, rfl, rfl, by decide, by decide⟩ rfl (Nat.le_of_ble_eq_true rfl) dX11_derive_24 rfl ?_
      refine r_callV C X (As := [.int (bI (inI q (nI 0) (nI 3) && inI f (nI 0) (nI 3))), .int (bI (inI p (nI 0) (nI 9)))]) (rest := []) (st1 := [.int (bI ((inI q (nI 0) (nI 3) && inI f (nI 0) (nI 3)) && (inI p (nI 0) (nI 9))))]) (μ' := (mgM μ (inI q (nI 0) (nI 3) && inI f (nI 0) (nI 3)) (inI p (nI 0) (nI 9)))) (k := 19) (T := TX11) miX11_mayGo mvX11_mayGo (c_mayGo l g μ (inI q (nI 0) (nI 3) && inI f (nI 0) (nI 3)) (inI p (nI 0) (nI 9))) hw_5_103 (by decide) rfl rfl rfl ⟨by decide, by decide, rfl, rfl, by decide, by decide⟩ rfl (Nat.le_of_ble_eq_true rfl) dX11_derive_27 rfl ?_
      refine r_if_ne C 35 dX11_derive_30 (by decide) (bI_ne _) (fun h30 => ?_) (fun h30 => ?_)
      · exact absurd h30 (ts_f hno)
      · refine r_iconst C (v := (nI 0)) dX11_derive_33 rfl ?_
        exact r_iret C dX11_derive_34 Rr
set_option maxHeartbeats 1000000 in
set_option maxRecDepth 100000 in
theorem n_trace (l : Launch) (g : Gd) (μ : Mm) {n : Nat} (hn6 : gI μ 6 = nI n) (h1n : 1 ≤ n) (hn10 : n ≤ 10) (q f e : Int32)  (hno : ((inI q (nI 0) (nI 3) && inI f (nI 0) (nI 3)) && (inI e (nI 0) (nI (2 ^ n - 1)))) = false) : Ct l yX11_trace cX11_trace 5 (some .int) (rmk 2 43) g [.ref (ad g 19), .int q, .int f, .int e] μ (some (.int (nI 0))) (mgM μ (inI q (nI 0) (nI 3) && inI f (nI 0) (nI 3)) (inI e (nI 0) (nI (2 ^ n - 1)))) := by
  have h1024 := pw10 hn10
  have h2n := Nat.two_pow_pos n
  refine Ct.of (by decide) (Nat.le_of_ble_eq_true rfl) (fun z A C X Rr => ?_)
  refine r_aload_n C dX11_trace_0 0 rfl ?_
  refine r_iload_n C dX11_trace_1 1 rfl ?_
  refine r_callP C (As := [.int q]) (rest := [.ref (ad g 19)]) (st1 := [.int (bI (inI q (nI 0) (nI 3))), .ref (ad g 19)]) miX11_isPlace msX11_isPlace (c_isPlace l q) hw_5_92 rfl ⟨by decide, by decide, rfl, rfl, by decide, by decide⟩ rfl (Nat.le_of_ble_eq_true rfl) dX11_trace_2 rfl ?_
  refine r_if_eq C 19 dX11_trace_5 (by decide) (bI_eq _) (fun h5 => ?_) (fun h5 => ?_)
  · refine r_iconst C (v := (nI 0)) dX11_trace_19 rfl ?_
    refine G_top (y := (bI (inI q (nI 0) (nI 3) && inI f (nI 0) (nI 3)))) (b0 (by rw [h5]; rfl)) ?_
    refine r_aload_n C dX11_trace_20 0 rfl ?_
    refine r_iload_n C dX11_trace_21 3 rfl ?_
    refine r_callV C X (As := [.int e]) (rest := [.int (bI (inI q (nI 0) (nI 3) && inI f (nI 0) (nI 3))), .ref (ad g 19)]) (st1 := [.int (bI (inI e (nI 0) (nI (2 ^ n - 1)))), .int (bI (inI q (nI 0) (nI 3) && inI f (nI 0) (nI 3))), .ref (ad g 19)]) (μ' := μ) (k := 19) (T := TX11) miX11_isCode mvX11_isCode (c_isCode l g μ (n := n) hn6 (by omega) e) hw_5_95 (by decide) rfl rfl rfl ⟨by decide, by decide, rfl, rfl, by decide, by decide⟩ rfl (Nat.le_of_ble_eq_true rfl) dX11_trace_22 rfl ?_
    refine r_callV C X (As := [.int (bI (inI q (nI 0) (nI 3) && inI f (nI 0) (nI 3))), .int (bI (inI e (nI 0) (nI (2 ^ n - 1))))]) (rest := []) (st1 := [.int (bI ((inI q (nI 0) (nI 3) && inI f (nI 0) (nI 3)) && (inI e (nI 0) (nI (2 ^ n - 1)))))]) (μ' := (mgM μ (inI q (nI 0) (nI 3) && inI f (nI 0) (nI 3)) (inI e (nI 0) (nI (2 ^ n - 1))))) (k := 19) (T := TX11) miX11_mayGo mvX11_mayGo (c_mayGo l g μ (inI q (nI 0) (nI 3) && inI f (nI 0) (nI 3)) (inI e (nI 0) (nI (2 ^ n - 1)))) hw_5_103 (by decide) rfl rfl rfl ⟨by decide, by decide, rfl, rfl, by decide, by decide⟩ rfl (Nat.le_of_ble_eq_true rfl) dX11_trace_25 rfl ?_
    refine r_if_ne C 33 dX11_trace_28 (by decide) (bI_ne _) (fun h28 => ?_) (fun h28 => ?_)
    · exact absurd h28 (ts_f hno)
    · refine r_iconst C (v := (nI 0)) dX11_trace_31 rfl ?_
      exact r_iret C dX11_trace_32 Rr
  · refine r_iload_n C dX11_trace_8 2 rfl ?_
    refine r_callP C (As := [.int f]) (rest := [.ref (ad g 19)]) (st1 := [.int (bI (inI f (nI 0) (nI 3))), .ref (ad g 19)]) miX11_isPlace msX11_isPlace (c_isPlace l f) hw_5_92 rfl ⟨by decide, by decide, rfl, rfl, by decide, by decide⟩ rfl (Nat.le_of_ble_eq_true rfl) dX11_trace_9 rfl ?_
    refine r_if_eq C 19 dX11_trace_12 (by decide) (bI_eq _) (fun h12 => ?_) (fun h12 => ?_)
    · refine r_iconst C (v := (nI 0)) dX11_trace_19 rfl ?_
      refine G_top (y := (bI (inI q (nI 0) (nI 3) && inI f (nI 0) (nI 3)))) (b0 (by rw [h12, Bool.and_false])) ?_
      refine r_aload_n C dX11_trace_20 0 rfl ?_
      refine r_iload_n C dX11_trace_21 3 rfl ?_
      refine r_callV C X (As := [.int e]) (rest := [.int (bI (inI q (nI 0) (nI 3) && inI f (nI 0) (nI 3))), .ref (ad g 19)]) (st1 := [.int (bI (inI e (nI 0) (nI (2 ^ n - 1)))), .int (bI (inI q (nI 0) (nI 3) && inI f (nI 0) (nI 3))), .ref (ad g 19)]) (μ' := μ) (k := 19) (T := TX11) miX11_isCode mvX11_isCode (c_isCode l g μ (n := n) hn6 (by omega) e) hw_5_95 (by decide) rfl rfl rfl ⟨by decide, by decide, rfl, rfl, by decide, by decide⟩ rfl (Nat.le_of_ble_eq_true rfl) dX11_trace_22 rfl ?_
      refine r_callV C X (As := [.int (bI (inI q (nI 0) (nI 3) && inI f (nI 0) (nI 3))), .int (bI (inI e (nI 0) (nI (2 ^ n - 1))))]) (rest := []) (st1 := [.int (bI ((inI q (nI 0) (nI 3) && inI f (nI 0) (nI 3)) && (inI e (nI 0) (nI (2 ^ n - 1)))))]) (μ' := (mgM μ (inI q (nI 0) (nI 3) && inI f (nI 0) (nI 3)) (inI e (nI 0) (nI (2 ^ n - 1))))) (k := 19) (T := TX11) miX11_mayGo mvX11_mayGo (c_mayGo l g μ (inI q (nI 0) (nI 3) && inI f (nI 0) (nI 3)) (inI e (nI 0) (nI (2 ^ n - 1)))) hw_5_103 (by decide) rfl rfl rfl ⟨by decide, by decide, rfl, rfl, by decide, by decide⟩ rfl (Nat.le_of_ble_eq_true rfl) dX11_trace_25 rfl ?_
      refine r_if_ne C 33 dX11_trace_28 (by decide) (bI_ne _) (fun h28 => ?_) (fun h28 => ?_)
      · exact absurd h28 (ts_f hno)
      · refine r_iconst C (v := (nI 0)) dX11_trace_31 rfl ?_
        exact r_iret C dX11_trace_32 Rr
    · refine r_iconst C (v := (nI 1)) dX11_trace_15 rfl ?_
      refine r_goto C 20 dX11_trace_16 (by decide) ?_
      refine G_top (y := (bI (inI q (nI 0) (nI 3) && inI f (nI 0) (nI 3)))) (b1 (by rw [ts_t h5, ts_t h12]; rfl)) ?_
      refine r_aload_n C dX11_trace_20 0 rfl ?_
      refine r_iload_n C dX11_trace_21 3 rfl ?_
      refine r_callV C X (As := [.int e]) (rest := [.int (bI (inI q (nI 0) (nI 3) && inI f (nI 0) (nI 3))), .ref (ad g 19)]) (st1 := [.int (bI (inI e (nI 0) (nI (2 ^ n - 1)))), .int (bI (inI q (nI 0) (nI 3) && inI f (nI 0) (nI 3))), .ref (ad g 19)]) (μ' := μ) (k := 19) (T := TX11) miX11_isCode mvX11_isCode (c_isCode l g μ (n := n) hn6 (by omega) e) hw_5_95 (by decide) rfl rfl rfl ⟨by decide, by decide, rfl, rfl, by decide, by decide⟩ rfl (Nat.le_of_ble_eq_true rfl) dX11_trace_22 rfl ?_
      refine r_callV C X (As := [.int (bI (inI q (nI 0) (nI 3) && inI f (nI 0) (nI 3))), .int (bI (inI e (nI 0) (nI (2 ^ n - 1))))]) (rest := []) (st1 := [.int (bI ((inI q (nI 0) (nI 3) && inI f (nI 0) (nI 3)) && (inI e (nI 0) (nI (2 ^ n - 1)))))]) (μ' := (mgM μ (inI q (nI 0) (nI 3) && inI f (nI 0) (nI 3)) (inI e (nI 0) (nI (2 ^ n - 1))))) (k := 19) (T := TX11) miX11_mayGo mvX11_mayGo (c_mayGo l g μ (inI q (nI 0) (nI 3) && inI f (nI 0) (nI 3)) (inI e (nI 0) (nI (2 ^ n - 1)))) hw_5_103 (by decide) rfl rfl rfl ⟨by decide, by decide, rfl, rfl, by decide, by decide⟩ rfl (Nat.le_of_ble_eq_true rfl) dX11_trace_25 rfl ?_
      refine r_if_ne C 33 dX11_trace_28 (by decide) (bI_ne _) (fun h28 => ?_) (fun h28 => ?_)
      · exact absurd h28 (ts_f hno)
      · refine r_iconst C (v := (nI 0)) dX11_trace_31 rfl ?_
        exact r_iret C dX11_trace_32 Rr
set_option maxHeartbeats 1000000 in
set_option maxRecDepth 100000 in
theorem n_combine (l : Launch) (g : Gd) (μ : Mm) {n : Nat} (hn6 : gI μ 6 = nI n) (h1n : 1 ≤ n) (hn10 : n ≤ 10) (q p a b : Int32)  (hno : ((inI q (nI 0) (nI 3) && (inI a (nI 0) (nI 3) && inI b (nI 0) (nI 3))) && (inI p (nI 0) (nI 3))) = false) : Ct l yX11_combine cX11_combine 8 (some .int) (rmk 2 42) g [.ref (ad g 19), .int q, .int p, .int a, .int b] μ (some (.int (nI 0))) (mgM μ (inI q (nI 0) (nI 3) && (inI a (nI 0) (nI 3) && inI b (nI 0) (nI 3))) (inI p (nI 0) (nI 3))) := by
  have h1024 := pw10 hn10
  have h2n := Nat.two_pow_pos n
  refine Ct.of (by decide) (Nat.le_of_ble_eq_true rfl) (fun z A C X Rr => ?_)
  refine r_aload_n C dX11_combine_0 0 rfl ?_
  refine r_iload_n C dX11_combine_1 1 rfl ?_
  refine r_callP C (As := [.int q]) (rest := [.ref (ad g 19)]) (st1 := [.int (bI (inI q (nI 0) (nI 3))), .ref (ad g 19)]) miX11_isPlace msX11_isPlace (c_isPlace l q) hw_5_92 rfl ⟨by decide, by decide, rfl, rfl, by decide, by decide⟩ rfl (Nat.le_of_ble_eq_true rfl) dX11_combine_2 rfl ?_
  refine r_if_eq C 27 dX11_combine_5 (by decide) (bI_eq _) (fun h5 => ?_) (fun h5 => ?_)
  · refine r_iconst C (v := (nI 0)) dX11_combine_27 rfl ?_
    refine G_top (y := (bI (inI q (nI 0) (nI 3) && (inI a (nI 0) (nI 3) && inI b (nI 0) (nI 3))))) (b0 (by rw [h5]; rfl)) ?_
    refine r_iload_n C dX11_combine_28 2 rfl ?_
    refine r_iconst C (v := (nI 0)) dX11_combine_29 rfl ?_
    refine r_iconst C (v := (nI 3)) dX11_combine_30 rfl ?_
    refine r_callP C (As := [.int p, .int (nI 0), .int (nI 3)]) (rest := [.int (bI (inI q (nI 0) (nI 3) && (inI a (nI 0) (nI 3) && inI b (nI 0) (nI 3)))), .ref (ad g 19)]) (st1 := [.int (bI (inI p (nI 0) (nI 3))), .int (bI (inI q (nI 0) (nI 3) && (inI a (nI 0) (nI 3) && inI b (nI 0) (nI 3)))), .ref (ad g 19)]) miX11_in msX11_in (c_in l p (nI 0) (nI 3)) hw_5_77 rfl ⟨by decide, by decide, rfl, rfl, by decide, by decide⟩ rfl (Nat.le_of_ble_eq_true rfl) dX11_combine_31 rfl ?_
    refine r_callV C X (As := [.int (bI (inI q (nI 0) (nI 3) && (inI a (nI 0) (nI 3) && inI b (nI 0) (nI 3)))), .int (bI (inI p (nI 0) (nI 3)))]) (rest := []) (st1 := [.int (bI ((inI q (nI 0) (nI 3) && (inI a (nI 0) (nI 3) && inI b (nI 0) (nI 3))) && (inI p (nI 0) (nI 3))))]) (μ' := (mgM μ (inI q (nI 0) (nI 3) && (inI a (nI 0) (nI 3) && inI b (nI 0) (nI 3))) (inI p (nI 0) (nI 3)))) (k := 19) (T := TX11) miX11_mayGo mvX11_mayGo (c_mayGo l g μ (inI q (nI 0) (nI 3) && (inI a (nI 0) (nI 3) && inI b (nI 0) (nI 3))) (inI p (nI 0) (nI 3))) hw_5_103 (by decide) rfl rfl rfl ⟨by decide, by decide, rfl, rfl, by decide, by decide⟩ rfl (Nat.le_of_ble_eq_true rfl) dX11_combine_34 rfl ?_
    refine r_if_ne C 42 dX11_combine_37 (by decide) (bI_ne _) (fun h37 => ?_) (fun h37 => ?_)
    · exact absurd h37 (ts_f hno)
    · refine r_iconst C (v := (nI 0)) dX11_combine_40 rfl ?_
      exact r_iret C dX11_combine_41 Rr
  · refine r_iload_n C dX11_combine_8 3 rfl ?_
    refine r_callP C (As := [.int a]) (rest := [.ref (ad g 19)]) (st1 := [.int (bI (inI a (nI 0) (nI 3))), .ref (ad g 19)]) miX11_isPlace msX11_isPlace (c_isPlace l a) hw_5_92 rfl ⟨by decide, by decide, rfl, rfl, by decide, by decide⟩ rfl (Nat.le_of_ble_eq_true rfl) dX11_combine_9 rfl ?_
    refine r_if_eq C 27 dX11_combine_12 (by decide) (bI_eq _) (fun h12 => ?_) (fun h12 => ?_)
    · refine r_iconst C (v := (nI 0)) dX11_combine_27 rfl ?_
      refine G_top (y := (bI (inI q (nI 0) (nI 3) && (inI a (nI 0) (nI 3) && inI b (nI 0) (nI 3))))) (b0 (by rw [h12, Bool.false_and, Bool.and_false])) ?_
      refine r_iload_n C dX11_combine_28 2 rfl ?_
      refine r_iconst C (v := (nI 0)) dX11_combine_29 rfl ?_
      refine r_iconst C (v := (nI 3)) dX11_combine_30 rfl ?_
      refine r_callP C (As := [.int p, .int (nI 0), .int (nI 3)]) (rest := [.int (bI (inI q (nI 0) (nI 3) && (inI a (nI 0) (nI 3) && inI b (nI 0) (nI 3)))), .ref (ad g 19)]) (st1 := [.int (bI (inI p (nI 0) (nI 3))), .int (bI (inI q (nI 0) (nI 3) && (inI a (nI 0) (nI 3) && inI b (nI 0) (nI 3)))), .ref (ad g 19)]) miX11_in msX11_in (c_in l p (nI 0) (nI 3)) hw_5_77 rfl ⟨by decide, by decide, rfl, rfl, by decide, by decide⟩ rfl (Nat.le_of_ble_eq_true rfl) dX11_combine_31 rfl ?_
      refine r_callV C X (As := [.int (bI (inI q (nI 0) (nI 3) && (inI a (nI 0) (nI 3) && inI b (nI 0) (nI 3)))), .int (bI (inI p (nI 0) (nI 3)))]) (rest := []) (st1 := [.int (bI ((inI q (nI 0) (nI 3) && (inI a (nI 0) (nI 3) && inI b (nI 0) (nI 3))) && (inI p (nI 0) (nI 3))))]) (μ' := (mgM μ (inI q (nI 0) (nI 3) && (inI a (nI 0) (nI 3) && inI b (nI 0) (nI 3))) (inI p (nI 0) (nI 3)))) (k := 19) (T := TX11) miX11_mayGo mvX11_mayGo (c_mayGo l g μ (inI q (nI 0) (nI 3) && (inI a (nI 0) (nI 3) && inI b (nI 0) (nI 3))) (inI p (nI 0) (nI 3))) hw_5_103 (by decide) rfl rfl rfl ⟨by decide, by decide, rfl, rfl, by decide, by decide⟩ rfl (Nat.le_of_ble_eq_true rfl) dX11_combine_34 rfl ?_
      refine r_if_ne C 42 dX11_combine_37 (by decide) (bI_ne _) (fun h37 => ?_) (fun h37 => ?_)
      · exact absurd h37 (ts_f hno)
      · refine r_iconst C (v := (nI 0)) dX11_combine_40 rfl ?_
        exact r_iret C dX11_combine_41 Rr
    · refine r_iload C dX11_combine_15 4 rfl ?_
      refine r_callP C (As := [.int b]) (rest := [.ref (ad g 19)]) (st1 := [.int (bI (inI b (nI 0) (nI 3))), .ref (ad g 19)]) miX11_isPlace msX11_isPlace (c_isPlace l b) hw_5_92 rfl ⟨by decide, by decide, rfl, rfl, by decide, by decide⟩ rfl (Nat.le_of_ble_eq_true rfl) dX11_combine_17 rfl ?_
      refine r_if_eq C 27 dX11_combine_20 (by decide) (bI_eq _) (fun h20 => ?_) (fun h20 => ?_)
      · refine r_iconst C (v := (nI 0)) dX11_combine_27 rfl ?_
        refine G_top (y := (bI (inI q (nI 0) (nI 3) && (inI a (nI 0) (nI 3) && inI b (nI 0) (nI 3))))) (b0 (by rw [h20, Bool.and_false, Bool.and_false])) ?_
        refine r_iload_n C dX11_combine_28 2 rfl ?_
        refine r_iconst C (v := (nI 0)) dX11_combine_29 rfl ?_
        refine r_iconst C (v := (nI 3)) dX11_combine_30 rfl ?_
        refine r_callP C (As := [.int p, .int (nI 0), .int (nI 3)]) (rest := [.int (bI (inI q (nI 0) (nI 3) && (inI a (nI 0) (nI 3) && inI b (nI 0) (nI 3)))), .ref (ad g 19)]) (st1 := [.int (bI (inI p (nI 0) (nI 3))), .int (bI (inI q (nI 0) (nI 3) && (inI a (nI 0) (nI 3) && inI b (nI 0) (nI 3)))), .ref (ad g 19)]) miX11_in msX11_in (c_in l p (nI 0) (nI 3)) hw_5_77 rfl ⟨by decide, by decide, rfl, rfl, by decide, by decide⟩ rfl (Nat.le_of_ble_eq_true rfl) dX11_combine_31 rfl ?_
        refine r_callV C X (As := [.int (bI (inI q (nI 0) (nI 3) && (inI a (nI 0) (nI 3) && inI b (nI 0) (nI 3)))), .int (bI (inI p (nI 0) (nI 3)))]) (rest := []) (st1 := [.int (bI ((inI q (nI 0) (nI 3) && (inI a (nI 0) (nI 3) && inI b (nI 0) (nI 3))) && (inI p (nI 0) (nI 3))))]) (μ' := (mgM μ (inI q (nI 0) (nI 3) && (inI a (nI 0) (nI 3) && inI b (nI 0) (nI 3))) (inI p (nI 0) (nI 3)))) (k := 19) (T := TX11) miX11_mayGo mvX11_mayGo (c_mayGo l g μ (inI q (nI 0) (nI 3) && (inI a (nI 0) (nI 3) && inI b (nI 0) (nI 3))) (inI p (nI 0) (nI 3))) hw_5_103 (by decide) rfl rfl rfl ⟨by decide, by decide, rfl, rfl, by decide, by decide⟩ rfl (Nat.le_of_ble_eq_true rfl) dX11_combine_34 rfl ?_
        refine r_if_ne C 42 dX11_combine_37 (by decide) (bI_ne _) (fun h37 => ?_) (fun h37 => ?_)
        · exact absurd h37 (ts_f hno)
        · refine r_iconst C (v := (nI 0)) dX11_combine_40 rfl ?_
          exact r_iret C dX11_combine_41 Rr
      · refine r_iconst C (v := (nI 1)) dX11_combine_23 rfl ?_
        refine r_goto C 28 dX11_combine_24 (by decide) ?_
        refine G_top (y := (bI (inI q (nI 0) (nI 3) && (inI a (nI 0) (nI 3) && inI b (nI 0) (nI 3))))) (b1 (by rw [ts_t h5, ts_t h12, ts_t h20]; rfl)) ?_
        refine r_iload_n C dX11_combine_28 2 rfl ?_
        refine r_iconst C (v := (nI 0)) dX11_combine_29 rfl ?_
        refine r_iconst C (v := (nI 3)) dX11_combine_30 rfl ?_
        refine r_callP C (As := [.int p, .int (nI 0), .int (nI 3)]) (rest := [.int (bI (inI q (nI 0) (nI 3) && (inI a (nI 0) (nI 3) && inI b (nI 0) (nI 3)))), .ref (ad g 19)]) (st1 := [.int (bI (inI p (nI 0) (nI 3))), .int (bI (inI q (nI 0) (nI 3) && (inI a (nI 0) (nI 3) && inI b (nI 0) (nI 3)))), .ref (ad g 19)]) miX11_in msX11_in (c_in l p (nI 0) (nI 3)) hw_5_77 rfl ⟨by decide, by decide, rfl, rfl, by decide, by decide⟩ rfl (Nat.le_of_ble_eq_true rfl) dX11_combine_31 rfl ?_
        refine r_callV C X (As := [.int (bI (inI q (nI 0) (nI 3) && (inI a (nI 0) (nI 3) && inI b (nI 0) (nI 3)))), .int (bI (inI p (nI 0) (nI 3)))]) (rest := []) (st1 := [.int (bI ((inI q (nI 0) (nI 3) && (inI a (nI 0) (nI 3) && inI b (nI 0) (nI 3))) && (inI p (nI 0) (nI 3))))]) (μ' := (mgM μ (inI q (nI 0) (nI 3) && (inI a (nI 0) (nI 3) && inI b (nI 0) (nI 3))) (inI p (nI 0) (nI 3)))) (k := 19) (T := TX11) miX11_mayGo mvX11_mayGo (c_mayGo l g μ (inI q (nI 0) (nI 3) && (inI a (nI 0) (nI 3) && inI b (nI 0) (nI 3))) (inI p (nI 0) (nI 3))) hw_5_103 (by decide) rfl rfl rfl ⟨by decide, by decide, rfl, rfl, by decide, by decide⟩ rfl (Nat.le_of_ble_eq_true rfl) dX11_combine_34 rfl ?_
        refine r_if_ne C 42 dX11_combine_37 (by decide) (bI_ne _) (fun h37 => ?_) (fun h37 => ?_)
        · exact absurd h37 (ts_f hno)
        · refine r_iconst C (v := (nI 0)) dX11_combine_40 rfl ?_
          exact r_iret C dX11_combine_41 Rr
set_option maxHeartbeats 1000000 in
set_option maxRecDepth 100000 in
theorem n_compress (l : Launch) (g : Gd) (μ : Mm) {n : Nat} (hn6 : gI μ 6 = nI n) (h1n : 1 ≤ n) (hn10 : n ≤ 10) (f j i : Int32)  (hno : ((inI f (nI 0) (nI 3)) && (inI j (nI 0) (nI (n - 1)) && (inI i (nI 0) (nI (n - 1)) && !decide (j = i)))) = false) : Ct l yX11_compress cX11_compress 4 (some .int) (rmk 2 43) g [.ref (ad g 19), .int f, .int j, .int i] μ (some (.int (nI 0))) (mgM μ (inI f (nI 0) (nI 3)) (inI j (nI 0) (nI (n - 1)) && (inI i (nI 0) (nI (n - 1)) && !decide (j = i)))) := by
  have h1024 := pw10 hn10
  have h2n := Nat.two_pow_pos n
  refine Ct.of (by decide) (Nat.le_of_ble_eq_true rfl) (fun z A C X Rr => ?_)
  refine r_aload_n C dX11_compress_0 0 rfl ?_
  refine r_iload_n C dX11_compress_1 1 rfl ?_
  refine r_callP C (As := [.int f]) (rest := [.ref (ad g 19)]) (st1 := [.int (bI (inI f (nI 0) (nI 3))), .ref (ad g 19)]) miX11_isPlace msX11_isPlace (c_isPlace l f) hw_5_92 rfl ⟨by decide, by decide, rfl, rfl, by decide, by decide⟩ rfl (Nat.le_of_ble_eq_true rfl) dX11_compress_2 rfl ?_
  refine r_aload_n C dX11_compress_5 0 rfl ?_
  refine r_iload_n C dX11_compress_6 2 rfl ?_
  refine r_callV C X (As := [.int j]) (rest := [.int (bI (inI f (nI 0) (nI 3))), .ref (ad g 19)]) (st1 := [.int (bI (inI j (nI 0) (nI (n - 1)))), .int (bI (inI f (nI 0) (nI 3))), .ref (ad g 19)]) (μ' := μ) (k := 19) (T := TX11) miX11_isElement mvX11_isElement (c_isElement l g μ (n := n) hn6 (by omega) j) hw_5_134 (by decide) rfl rfl rfl ⟨by decide, by decide, rfl, rfl, by decide, by decide⟩ rfl (Nat.le_of_ble_eq_true rfl) dX11_compress_7 rfl ?_
  refine r_if_eq C 30 dX11_compress_10 (by decide) (bI_eq _) (fun h10 => ?_) (fun h10 => ?_)
  · refine r_iconst C (v := (nI 0)) dX11_compress_30 rfl ?_
    refine G_top (y := (bI (inI j (nI 0) (nI (n - 1)) && (inI i (nI 0) (nI (n - 1)) && !decide (j = i))))) (b0 (by rw [h10]; rfl)) ?_
    refine r_callV C X (As := [.int (bI (inI f (nI 0) (nI 3))), .int (bI (inI j (nI 0) (nI (n - 1)) && (inI i (nI 0) (nI (n - 1)) && !decide (j = i))))]) (rest := []) (st1 := [.int (bI ((inI f (nI 0) (nI 3)) && (inI j (nI 0) (nI (n - 1)) && (inI i (nI 0) (nI (n - 1)) && !decide (j = i)))))]) (μ' := (mgM μ (inI f (nI 0) (nI 3)) (inI j (nI 0) (nI (n - 1)) && (inI i (nI 0) (nI (n - 1)) && !decide (j = i))))) (k := 19) (T := TX11) miX11_mayGo mvX11_mayGo (c_mayGo l g μ (inI f (nI 0) (nI 3)) (inI j (nI 0) (nI (n - 1)) && (inI i (nI 0) (nI (n - 1)) && !decide (j = i)))) hw_5_103 (by decide) rfl rfl rfl ⟨by decide, by decide, rfl, rfl, by decide, by decide⟩ rfl (Nat.le_of_ble_eq_true rfl) dX11_compress_31 rfl ?_
    refine r_if_ne C 39 dX11_compress_34 (by decide) (bI_ne _) (fun h34 => ?_) (fun h34 => ?_)
    · exact absurd h34 (ts_f hno)
    · refine r_iconst C (v := (nI 0)) dX11_compress_37 rfl ?_
      exact r_iret C dX11_compress_38 Rr
  · refine r_aload_n C dX11_compress_13 0 rfl ?_
    refine r_iload_n C dX11_compress_14 3 rfl ?_
    refine r_callV C X (As := [.int i]) (rest := [.int (bI (inI f (nI 0) (nI 3))), .ref (ad g 19)]) (st1 := [.int (bI (inI i (nI 0) (nI (n - 1)))), .int (bI (inI f (nI 0) (nI 3))), .ref (ad g 19)]) (μ' := μ) (k := 19) (T := TX11) miX11_isElement mvX11_isElement (c_isElement l g μ (n := n) hn6 (by omega) i) hw_5_134 (by decide) rfl rfl rfl ⟨by decide, by decide, rfl, rfl, by decide, by decide⟩ rfl (Nat.le_of_ble_eq_true rfl) dX11_compress_15 rfl ?_
    refine r_if_eq C 30 dX11_compress_18 (by decide) (bI_eq _) (fun h18 => ?_) (fun h18 => ?_)
    · refine r_iconst C (v := (nI 0)) dX11_compress_30 rfl ?_
      refine G_top (y := (bI (inI j (nI 0) (nI (n - 1)) && (inI i (nI 0) (nI (n - 1)) && !decide (j = i))))) (b0 (by rw [h18, Bool.false_and, Bool.and_false])) ?_
      refine r_callV C X (As := [.int (bI (inI f (nI 0) (nI 3))), .int (bI (inI j (nI 0) (nI (n - 1)) && (inI i (nI 0) (nI (n - 1)) && !decide (j = i))))]) (rest := []) (st1 := [.int (bI ((inI f (nI 0) (nI 3)) && (inI j (nI 0) (nI (n - 1)) && (inI i (nI 0) (nI (n - 1)) && !decide (j = i)))))]) (μ' := (mgM μ (inI f (nI 0) (nI 3)) (inI j (nI 0) (nI (n - 1)) && (inI i (nI 0) (nI (n - 1)) && !decide (j = i))))) (k := 19) (T := TX11) miX11_mayGo mvX11_mayGo (c_mayGo l g μ (inI f (nI 0) (nI 3)) (inI j (nI 0) (nI (n - 1)) && (inI i (nI 0) (nI (n - 1)) && !decide (j = i)))) hw_5_103 (by decide) rfl rfl rfl ⟨by decide, by decide, rfl, rfl, by decide, by decide⟩ rfl (Nat.le_of_ble_eq_true rfl) dX11_compress_31 rfl ?_
      refine r_if_ne C 39 dX11_compress_34 (by decide) (bI_ne _) (fun h34 => ?_) (fun h34 => ?_)
      · exact absurd h34 (ts_f hno)
      · refine r_iconst C (v := (nI 0)) dX11_compress_37 rfl ?_
        exact r_iret C dX11_compress_38 Rr
    · refine r_iload_n C dX11_compress_21 2 rfl ?_
      refine r_iload_n C dX11_compress_22 3 rfl ?_
      refine r_icmp_eq C 30 dX11_compress_23 (by decide) Iff.rfl (fun h23 => ?_) (fun h23 => ?_)
      · refine r_iconst C (v := (nI 0)) dX11_compress_30 rfl ?_
        refine G_top (y := (bI (inI j (nI 0) (nI (n - 1)) && (inI i (nI 0) (nI (n - 1)) && !decide (j = i))))) (b0 (by rw [decide_eq_true h23, Bool.not_true, Bool.and_false, Bool.and_false])) ?_
        refine r_callV C X (As := [.int (bI (inI f (nI 0) (nI 3))), .int (bI (inI j (nI 0) (nI (n - 1)) && (inI i (nI 0) (nI (n - 1)) && !decide (j = i))))]) (rest := []) (st1 := [.int (bI ((inI f (nI 0) (nI 3)) && (inI j (nI 0) (nI (n - 1)) && (inI i (nI 0) (nI (n - 1)) && !decide (j = i)))))]) (μ' := (mgM μ (inI f (nI 0) (nI 3)) (inI j (nI 0) (nI (n - 1)) && (inI i (nI 0) (nI (n - 1)) && !decide (j = i))))) (k := 19) (T := TX11) miX11_mayGo mvX11_mayGo (c_mayGo l g μ (inI f (nI 0) (nI 3)) (inI j (nI 0) (nI (n - 1)) && (inI i (nI 0) (nI (n - 1)) && !decide (j = i)))) hw_5_103 (by decide) rfl rfl rfl ⟨by decide, by decide, rfl, rfl, by decide, by decide⟩ rfl (Nat.le_of_ble_eq_true rfl) dX11_compress_31 rfl ?_
        refine r_if_ne C 39 dX11_compress_34 (by decide) (bI_ne _) (fun h34 => ?_) (fun h34 => ?_)
        · exact absurd h34 (ts_f hno)
        · refine r_iconst C (v := (nI 0)) dX11_compress_37 rfl ?_
          exact r_iret C dX11_compress_38 Rr
      · refine r_iconst C (v := (nI 1)) dX11_compress_26 rfl ?_
        refine r_goto C 31 dX11_compress_27 (by decide) ?_
        refine G_top (y := (bI (inI j (nI 0) (nI (n - 1)) && (inI i (nI 0) (nI (n - 1)) && !decide (j = i))))) (b1 (by rw [ts_t h10, ts_t h18, decide_eq_false h23]; rfl)) ?_
        refine r_callV C X (As := [.int (bI (inI f (nI 0) (nI 3))), .int (bI (inI j (nI 0) (nI (n - 1)) && (inI i (nI 0) (nI (n - 1)) && !decide (j = i))))]) (rest := []) (st1 := [.int (bI ((inI f (nI 0) (nI 3)) && (inI j (nI 0) (nI (n - 1)) && (inI i (nI 0) (nI (n - 1)) && !decide (j = i)))))]) (μ' := (mgM μ (inI f (nI 0) (nI 3)) (inI j (nI 0) (nI (n - 1)) && (inI i (nI 0) (nI (n - 1)) && !decide (j = i))))) (k := 19) (T := TX11) miX11_mayGo mvX11_mayGo (c_mayGo l g μ (inI f (nI 0) (nI 3)) (inI j (nI 0) (nI (n - 1)) && (inI i (nI 0) (nI (n - 1)) && !decide (j = i)))) hw_5_103 (by decide) rfl rfl rfl ⟨by decide, by decide, rfl, rfl, by decide, by decide⟩ rfl (Nat.le_of_ble_eq_true rfl) dX11_compress_31 rfl ?_
        refine r_if_ne C 39 dX11_compress_34 (by decide) (bI_ne _) (fun h34 => ?_) (fun h34 => ?_)
        · exact absurd h34 (ts_f hno)
        · refine r_iconst C (v := (nI 0)) dX11_compress_37 rfl ?_
          exact r_iret C dX11_compress_38 Rr
set_option maxHeartbeats 1000000 in
set_option maxRecDepth 100000 in
theorem n_setGround (l : Launch) (g : Gd) (μ : Mm) (e : Int32) (hno : (inI e (nI 1) (nI 10)) = false) : Ct l yX11_setGround cX11_setGround 4 (some .int) (rmk 1 22) g [.ref (ad g 19), .int e] μ (some (.int (nI 0))) (sI μ 5 (nI 1)) := by
  refine Ct.of (by decide) (Nat.le_of_ble_eq_true rfl) (fun z A C X Rr => ?_)
  refine r_aload_n C dX11_setGround_0 0 rfl ?_
  refine r_iload_n C dX11_setGround_1 1 rfl ?_
  refine r_iconst C (v := (nI 1)) dX11_setGround_2 rfl ?_
  refine r_bipush C (v := (nI 10)) dX11_setGround_3 (by decide) ?_
  refine r_callP C (As := [.int e, .int (nI 1), .int (nI 10)]) (rest := [.ref (ad g 19)]) (st1 := [.int (bI (inI e (nI 1) (nI 10))), .ref (ad g 19)]) miX11_in msX11_in (c_in l e (nI 1) (nI 10)) hw_5_77 rfl ⟨by decide, by decide, rfl, rfl, by decide, by decide⟩ rfl (Nat.le_of_ble_eq_true rfl) dX11_setGround_5 rfl ?_
  refine r_if_eq C 15 dX11_setGround_8 (by decide) (bI_eq _) (fun h8 => ?_) (fun h8 => ?_)
  · refine r_iconst C (v := (nI 1)) dX11_setGround_15 rfl ?_
    refine r_put C X (μ' := (sI μ 5 (nI 1))) (k := 19) (R := RX11) (T := TX11) (N := 15) (n := 0) (v := .int (nI 1)) (ty := .int) (by decide) rfl rfl inw11 tyX11_ok nmX11 (by decide) rfl hw_5_18 rfl rfl rfl rfl (Nat.le_of_ble_eq_true rfl) dX11_setGround_16 (WF_sI5_at g _ _) (WF_sI5_ne g _ _) ?_
    refine r_aload_n C dX11_setGround_19 0 rfl ?_
    refine r_get C X (k := 19) (R := RX11) (T := TX11) (N := 15) (n := 0) (v := .int (gI (sI μ 5 (nI 1)) 5)) (by decide) rfl rfl inw11 (by decide) rfl hw_5_18 rfl dX11_setGround_20 ?_
    refine G_top (y := (nI 1)) (gI_s _ _ _) ?_
    refine r_if_le C 28 dX11_setGround_23 (by decide) (zI_le (by omega)) (fun h23 => ?_) (fun h23 => ?_)
    · exact absurd h23 (by decide)
    · refine r_iconst C (v := (nI 0)) dX11_setGround_26 rfl ?_
      exact r_iret C dX11_setGround_27 Rr
  · exact absurd hno h8
set_option maxHeartbeats 1000000 in
set_option maxRecDepth 100000 in
theorem n_rank (l : Launch) (g : Gd) (μ : Mm) (e : Int32) (hno : (inI e (nI 0) (nI 1023)) = false) : Ct l yX11_rank cX11_rank 5 (some .int) (rmk 1 22) g [.ref (ad g 19), .int e] μ (some (.int (nI 0))) (sI μ 5 (nI 1)) := by
  refine Ct.of (by decide) (Nat.le_of_ble_eq_true rfl) (fun z A C X Rr => ?_)
  refine r_aload_n C dX11_rank_0 0 rfl ?_
  refine r_iload_n C dX11_rank_1 1 rfl ?_
  refine r_iconst C (v := (nI 0)) dX11_rank_2 rfl ?_
  refine r_sipush C (v := (nI 1023)) dX11_rank_3 (by decide) ?_
  refine r_callP C (As := [.int e, .int (nI 0), .int (nI 1023)]) (rest := [.ref (ad g 19)]) (st1 := [.int (bI (inI e (nI 0) (nI 1023))), .ref (ad g 19)]) miX11_in msX11_in (c_in l e (nI 0) (nI 1023)) hw_5_77 rfl ⟨by decide, by decide, rfl, rfl, by decide, by decide⟩ rfl (Nat.le_of_ble_eq_true rfl) dX11_rank_6 rfl ?_
  refine r_if_eq C 16 dX11_rank_9 (by decide) (bI_eq _) (fun h9 => ?_) (fun h9 => ?_)
  · refine r_iconst C (v := (nI 1)) dX11_rank_16 rfl ?_
    refine r_put C X (μ' := (sI μ 5 (nI 1))) (k := 19) (R := RX11) (T := TX11) (N := 15) (n := 0) (v := .int (nI 1)) (ty := .int) (by decide) rfl rfl inw11 tyX11_ok nmX11 (by decide) rfl hw_5_18 rfl rfl rfl rfl (Nat.le_of_ble_eq_true rfl) dX11_rank_17 (WF_sI5_at g _ _) (WF_sI5_ne g _ _) ?_
    refine r_aload_n C dX11_rank_20 0 rfl ?_
    refine r_get C X (k := 19) (R := RX11) (T := TX11) (N := 15) (n := 0) (v := .int (gI (sI μ 5 (nI 1)) 5)) (by decide) rfl rfl inw11 (by decide) rfl hw_5_18 rfl dX11_rank_21 ?_
    refine G_top (y := (nI 1)) (gI_s _ _ _) ?_
    refine r_if_le C 29 dX11_rank_24 (by decide) (zI_le (by omega)) (fun h24 => ?_) (fun h24 => ?_)
    · exact absurd h24 (by decide)
    · refine r_iconst C (v := (nI 0)) dX11_rank_27 rfl ?_
      exact r_iret C dX11_rank_28 Rr
  · exact absurd hno h9
set_option maxHeartbeats 1000000 in
set_option maxRecDepth 100000 in
theorem n_unrank (l : Launch) (g : Gd) (μ : Mm) (k ix : Int32) (hno : (inI k (nI 0) (nI 10) && decide (0 ≤ ix)) = false) : Ct l yX11_unrank cX11_unrank 5 (some .int) (rmk 1 22) g [.ref (ad g 19), .int k, .int ix] μ (some (.int (nI 0))) (sI μ 5 (nI 1)) := by
  refine Ct.of (by decide) (Nat.le_of_ble_eq_true rfl) (fun z A C X Rr => ?_)
  refine r_aload_n C dX11_unrank_0 0 rfl ?_
  refine r_iload_n C dX11_unrank_1 1 rfl ?_
  refine r_iconst C (v := (nI 0)) dX11_unrank_2 rfl ?_
  refine r_bipush C (v := (nI 10)) dX11_unrank_3 (by decide) ?_
  refine r_callP C (As := [.int k, .int (nI 0), .int (nI 10)]) (rest := [.ref (ad g 19)]) (st1 := [.int (bI (inI k (nI 0) (nI 10))), .ref (ad g 19)]) miX11_in msX11_in (c_in l k (nI 0) (nI 10)) hw_5_77 rfl ⟨by decide, by decide, rfl, rfl, by decide, by decide⟩ rfl (Nat.le_of_ble_eq_true rfl) dX11_unrank_5 rfl ?_
  refine r_if_eq C 19 dX11_unrank_8 (by decide) (bI_eq _) (fun h8 => ?_) (fun h8 => ?_)
  · refine r_iconst C (v := (nI 1)) dX11_unrank_19 rfl ?_
    refine r_put C X (μ' := (sI μ 5 (nI 1))) (k := 19) (R := RX11) (T := TX11) (N := 15) (n := 0) (v := .int (nI 1)) (ty := .int) (by decide) rfl rfl inw11 tyX11_ok nmX11 (by decide) rfl hw_5_18 rfl rfl rfl rfl (Nat.le_of_ble_eq_true rfl) dX11_unrank_20 (WF_sI5_at g _ _) (WF_sI5_ne g _ _) ?_
    refine r_aload_n C dX11_unrank_23 0 rfl ?_
    refine r_get C X (k := 19) (R := RX11) (T := TX11) (N := 15) (n := 0) (v := .int (gI (sI μ 5 (nI 1)) 5)) (by decide) rfl rfl inw11 (by decide) rfl hw_5_18 rfl dX11_unrank_24 ?_
    refine G_top (y := (nI 1)) (gI_s _ _ _) ?_
    refine r_if_le C 32 dX11_unrank_27 (by decide) (zI_le (by omega)) (fun h27 => ?_) (fun h27 => ?_)
    · exact absurd h27 (by decide)
    · refine r_iconst C (v := (nI 0)) dX11_unrank_30 rfl ?_
      exact r_iret C dX11_unrank_31 Rr
  · refine r_iload_n C dX11_unrank_11 2 rfl ?_
    refine r_if_lt C 19 dX11_unrank_12 (by decide) Iff.rfl (fun h12 => ?_) (fun h12 => ?_)
    · refine r_iconst C (v := (nI 1)) dX11_unrank_19 rfl ?_
      refine r_put C X (μ' := (sI μ 5 (nI 1))) (k := 19) (R := RX11) (T := TX11) (N := 15) (n := 0) (v := .int (nI 1)) (ty := .int) (by decide) rfl rfl inw11 tyX11_ok nmX11 (by decide) rfl hw_5_18 rfl rfl rfl rfl (Nat.le_of_ble_eq_true rfl) dX11_unrank_20 (WF_sI5_at g _ _) (WF_sI5_ne g _ _) ?_
      refine r_aload_n C dX11_unrank_23 0 rfl ?_
      refine r_get C X (k := 19) (R := RX11) (T := TX11) (N := 15) (n := 0) (v := .int (gI (sI μ 5 (nI 1)) 5)) (by decide) rfl rfl inw11 (by decide) rfl hw_5_18 rfl dX11_unrank_24 ?_
      refine G_top (y := (nI 1)) (gI_s _ _ _) ?_
      refine r_if_le C 32 dX11_unrank_27 (by decide) (zI_le (by omega)) (fun h27 => ?_) (fun h27 => ?_)
      · exact absurd h27 (by decide)
      · refine r_iconst C (v := (nI 0)) dX11_unrank_30 rfl ?_
        exact r_iret C dX11_unrank_31 Rr
    · exact absurd hno (by rw [ts_t h8, decide_eq_true (Int32.not_lt.mp h12)]; decide)
set_option maxHeartbeats 1000000 in
set_option maxRecDepth 100000 in
theorem n_shadowBound (l : Launch) (g : Gd) (μ : Mm) (m k : Int32) (hno : (inI m (nI 0) (nI 1000000) && inI k (nI 1) (nI 10)) = false) : Ct l yX11_shadowBound cX11_shadowBound 3 (some .int) (rmk 1 22) g [.ref (ad g 19), .int m, .int k] μ (some (.int (nI 0))) (sI μ 5 (nI 1)) := by
  refine Ct.of (by decide) (Nat.le_of_ble_eq_true rfl) (fun z A C X Rr => ?_)
  refine r_aload_n C dX11_shadowBound_0 0 rfl ?_
  refine r_iload_n C dX11_shadowBound_1 1 rfl ?_
  refine r_iconst C (v := (nI 0)) dX11_shadowBound_2 rfl ?_
  refine r_ldc C dX11_shadowBound_3 hw_5_217 ?_
  refine G_top (y := (nI 1000000)) (by decide) ?_
  refine r_callP C (As := [.int m, .int (nI 0), .int (nI 1000000)]) (rest := [.ref (ad g 19)]) (st1 := [.int (bI (inI m (nI 0) (nI 1000000))), .ref (ad g 19)]) miX11_in msX11_in (c_in l m (nI 0) (nI 1000000)) hw_5_77 rfl ⟨by decide, by decide, rfl, rfl, by decide, by decide⟩ rfl (Nat.le_of_ble_eq_true rfl) dX11_shadowBound_5 rfl ?_
  refine r_if_eq C 25 dX11_shadowBound_8 (by decide) (bI_eq _) (fun h8 => ?_) (fun h8 => ?_)
  · refine r_iconst C (v := (nI 1)) dX11_shadowBound_25 rfl ?_
    refine r_put C X (μ' := (sI μ 5 (nI 1))) (k := 19) (R := RX11) (T := TX11) (N := 15) (n := 0) (v := .int (nI 1)) (ty := .int) (by decide) rfl rfl inw11 tyX11_ok nmX11 (by decide) rfl hw_5_18 rfl rfl rfl rfl (Nat.le_of_ble_eq_true rfl) dX11_shadowBound_26 (WF_sI5_at g _ _) (WF_sI5_ne g _ _) ?_
    refine r_aload_n C dX11_shadowBound_29 0 rfl ?_
    refine r_get C X (k := 19) (R := RX11) (T := TX11) (N := 15) (n := 0) (v := .int (gI (sI μ 5 (nI 1)) 5)) (by decide) rfl rfl inw11 (by decide) rfl hw_5_18 rfl dX11_shadowBound_30 ?_
    refine G_top (y := (nI 1)) (gI_s _ _ _) ?_
    refine r_if_le C 40 dX11_shadowBound_33 (by decide) (zI_le (by omega)) (fun h33 => ?_) (fun h33 => ?_)
    · exact absurd h33 (by decide)
    · refine r_iconst C (v := (nI 0)) dX11_shadowBound_36 rfl ?_
      refine r_goto C 45 dX11_shadowBound_37 (by decide) ?_
      exact r_iret C dX11_shadowBound_45 Rr
  · refine r_iload_n C dX11_shadowBound_11 2 rfl ?_
    refine r_iconst C (v := (nI 1)) dX11_shadowBound_12 rfl ?_
    refine r_bipush C (v := (nI 10)) dX11_shadowBound_13 (by decide) ?_
    refine r_callP C (As := [.int k, .int (nI 1), .int (nI 10)]) (rest := [.ref (ad g 19)]) (st1 := [.int (bI (inI k (nI 1) (nI 10))), .ref (ad g 19)]) miX11_in msX11_in (c_in l k (nI 1) (nI 10)) hw_5_77 rfl ⟨by decide, by decide, rfl, rfl, by decide, by decide⟩ rfl (Nat.le_of_ble_eq_true rfl) dX11_shadowBound_15 rfl ?_
    refine r_if_eq C 25 dX11_shadowBound_18 (by decide) (bI_eq _) (fun h18 => ?_) (fun h18 => ?_)
    · refine r_iconst C (v := (nI 1)) dX11_shadowBound_25 rfl ?_
      refine r_put C X (μ' := (sI μ 5 (nI 1))) (k := 19) (R := RX11) (T := TX11) (N := 15) (n := 0) (v := .int (nI 1)) (ty := .int) (by decide) rfl rfl inw11 tyX11_ok nmX11 (by decide) rfl hw_5_18 rfl rfl rfl rfl (Nat.le_of_ble_eq_true rfl) dX11_shadowBound_26 (WF_sI5_at g _ _) (WF_sI5_ne g _ _) ?_
      refine r_aload_n C dX11_shadowBound_29 0 rfl ?_
      refine r_get C X (k := 19) (R := RX11) (T := TX11) (N := 15) (n := 0) (v := .int (gI (sI μ 5 (nI 1)) 5)) (by decide) rfl rfl inw11 (by decide) rfl hw_5_18 rfl dX11_shadowBound_30 ?_
      refine G_top (y := (nI 1)) (gI_s _ _ _) ?_
      refine r_if_le C 40 dX11_shadowBound_33 (by decide) (zI_le (by omega)) (fun h33 => ?_) (fun h33 => ?_)
      · exact absurd h33 (by decide)
      · refine r_iconst C (v := (nI 0)) dX11_shadowBound_36 rfl ?_
        refine r_goto C 45 dX11_shadowBound_37 (by decide) ?_
        exact r_iret C dX11_shadowBound_45 Rr
    · exact absurd hno (by rw [ts_t h8, ts_t h18]; decide)
set_option maxHeartbeats 1000000 in
set_option maxRecDepth 100000 in
theorem n_cascade (l : Launch) (g : Gd) (μ : Mm) (m k ix : Int32) (hno : (inI m (nI 1) (nI 1000000) && inI k (nI 1) (nI 10) && decide (0 ≤ ix)) = false) : Ct l yX11_cascade cX11_cascade 8 (some .int) (rmk 1 22) g [.ref (ad g 19), .int m, .int k, .int ix] μ (some (.int (nI 0))) (sI μ 5 (nI 1)) := by
  refine Ct.of (by decide) (Nat.le_of_ble_eq_true rfl) (fun z A C X Rr => ?_)
  refine r_aload_n C dX11_cascade_0 0 rfl ?_
  refine r_iload_n C dX11_cascade_1 1 rfl ?_
  refine r_iconst C (v := (nI 1)) dX11_cascade_2 rfl ?_
  refine r_ldc C dX11_cascade_3 hw_5_217 ?_
  refine G_top (y := (nI 1000000)) (by decide) ?_
  refine r_callP C (As := [.int m, .int (nI 1), .int (nI 1000000)]) (rest := [.ref (ad g 19)]) (st1 := [.int (bI (inI m (nI 1) (nI 1000000))), .ref (ad g 19)]) miX11_in msX11_in (c_in l m (nI 1) (nI 1000000)) hw_5_77 rfl ⟨by decide, by decide, rfl, rfl, by decide, by decide⟩ rfl (Nat.le_of_ble_eq_true rfl) dX11_cascade_5 rfl ?_
  refine r_if_eq C 29 dX11_cascade_8 (by decide) (bI_eq _) (fun h8 => ?_) (fun h8 => ?_)
  · refine r_iconst C (v := (nI 1)) dX11_cascade_29 rfl ?_
    refine r_put C X (μ' := (sI μ 5 (nI 1))) (k := 19) (R := RX11) (T := TX11) (N := 15) (n := 0) (v := .int (nI 1)) (ty := .int) (by decide) rfl rfl inw11 tyX11_ok nmX11 (by decide) rfl hw_5_18 rfl rfl rfl rfl (Nat.le_of_ble_eq_true rfl) dX11_cascade_30 (WF_sI5_at g _ _) (WF_sI5_ne g _ _) ?_
    refine r_aload_n C dX11_cascade_33 0 rfl ?_
    refine r_get C X (k := 19) (R := RX11) (T := TX11) (N := 15) (n := 0) (v := .int (gI (sI μ 5 (nI 1)) 5)) (by decide) rfl rfl inw11 (by decide) rfl hw_5_18 rfl dX11_cascade_34 ?_
    refine G_top (y := (nI 1)) (gI_s _ _ _) ?_
    refine r_if_le C 42 dX11_cascade_37 (by decide) (zI_le (by omega)) (fun h37 => ?_) (fun h37 => ?_)
    · exact absurd h37 (by decide)
    · refine r_iconst C (v := (nI 0)) dX11_cascade_40 rfl ?_
      exact r_iret C dX11_cascade_41 Rr
  · refine r_iload_n C dX11_cascade_11 2 rfl ?_
    refine r_iconst C (v := (nI 1)) dX11_cascade_12 rfl ?_
    refine r_bipush C (v := (nI 10)) dX11_cascade_13 (by decide) ?_
    refine r_callP C (As := [.int k, .int (nI 1), .int (nI 10)]) (rest := [.ref (ad g 19)]) (st1 := [.int (bI (inI k (nI 1) (nI 10))), .ref (ad g 19)]) miX11_in msX11_in (c_in l k (nI 1) (nI 10)) hw_5_77 rfl ⟨by decide, by decide, rfl, rfl, by decide, by decide⟩ rfl (Nat.le_of_ble_eq_true rfl) dX11_cascade_15 rfl ?_
    refine r_if_eq C 29 dX11_cascade_18 (by decide) (bI_eq _) (fun h18 => ?_) (fun h18 => ?_)
    · refine r_iconst C (v := (nI 1)) dX11_cascade_29 rfl ?_
      refine r_put C X (μ' := (sI μ 5 (nI 1))) (k := 19) (R := RX11) (T := TX11) (N := 15) (n := 0) (v := .int (nI 1)) (ty := .int) (by decide) rfl rfl inw11 tyX11_ok nmX11 (by decide) rfl hw_5_18 rfl rfl rfl rfl (Nat.le_of_ble_eq_true rfl) dX11_cascade_30 (WF_sI5_at g _ _) (WF_sI5_ne g _ _) ?_
      refine r_aload_n C dX11_cascade_33 0 rfl ?_
      refine r_get C X (k := 19) (R := RX11) (T := TX11) (N := 15) (n := 0) (v := .int (gI (sI μ 5 (nI 1)) 5)) (by decide) rfl rfl inw11 (by decide) rfl hw_5_18 rfl dX11_cascade_34 ?_
      refine G_top (y := (nI 1)) (gI_s _ _ _) ?_
      refine r_if_le C 42 dX11_cascade_37 (by decide) (zI_le (by omega)) (fun h37 => ?_) (fun h37 => ?_)
      · exact absurd h37 (by decide)
      · refine r_iconst C (v := (nI 0)) dX11_cascade_40 rfl ?_
        exact r_iret C dX11_cascade_41 Rr
    · refine r_iload_n C dX11_cascade_21 3 rfl ?_
      refine r_if_lt C 29 dX11_cascade_22 (by decide) Iff.rfl (fun h22 => ?_) (fun h22 => ?_)
      · refine r_iconst C (v := (nI 1)) dX11_cascade_29 rfl ?_
        refine r_put C X (μ' := (sI μ 5 (nI 1))) (k := 19) (R := RX11) (T := TX11) (N := 15) (n := 0) (v := .int (nI 1)) (ty := .int) (by decide) rfl rfl inw11 tyX11_ok nmX11 (by decide) rfl hw_5_18 rfl rfl rfl rfl (Nat.le_of_ble_eq_true rfl) dX11_cascade_30 (WF_sI5_at g _ _) (WF_sI5_ne g _ _) ?_
        refine r_aload_n C dX11_cascade_33 0 rfl ?_
        refine r_get C X (k := 19) (R := RX11) (T := TX11) (N := 15) (n := 0) (v := .int (gI (sI μ 5 (nI 1)) 5)) (by decide) rfl rfl inw11 (by decide) rfl hw_5_18 rfl dX11_cascade_34 ?_
        refine G_top (y := (nI 1)) (gI_s _ _ _) ?_
        refine r_if_le C 42 dX11_cascade_37 (by decide) (zI_le (by omega)) (fun h37 => ?_) (fun h37 => ?_)
        · exact absurd h37 (by decide)
        · refine r_iconst C (v := (nI 0)) dX11_cascade_40 rfl ?_
          exact r_iret C dX11_cascade_41 Rr
      · exact absurd hno (by rw [ts_t h8, ts_t h18, decide_eq_true (Int32.not_lt.mp h22)]; decide)
