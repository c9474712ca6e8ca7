theorem inN {a b v : Nat} (h1 : a ≤ v) (h2 : v ≤ b) (hb : b < 2 ^ 31) : inI (nI v) (nI a) (nI b) = true := decide_eq_true ⟨(nI_leI (by omega) (by omega)).mpr h1, (nI_leI (by omega) (by omega)).mpr h2⟩
set_option maxHeartbeats 1000000 in
set_option maxRecDepth 100000 in
theorem y_has (l : Launch) (g : Gd) (μ : Mm) {F : Nat → Bool} {n f s : Nat} (h6 : gI μ 6 = nI n) (hn10 : n ≤ 10) (h5 : gA μ 5 = bR F) (hf : f < 4) (hs : s < 2 ^ n) : Ct l yX11_has cX11_has 3 (some .boolean) (rmk 2 43) g [.ref (ad g 19), .int (nI f), .int (nI s)] μ (some (.int (bI (F (1024 * f + s))))) (mgM μ true true) := by
  have h1024 := pw10 hn10
  have h2n := Nat.two_pow_pos n
  refine Ct.of (by decide) (Nat.le_of_ble_eq_true rfl) (fun z A C X Rr => ?_)
  refine r_aload_n C dX11_has_0 0 rfl ?_
  refine r_iload_n C dX11_has_1 1 rfl ?_
  refine r_callP C (As := [.int (nI f)]) (rest := [.ref (ad g 19)]) (st1 := [.int (bI (inI (nI f) (nI 0) (nI 3))), .ref (ad g 19)]) miX11_isPlace msX11_isPlace (c_isPlace l (nI f)) hw_5_92 rfl ⟨by decide, by decide, rfl, rfl, by decide, by decide⟩ rfl (Nat.le_of_ble_eq_true rfl) dX11_has_2 rfl ?_
  refine G_top (y := (bI true)) (congrArg bI (inN (v := f) (Nat.zero_le _) (by omega) (by decide))) ?_
  refine r_aload_n C dX11_has_5 0 rfl ?_
  refine r_iload_n C dX11_has_6 2 rfl ?_
  refine r_callV C X (As := [.int (nI s)]) (rest := [.int (bI true), .ref (ad g 19)]) (st1 := [.int (bI (inI (nI s) (nI 0) (nI (2 ^ n - 1)))), .int (bI true), .ref (ad g 19)]) (μ' := μ) (k := 19) (T := TX11) miX11_isCode mvX11_isCode (c_isCode l g μ (n := n) h6 (by omega) (nI s)) hw_5_95 (by decide) rfl rfl rfl ⟨by decide, by decide, rfl, rfl, by decide, by decide⟩ rfl (Nat.le_of_ble_eq_true rfl) dX11_has_7 rfl ?_
  refine G_top (y := (bI true)) (congrArg bI (inN (v := s) (Nat.zero_le _) (by omega) (by omega))) ?_
  refine r_callV C X (As := [.int (bI true), .int (bI true)]) (rest := []) (st1 := [.int (bI (true && true))]) (μ' := (mgM μ true true)) (k := 19) (T := TX11) miX11_mayGo mvX11_mayGo (c_mayGo l g μ true true) hw_5_103 (by decide) rfl rfl rfl ⟨by decide, by decide, rfl, rfl, by decide, by decide⟩ rfl (Nat.le_of_ble_eq_true rfl) dX11_has_10 rfl ?_
  refine r_if_eq C 35 dX11_has_13 (by decide) (bI_eq _) (fun h13 => ?_) (fun h13 => ?_)
  · exact absurd h13 (by decide)
  · refine r_aload_n C dX11_has_16 0 rfl ?_
    refine r_get C X (k := 19) (R := RX11) (T := TX11) (N := 15) (n := 2) (v := .ref (ad g 20)) (by decide) rfl rfl inw11 (by decide) rfl hw_5_20 rfl dX11_has_17 ?_
    refine r_sipush C (v := (nI 1024)) dX11_has_20 (by decide) ?_
    refine r_iload_n C dX11_has_23 1 rfl ?_
    refine r_imul C (v := (nI (1024 * f))) dX11_has_24 (pk_mul _ _) ?_
    refine r_iload_n C dX11_has_25 2 rfl ?_
    refine r_iadd C (v := (nI (1024 * f + s))) dX11_has_26 (nI_add _ _) ?_
    refine r_zald C X (k := 20) (v := (bI (F (1024 * f + s)))) (by decide) rfl (by omega) (by decide) (bR_at ((gA_I _ _ _ _).trans h5) _) dX11_has_27 ?_
    refine r_if_eq C 35 dX11_has_28 (by decide) (bI_eq _) (fun h28 => ?_) (fun h28 => ?_)
    · refine r_iconst C (v := (nI 0)) dX11_has_35 rfl ?_
      refine G_top (y := (bI (F (1024 * f + s)))) (b0 h28) ?_
      exact r_zret C dX11_has_36 (nar_b _) Rr
    · refine r_iconst C (v := (nI 1)) dX11_has_31 rfl ?_
      refine r_goto C 36 dX11_has_32 (by decide) ?_
      refine G_top (y := (bI (F (1024 * f + s)))) (b1 (ts_t h28)) ?_
      exact r_zret C dX11_has_36 (nar_b _) Rr
set_option maxHeartbeats 1000000 in
set_option maxRecDepth 100000 in
theorem y_size (l : Launch) (g : Gd) (μ : Mm) {F : Nat → Bool} {n f : Nat} (h6 : gI μ 6 = nI n) (hn10 : n ≤ 10) (h5 : gA μ 5 = bR F) (hf : f < 4) {lv : Int32} (hlv : inI lv (-1) (nI n) = true) : Ct l yX11_size cX11_size 3 (some .int) (rmk 2 46) g [.ref (ad g 19), .int (nI f), .int lv] μ (some (.int (nI (szF F f lv (2 ^ n))))) (mgM μ true true) := by
  have h1024 := pw10 hn10
  have h2n := Nat.two_pow_pos n
  refine Ct.of (by decide) (Nat.le_of_ble_eq_true rfl) (fun z A C X Rr => ?_)
  refine r_aload_n C dX11_size_0 0 rfl ?_
  refine r_iload_n C dX11_size_1 1 rfl ?_
  refine r_callP C (As := [.int (nI f)]) (rest := [.ref (ad g 19)]) (st1 := [.int (bI (inI (nI f) (nI 0) (nI 3))), .ref (ad g 19)]) miX11_isPlace msX11_isPlace (c_isPlace l (nI f)) hw_5_92 rfl ⟨by decide, by decide, rfl, rfl, by decide, by decide⟩ rfl (Nat.le_of_ble_eq_true rfl) dX11_size_2 rfl ?_
  refine G_top (y := (bI true)) (congrArg bI (inN (v := f) (Nat.zero_le _) (by omega) (by decide))) ?_
  refine r_iload_n C dX11_size_5 2 rfl ?_
  refine r_iconst C (v := (-1)) dX11_size_6 rfl ?_
  refine r_aload_n C dX11_size_7 0 rfl ?_
  refine r_get C X (k := 19) (R := RX11) (T := TX11) (N := 15) (n := 1) (v := .int (gI μ 6)) (by decide) rfl rfl inw11 (by decide) rfl hw_5_19 rfl dX11_size_8 ?_
  refine G_top (y := (nI n)) h6 ?_
  refine r_callP C (As := [.int lv, .int (-1), .int (nI n)]) (rest := [.int (bI true), .ref (ad g 19)]) (st1 := [.int (bI (inI lv (-1) (nI n))), .int (bI true), .ref (ad g 19)]) miX11_in msX11_in (c_in l lv (-1) (nI n)) hw_5_77 rfl ⟨by decide, by decide, rfl, rfl, by decide, by decide⟩ rfl (Nat.le_of_ble_eq_true rfl) dX11_size_11 rfl ?_
  refine G_top (y := (bI true)) (congrArg bI hlv) ?_
  refine r_callV C X (As := [.int (bI true), .int (bI true)]) (rest := []) (st1 := [.int (bI (true && true))]) (μ' := (mgM μ true true)) (k := 19) (T := TX11) miX11_mayGo mvX11_mayGo (c_mayGo l g μ true true) hw_5_103 (by decide) rfl rfl rfl ⟨by decide, by decide, rfl, rfl, by decide, by decide⟩ rfl (Nat.le_of_ble_eq_true rfl) dX11_size_14 rfl ?_
  refine r_if_eq C 29 dX11_size_17 (by decide) (bI_eq _) (fun h17 => ?_) (fun h17 => ?_)
  · exact absurd h17 (by decide)
  · refine r_aload_n C dX11_size_20 0 rfl ?_
    refine r_iload_n C dX11_size_21 1 rfl ?_
    refine r_iload_n C dX11_size_22 2 rfl ?_
    refine r_callV C X (As := [.int (nI f), .int lv]) (rest := []) (st1 := [.int (nI (szF F f lv (2 ^ n)))]) (μ' := (mgM μ true true)) (k := 19) (T := TX11) miX11_sizeOf mvX11_sizeOf (c_sizeOf l g (mgM μ true true) (F := F) (n := n) (f := f) ((gI_n _ _ (by decide)).trans h6) (by omega) ((gA_I _ _ _ _).trans h5) (by omega) lv) hw_5_119 (by decide) rfl rfl rfl ⟨by decide, by decide, rfl, rfl, by decide, by decide⟩ rfl (Nat.le_of_ble_eq_true rfl) dX11_size_23 rfl ?_
    refine r_goto C 30 dX11_size_26 (by decide) ?_
    exact r_iret C dX11_size_30 Rr
set_option maxHeartbeats 1000000 in
set_option maxRecDepth 100000 in
theorem y_degree (l : Launch) (g : Gd) (μ : Mm) {F : Nat → Bool} {n f x : Nat} (h6 : gI μ 6 = nI n) (hn10 : n ≤ 10) (h5 : gA μ 5 = bR F) (hf : f < 4) (hx : x < n) : Ct l yX11_degree cX11_degree 3 (some .int) (rmk 2 44) g [.ref (ad g 19), .int (nI f), .int (nI x)] μ (some (.int (nI (dgF F f x (2 ^ n))))) (mgM μ true true) := by
  have h1024 := pw10 hn10
  have h2n := Nat.two_pow_pos n
  refine Ct.of (by decide) (Nat.le_of_ble_eq_true rfl) (fun z A C X Rr => ?_)
  refine r_aload_n C dX11_degree_0 0 rfl ?_
  refine r_iload_n C dX11_degree_1 1 rfl ?_
  refine r_callP C (As := [.int (nI f)]) (rest := [.ref (ad g 19)]) (st1 := [.int (bI (inI (nI f) (nI 0) (nI 3))), .ref (ad g 19)]) miX11_isPlace msX11_isPlace (c_isPlace l (nI f)) hw_5_92 rfl ⟨by decide, by decide, rfl, rfl, by decide, by decide⟩ rfl (Nat.le_of_ble_eq_true rfl) dX11_degree_2 rfl ?_
  refine G_top (y := (bI true)) (congrArg bI (inN (v := f) (Nat.zero_le _) (by omega) (by decide))) ?_
  refine r_aload_n C dX11_degree_5 0 rfl ?_
  refine r_iload_n C dX11_degree_6 2 rfl ?_
  refine r_callV C X (As := [.int (nI x)]) (rest := [.int (bI true), .ref (ad g 19)]) (st1 := [.int (bI (inI (nI x) (nI 0) (nI (n - 1)))), .int (bI true), .ref (ad g 19)]) (μ' := μ) (k := 19) (T := TX11) miX11_isElement mvX11_isElement (c_isElement l g μ (n := n) h6 (by omega) (nI x)) hw_5_134 (by decide) rfl rfl rfl ⟨by decide, by decide, rfl, rfl, by decide, by decide⟩ rfl (Nat.le_of_ble_eq_true rfl) dX11_degree_7 rfl ?_
  refine G_top (y := (bI true)) (congrArg bI (inN (v := x) (Nat.zero_le _) (by omega) (by omega))) ?_
  refine r_callV C X (As := [.int (bI true), .int (bI true)]) (rest := []) (st1 := [.int (bI (true && true))]) (μ' := (mgM μ true true)) (k := 19) (T := TX11) miX11_mayGo mvX11_mayGo (c_mayGo l g μ true true) hw_5_103 (by decide) rfl rfl rfl ⟨by decide, by decide, rfl, rfl, by decide, by decide⟩ rfl (Nat.le_of_ble_eq_true rfl) dX11_degree_10 rfl ?_
  refine r_if_eq C 25 dX11_degree_13 (by decide) (bI_eq _) (fun h13 => ?_) (fun h13 => ?_)
  · exact absurd h13 (by decide)
  · refine r_aload_n C dX11_degree_16 0 rfl ?_
    refine r_iload_n C dX11_degree_17 1 rfl ?_
    refine r_iload_n C dX11_degree_18 2 rfl ?_
    refine r_callV C X (As := [.int (nI f), .int (nI x)]) (rest := []) (st1 := [.int (nI (dgF F f x (2 ^ n)))]) (μ' := (mgM μ true true)) (k := 19) (T := TX11) miX11_degreeOf mvX11_degreeOf (c_degreeOf l g (mgM μ true true) (F := F) (n := n) (f := f) (x := x) ((gI_n _ _ (by decide)).trans h6) (by omega) ((gA_I _ _ _ _).trans h5) (by omega) (by omega)) hw_5_138 (by decide) rfl rfl rfl ⟨by decide, by decide, rfl, rfl, by decide, by decide⟩ rfl (Nat.le_of_ble_eq_true rfl) dX11_degree_19 rfl ?_
    refine r_goto C 26 dX11_degree_22 (by decide) ?_
    exact r_iret C dX11_degree_26 Rr
set_option maxHeartbeats 1000000 in
set_option maxRecDepth 100000 in
theorem y_is (l : Launch) (g : Gd) (μ : Mm) {F : Nat → Bool} {n f p : Nat} (h6 : gI μ 6 = nI n) (hn10 : n ≤ 10) (h5 : gA μ 5 = bR F) (hf : f < 4) (hp : p < 6) : Ct l yX11_is cX11_is 3 (some .boolean) (rmk 2 52) g [.ref (ad g 19), .int (nI f), .int (nI p)] μ (some (.int (bI (hlO F n f p (2 ^ n))))) (mgM μ true true) := by
  have h1024 := pw10 hn10
  have h2n := Nat.two_pow_pos n
  refine Ct.of (by decide) (Nat.le_of_ble_eq_true rfl) (fun z A C X Rr => ?_)
  refine r_aload_n C dX11_is_0 0 rfl ?_
  refine r_iload_n C dX11_is_1 1 rfl ?_
  refine r_callP C (As := [.int (nI f)]) (rest := [.ref (ad g 19)]) (st1 := [.int (bI (inI (nI f) (nI 0) (nI 3))), .ref (ad g 19)]) miX11_isPlace msX11_isPlace (c_isPlace l (nI f)) hw_5_92 rfl ⟨by decide, by decide, rfl, rfl, by decide, by decide⟩ rfl (Nat.le_of_ble_eq_true rfl) dX11_is_2 rfl ?_
  refine G_top (y := (bI true)) (congrArg bI (inN (v := f) (Nat.zero_le _) (by omega) (by decide))) ?_
  refine r_iload_n C dX11_is_5 2 rfl ?_
  refine r_iconst C (v := (nI 0)) dX11_is_6 rfl ?_
  refine r_iconst C (v := (nI 5)) dX11_is_7 rfl ?_
  refine r_callP C (As := [.int (nI p), .int (nI 0), .int (nI 5)]) (rest := [.int (bI true), .ref (ad g 19)]) (st1 := [.int (bI (inI (nI p) (nI 0) (nI 5))), .int (bI true), .ref (ad g 19)]) miX11_in msX11_in (c_in l (nI p) (nI 0) (nI 5)) hw_5_77 rfl ⟨by decide, by decide, rfl, rfl, by decide, by decide⟩ rfl (Nat.le_of_ble_eq_true rfl) dX11_is_8 rfl ?_
  refine G_top (y := (bI true)) (congrArg bI (inN (v := p) (Nat.zero_le _) (by omega) (by decide))) ?_
  refine r_callV C X (As := [.int (bI true), .int (bI true)]) (rest := []) (st1 := [.int (bI (true && true))]) (μ' := (mgM μ true true)) (k := 19) (T := TX11) miX11_mayGo mvX11_mayGo (c_mayGo l g μ true true) hw_5_103 (by decide) rfl rfl rfl ⟨by decide, by decide, rfl, rfl, by decide, by decide⟩ rfl (Nat.le_of_ble_eq_true rfl) dX11_is_11 rfl ?_
  refine r_if_eq C 30 dX11_is_14 (by decide) (bI_eq _) (fun h14 => ?_) (fun h14 => ?_)
  · exact absurd h14 (by decide)
  · refine r_aload_n C dX11_is_17 0 rfl ?_
    refine r_iload_n C dX11_is_18 1 rfl ?_
    refine r_iload_n C dX11_is_19 2 rfl ?_
    refine r_callV C X (As := [.int (nI f), .int (nI p)]) (rest := []) (st1 := [.int (bI (hlO F n f p (2 ^ n)))]) (μ' := (mgM μ true true)) (k := 19) (T := TX11) miX11_holds mvX11_holds (c_holdsM l g (mgM μ true true) (F := F) (n := n) (f := f) (p := p) ((gI_n _ _ (by decide)).trans h6) (by omega) ((gA_I _ _ _ _).trans h5) (by omega) (by omega)) hw_6_0 (by decide) rfl rfl rfl ⟨by decide, by decide, rfl, rfl, by decide, by decide⟩ rfl (Nat.le_of_ble_eq_true rfl) dX11_is_20 rfl ?_
    refine r_if_eq C 30 dX11_is_23 (by decide) (bI_eq _) (fun h23 => ?_) (fun h23 => ?_)
    · refine r_iconst C (v := (nI 0)) dX11_is_30 rfl ?_
      refine G_top (y := (bI (hlO F n f p (2 ^ n)))) (b0 h23) ?_
      exact r_zret C dX11_is_31 (nar_b _) Rr
    · refine r_iconst C (v := (nI 1)) dX11_is_26 rfl ?_
      refine r_goto C 31 dX11_is_27 (by decide) ?_
      refine G_top (y := (bI (hlO F n f p (2 ^ n)))) (b1 (ts_t h23)) ?_
      exact r_zret C dX11_is_31 (nar_b _) Rr
set_option maxHeartbeats 1000000 in
set_option maxRecDepth 100000 in
theorem y_excess (l : Launch) (g : Gd) (μ : Mm) {F : Nat → Bool} {n f lv : Nat} (h6 : gI μ 6 = nI n) (hn10 : n ≤ 10) (h5 : gA μ 5 = bR F) (hf : f < 4) (hl : 1 ≤ lv) (hln : lv ≤ n) : Ct l yX11_excess cX11_excess 3 (some .int) (rmk 4 97) g [.ref (ad g 19), .int (nI f), .int (nI lv)] μ (some (.int (exR F n f lv))) (mgM μ true true) := by
  have h1024 := pw10 hn10
  have h2n := Nat.two_pow_pos n
  refine Ct.of (by decide) (Nat.le_of_ble_eq_true rfl) (fun z A C X Rr => ?_)
  refine r_aload_n C dX11_excess_0 0 rfl ?_
  refine r_iload_n C dX11_excess_1 1 rfl ?_
  refine r_callP C (As := [.int (nI f)]) (rest := [.ref (ad g 19)]) (st1 := [.int (bI (inI (nI f) (nI 0) (nI 3))), .ref (ad g 19)]) miX11_isPlace msX11_isPlace (c_isPlace l (nI f)) hw_5_92 rfl ⟨by decide, by decide, rfl, rfl, by decide, by decide⟩ rfl (Nat.le_of_ble_eq_true rfl) dX11_excess_2 rfl ?_
  refine G_top (y := (bI true)) (congrArg bI (inN (v := f) (Nat.zero_le _) (by omega) (by decide))) ?_
  refine r_iload_n C dX11_excess_5 2 rfl ?_
  refine r_iconst C (v := (nI 1)) dX11_excess_6 rfl ?_
  refine r_aload_n C dX11_excess_7 0 rfl ?_
  refine r_get C X (k := 19) (R := RX11) (T := TX11) (N := 15) (n := 1) (v := .int (gI μ 6)) (by decide) rfl rfl inw11 (by decide) rfl hw_5_19 rfl dX11_excess_8 ?_
  refine G_top (y := (nI n)) h6 ?_
  refine r_callP C (As := [.int (nI lv), .int (nI 1), .int (nI n)]) (rest := [.int (bI true), .ref (ad g 19)]) (st1 := [.int (bI (inI (nI lv) (nI 1) (nI n))), .int (bI true), .ref (ad g 19)]) miX11_in msX11_in (c_in l (nI lv) (nI 1) (nI n)) hw_5_77 rfl ⟨by decide, by decide, rfl, rfl, by decide, by decide⟩ rfl (Nat.le_of_ble_eq_true rfl) dX11_excess_11 rfl ?_
  refine G_top (y := (bI true)) (congrArg bI (inN (v := lv) hl hln (by omega))) ?_
  refine r_callV C X (As := [.int (bI true), .int (bI true)]) (rest := []) (st1 := [.int (bI (true && true))]) (μ' := (mgM μ true true)) (k := 19) (T := TX11) miX11_mayGo mvX11_mayGo (c_mayGo l g μ true true) hw_5_103 (by decide) rfl rfl rfl ⟨by decide, by decide, rfl, rfl, by decide, by decide⟩ rfl (Nat.le_of_ble_eq_true rfl) dX11_excess_14 rfl ?_
  refine r_if_eq C 29 dX11_excess_17 (by decide) (bI_eq _) (fun h17 => ?_) (fun h17 => ?_)
  · exact absurd h17 (by decide)
  · refine r_aload_n C dX11_excess_20 0 rfl ?_
    refine r_iload_n C dX11_excess_21 1 rfl ?_
    refine r_iload_n C dX11_excess_22 2 rfl ?_
    refine r_callV C X (As := [.int (nI f), .int (nI lv)]) (rest := []) (st1 := [.int (exR F n f lv)]) (μ' := (mgM μ true true)) (k := 19) (T := TX11) miX11_excessOf mvX11_excessOf (c_excessOfM l g (mgM μ true true) (F := F) (n := n) (f := f) (lv := lv) ((gI_n _ _ (by decide)).trans h6) (by omega) ((gA_I _ _ _ _).trans h5) (by omega) (by omega) (by omega)) hw_5_232 (by decide) rfl rfl rfl ⟨by decide, by decide, rfl, rfl, by decide, by decide⟩ rfl (Nat.le_of_ble_eq_true rfl) dX11_excess_23 rfl ?_
    refine r_goto C 30 dX11_excess_26 (by decide) ?_
    exact r_iret C dX11_excess_30 Rr
set_option maxHeartbeats 1000000 in
set_option maxRecDepth 100000 in
theorem y_sunflower (l : Launch) (g : Gd) (μ : Mm) {F : Nat → Bool} {n f : Nat} (h6 : gI μ 6 = nI n) (hn10 : n ≤ 10) (h5 : gA μ 5 = bR F) (hf : f < 4)  : Ct l yX11_sunflower cX11_sunflower 2 (some .int) (rmk 3 72) g [.ref (ad g 19), .int (nI f)] μ (some (.int (lcM F n f (2 ^ n) 0))) (mgM μ true true) := by
  have h1024 := pw10 hn10
  have h2n := Nat.two_pow_pos n
  refine Ct.of (by decide) (Nat.le_of_ble_eq_true rfl) (fun z A C X Rr => ?_)
  refine r_aload_n C dX11_sunflower_0 0 rfl ?_
  refine r_iload_n C dX11_sunflower_1 1 rfl ?_
  refine r_callP C (As := [.int (nI f)]) (rest := [.ref (ad g 19)]) (st1 := [.int (bI (inI (nI f) (nI 0) (nI 3))), .ref (ad g 19)]) miX11_isPlace msX11_isPlace (c_isPlace l (nI f)) hw_5_92 rfl ⟨by decide, by decide, rfl, rfl, by decide, by decide⟩ rfl (Nat.le_of_ble_eq_true rfl) dX11_sunflower_2 rfl ?_
  refine G_top (y := (bI true)) (congrArg bI (inN (v := f) (Nat.zero_le _) (by omega) (by decide))) ?_
  refine r_iconst C (v := (nI 1)) dX11_sunflower_5 rfl ?_
  refine G_top (y := (bI true)) rfl ?_
  refine r_callV C X (As := [.int (bI true), .int (bI true)]) (rest := []) (st1 := [.int (bI (true && true))]) (μ' := (mgM μ true true)) (k := 19) (T := TX11) miX11_mayGo mvX11_mayGo (c_mayGo l g μ true true) hw_5_103 (by decide) rfl rfl rfl ⟨by decide, by decide, rfl, rfl, by decide, by decide⟩ rfl (Nat.le_of_ble_eq_true rfl) dX11_sunflower_6 rfl ?_
  refine r_if_eq C 20 dX11_sunflower_9 (by decide) (bI_eq _) (fun h9 => ?_) (fun h9 => ?_)
  · exact absurd h9 (by decide)
  · refine r_aload_n C dX11_sunflower_12 0 rfl ?_
    refine r_iload_n C dX11_sunflower_13 1 rfl ?_
    refine r_callV C X (As := [.int (nI f)]) (rest := []) (st1 := [.int (lcM F n f (2 ^ n) 0)]) (μ' := (mgM μ true true)) (k := 19) (T := TX11) miX11_leastCore mvX11_leastCore (c_leastCoreM l g (mgM μ true true) (F := F) (n := n) (f := f) ((gI_n _ _ (by decide)).trans h6) (by omega) ((gA_I _ _ _ _).trans h5) (by omega)) hw_6_51 (by decide) rfl rfl rfl ⟨by decide, by decide, rfl, rfl, by decide, by decide⟩ rfl (Nat.le_of_ble_eq_true rfl) dX11_sunflower_14 rfl ?_
    refine r_goto C 21 dX11_sunflower_17 (by decide) ?_
    exact r_iret C dX11_sunflower_21 Rr
