set_option maxHeartbeats 1000000 in
set_option maxRecDepth 100000 in
theorem z_setGround1 (l : Launch) (g : Gd) (μ : Mm) (hl : l.stackTraces = false) {n nw : Nat} (hO : Ok μ n nw) {e : Int32} (h_e : inI e (nI 1) (nI 10) = false) : Cz l yX10_setGround cX10_setGround 4 (some .int) (rmz 7 112) g [.ref (ad g 0), .int e] μ nIA := by
  obtain ⟨hn, hw, hn10, hnw, hs, h1n⟩ := hO
  have h1024 := pw10 hn10
  have h2n := Nat.two_pow_pos n
  refine Cz.of (by decide) (Nat.le_of_ble_eq_true rfl) (fun z A C X Ee Rr => ?_)
  refine r_iload_n C dX10_setGround_0 1 rfl ?_
  refine r_iconst C (v := (nI 1)) dX10_setGround_1 rfl ?_
  refine r_bipush C (v := (nI 10)) dX10_setGround_2 (by decide) ?_
  exact r_xS C X Ee (As := [.int e, .int (nI 1), .int (nI 10)]) (rest := []) miX10_checkRange msX10_checkRange (z_checkRange l g μ hl (v := e) (a := (nI 1)) (b := (nI 10)) h_e) hw_3_88 rfl ⟨by decide, by decide, rfl, rfl, by decide, by decide⟩ rfl (Nat.le_of_ble_eq_true rfl) dX10_setGround_4 (x_out C Rr)
set_option maxHeartbeats 1000000 in
set_option maxRecDepth 100000 in
theorem z_add1 (l : Launch) (g : Gd) (μ : Mm) (hl : l.stackTraces = false) {n nw : Nat} (hO : Ok μ n nw) {f : Int32} {e : Int32} (h_f : inI f (nI 0) (nI 3) = false) : Cz l yX10_add cX10_add 4 (some .boolean) (rmz 8 133) g [.ref (ad g 0), .int f, .int e] μ nIO := by
  obtain ⟨hn, hw, hn10, hnw, hs, h1n⟩ := hO
  have h1024 := pw10 hn10
  have h2n := Nat.two_pow_pos n
  refine Cz.of (by decide) (Nat.le_of_ble_eq_true rfl) (fun z A C X Ee Rr => ?_)
  refine r_iload_n C dX10_add_0 1 rfl ?_
  exact r_xS C X Ee (As := [.int f]) (rest := []) miX10_checkFamily msX10_checkFamily (z_checkFamily l g μ hl (v := f) h_f) hw_3_177 rfl ⟨by decide, by decide, rfl, rfl, by decide, by decide⟩ rfl (Nat.le_of_ble_eq_true rfl) dX10_add_1 (x_out C Rr)
set_option maxHeartbeats 1000000 in
set_option maxRecDepth 100000 in
theorem z_add2 (l : Launch) (g : Gd) (μ : Mm) (hl : l.stackTraces = false) {n nw : Nat} (hO : Ok μ n nw) {f : Nat} {e : Int32} (h_f : f < 4) (h_e : inI e (nI 0) (nI (2 ^ n - 1)) = false) : Cz l yX10_add cX10_add 4 (some .boolean) (rmz 8 133) g [.ref (ad g 0), .int (nI f), .int e] μ nIA := by
  obtain ⟨hn, hw, hn10, hnw, hs, h1n⟩ := hO
  have h1024 := pw10 hn10
  have h2n := Nat.two_pow_pos n
  refine Cz.of (by decide) (Nat.le_of_ble_eq_true rfl) (fun z A C X Ee Rr => ?_)
  refine r_iload_n C dX10_add_0 1 rfl ?_
  refine r_callP C (As := [.int (nI f)]) (rest := []) (st1 := []) miX10_checkFamily msX10_checkFamily (y_checkFamily l (f := f) (by omega)) hw_3_177 rfl ⟨by decide, by decide, rfl, rfl, by decide, by decide⟩ rfl (Nat.le_of_ble_eq_true rfl) dX10_add_1 rfl ?_
  refine r_aload_n C dX10_add_4 0 rfl ?_
  refine r_iload_n C dX10_add_5 2 rfl ?_
  exact r_xV C X Ee (As := [.int e]) (rest := []) (k := 0) (T := TX10) miX10_checkSet mvX10_checkSet (z_checkSet l g μ hl (n := n) (nw := nw) ⟨hn, hw, hn10, hnw, hs, h1n⟩ (v := e) h_e) hw_3_196 (by decide) rfl rfl rfl ⟨by decide, by decide, rfl, rfl, by decide, by decide⟩ rfl (Nat.le_of_ble_eq_true rfl) dX10_add_6 (x_out C Rr)
set_option maxHeartbeats 1000000 in
set_option maxRecDepth 100000 in
theorem z_remove1 (l : Launch) (g : Gd) (μ : Mm) (hl : l.stackTraces = false) {n nw : Nat} (hO : Ok μ n nw) {f : Int32} {e : Int32} (h_f : inI f (nI 0) (nI 3) = false) : Cz l yX10_remove cX10_remove 4 (some .boolean) (rmz 8 133) g [.ref (ad g 0), .int f, .int e] μ nIO := by
  obtain ⟨hn, hw, hn10, hnw, hs, h1n⟩ := hO
  have h1024 := pw10 hn10
  have h2n := Nat.two_pow_pos n
  refine Cz.of (by decide) (Nat.le_of_ble_eq_true rfl) (fun z A C X Ee Rr => ?_)
  refine r_iload_n C dX10_remove_0 1 rfl ?_
  exact r_xS C X Ee (As := [.int f]) (rest := []) miX10_checkFamily msX10_checkFamily (z_checkFamily l g μ hl (v := f) h_f) hw_3_177 rfl ⟨by decide, by decide, rfl, rfl, by decide, by decide⟩ rfl (Nat.le_of_ble_eq_true rfl) dX10_remove_1 (x_out C Rr)
set_option maxHeartbeats 1000000 in
set_option maxRecDepth 100000 in
theorem z_remove2 (l : Launch) (g : Gd) (μ : Mm) (hl : l.stackTraces = false) {n nw : Nat} (hO : Ok μ n nw) {f : Nat} {e : Int32} (h_f : f < 4) (h_e : inI e (nI 0) (nI (2 ^ n - 1)) = false) : Cz l yX10_remove cX10_remove 4 (some .boolean) (rmz 8 133) g [.ref (ad g 0), .int (nI f), .int e] μ nIA := by
  obtain ⟨hn, hw, hn10, hnw, hs, h1n⟩ := hO
  have h1024 := pw10 hn10
  have h2n := Nat.two_pow_pos n
  refine Cz.of (by decide) (Nat.le_of_ble_eq_true rfl) (fun z A C X Ee Rr => ?_)
  refine r_iload_n C dX10_remove_0 1 rfl ?_
  refine r_callP C (As := [.int (nI f)]) (rest := []) (st1 := []) miX10_checkFamily msX10_checkFamily (y_checkFamily l (f := f) (by omega)) hw_3_177 rfl ⟨by decide, by decide, rfl, rfl, by decide, by decide⟩ rfl (Nat.le_of_ble_eq_true rfl) dX10_remove_1 rfl ?_
  refine r_aload_n C dX10_remove_4 0 rfl ?_
  refine r_iload_n C dX10_remove_5 2 rfl ?_
  exact r_xV C X Ee (As := [.int e]) (rest := []) (k := 0) (T := TX10) miX10_checkSet mvX10_checkSet (z_checkSet l g μ hl (n := n) (nw := nw) ⟨hn, hw, hn10, hnw, hs, h1n⟩ (v := e) h_e) hw_3_196 (by decide) rfl rfl rfl ⟨by decide, by decide, rfl, rfl, by decide, by decide⟩ rfl (Nat.le_of_ble_eq_true rfl) dX10_remove_6 (x_out C Rr)
set_option maxHeartbeats 1000000 in
set_option maxRecDepth 100000 in
theorem z_has1 (l : Launch) (g : Gd) (μ : Mm) (hl : l.stackTraces = false) {n nw : Nat} (hO : Ok μ n nw) {f : Int32} {e : Int32} (h_f : inI f (nI 0) (nI 3) = false) : Cz l yX10_has cX10_has 3 (some .boolean) (rmz 8 133) g [.ref (ad g 0), .int f, .int e] μ nIO := by
  obtain ⟨hn, hw, hn10, hnw, hs, h1n⟩ := hO
  have h1024 := pw10 hn10
  have h2n := Nat.two_pow_pos n
  refine Cz.of (by decide) (Nat.le_of_ble_eq_true rfl) (fun z A C X Ee Rr => ?_)
  refine r_iload_n C dX10_has_0 1 rfl ?_
  exact r_xS C X Ee (As := [.int f]) (rest := []) miX10_checkFamily msX10_checkFamily (z_checkFamily l g μ hl (v := f) h_f) hw_3_177 rfl ⟨by decide, by decide, rfl, rfl, by decide, by decide⟩ rfl (Nat.le_of_ble_eq_true rfl) dX10_has_1 (x_out C Rr)
set_option maxHeartbeats 1000000 in
set_option maxRecDepth 100000 in
theorem z_has2 (l : Launch) (g : Gd) (μ : Mm) (hl : l.stackTraces = false) {n nw : Nat} (hO : Ok μ n nw) {f : Nat} {e : Int32} (h_f : f < 4) (h_e : inI e (nI 0) (nI (2 ^ n - 1)) = false) : Cz l yX10_has cX10_has 3 (some .boolean) (rmz 8 133) g [.ref (ad g 0), .int (nI f), .int e] μ nIA := by
  obtain ⟨hn, hw, hn10, hnw, hs, h1n⟩ := hO
  have h1024 := pw10 hn10
  have h2n := Nat.two_pow_pos n
  refine Cz.of (by decide) (Nat.le_of_ble_eq_true rfl) (fun z A C X Ee Rr => ?_)
  refine r_iload_n C dX10_has_0 1 rfl ?_
  refine r_callP C (As := [.int (nI f)]) (rest := []) (st1 := []) miX10_checkFamily msX10_checkFamily (y_checkFamily l (f := f) (by omega)) hw_3_177 rfl ⟨by decide, by decide, rfl, rfl, by decide, by decide⟩ rfl (Nat.le_of_ble_eq_true rfl) dX10_has_1 rfl ?_
  refine r_aload_n C dX10_has_4 0 rfl ?_
  refine r_iload_n C dX10_has_5 2 rfl ?_
  exact r_xV C X Ee (As := [.int e]) (rest := []) (k := 0) (T := TX10) miX10_checkSet mvX10_checkSet (z_checkSet l g μ hl (n := n) (nw := nw) ⟨hn, hw, hn10, hnw, hs, h1n⟩ (v := e) h_e) hw_3_196 (by decide) rfl rfl rfl ⟨by decide, by decide, rfl, rfl, by decide, by decide⟩ rfl (Nat.le_of_ble_eq_true rfl) dX10_has_6 (x_out C Rr)
set_option maxHeartbeats 1000000 in
set_option maxRecDepth 100000 in
theorem z_size1 (l : Launch) (g : Gd) (μ : Mm) (hl : l.stackTraces = false) {n nw : Nat} (hO : Ok μ n nw) {f : Int32} {lv : Int32} (h_f : inI f (nI 0) (nI 3) = false) : Cz l yX10_size cX10_size 3 (some .int) (rmz 7 112) g [.ref (ad g 0), .int f, .int lv] μ nIO := by
  obtain ⟨hn, hw, hn10, hnw, hs, h1n⟩ := hO
  have h1024 := pw10 hn10
  have h2n := Nat.two_pow_pos n
  refine Cz.of (by decide) (Nat.le_of_ble_eq_true rfl) (fun z A C X Ee Rr => ?_)
  refine r_iload_n C dX10_size_0 1 rfl ?_
  exact r_xS C X Ee (As := [.int f]) (rest := []) miX10_checkFamily msX10_checkFamily (z_checkFamily l g μ hl (v := f) h_f) hw_3_177 rfl ⟨by decide, by decide, rfl, rfl, by decide, by decide⟩ rfl (Nat.le_of_ble_eq_true rfl) dX10_size_1 (x_out C Rr)
set_option maxHeartbeats 1000000 in
set_option maxRecDepth 100000 in
theorem z_size2 (l : Launch) (g : Gd) (μ : Mm) (hl : l.stackTraces = false) {n nw : Nat} (hO : Ok μ n nw) {f : Nat} {lv : Int32} (h_f : f < 4) (h_lv : inI lv (nI 0) (nI n) = false) (h_m : ¬ lv = -1) : Cz l yX10_size cX10_size 3 (some .int) (rmz 7 112) g [.ref (ad g 0), .int (nI f), .int lv] μ nIA := by
  obtain ⟨hn, hw, hn10, hnw, hs, h1n⟩ := hO
  have h1024 := pw10 hn10
  have h2n := Nat.two_pow_pos n
  refine Cz.of (by decide) (Nat.le_of_ble_eq_true rfl) (fun z A C X Ee Rr => ?_)
  refine r_iload_n C dX10_size_0 1 rfl ?_
  refine r_callP C (As := [.int (nI f)]) (rest := []) (st1 := []) miX10_checkFamily msX10_checkFamily (y_checkFamily l (f := f) (by omega)) hw_3_177 rfl ⟨by decide, by decide, rfl, rfl, by decide, by decide⟩ rfl (Nat.le_of_ble_eq_true rfl) dX10_size_1 rfl ?_
  refine r_iload_n C dX10_size_4 2 rfl ?_
  refine r_iconst C (v := (-1)) dX10_size_5 rfl ?_
  refine r_icmp_ne C 19 dX10_size_6 (by decide) Iff.rfl (fun h6 => ?_) (fun h6 => ?_)
  · refine r_iload_n C dX10_size_19 2 rfl ?_
    refine r_iconst C (v := (nI 0)) dX10_size_20 rfl ?_
    refine r_aload_n C dX10_size_21 0 rfl ?_
    refine r_get C X (k := 0) (R := RX10) (T := TX10) (N := 12) (n := 0) (v := .ref (ad g 1)) (by decide) rfl rfl inw10 (by decide) rfl hw_1_208 rfl dX10_size_22 ?_
    refine r_get C X (k := 1) (R := RX4) (T := TX4) (N := 2) (n := 0) (v := .int (gI μ 0)) (by decide) rfl rfl inw4 (by decide) rfl hw_1_42 rfl dX10_size_25 ?_
    refine G_top (y := (nI n)) hn ?_
    exact r_xS C X Ee (As := [.int lv, .int (nI 0), .int (nI n)]) (rest := []) miX10_checkRange msX10_checkRange (z_checkRange l g μ hl (v := lv) (a := (nI 0)) (b := (nI n)) h_lv) hw_3_88 rfl ⟨by decide, by decide, rfl, rfl, by decide, by decide⟩ rfl (Nat.le_of_ble_eq_true rfl) dX10_size_28 (x_out C Rr)
  · exact absurd h_m h6
set_option maxHeartbeats 1000000 in
set_option maxRecDepth 100000 in
theorem z_get1 (l : Launch) (g : Gd) (μ : Mm) (hl : l.stackTraces = false) {n nw : Nat} (hO : Ok μ n nw) {f : Int32} {ix : Int32} (h_f : inI f (nI 0) (nI 3) = false) : Cz l yX10_get cX10_get 3 (some .int) (rmz 7 110) g [.ref (ad g 0), .int f, .int ix] μ nIO := by
  obtain ⟨hn, hw, hn10, hnw, hs, h1n⟩ := hO
  have h1024 := pw10 hn10
  have h2n := Nat.two_pow_pos n
  refine Cz.of (by decide) (Nat.le_of_ble_eq_true rfl) (fun z A C X Ee Rr => ?_)
  refine r_iload_n C dX10_get_0 1 rfl ?_
  exact r_xS C X Ee (As := [.int f]) (rest := []) miX10_checkFamily msX10_checkFamily (z_checkFamily l g μ hl (v := f) h_f) hw_3_177 rfl ⟨by decide, by decide, rfl, rfl, by decide, by decide⟩ rfl (Nat.le_of_ble_eq_true rfl) dX10_get_1 (x_out C Rr)
set_option maxHeartbeats 1000000 in
set_option maxRecDepth 100000 in
theorem z_get2 (l : Launch) (g : Gd) (μ : Mm) (hl : l.stackTraces = false) {n nw : Nat} (hO : Ok μ n nw) {f : Nat} {ix : Int32} (h_f : f < 4) (h_ix : ix < 0) : Cz l yX10_get cX10_get 3 (some .int) (rmz 7 110) g [.ref (ad g 0), .int (nI f), .int ix] μ nIA := by
  obtain ⟨hn, hw, hn10, hnw, hs, h1n⟩ := hO
  have h1024 := pw10 hn10
  have h2n := Nat.two_pow_pos n
  refine Cz.of (by decide) (Nat.le_of_ble_eq_true rfl) (fun z A C X Ee Rr => ?_)
  refine r_iload_n C dX10_get_0 1 rfl ?_
  refine r_callP C (As := [.int (nI f)]) (rest := []) (st1 := []) miX10_checkFamily msX10_checkFamily (y_checkFamily l (f := f) (by omega)) hw_3_177 rfl ⟨by decide, by decide, rfl, rfl, by decide, by decide⟩ rfl (Nat.le_of_ble_eq_true rfl) dX10_get_1 rfl ?_
  refine r_iload_n C dX10_get_4 2 rfl ?_
  exact r_xS C X Ee (As := [.int ix]) (rest := []) miX10_checkNotNegative msX10_checkNotNegative (z_checkNotNegative l g μ hl (v := ix) h_ix) hw_3_235 rfl ⟨by decide, by decide, rfl, rfl, by decide, by decide⟩ rfl (Nat.le_of_ble_eq_true rfl) dX10_get_5 (x_out C Rr)
set_option maxHeartbeats 1000000 in
set_option maxRecDepth 100000 in
theorem z_degree1 (l : Launch) (g : Gd) (μ : Mm) (hl : l.stackTraces = false) {n nw : Nat} (hO : Ok μ n nw) {f : Int32} {x : Int32} (h_f : inI f (nI 0) (nI 3) = false) : Cz l yX10_degree cX10_degree 3 (some .int) (rmz 8 133) g [.ref (ad g 0), .int f, .int x] μ nIO := by
  obtain ⟨hn, hw, hn10, hnw, hs, h1n⟩ := hO
  have h1024 := pw10 hn10
  have h2n := Nat.two_pow_pos n
  refine Cz.of (by decide) (Nat.le_of_ble_eq_true rfl) (fun z A C X Ee Rr => ?_)
  refine r_iload_n C dX10_degree_0 1 rfl ?_
  exact r_xS C X Ee (As := [.int f]) (rest := []) miX10_checkFamily msX10_checkFamily (z_checkFamily l g μ hl (v := f) h_f) hw_3_177 rfl ⟨by decide, by decide, rfl, rfl, by decide, by decide⟩ rfl (Nat.le_of_ble_eq_true rfl) dX10_degree_1 (x_out C Rr)
set_option maxHeartbeats 1000000 in
set_option maxRecDepth 100000 in
theorem z_degree2 (l : Launch) (g : Gd) (μ : Mm) (hl : l.stackTraces = false) {n nw : Nat} (hO : Ok μ n nw) {f : Nat} {x : Int32} (h_f : f < 4) (h_x : inI x (nI 0) (nI (n - 1)) = false) : Cz l yX10_degree cX10_degree 3 (some .int) (rmz 8 133) g [.ref (ad g 0), .int (nI f), .int x] μ nIA := by
  obtain ⟨hn, hw, hn10, hnw, hs, h1n⟩ := hO
  have h1024 := pw10 hn10
  have h2n := Nat.two_pow_pos n
  refine Cz.of (by decide) (Nat.le_of_ble_eq_true rfl) (fun z A C X Ee Rr => ?_)
  refine r_iload_n C dX10_degree_0 1 rfl ?_
  refine r_callP C (As := [.int (nI f)]) (rest := []) (st1 := []) miX10_checkFamily msX10_checkFamily (y_checkFamily l (f := f) (by omega)) hw_3_177 rfl ⟨by decide, by decide, rfl, rfl, by decide, by decide⟩ rfl (Nat.le_of_ble_eq_true rfl) dX10_degree_1 rfl ?_
  refine r_aload_n C dX10_degree_4 0 rfl ?_
  refine r_iload_n C dX10_degree_5 2 rfl ?_
  exact r_xV C X Ee (As := [.int x]) (rest := []) (k := 0) (T := TX10) miX10_checkElement mvX10_checkElement (z_checkElement l g μ hl (n := n) (nw := nw) ⟨hn, hw, hn10, hnw, hs, h1n⟩ (v := x) h_x) hw_4_6 (by decide) rfl rfl rfl ⟨by decide, by decide, rfl, rfl, by decide, by decide⟩ rfl (Nat.le_of_ble_eq_true rfl) dX10_degree_6 (x_out C Rr)
set_option maxHeartbeats 1000000 in
set_option maxRecDepth 100000 in
theorem z_combine1 (l : Launch) (g : Gd) (μ : Mm) (hl : l.stackTraces = false) {n nw : Nat} (hO : Ok μ n nw) {pl : Int32} {op : Int32} {a : Int32} {b : Int32} (h_pl : inI pl (nI 0) (nI 3) = false) : Cz l yX10_combine cX10_combine 5 (some .int) (rmz 7 112) g [.ref (ad g 0), .int pl, .int op, .int a, .int b] μ nIO := by
  obtain ⟨hn, hw, hn10, hnw, hs, h1n⟩ := hO
  have h1024 := pw10 hn10
  have h2n := Nat.two_pow_pos n
  refine Cz.of (by decide) (Nat.le_of_ble_eq_true rfl) (fun z A C X Ee Rr => ?_)
  refine r_iload_n C dX10_combine_0 1 rfl ?_
  exact r_xS C X Ee (As := [.int pl]) (rest := []) miX10_checkFamily msX10_checkFamily (z_checkFamily l g μ hl (v := pl) h_pl) hw_3_177 rfl ⟨by decide, by decide, rfl, rfl, by decide, by decide⟩ rfl (Nat.le_of_ble_eq_true rfl) dX10_combine_1 (x_out C Rr)
set_option maxHeartbeats 1000000 in
set_option maxRecDepth 100000 in
theorem z_combine2 (l : Launch) (g : Gd) (μ : Mm) (hl : l.stackTraces = false) {n nw : Nat} (hO : Ok μ n nw) {pl : Nat} {op : Int32} {a : Int32} {b : Int32} (h_pl : pl < 4) (h_a : inI a (nI 0) (nI 3) = false) : Cz l yX10_combine cX10_combine 5 (some .int) (rmz 7 112) g [.ref (ad g 0), .int (nI pl), .int op, .int a, .int b] μ nIO := by
  obtain ⟨hn, hw, hn10, hnw, hs, h1n⟩ := hO
  have h1024 := pw10 hn10
  have h2n := Nat.two_pow_pos n
  refine Cz.of (by decide) (Nat.le_of_ble_eq_true rfl) (fun z A C X Ee Rr => ?_)
  refine r_iload_n C dX10_combine_0 1 rfl ?_
  refine r_callP C (As := [.int (nI pl)]) (rest := []) (st1 := []) miX10_checkFamily msX10_checkFamily (y_checkFamily l (f := pl) (by omega)) hw_3_177 rfl ⟨by decide, by decide, rfl, rfl, by decide, by decide⟩ rfl (Nat.le_of_ble_eq_true rfl) dX10_combine_1 rfl ?_
  refine r_iload_n C dX10_combine_4 3 rfl ?_
  exact r_xS C X Ee (As := [.int a]) (rest := []) miX10_checkFamily msX10_checkFamily (z_checkFamily l g μ hl (v := a) h_a) hw_3_177 rfl ⟨by decide, by decide, rfl, rfl, by decide, by decide⟩ rfl (Nat.le_of_ble_eq_true rfl) dX10_combine_5 (x_out C Rr)
set_option maxHeartbeats 1000000 in
set_option maxRecDepth 100000 in
theorem z_combine3 (l : Launch) (g : Gd) (μ : Mm) (hl : l.stackTraces = false) {n nw : Nat} (hO : Ok μ n nw) {pl : Nat} {op : Int32} {a : Nat} {b : Int32} (h_pl : pl < 4) (h_a : a < 4) (h_b : inI b (nI 0) (nI 3) = false) : Cz l yX10_combine cX10_combine 5 (some .int) (rmz 7 112) g [.ref (ad g 0), .int (nI pl), .int op, .int (nI a), .int b] μ nIO := by
  obtain ⟨hn, hw, hn10, hnw, hs, h1n⟩ := hO
  have h1024 := pw10 hn10
  have h2n := Nat.two_pow_pos n
  refine Cz.of (by decide) (Nat.le_of_ble_eq_true rfl) (fun z A C X Ee Rr => ?_)
  refine r_iload_n C dX10_combine_0 1 rfl ?_
  refine r_callP C (As := [.int (nI pl)]) (rest := []) (st1 := []) miX10_checkFamily msX10_checkFamily (y_checkFamily l (f := pl) (by omega)) hw_3_177 rfl ⟨by decide, by decide, rfl, rfl, by decide, by decide⟩ rfl (Nat.le_of_ble_eq_true rfl) dX10_combine_1 rfl ?_
  refine r_iload_n C dX10_combine_4 3 rfl ?_
  refine r_callP C (As := [.int (nI a)]) (rest := []) (st1 := []) miX10_checkFamily msX10_checkFamily (y_checkFamily l (f := a) (by omega)) hw_3_177 rfl ⟨by decide, by decide, rfl, rfl, by decide, by decide⟩ rfl (Nat.le_of_ble_eq_true rfl) dX10_combine_5 rfl ?_
  refine r_iload C dX10_combine_8 4 rfl ?_
  exact r_xS C X Ee (As := [.int b]) (rest := []) miX10_checkFamily msX10_checkFamily (z_checkFamily l g μ hl (v := b) h_b) hw_3_177 rfl ⟨by decide, by decide, rfl, rfl, by decide, by decide⟩ rfl (Nat.le_of_ble_eq_true rfl) dX10_combine_10 (x_out C Rr)
set_option maxHeartbeats 1000000 in
set_option maxRecDepth 100000 in
theorem z_combine4 (l : Launch) (g : Gd) (μ : Mm) (hl : l.stackTraces = false) {n nw : Nat} (hO : Ok μ n nw) {pl : Nat} {op : Int32} {a : Nat} {b : Nat} (h_pl : pl < 4) (h_op : inI op (nI 0) (nI 3) = false) (h_a : a < 4) (h_b : b < 4) : Cz l yX10_combine cX10_combine 5 (some .int) (rmz 7 112) g [.ref (ad g 0), .int (nI pl), .int op, .int (nI a), .int (nI b)] μ nIA := by
  obtain ⟨hn, hw, hn10, hnw, hs, h1n⟩ := hO
  have h1024 := pw10 hn10
  have h2n := Nat.two_pow_pos n
  refine Cz.of (by decide) (Nat.le_of_ble_eq_true rfl) (fun z A C X Ee Rr => ?_)
  refine r_iload_n C dX10_combine_0 1 rfl ?_
  refine r_callP C (As := [.int (nI pl)]) (rest := []) (st1 := []) miX10_checkFamily msX10_checkFamily (y_checkFamily l (f := pl) (by omega)) hw_3_177 rfl ⟨by decide, by decide, rfl, rfl, by decide, by decide⟩ rfl (Nat.le_of_ble_eq_true rfl) dX10_combine_1 rfl ?_
  refine r_iload_n C dX10_combine_4 3 rfl ?_
  refine r_callP C (As := [.int (nI a)]) (rest := []) (st1 := []) miX10_checkFamily msX10_checkFamily (y_checkFamily l (f := a) (by omega)) hw_3_177 rfl ⟨by decide, by decide, rfl, rfl, by decide, by decide⟩ rfl (Nat.le_of_ble_eq_true rfl) dX10_combine_5 rfl ?_
  refine r_iload C dX10_combine_8 4 rfl ?_
  refine r_callP C (As := [.int (nI b)]) (rest := []) (st1 := []) miX10_checkFamily msX10_checkFamily (y_checkFamily l (f := b) (by omega)) hw_3_177 rfl ⟨by decide, by decide, rfl, rfl, by decide, by decide⟩ rfl (Nat.le_of_ble_eq_true rfl) dX10_combine_10 rfl ?_
  refine r_iload_n C dX10_combine_13 2 rfl ?_
  refine r_iconst C (v := (nI 0)) dX10_combine_14 rfl ?_
  refine r_iconst C (v := (nI 3)) dX10_combine_15 rfl ?_
  exact r_xS C X Ee (As := [.int op, .int (nI 0), .int (nI 3)]) (rest := []) miX10_checkRange msX10_checkRange (z_checkRange l g μ hl (v := op) (a := (nI 0)) (b := (nI 3)) h_op) hw_3_88 rfl ⟨by decide, by decide, rfl, rfl, by decide, by decide⟩ rfl (Nat.le_of_ble_eq_true rfl) dX10_combine_16 (x_out C Rr)
set_option maxHeartbeats 1000000 in
set_option maxRecDepth 100000 in
theorem z_derive1 (l : Launch) (g : Gd) (μ : Mm) (hl : l.stackTraces = false) {n nw : Nat} (hO : Ok μ n nw) {pl : Int32} {op : Int32} {f : Int32} (h_pl : inI pl (nI 0) (nI 3) = false) : Cz l yX10_derive cX10_derive 4 (some .int) (rmz 7 112) g [.ref (ad g 0), .int pl, .int op, .int f] μ nIO := by
  obtain ⟨hn, hw, hn10, hnw, hs, h1n⟩ := hO
  have h1024 := pw10 hn10
  have h2n := Nat.two_pow_pos n
  refine Cz.of (by decide) (Nat.le_of_ble_eq_true rfl) (fun z A C X Ee Rr => ?_)
  refine r_iload_n C dX10_derive_0 1 rfl ?_
  exact r_xS C X Ee (As := [.int pl]) (rest := []) miX10_checkFamily msX10_checkFamily (z_checkFamily l g μ hl (v := pl) h_pl) hw_3_177 rfl ⟨by decide, by decide, rfl, rfl, by decide, by decide⟩ rfl (Nat.le_of_ble_eq_true rfl) dX10_derive_1 (x_out C Rr)
set_option maxHeartbeats 1000000 in
set_option maxRecDepth 100000 in
theorem z_derive2 (l : Launch) (g : Gd) (μ : Mm) (hl : l.stackTraces = false) {n nw : Nat} (hO : Ok μ n nw) {pl : Nat} {op : Int32} {f : Int32} (h_pl : pl < 4) (h_f : inI f (nI 0) (nI 3) = false) : Cz l yX10_derive cX10_derive 4 (some .int) (rmz 7 112) g [.ref (ad g 0), .int (nI pl), .int op, .int f] μ nIO := by
  obtain ⟨hn, hw, hn10, hnw, hs, h1n⟩ := hO
  have h1024 := pw10 hn10
  have h2n := Nat.two_pow_pos n
  refine Cz.of (by decide) (Nat.le_of_ble_eq_true rfl) (fun z A C X Ee Rr => ?_)
  refine r_iload_n C dX10_derive_0 1 rfl ?_
  refine r_callP C (As := [.int (nI pl)]) (rest := []) (st1 := []) miX10_checkFamily msX10_checkFamily (y_checkFamily l (f := pl) (by omega)) hw_3_177 rfl ⟨by decide, by decide, rfl, rfl, by decide, by decide⟩ rfl (Nat.le_of_ble_eq_true rfl) dX10_derive_1 rfl ?_
  refine r_iload_n C dX10_derive_4 3 rfl ?_
  exact r_xS C X Ee (As := [.int f]) (rest := []) miX10_checkFamily msX10_checkFamily (z_checkFamily l g μ hl (v := f) h_f) hw_3_177 rfl ⟨by decide, by decide, rfl, rfl, by decide, by decide⟩ rfl (Nat.le_of_ble_eq_true rfl) dX10_derive_5 (x_out C Rr)
set_option maxHeartbeats 1000000 in
set_option maxRecDepth 100000 in
theorem z_derive3 (l : Launch) (g : Gd) (μ : Mm) (hl : l.stackTraces = false) {n nw : Nat} (hO : Ok μ n nw) {pl : Nat} {op : Int32} {f : Nat} (h_pl : pl < 4) (h_op : inI op (nI 0) (nI 9) = false) (h_f : f < 4) : Cz l yX10_derive cX10_derive 4 (some .int) (rmz 7 112) g [.ref (ad g 0), .int (nI pl), .int op, .int (nI f)] μ nIA := by
  obtain ⟨hn, hw, hn10, hnw, hs, h1n⟩ := hO
  have h1024 := pw10 hn10
  have h2n := Nat.two_pow_pos n
  refine Cz.of (by decide) (Nat.le_of_ble_eq_true rfl) (fun z A C X Ee Rr => ?_)
  refine r_iload_n C dX10_derive_0 1 rfl ?_
  refine r_callP C (As := [.int (nI pl)]) (rest := []) (st1 := []) miX10_checkFamily msX10_checkFamily (y_checkFamily l (f := pl) (by omega)) hw_3_177 rfl ⟨by decide, by decide, rfl, rfl, by decide, by decide⟩ rfl (Nat.le_of_ble_eq_true rfl) dX10_derive_1 rfl ?_
  refine r_iload_n C dX10_derive_4 3 rfl ?_
  refine r_callP C (As := [.int (nI f)]) (rest := []) (st1 := []) miX10_checkFamily msX10_checkFamily (y_checkFamily l (f := f) (by omega)) hw_3_177 rfl ⟨by decide, by decide, rfl, rfl, by decide, by decide⟩ rfl (Nat.le_of_ble_eq_true rfl) dX10_derive_5 rfl ?_
  refine r_iload_n C dX10_derive_8 2 rfl ?_
  refine r_iconst C (v := (nI 0)) dX10_derive_9 rfl ?_
  refine r_bipush C (v := (nI 9)) dX10_derive_10 (by decide) ?_
  exact r_xS C X Ee (As := [.int op, .int (nI 0), .int (nI 9)]) (rest := []) miX10_checkRange msX10_checkRange (z_checkRange l g μ hl (v := op) (a := (nI 0)) (b := (nI 9)) h_op) hw_3_88 rfl ⟨by decide, by decide, rfl, rfl, by decide, by decide⟩ rfl (Nat.le_of_ble_eq_true rfl) dX10_derive_12 (x_out C Rr)
set_option maxHeartbeats 1000000 in
set_option maxRecDepth 100000 in
theorem z_compress1 (l : Launch) (g : Gd) (μ : Mm) (hl : l.stackTraces = false) {n nw : Nat} (hO : Ok μ n nw) {f : Int32} {j : Int32} {i : Int32} (h_f : inI f (nI 0) (nI 3) = false) : Cz l yX10_compress cX10_compress 4 (some .int) (rmz 8 133) g [.ref (ad g 0), .int f, .int j, .int i] μ nIO := by
  obtain ⟨hn, hw, hn10, hnw, hs, h1n⟩ := hO
  have h1024 := pw10 hn10
  have h2n := Nat.two_pow_pos n
  refine Cz.of (by decide) (Nat.le_of_ble_eq_true rfl) (fun z A C X Ee Rr => ?_)
  refine r_iload_n C dX10_compress_0 1 rfl ?_
  exact r_xS C X Ee (As := [.int f]) (rest := []) miX10_checkFamily msX10_checkFamily (z_checkFamily l g μ hl (v := f) h_f) hw_3_177 rfl ⟨by decide, by decide, rfl, rfl, by decide, by decide⟩ rfl (Nat.le_of_ble_eq_true rfl) dX10_compress_1 (x_out C Rr)
set_option maxHeartbeats 1000000 in
set_option maxRecDepth 100000 in
theorem z_compress2 (l : Launch) (g : Gd) (μ : Mm) (hl : l.stackTraces = false) {n nw : Nat} (hO : Ok μ n nw) {f : Nat} {j : Int32} {i : Int32} (h_f : f < 4) (h_j : inI j (nI 0) (nI (n - 1)) = false) : Cz l yX10_compress cX10_compress 4 (some .int) (rmz 8 133) g [.ref (ad g 0), .int (nI f), .int j, .int i] μ nIA := by
  obtain ⟨hn, hw, hn10, hnw, hs, h1n⟩ := hO
  have h1024 := pw10 hn10
  have h2n := Nat.two_pow_pos n
  refine Cz.of (by decide) (Nat.le_of_ble_eq_true rfl) (fun z A C X Ee Rr => ?_)
  refine r_iload_n C dX10_compress_0 1 rfl ?_
  refine r_callP C (As := [.int (nI f)]) (rest := []) (st1 := []) miX10_checkFamily msX10_checkFamily (y_checkFamily l (f := f) (by omega)) hw_3_177 rfl ⟨by decide, by decide, rfl, rfl, by decide, by decide⟩ rfl (Nat.le_of_ble_eq_true rfl) dX10_compress_1 rfl ?_
  refine r_aload_n C dX10_compress_4 0 rfl ?_
  refine r_iload_n C dX10_compress_5 2 rfl ?_
  exact r_xV C X Ee (As := [.int j]) (rest := []) (k := 0) (T := TX10) miX10_checkElement mvX10_checkElement (z_checkElement l g μ hl (n := n) (nw := nw) ⟨hn, hw, hn10, hnw, hs, h1n⟩ (v := j) h_j) hw_4_6 (by decide) rfl rfl rfl ⟨by decide, by decide, rfl, rfl, by decide, by decide⟩ rfl (Nat.le_of_ble_eq_true rfl) dX10_compress_6 (x_out C Rr)
set_option maxHeartbeats 1000000 in
set_option maxRecDepth 100000 in
theorem z_compress3 (l : Launch) (g : Gd) (μ : Mm) (hl : l.stackTraces = false) {n nw : Nat} (hO : Ok μ n nw) {f : Nat} {j : Nat} {i : Int32} (h_f : f < 4) (h_j : j < n) (h_i : inI i (nI 0) (nI (n - 1)) = false) : Cz l yX10_compress cX10_compress 4 (some .int) (rmz 8 133) g [.ref (ad g 0), .int (nI f), .int (nI j), .int i] μ nIA := by
  obtain ⟨hn, hw, hn10, hnw, hs, h1n⟩ := hO
  have h1024 := pw10 hn10
  have h2n := Nat.two_pow_pos n
  refine Cz.of (by decide) (Nat.le_of_ble_eq_true rfl) (fun z A C X Ee Rr => ?_)
  refine r_iload_n C dX10_compress_0 1 rfl ?_
  refine r_callP C (As := [.int (nI f)]) (rest := []) (st1 := []) miX10_checkFamily msX10_checkFamily (y_checkFamily l (f := f) (by omega)) hw_3_177 rfl ⟨by decide, by decide, rfl, rfl, by decide, by decide⟩ rfl (Nat.le_of_ble_eq_true rfl) dX10_compress_1 rfl ?_
  refine r_aload_n C dX10_compress_4 0 rfl ?_
  refine r_iload_n C dX10_compress_5 2 rfl ?_
  refine r_callV C X (As := [.int (nI j)]) (rest := []) (st1 := []) (μ' := μ) (k := 0) (T := TX10) miX10_checkElement mvX10_checkElement (y_checkElement l g μ (n := n) (x := j) hn (by omega) (by omega)) hw_4_6 (by decide) rfl rfl rfl ⟨by decide, by decide, rfl, rfl, by decide, by decide⟩ rfl (Nat.le_of_ble_eq_true rfl) dX10_compress_6 rfl ?_
  refine r_aload_n C dX10_compress_9 0 rfl ?_
  refine r_iload_n C dX10_compress_10 3 rfl ?_
  exact r_xV C X Ee (As := [.int i]) (rest := []) (k := 0) (T := TX10) miX10_checkElement mvX10_checkElement (z_checkElement l g μ hl (n := n) (nw := nw) ⟨hn, hw, hn10, hnw, hs, h1n⟩ (v := i) h_i) hw_4_6 (by decide) rfl rfl rfl ⟨by decide, by decide, rfl, rfl, by decide, by decide⟩ rfl (Nat.le_of_ble_eq_true rfl) dX10_compress_11 (x_out C Rr)
set_option maxHeartbeats 1000000 in
set_option maxRecDepth 100000 in
theorem z_shift1 (l : Launch) (g : Gd) (μ : Mm) (hl : l.stackTraces = false) {n nw : Nat} (hO : Ok μ n nw) {f : Int32} (h_f : inI f (nI 0) (nI 3) = false) : Cz l yX10_shift cX10_shift 2 (some .int) (rmz 7 110) g [.ref (ad g 0), .int f] μ nIO := by
  obtain ⟨hn, hw, hn10, hnw, hs, h1n⟩ := hO
  have h1024 := pw10 hn10
  have h2n := Nat.two_pow_pos n
  refine Cz.of (by decide) (Nat.le_of_ble_eq_true rfl) (fun z A C X Ee Rr => ?_)
  refine r_iload_n C dX10_shift_0 1 rfl ?_
  exact r_xS C X Ee (As := [.int f]) (rest := []) miX10_checkFamily msX10_checkFamily (z_checkFamily l g μ hl (v := f) h_f) hw_3_177 rfl ⟨by decide, by decide, rfl, rfl, by decide, by decide⟩ rfl (Nat.le_of_ble_eq_true rfl) dX10_shift_1 (x_out C Rr)
set_option maxHeartbeats 1000000 in
set_option maxRecDepth 100000 in
theorem z_trace1 (l : Launch) (g : Gd) (μ : Mm) (hl : l.stackTraces = false) {n nw : Nat} (hO : Ok μ n nw) {pl : Int32} {f : Int32} {e : Int32} (h_pl : inI pl (nI 0) (nI 3) = false) : Cz l yX10_trace cX10_trace 5 (some .int) (rmz 8 133) g [.ref (ad g 0), .int pl, .int f, .int e] μ nIO := by
  obtain ⟨hn, hw, hn10, hnw, hs, h1n⟩ := hO
  have h1024 := pw10 hn10
  have h2n := Nat.two_pow_pos n
  refine Cz.of (by decide) (Nat.le_of_ble_eq_true rfl) (fun z A C X Ee Rr => ?_)
  refine r_iload_n C dX10_trace_0 1 rfl ?_
  exact r_xS C X Ee (As := [.int pl]) (rest := []) miX10_checkFamily msX10_checkFamily (z_checkFamily l g μ hl (v := pl) h_pl) hw_3_177 rfl ⟨by decide, by decide, rfl, rfl, by decide, by decide⟩ rfl (Nat.le_of_ble_eq_true rfl) dX10_trace_1 (x_out C Rr)
set_option maxHeartbeats 1000000 in
set_option maxRecDepth 100000 in
theorem z_trace2 (l : Launch) (g : Gd) (μ : Mm) (hl : l.stackTraces = false) {n nw : Nat} (hO : Ok μ n nw) {pl : Nat} {f : Int32} {e : Int32} (h_pl : pl < 4) (h_f : inI f (nI 0) (nI 3) = false) : Cz l yX10_trace cX10_trace 5 (some .int) (rmz 8 133) g [.ref (ad g 0), .int (nI pl), .int f, .int e] μ nIO := by
  obtain ⟨hn, hw, hn10, hnw, hs, h1n⟩ := hO
  have h1024 := pw10 hn10
  have h2n := Nat.two_pow_pos n
  refine Cz.of (by decide) (Nat.le_of_ble_eq_true rfl) (fun z A C X Ee Rr => ?_)
  refine r_iload_n C dX10_trace_0 1 rfl ?_
  refine r_callP C (As := [.int (nI pl)]) (rest := []) (st1 := []) miX10_checkFamily msX10_checkFamily (y_checkFamily l (f := pl) (by omega)) hw_3_177 rfl ⟨by decide, by decide, rfl, rfl, by decide, by decide⟩ rfl (Nat.le_of_ble_eq_true rfl) dX10_trace_1 rfl ?_
  refine r_iload_n C dX10_trace_4 2 rfl ?_
  exact r_xS C X Ee (As := [.int f]) (rest := []) miX10_checkFamily msX10_checkFamily (z_checkFamily l g μ hl (v := f) h_f) hw_3_177 rfl ⟨by decide, by decide, rfl, rfl, by decide, by decide⟩ rfl (Nat.le_of_ble_eq_true rfl) dX10_trace_5 (x_out C Rr)
set_option maxHeartbeats 1000000 in
set_option maxRecDepth 100000 in
theorem z_trace3 (l : Launch) (g : Gd) (μ : Mm) (hl : l.stackTraces = false) {n nw : Nat} (hO : Ok μ n nw) {pl : Nat} {f : Nat} {e : Int32} (h_pl : pl < 4) (h_f : f < 4) (h_e : inI e (nI 0) (nI (2 ^ n - 1)) = false) : Cz l yX10_trace cX10_trace 5 (some .int) (rmz 8 133) g [.ref (ad g 0), .int (nI pl), .int (nI f), .int e] μ nIA := by
  obtain ⟨hn, hw, hn10, hnw, hs, h1n⟩ := hO
  have h1024 := pw10 hn10
  have h2n := Nat.two_pow_pos n
  refine Cz.of (by decide) (Nat.le_of_ble_eq_true rfl) (fun z A C X Ee Rr => ?_)
  refine r_iload_n C dX10_trace_0 1 rfl ?_
  refine r_callP C (As := [.int (nI pl)]) (rest := []) (st1 := []) miX10_checkFamily msX10_checkFamily (y_checkFamily l (f := pl) (by omega)) hw_3_177 rfl ⟨by decide, by decide, rfl, rfl, by decide, by decide⟩ rfl (Nat.le_of_ble_eq_true rfl) dX10_trace_1 rfl ?_
  refine r_iload_n C dX10_trace_4 2 rfl ?_
  refine r_callP C (As := [.int (nI f)]) (rest := []) (st1 := []) miX10_checkFamily msX10_checkFamily (y_checkFamily l (f := f) (by omega)) hw_3_177 rfl ⟨by decide, by decide, rfl, rfl, by decide, by decide⟩ rfl (Nat.le_of_ble_eq_true rfl) dX10_trace_5 rfl ?_
  refine r_aload_n C dX10_trace_8 0 rfl ?_
  refine r_iload_n C dX10_trace_9 3 rfl ?_
  exact r_xV C X Ee (As := [.int e]) (rest := []) (k := 0) (T := TX10) miX10_checkSet mvX10_checkSet (z_checkSet l g μ hl (n := n) (nw := nw) ⟨hn, hw, hn10, hnw, hs, h1n⟩ (v := e) h_e) hw_3_196 (by decide) rfl rfl rfl ⟨by decide, by decide, rfl, rfl, by decide, by decide⟩ rfl (Nat.le_of_ble_eq_true rfl) dX10_trace_10 (x_out C Rr)
set_option maxHeartbeats 1000000 in
set_option maxRecDepth 100000 in
theorem z_segment1 (l : Launch) (g : Gd) (μ : Mm) (hl : l.stackTraces = false) {n nw : Nat} (hO : Ok μ n nw) {pl : Int32} {k : Int32} {m : Int32} (h_pl : inI pl (nI 0) (nI 3) = false) : Cz l yX10_segment cX10_segment 7 (some .int) (rmz 7 112) g [.ref (ad g 0), .int pl, .int k, .int m] μ nIO := by
  obtain ⟨hn, hw, hn10, hnw, hs, h1n⟩ := hO
  have h1024 := pw10 hn10
  have h2n := Nat.two_pow_pos n
  refine Cz.of (by decide) (Nat.le_of_ble_eq_true rfl) (fun z A C X Ee Rr => ?_)
  refine r_iload_n C dX10_segment_0 1 rfl ?_
  exact r_xS C X Ee (As := [.int pl]) (rest := []) miX10_checkFamily msX10_checkFamily (z_checkFamily l g μ hl (v := pl) h_pl) hw_3_177 rfl ⟨by decide, by decide, rfl, rfl, by decide, by decide⟩ rfl (Nat.le_of_ble_eq_true rfl) dX10_segment_1 (x_out C Rr)
set_option maxHeartbeats 1000000 in
set_option maxRecDepth 100000 in
theorem z_segment2 (l : Launch) (g : Gd) (μ : Mm) (hl : l.stackTraces = false) {n nw : Nat} (hO : Ok μ n nw) {pl : Nat} {k : Int32} {m : Int32} (h_pl : pl < 4) (h_k : inI k (nI 0) (nI n) = false) : Cz l yX10_segment cX10_segment 7 (some .int) (rmz 7 112) g [.ref (ad g 0), .int (nI pl), .int k, .int m] μ nIA := by
  obtain ⟨hn, hw, hn10, hnw, hs, h1n⟩ := hO
  have h1024 := pw10 hn10
  have h2n := Nat.two_pow_pos n
  refine Cz.of (by decide) (Nat.le_of_ble_eq_true rfl) (fun z A C X Ee Rr => ?_)
  refine r_iload_n C dX10_segment_0 1 rfl ?_
  refine r_callP C (As := [.int (nI pl)]) (rest := []) (st1 := []) miX10_checkFamily msX10_checkFamily (y_checkFamily l (f := pl) (by omega)) hw_3_177 rfl ⟨by decide, by decide, rfl, rfl, by decide, by decide⟩ rfl (Nat.le_of_ble_eq_true rfl) dX10_segment_1 rfl ?_
  refine r_iload_n C dX10_segment_4 2 rfl ?_
  refine r_iconst C (v := (nI 0)) dX10_segment_5 rfl ?_
  refine r_aload_n C dX10_segment_6 0 rfl ?_
  refine r_get C X (k := 0) (R := RX10) (T := TX10) (N := 12) (n := 0) (v := .ref (ad g 1)) (by decide) rfl rfl inw10 (by decide) rfl hw_1_208 rfl dX10_segment_7 ?_
  refine r_get C X (k := 1) (R := RX4) (T := TX4) (N := 2) (n := 0) (v := .int (gI μ 0)) (by decide) rfl rfl inw4 (by decide) rfl hw_1_42 rfl dX10_segment_10 ?_
  refine G_top (y := (nI n)) hn ?_
  exact r_xS C X Ee (As := [.int k, .int (nI 0), .int (nI n)]) (rest := []) miX10_checkRange msX10_checkRange (z_checkRange l g μ hl (v := k) (a := (nI 0)) (b := (nI n)) h_k) hw_3_88 rfl ⟨by decide, by decide, rfl, rfl, by decide, by decide⟩ rfl (Nat.le_of_ble_eq_true rfl) dX10_segment_13 (x_out C Rr)
set_option maxHeartbeats 1000000 in
set_option maxRecDepth 100000 in
theorem z_segment3 (l : Launch) (g : Gd) (μ : Mm) (hl : l.stackTraces = false) {n nw : Nat} (hO : Ok μ n nw) {pl : Nat} {k : Nat} {m : Int32} (h_pl : pl < 4) (h_k : k ≤ n) (h_m : inI m (nI 0) (nI (ch n k)) = false) : Cz l yX10_segment cX10_segment 7 (some .int) (rmz 7 112) g [.ref (ad g 0), .int (nI pl), .int (nI k), .int m] μ nIA := by
  obtain ⟨hn, hw, hn10, hnw, hs, h1n⟩ := hO
  have h1024 := pw10 hn10
  have h2n := Nat.two_pow_pos n
  refine Cz.of (by decide) (Nat.le_of_ble_eq_true rfl) (fun z A C X Ee Rr => ?_)
  refine r_iload_n C dX10_segment_0 1 rfl ?_
  refine r_callP C (As := [.int (nI pl)]) (rest := []) (st1 := []) miX10_checkFamily msX10_checkFamily (y_checkFamily l (f := pl) (by omega)) hw_3_177 rfl ⟨by decide, by decide, rfl, rfl, by decide, by decide⟩ rfl (Nat.le_of_ble_eq_true rfl) dX10_segment_1 rfl ?_
  refine r_iload_n C dX10_segment_4 2 rfl ?_
  refine r_iconst C (v := (nI 0)) dX10_segment_5 rfl ?_
  refine r_aload_n C dX10_segment_6 0 rfl ?_
  refine r_get C X (k := 0) (R := RX10) (T := TX10) (N := 12) (n := 0) (v := .ref (ad g 1)) (by decide) rfl rfl inw10 (by decide) rfl hw_1_208 rfl dX10_segment_7 ?_
  refine r_get C X (k := 1) (R := RX4) (T := TX4) (N := 2) (n := 0) (v := .int (gI μ 0)) (by decide) rfl rfl inw4 (by decide) rfl hw_1_42 rfl dX10_segment_10 ?_
  refine G_top (y := (nI n)) hn ?_
  refine r_callP C (As := [.int (nI k), .int (nI 0), .int (nI n)]) (rest := []) (st1 := []) miX10_checkRange msX10_checkRange (y_checkRange l (v := (nI k)) (a := (nI 0)) (b := (nI n)) ((nI_leI (by omega) (by omega)).mpr (by omega)) ((nI_leI (by omega) (by omega)).mpr (by omega))) hw_3_88 rfl ⟨by decide, by decide, rfl, rfl, by decide, by decide⟩ rfl (Nat.le_of_ble_eq_true rfl) dX10_segment_13 rfl ?_
  refine r_iload_n C dX10_segment_16 3 rfl ?_
  refine r_iconst C (v := (nI 0)) dX10_segment_17 rfl ?_
  refine r_aload_n C dX10_segment_18 0 rfl ?_
  refine r_get C X (k := 0) (R := RX10) (T := TX10) (N := 12) (n := 0) (v := .ref (ad g 1)) (by decide) rfl rfl inw10 (by decide) rfl hw_1_208 rfl dX10_segment_19 ?_
  refine r_get C X (k := 1) (R := RX4) (T := TX4) (N := 2) (n := 0) (v := .int (gI μ 0)) (by decide) rfl rfl inw4 (by decide) rfl hw_1_42 rfl dX10_segment_22 ?_
  refine G_top (y := (nI n)) hn ?_
  refine r_iload_n C dX10_segment_25 2 rfl ?_
  have hch := ch_seg (n := n) (k := k) hn10
  refine r_callP C (As := [.int (nI n), .int (nI k)]) (rest := [.int (nI 0), .int m]) (st1 := [.long (lN (ch n k)), .int (nI 0), .int m]) miX0_binomial msX0_binomial (c_binomial l (a := n) (b := k) (by omega) (by omega) (by omega)) hw_2_186 rfl ⟨by decide, by decide, rfl, rfl, by decide, by decide⟩ rfl (Nat.le_of_ble_eq_true rfl) dX10_segment_26 rfl ?_
  refine r_l2i C (v := (nI (ch n k))) dX10_segment_29 (lN_i _) ?_
  exact r_xS C X Ee (As := [.int m, .int (nI 0), .int (nI (ch n k))]) (rest := []) miX10_checkRange msX10_checkRange (z_checkRange l g μ hl (v := m) (a := (nI 0)) (b := (nI (ch n k))) h_m) hw_3_88 rfl ⟨by decide, by decide, rfl, rfl, by decide, by decide⟩ rfl (Nat.le_of_ble_eq_true rfl) dX10_segment_30 (x_out C Rr)
set_option maxHeartbeats 1000000 in
set_option maxRecDepth 100000 in
theorem z_rank1 (l : Launch) (g : Gd) (μ : Mm) (hl : l.stackTraces = false) {n nw : Nat} (hO : Ok μ n nw) {e : Int32} (h_e : inI e (nI 0) (nI 1023) = false) : Cz l yX10_rank cX10_rank 2 (some .int) (rmz 7 112) g [.ref (ad g 0), .int e] μ nIA := by
  obtain ⟨hn, hw, hn10, hnw, hs, h1n⟩ := hO
  have h1024 := pw10 hn10
  have h2n := Nat.two_pow_pos n
  refine Cz.of (by decide) (Nat.le_of_ble_eq_true rfl) (fun z A C X Ee Rr => ?_)
  refine r_iload_n C dX10_rank_0 1 rfl ?_
  refine r_iconst C (v := (nI 0)) dX10_rank_1 rfl ?_
  refine r_sipush C (v := (nI 1023)) dX10_rank_2 (by decide) ?_
  exact r_xS C X Ee (As := [.int e, .int (nI 0), .int (nI 1023)]) (rest := []) miX10_checkRange msX10_checkRange (z_checkRange l g μ hl (v := e) (a := (nI 0)) (b := (nI 1023)) h_e) hw_3_88 rfl ⟨by decide, by decide, rfl, rfl, by decide, by decide⟩ rfl (Nat.le_of_ble_eq_true rfl) dX10_rank_5 (x_out C Rr)
set_option maxHeartbeats 1000000 in
set_option maxRecDepth 100000 in
theorem z_unrank1 (l : Launch) (g : Gd) (μ : Mm) (hl : l.stackTraces = false) {n nw : Nat} (hO : Ok μ n nw) {k : Int32} {ix : Int32} (h_k : inI k (nI 0) (nI 10) = false) : Cz l yX10_unrank cX10_unrank 3 (some .int) (rmz 7 112) g [.ref (ad g 0), .int k, .int ix] μ nIA := by
  obtain ⟨hn, hw, hn10, hnw, hs, h1n⟩ := hO
  have h1024 := pw10 hn10
  have h2n := Nat.two_pow_pos n
  refine Cz.of (by decide) (Nat.le_of_ble_eq_true rfl) (fun z A C X Ee Rr => ?_)
  refine r_iload_n C dX10_unrank_0 1 rfl ?_
  refine r_iconst C (v := (nI 0)) dX10_unrank_1 rfl ?_
  refine r_bipush C (v := (nI 10)) dX10_unrank_2 (by decide) ?_
  exact r_xS C X Ee (As := [.int k, .int (nI 0), .int (nI 10)]) (rest := []) miX10_checkRange msX10_checkRange (z_checkRange l g μ hl (v := k) (a := (nI 0)) (b := (nI 10)) h_k) hw_3_88 rfl ⟨by decide, by decide, rfl, rfl, by decide, by decide⟩ rfl (Nat.le_of_ble_eq_true rfl) dX10_unrank_4 (x_out C Rr)
set_option maxHeartbeats 1000000 in
set_option maxRecDepth 100000 in
theorem z_unrank2 (l : Launch) (g : Gd) (μ : Mm) (hl : l.stackTraces = false) {n nw : Nat} (hO : Ok μ n nw) {k : Nat} {ix : Int32} (h_k : k ≤ 10) (h_ix : ix < 0) : Cz l yX10_unrank cX10_unrank 3 (some .int) (rmz 7 112) g [.ref (ad g 0), .int (nI k), .int ix] μ nIA := by
  obtain ⟨hn, hw, hn10, hnw, hs, h1n⟩ := hO
  have h1024 := pw10 hn10
  have h2n := Nat.two_pow_pos n
  refine Cz.of (by decide) (Nat.le_of_ble_eq_true rfl) (fun z A C X Ee Rr => ?_)
  refine r_iload_n C dX10_unrank_0 1 rfl ?_
  refine r_iconst C (v := (nI 0)) dX10_unrank_1 rfl ?_
  refine r_bipush C (v := (nI 10)) dX10_unrank_2 (by decide) ?_
  refine r_callP C (As := [.int (nI k), .int (nI 0), .int (nI 10)]) (rest := []) (st1 := []) miX10_checkRange msX10_checkRange (y_checkRange l (v := (nI k)) (a := (nI 0)) (b := (nI 10)) ((nI_leI (by omega) (by omega)).mpr (by omega)) ((nI_leI (by omega) (by omega)).mpr (by omega))) hw_3_88 rfl ⟨by decide, by decide, rfl, rfl, by decide, by decide⟩ rfl (Nat.le_of_ble_eq_true rfl) dX10_unrank_4 rfl ?_
  refine r_iload_n C dX10_unrank_7 2 rfl ?_
  exact r_xS C X Ee (As := [.int ix]) (rest := []) miX10_checkNotNegative msX10_checkNotNegative (z_checkNotNegative l g μ hl (v := ix) h_ix) hw_3_235 rfl ⟨by decide, by decide, rfl, rfl, by decide, by decide⟩ rfl (Nat.le_of_ble_eq_true rfl) dX10_unrank_8 (x_out C Rr)
set_option maxHeartbeats 1000000 in
set_option maxRecDepth 100000 in
theorem z_cascade1 (l : Launch) (g : Gd) (μ : Mm) (hl : l.stackTraces = false) {n nw : Nat} (hO : Ok μ n nw) {m : Int32} {k : Int32} {ix : Int32} (h_m : inI m (nI 1) (nI 1000000) = false) : Cz l yX10_cascade cX10_cascade 4 (some .int) (rmz 7 112) g [.ref (ad g 0), .int m, .int k, .int ix] μ nIA := by
  obtain ⟨hn, hw, hn10, hnw, hs, h1n⟩ := hO
  have h1024 := pw10 hn10
  have h2n := Nat.two_pow_pos n
  refine Cz.of (by decide) (Nat.le_of_ble_eq_true rfl) (fun z A C X Ee Rr => ?_)
  refine r_iload_n C dX10_cascade_0 1 rfl ?_
  refine r_iconst C (v := (nI 1)) dX10_cascade_1 rfl ?_
  refine r_ldc C dX10_cascade_2 hw_4_131 ?_
  refine G_top (y := (nI 1000000)) (by decide) ?_
  exact r_xS C X Ee (As := [.int m, .int (nI 1), .int (nI 1000000)]) (rest := []) miX10_checkRange msX10_checkRange (z_checkRange l g μ hl (v := m) (a := (nI 1)) (b := (nI 1000000)) h_m) hw_3_88 rfl ⟨by decide, by decide, rfl, rfl, by decide, by decide⟩ rfl (Nat.le_of_ble_eq_true rfl) dX10_cascade_4 (x_out C Rr)
set_option maxHeartbeats 1000000 in
set_option maxRecDepth 100000 in
theorem z_cascade2 (l : Launch) (g : Gd) (μ : Mm) (hl : l.stackTraces = false) {n nw : Nat} (hO : Ok μ n nw) {m : Nat} {k : Int32} {ix : Int32} (h_m : 1 ≤ m ∧ m ≤ 1000000) (h_k : inI k (nI 1) (nI 10) = false) : Cz l yX10_cascade cX10_cascade 4 (some .int) (rmz 7 112) g [.ref (ad g 0), .int (nI m), .int k, .int ix] μ nIA := by
  obtain ⟨hn, hw, hn10, hnw, hs, h1n⟩ := hO
  have h1024 := pw10 hn10
  have h2n := Nat.two_pow_pos n
  refine Cz.of (by decide) (Nat.le_of_ble_eq_true rfl) (fun z A C X Ee Rr => ?_)
  refine r_iload_n C dX10_cascade_0 1 rfl ?_
  refine r_iconst C (v := (nI 1)) dX10_cascade_1 rfl ?_
  refine r_ldc C dX10_cascade_2 hw_4_131 ?_
  refine G_top (y := (nI 1000000)) (by decide) ?_
  refine r_callP C (As := [.int (nI m), .int (nI 1), .int (nI 1000000)]) (rest := []) (st1 := []) miX10_checkRange msX10_checkRange (y_checkRange l (v := (nI m)) (a := (nI 1)) (b := (nI 1000000)) ((nI_leI (by omega) (by omega)).mpr (by omega)) ((nI_leI (by omega) (by omega)).mpr (by omega))) hw_3_88 rfl ⟨by decide, by decide, rfl, rfl, by decide, by decide⟩ rfl (Nat.le_of_ble_eq_true rfl) dX10_cascade_4 rfl ?_
  refine r_iload_n C dX10_cascade_7 2 rfl ?_
  refine r_iconst C (v := (nI 1)) dX10_cascade_8 rfl ?_
  refine r_bipush C (v := (nI 10)) dX10_cascade_9 (by decide) ?_
  exact r_xS C X Ee (As := [.int k, .int (nI 1), .int (nI 10)]) (rest := []) miX10_checkRange msX10_checkRange (z_checkRange l g μ hl (v := k) (a := (nI 1)) (b := (nI 10)) h_k) hw_3_88 rfl ⟨by decide, by decide, rfl, rfl, by decide, by decide⟩ rfl (Nat.le_of_ble_eq_true rfl) dX10_cascade_11 (x_out C Rr)
set_option maxHeartbeats 1000000 in
set_option maxRecDepth 100000 in
theorem z_cascade3 (l : Launch) (g : Gd) (μ : Mm) (hl : l.stackTraces = false) {n nw : Nat} (hO : Ok μ n nw) {m : Nat} {k : Nat} {ix : Int32} (h_m : 1 ≤ m ∧ m ≤ 1000000) (h_k : 1 ≤ k ∧ k ≤ 10) (h_ix : ix < 0) : Cz l yX10_cascade cX10_cascade 4 (some .int) (rmz 7 112) g [.ref (ad g 0), .int (nI m), .int (nI k), .int ix] μ nIA := by
  obtain ⟨hn, hw, hn10, hnw, hs, h1n⟩ := hO
  have h1024 := pw10 hn10
  have h2n := Nat.two_pow_pos n
  refine Cz.of (by decide) (Nat.le_of_ble_eq_true rfl) (fun z A C X Ee Rr => ?_)
  refine r_iload_n C dX10_cascade_0 1 rfl ?_
  refine r_iconst C (v := (nI 1)) dX10_cascade_1 rfl ?_
  refine r_ldc C dX10_cascade_2 hw_4_131 ?_
  refine G_top (y := (nI 1000000)) (by decide) ?_
  refine r_callP C (As := [.int (nI m), .int (nI 1), .int (nI 1000000)]) (rest := []) (st1 := []) miX10_checkRange msX10_checkRange (y_checkRange l (v := (nI m)) (a := (nI 1)) (b := (nI 1000000)) ((nI_leI (by omega) (by omega)).mpr (by omega)) ((nI_leI (by omega) (by omega)).mpr (by omega))) hw_3_88 rfl ⟨by decide, by decide, rfl, rfl, by decide, by decide⟩ rfl (Nat.le_of_ble_eq_true rfl) dX10_cascade_4 rfl ?_
  refine r_iload_n C dX10_cascade_7 2 rfl ?_
  refine r_iconst C (v := (nI 1)) dX10_cascade_8 rfl ?_
  refine r_bipush C (v := (nI 10)) dX10_cascade_9 (by decide) ?_
  refine r_callP C (As := [.int (nI k), .int (nI 1), .int (nI 10)]) (rest := []) (st1 := []) miX10_checkRange msX10_checkRange (y_checkRange l (v := (nI k)) (a := (nI 1)) (b := (nI 10)) ((nI_leI (by omega) (by omega)).mpr (by omega)) ((nI_leI (by omega) (by omega)).mpr (by omega))) hw_3_88 rfl ⟨by decide, by decide, rfl, rfl, by decide, by decide⟩ rfl (Nat.le_of_ble_eq_true rfl) dX10_cascade_11 rfl ?_
  refine r_iload_n C dX10_cascade_14 3 rfl ?_
  exact r_xS C X Ee (As := [.int ix]) (rest := []) miX10_checkNotNegative msX10_checkNotNegative (z_checkNotNegative l g μ hl (v := ix) h_ix) hw_3_235 rfl ⟨by decide, by decide, rfl, rfl, by decide, by decide⟩ rfl (Nat.le_of_ble_eq_true rfl) dX10_cascade_15 (x_out C Rr)
set_option maxHeartbeats 1000000 in
set_option maxRecDepth 100000 in
theorem z_shadowBound1 (l : Launch) (g : Gd) (μ : Mm) (hl : l.stackTraces = false) {n nw : Nat} (hO : Ok μ n nw) {m : Int32} {k : Int32} (h_m : inI m (nI 0) (nI 1000000) = false) : Cz l yX10_shadowBound cX10_shadowBound 3 (some .int) (rmz 7 112) g [.ref (ad g 0), .int m, .int k] μ nIA := by
  obtain ⟨hn, hw, hn10, hnw, hs, h1n⟩ := hO
  have h1024 := pw10 hn10
  have h2n := Nat.two_pow_pos n
  refine Cz.of (by decide) (Nat.le_of_ble_eq_true rfl) (fun z A C X Ee Rr => ?_)
  refine r_iload_n C dX10_shadowBound_0 1 rfl ?_
  refine r_iconst C (v := (nI 0)) dX10_shadowBound_1 rfl ?_
  refine r_ldc C dX10_shadowBound_2 hw_4_131 ?_
  refine G_top (y := (nI 1000000)) (by decide) ?_
  exact r_xS C X Ee (As := [.int m, .int (nI 0), .int (nI 1000000)]) (rest := []) miX10_checkRange msX10_checkRange (z_checkRange l g μ hl (v := m) (a := (nI 0)) (b := (nI 1000000)) h_m) hw_3_88 rfl ⟨by decide, by decide, rfl, rfl, by decide, by decide⟩ rfl (Nat.le_of_ble_eq_true rfl) dX10_shadowBound_4 (x_out C Rr)
set_option maxHeartbeats 1000000 in
set_option maxRecDepth 100000 in
theorem z_shadowBound2 (l : Launch) (g : Gd) (μ : Mm) (hl : l.stackTraces = false) {n nw : Nat} (hO : Ok μ n nw) {m : Nat} {k : Int32} (h_m : m ≤ 1000000) (h_k : inI k (nI 1) (nI 10) = false) : Cz l yX10_shadowBound cX10_shadowBound 3 (some .int) (rmz 7 112) g [.ref (ad g 0), .int (nI m), .int k] μ nIA := by
  obtain ⟨hn, hw, hn10, hnw, hs, h1n⟩ := hO
  have h1024 := pw10 hn10
  have h2n := Nat.two_pow_pos n
  refine Cz.of (by decide) (Nat.le_of_ble_eq_true rfl) (fun z A C X Ee Rr => ?_)
  refine r_iload_n C dX10_shadowBound_0 1 rfl ?_
  refine r_iconst C (v := (nI 0)) dX10_shadowBound_1 rfl ?_
  refine r_ldc C dX10_shadowBound_2 hw_4_131 ?_
  refine G_top (y := (nI 1000000)) (by decide) ?_
  refine r_callP C (As := [.int (nI m), .int (nI 0), .int (nI 1000000)]) (rest := []) (st1 := []) miX10_checkRange msX10_checkRange (y_checkRange l (v := (nI m)) (a := (nI 0)) (b := (nI 1000000)) ((nI_leI (by omega) (by omega)).mpr (by omega)) ((nI_leI (by omega) (by omega)).mpr (by omega))) hw_3_88 rfl ⟨by decide, by decide, rfl, rfl, by decide, by decide⟩ rfl (Nat.le_of_ble_eq_true rfl) dX10_shadowBound_4 rfl ?_
  refine r_iload_n C dX10_shadowBound_7 2 rfl ?_
  refine r_iconst C (v := (nI 1)) dX10_shadowBound_8 rfl ?_
  refine r_bipush C (v := (nI 10)) dX10_shadowBound_9 (by decide) ?_
  exact r_xS C X Ee (As := [.int k, .int (nI 1), .int (nI 10)]) (rest := []) miX10_checkRange msX10_checkRange (z_checkRange l g μ hl (v := k) (a := (nI 1)) (b := (nI 10)) h_k) hw_3_88 rfl ⟨by decide, by decide, rfl, rfl, by decide, by decide⟩ rfl (Nat.le_of_ble_eq_true rfl) dX10_shadowBound_11 (x_out C Rr)
set_option maxHeartbeats 1000000 in
set_option maxRecDepth 100000 in
theorem z_excess1 (l : Launch) (g : Gd) (μ : Mm) (hl : l.stackTraces = false) {n nw : Nat} (hO : Ok μ n nw) {f : Int32} {lv : Int32} (h_f : inI f (nI 0) (nI 3) = false) : Cz l yX10_excess cX10_excess 3 (some .int) (rmz 7 112) g [.ref (ad g 0), .int f, .int lv] μ nIO := by
  obtain ⟨hn, hw, hn10, hnw, hs, h1n⟩ := hO
  have h1024 := pw10 hn10
  have h2n := Nat.two_pow_pos n
  refine Cz.of (by decide) (Nat.le_of_ble_eq_true rfl) (fun z A C X Ee Rr => ?_)
  refine r_iload_n C dX10_excess_0 1 rfl ?_
  exact r_xS C X Ee (As := [.int f]) (rest := []) miX10_checkFamily msX10_checkFamily (z_checkFamily l g μ hl (v := f) h_f) hw_3_177 rfl ⟨by decide, by decide, rfl, rfl, by decide, by decide⟩ rfl (Nat.le_of_ble_eq_true rfl) dX10_excess_1 (x_out C Rr)
set_option maxHeartbeats 1000000 in
set_option maxRecDepth 100000 in
theorem z_excess2 (l : Launch) (g : Gd) (μ : Mm) (hl : l.stackTraces = false) {n nw : Nat} (hO : Ok μ n nw) {f : Nat} {lv : Int32} (h_f : f < 4) (h_lv : inI lv (nI 1) (nI n) = false) : Cz l yX10_excess cX10_excess 3 (some .int) (rmz 7 112) g [.ref (ad g 0), .int (nI f), .int lv] μ nIA := by
  obtain ⟨hn, hw, hn10, hnw, hs, h1n⟩ := hO
  have h1024 := pw10 hn10
  have h2n := Nat.two_pow_pos n
  refine Cz.of (by decide) (Nat.le_of_ble_eq_true rfl) (fun z A C X Ee Rr => ?_)
  refine r_iload_n C dX10_excess_0 1 rfl ?_
  refine r_callP C (As := [.int (nI f)]) (rest := []) (st1 := []) miX10_checkFamily msX10_checkFamily (y_checkFamily l (f := f) (by omega)) hw_3_177 rfl ⟨by decide, by decide, rfl, rfl, by decide, by decide⟩ rfl (Nat.le_of_ble_eq_true rfl) dX10_excess_1 rfl ?_
  refine r_iload_n C dX10_excess_4 2 rfl ?_
  refine r_iconst C (v := (nI 1)) dX10_excess_5 rfl ?_
  refine r_aload_n C dX10_excess_6 0 rfl ?_
  refine r_get C X (k := 0) (R := RX10) (T := TX10) (N := 12) (n := 0) (v := .ref (ad g 1)) (by decide) rfl rfl inw10 (by decide) rfl hw_1_208 rfl dX10_excess_7 ?_
  refine r_get C X (k := 1) (R := RX4) (T := TX4) (N := 2) (n := 0) (v := .int (gI μ 0)) (by decide) rfl rfl inw4 (by decide) rfl hw_1_42 rfl dX10_excess_10 ?_
  refine G_top (y := (nI n)) hn ?_
  exact r_xS C X Ee (As := [.int lv, .int (nI 1), .int (nI n)]) (rest := []) miX10_checkRange msX10_checkRange (z_checkRange l g μ hl (v := lv) (a := (nI 1)) (b := (nI n)) h_lv) hw_3_88 rfl ⟨by decide, by decide, rfl, rfl, by decide, by decide⟩ rfl (Nat.le_of_ble_eq_true rfl) dX10_excess_13 (x_out C Rr)
set_option maxHeartbeats 1000000 in
set_option maxRecDepth 100000 in
theorem z_is1 (l : Launch) (g : Gd) (μ : Mm) (hl : l.stackTraces = false) {n nw : Nat} (hO : Ok μ n nw) {f : Int32} {p : Int32} (h_f : inI f (nI 0) (nI 3) = false) : Cz l yX10_is cX10_is 3 (some .boolean) (rmz 7 112) g [.ref (ad g 0), .int f, .int p] μ nIO := by
  obtain ⟨hn, hw, hn10, hnw, hs, h1n⟩ := hO
  have h1024 := pw10 hn10
  have h2n := Nat.two_pow_pos n
  refine Cz.of (by decide) (Nat.le_of_ble_eq_true rfl) (fun z A C X Ee Rr => ?_)
  refine r_iload_n C dX10_is_0 1 rfl ?_
  exact r_xS C X Ee (As := [.int f]) (rest := []) miX10_checkFamily msX10_checkFamily (z_checkFamily l g μ hl (v := f) h_f) hw_3_177 rfl ⟨by decide, by decide, rfl, rfl, by decide, by decide⟩ rfl (Nat.le_of_ble_eq_true rfl) dX10_is_1 (x_out C Rr)
set_option maxHeartbeats 1000000 in
set_option maxRecDepth 100000 in
theorem z_is2 (l : Launch) (g : Gd) (μ : Mm) (hl : l.stackTraces = false) {n nw : Nat} (hO : Ok μ n nw) {f : Nat} {p : Int32} (h_f : f < 4) (h_p : inI p (nI 0) (nI 5) = false) : Cz l yX10_is cX10_is 3 (some .boolean) (rmz 7 112) g [.ref (ad g 0), .int (nI f), .int p] μ nIA := by
  obtain ⟨hn, hw, hn10, hnw, hs, h1n⟩ := hO
  have h1024 := pw10 hn10
  have h2n := Nat.two_pow_pos n
  refine Cz.of (by decide) (Nat.le_of_ble_eq_true rfl) (fun z A C X Ee Rr => ?_)
  refine r_iload_n C dX10_is_0 1 rfl ?_
  refine r_callP C (As := [.int (nI f)]) (rest := []) (st1 := []) miX10_checkFamily msX10_checkFamily (y_checkFamily l (f := f) (by omega)) hw_3_177 rfl ⟨by decide, by decide, rfl, rfl, by decide, by decide⟩ rfl (Nat.le_of_ble_eq_true rfl) dX10_is_1 rfl ?_
  refine r_iload_n C dX10_is_4 2 rfl ?_
  refine r_iconst C (v := (nI 0)) dX10_is_5 rfl ?_
  refine r_iconst C (v := (nI 5)) dX10_is_6 rfl ?_
  exact r_xS C X Ee (As := [.int p, .int (nI 0), .int (nI 5)]) (rest := []) miX10_checkRange msX10_checkRange (z_checkRange l g μ hl (v := p) (a := (nI 0)) (b := (nI 5)) h_p) hw_3_88 rfl ⟨by decide, by decide, rfl, rfl, by decide, by decide⟩ rfl (Nat.le_of_ble_eq_true rfl) dX10_is_7 (x_out C Rr)
set_option maxHeartbeats 1000000 in
set_option maxRecDepth 100000 in
theorem z_weight1 (l : Launch) (g : Gd) (μ : Mm) (hl : l.stackTraces = false) {n nw : Nat} (hO : Ok μ n nw) {f : Int32} {dn : Bool} (h_f : inI f (nI 0) (nI 3) = false) : Cz l yX10_weight cX10_weight 3 (some .long) (rmz 7 110) g [.ref (ad g 0), .int f, .int (bI dn)] μ nIO := by
  obtain ⟨hn, hw, hn10, hnw, hs, h1n⟩ := hO
  have h1024 := pw10 hn10
  have h2n := Nat.two_pow_pos n
  refine Cz.of (by decide) (Nat.le_of_ble_eq_true rfl) (fun z A C X Ee Rr => ?_)
  refine r_iload_n C dX10_weight_0 1 rfl ?_
  exact r_xS C X Ee (As := [.int f]) (rest := []) miX10_checkFamily msX10_checkFamily (z_checkFamily l g μ hl (v := f) h_f) hw_3_177 rfl ⟨by decide, by decide, rfl, rfl, by decide, by decide⟩ rfl (Nat.le_of_ble_eq_true rfl) dX10_weight_1 (x_out C Rr)
set_option maxHeartbeats 1000000 in
set_option maxRecDepth 100000 in
theorem z_dimension1 (l : Launch) (g : Gd) (μ : Mm) (hl : l.stackTraces = false) {n nw : Nat} (hO : Ok μ n nw) {f : Int32} (h_f : inI f (nI 0) (nI 3) = false) : Cz l yX10_dimension cX10_dimension 2 (some .int) (rmz 7 110) g [.ref (ad g 0), .int f] μ nIO := by
  obtain ⟨hn, hw, hn10, hnw, hs, h1n⟩ := hO
  have h1024 := pw10 hn10
  have h2n := Nat.two_pow_pos n
  refine Cz.of (by decide) (Nat.le_of_ble_eq_true rfl) (fun z A C X Ee Rr => ?_)
  refine r_iload_n C dX10_dimension_0 1 rfl ?_
  exact r_xS C X Ee (As := [.int f]) (rest := []) miX10_checkFamily msX10_checkFamily (z_checkFamily l g μ hl (v := f) h_f) hw_3_177 rfl ⟨by decide, by decide, rfl, rfl, by decide, by decide⟩ rfl (Nat.le_of_ble_eq_true rfl) dX10_dimension_1 (x_out C Rr)
set_option maxHeartbeats 1000000 in
set_option maxRecDepth 100000 in
theorem z_shattered1 (l : Launch) (g : Gd) (μ : Mm) (hl : l.stackTraces = false) {n nw : Nat} (hO : Ok μ n nw) {f : Int32} (h_f : inI f (nI 0) (nI 3) = false) : Cz l yX10_shattered cX10_shattered 2 (some .int) (rmz 7 110) g [.ref (ad g 0), .int f] μ nIO := by
  obtain ⟨hn, hw, hn10, hnw, hs, h1n⟩ := hO
  have h1024 := pw10 hn10
  have h2n := Nat.two_pow_pos n
  refine Cz.of (by decide) (Nat.le_of_ble_eq_true rfl) (fun z A C X Ee Rr => ?_)
  refine r_iload_n C dX10_shattered_0 1 rfl ?_
  exact r_xS C X Ee (As := [.int f]) (rest := []) miX10_checkFamily msX10_checkFamily (z_checkFamily l g μ hl (v := f) h_f) hw_3_177 rfl ⟨by decide, by decide, rfl, rfl, by decide, by decide⟩ rfl (Nat.le_of_ble_eq_true rfl) dX10_shattered_1 (x_out C Rr)
set_option maxHeartbeats 1000000 in
set_option maxRecDepth 100000 in
theorem z_sunflower1 (l : Launch) (g : Gd) (μ : Mm) (hl : l.stackTraces = false) {n nw : Nat} (hO : Ok μ n nw) {f : Int32} (h_f : inI f (nI 0) (nI 3) = false) : Cz l yX10_sunflower cX10_sunflower 2 (some .int) (rmz 7 110) g [.ref (ad g 0), .int f] μ nIO := by
  obtain ⟨hn, hw, hn10, hnw, hs, h1n⟩ := hO
  have h1024 := pw10 hn10
  have h2n := Nat.two_pow_pos n
  refine Cz.of (by decide) (Nat.le_of_ble_eq_true rfl) (fun z A C X Ee Rr => ?_)
  refine r_iload_n C dX10_sunflower_0 1 rfl ?_
  exact r_xS C X Ee (As := [.int f]) (rest := []) miX10_checkFamily msX10_checkFamily (z_checkFamily l g μ hl (v := f) h_f) hw_3_177 rfl ⟨by decide, by decide, rfl, rfl, by decide, by decide⟩ rfl (Nat.le_of_ble_eq_true rfl) dX10_sunflower_1 (x_out C Rr)
set_option maxHeartbeats 1000000 in
set_option maxRecDepth 100000 in
theorem z_read1 (l : Launch) (g : Gd) (μ : Mm) (hl : l.stackTraces = false) {n nw : Nat} (hO : Ok μ n nw) {f : Int32} (h_f : inI f (nI 0) (nI 3) = false) : Cz l yX10_read cX10_read 3 (some .int) (rmz 7 110) g [.ref (ad g 0), .int f] μ nIO := by
  obtain ⟨hn, hw, hn10, hnw, hs, h1n⟩ := hO
  have h1024 := pw10 hn10
  have h2n := Nat.two_pow_pos n
  refine Cz.of (by decide) (Nat.le_of_ble_eq_true rfl) (fun z A C X Ee Rr => ?_)
  refine r_iload_n C dX10_read_0 1 rfl ?_
  exact r_xS C X Ee (As := [.int f]) (rest := []) miX10_checkFamily msX10_checkFamily (z_checkFamily l g μ hl (v := f) h_f) hw_3_177 rfl ⟨by decide, by decide, rfl, rfl, by decide, by decide⟩ rfl (Nat.le_of_ble_eq_true rfl) dX10_read_1 (x_out C Rr)
set_option maxHeartbeats 1000000 in
set_option maxRecDepth 100000 in
theorem z_crossing1 (l : Launch) (g : Gd) (μ : Mm) (hl : l.stackTraces = false) {n nw : Nat} (hO : Ok μ n nw) {a : Int32} {b : Int32} (h_a : inI a (nI 0) (nI 3) = false) : Cz l yX10_crossing cX10_crossing 3 (some .int) (rmz 7 110) g [.ref (ad g 0), .int a, .int b] μ nIO := by
  obtain ⟨hn, hw, hn10, hnw, hs, h1n⟩ := hO
  have h1024 := pw10 hn10
  have h2n := Nat.two_pow_pos n
  refine Cz.of (by decide) (Nat.le_of_ble_eq_true rfl) (fun z A C X Ee Rr => ?_)
  refine r_iload_n C dX10_crossing_0 1 rfl ?_
  exact r_xS C X Ee (As := [.int a]) (rest := []) miX10_checkFamily msX10_checkFamily (z_checkFamily l g μ hl (v := a) h_a) hw_3_177 rfl ⟨by decide, by decide, rfl, rfl, by decide, by decide⟩ rfl (Nat.le_of_ble_eq_true rfl) dX10_crossing_1 (x_out C Rr)
set_option maxHeartbeats 1000000 in
set_option maxRecDepth 100000 in
theorem z_crossing2 (l : Launch) (g : Gd) (μ : Mm) (hl : l.stackTraces = false) {n nw : Nat} (hO : Ok μ n nw) {a : Nat} {b : Int32} (h_a : a < 4) (h_b : inI b (nI 0) (nI 3) = false) : Cz l yX10_crossing cX10_crossing 3 (some .int) (rmz 7 110) g [.ref (ad g 0), .int (nI a), .int b] μ nIO := by
  obtain ⟨hn, hw, hn10, hnw, hs, h1n⟩ := hO
  have h1024 := pw10 hn10
  have h2n := Nat.two_pow_pos n
  refine Cz.of (by decide) (Nat.le_of_ble_eq_true rfl) (fun z A C X Ee Rr => ?_)
  refine r_iload_n C dX10_crossing_0 1 rfl ?_
  refine r_callP C (As := [.int (nI a)]) (rest := []) (st1 := []) miX10_checkFamily msX10_checkFamily (y_checkFamily l (f := a) (by omega)) hw_3_177 rfl ⟨by decide, by decide, rfl, rfl, by decide, by decide⟩ rfl (Nat.le_of_ble_eq_true rfl) dX10_crossing_1 rfl ?_
  refine r_iload_n C dX10_crossing_4 2 rfl ?_
  exact r_xS C X Ee (As := [.int b]) (rest := []) miX10_checkFamily msX10_checkFamily (z_checkFamily l g μ hl (v := b) h_b) hw_3_177 rfl ⟨by decide, by decide, rfl, rfl, by decide, by decide⟩ rfl (Nat.le_of_ble_eq_true rfl) dX10_crossing_5 (x_out C Rr)
set_option maxHeartbeats 1000000 in
set_option maxRecDepth 100000 in
theorem z_pairs1 (l : Launch) (g : Gd) (μ : Mm) (hl : l.stackTraces = false) {n nw : Nat} (hO : Ok μ n nw) {f : Int32} {k : Int32} (h_f : inI f (nI 0) (nI 3) = false) : Cz l yX10_pairs cX10_pairs 3 (some .int) (rmz 7 112) g [.ref (ad g 0), .int f, .int k] μ nIO := by
  obtain ⟨hn, hw, hn10, hnw, hs, h1n⟩ := hO
  have h1024 := pw10 hn10
  have h2n := Nat.two_pow_pos n
  refine Cz.of (by decide) (Nat.le_of_ble_eq_true rfl) (fun z A C X Ee Rr => ?_)
  refine r_iload_n C dX10_pairs_0 1 rfl ?_
  exact r_xS C X Ee (As := [.int f]) (rest := []) miX10_checkFamily msX10_checkFamily (z_checkFamily l g μ hl (v := f) h_f) hw_3_177 rfl ⟨by decide, by decide, rfl, rfl, by decide, by decide⟩ rfl (Nat.le_of_ble_eq_true rfl) dX10_pairs_1 (x_out C Rr)
set_option maxHeartbeats 1000000 in
set_option maxRecDepth 100000 in
theorem z_pairs2 (l : Launch) (g : Gd) (μ : Mm) (hl : l.stackTraces = false) {n nw : Nat} (hO : Ok μ n nw) {f : Nat} {k : Int32} (h_f : f < 4) (h_k : inI k (nI 0) (nI n) = false) : Cz l yX10_pairs cX10_pairs 3 (some .int) (rmz 7 112) g [.ref (ad g 0), .int (nI f), .int k] μ nIA := by
  obtain ⟨hn, hw, hn10, hnw, hs, h1n⟩ := hO
  have h1024 := pw10 hn10
  have h2n := Nat.two_pow_pos n
  refine Cz.of (by decide) (Nat.le_of_ble_eq_true rfl) (fun z A C X Ee Rr => ?_)
  refine r_iload_n C dX10_pairs_0 1 rfl ?_
  refine r_callP C (As := [.int (nI f)]) (rest := []) (st1 := []) miX10_checkFamily msX10_checkFamily (y_checkFamily l (f := f) (by omega)) hw_3_177 rfl ⟨by decide, by decide, rfl, rfl, by decide, by decide⟩ rfl (Nat.le_of_ble_eq_true rfl) dX10_pairs_1 rfl ?_
  refine r_iload_n C dX10_pairs_4 2 rfl ?_
  refine r_iconst C (v := (nI 0)) dX10_pairs_5 rfl ?_
  refine r_aload_n C dX10_pairs_6 0 rfl ?_
  refine r_get C X (k := 0) (R := RX10) (T := TX10) (N := 12) (n := 0) (v := .ref (ad g 1)) (by decide) rfl rfl inw10 (by decide) rfl hw_1_208 rfl dX10_pairs_7 ?_
  refine r_get C X (k := 1) (R := RX4) (T := TX4) (N := 2) (n := 0) (v := .int (gI μ 0)) (by decide) rfl rfl inw4 (by decide) rfl hw_1_42 rfl dX10_pairs_10 ?_
  refine G_top (y := (nI n)) hn ?_
  exact r_xS C X Ee (As := [.int k, .int (nI 0), .int (nI n)]) (rest := []) miX10_checkRange msX10_checkRange (z_checkRange l g μ hl (v := k) (a := (nI 0)) (b := (nI n)) h_k) hw_3_88 rfl ⟨by decide, by decide, rfl, rfl, by decide, by decide⟩ rfl (Nat.le_of_ble_eq_true rfl) dX10_pairs_13 (x_out C Rr)
set_option maxHeartbeats 1000000 in
set_option maxRecDepth 100000 in
theorem z_type1 (l : Launch) (g : Gd) (μ : Mm) (hl : l.stackTraces = false) {n nw : Nat} (hO : Ok μ n nw) {v : Int32} (h_v : inI v (nI 0) (nI 127) = false) : Cz l yX10_type cX10_type 2 (some .int) (rmz 7 112) g [.ref (ad g 0), .int v] μ nIA := by
  obtain ⟨hn, hw, hn10, hnw, hs, h1n⟩ := hO
  have h1024 := pw10 hn10
  have h2n := Nat.two_pow_pos n
  refine Cz.of (by decide) (Nat.le_of_ble_eq_true rfl) (fun z A C X Ee Rr => ?_)
  refine r_iload_n C dX10_type_0 1 rfl ?_
  refine r_iconst C (v := (nI 0)) dX10_type_1 rfl ?_
  refine r_bipush C (v := (nI 127)) dX10_type_2 (by decide) ?_
  exact r_xS C X Ee (As := [.int v, .int (nI 0), .int (nI 127)]) (rest := []) miX10_checkRange msX10_checkRange (z_checkRange l g μ hl (v := v) (a := (nI 0)) (b := (nI 127)) h_v) hw_3_88 rfl ⟨by decide, by decide, rfl, rfl, by decide, by decide⟩ rfl (Nat.le_of_ble_eq_true rfl) dX10_type_4 (x_out C Rr)
set_option maxHeartbeats 1000000 in
set_option maxRecDepth 100000 in
theorem z_type2 (l : Launch) (g : Gd) (μ : Mm) (hl : l.stackTraces = false) {n nw : Nat} (hO : Ok μ n nw) {v : Nat} (h_v : v < 128) (h4 : gI μ 4 = nI 120) : Cz l yX10_type cX10_type 2 (some .int) (rmz 7 112) g [.ref (ad g 0), .int (nI v)] μ nIS := by
  obtain ⟨hn, hw, hn10, hnw, hs, h1n⟩ := hO
  have h1024 := pw10 hn10
  have h2n := Nat.two_pow_pos n
  refine Cz.of (by decide) (Nat.le_of_ble_eq_true rfl) (fun z A C X Ee Rr => ?_)
  refine r_iload_n C dX10_type_0 1 rfl ?_
  refine r_iconst C (v := (nI 0)) dX10_type_1 rfl ?_
  refine r_bipush C (v := (nI 127)) dX10_type_2 (by decide) ?_
  refine r_callP C (As := [.int (nI v), .int (nI 0), .int (nI 127)]) (rest := []) (st1 := []) miX10_checkRange msX10_checkRange (y_checkRange l (v := (nI v)) (a := (nI 0)) (b := (nI 127)) ((nI_leI (by omega) (by omega)).mpr (by omega)) ((nI_leI (by omega) (by omega)).mpr (by omega))) hw_3_88 rfl ⟨by decide, by decide, rfl, rfl, by decide, by decide⟩ rfl (Nat.le_of_ble_eq_true rfl) dX10_type_4 rfl ?_
  refine r_aload_n C dX10_type_7 0 rfl ?_
  refine r_get C X (k := 0) (R := RX10) (T := TX10) (N := 12) (n := 3) (v := .ref (ad g 6)) (by decide) rfl rfl inw10 (by decide) rfl hw_1_211 rfl dX10_type_8 ?_
  refine r_get C X (k := 6) (R := RX9) (T := TX9) (N := 2) (n := 0) (v := .int (gI μ 4)) (by decide) rfl rfl inw9 (by decide) rfl hw_1_100 rfl dX10_type_11 ?_
  refine G_top (y := (nI 120)) h4 ?_
  refine r_bipush C (v := (nI 120)) dX10_type_14 (by decide) ?_
  refine r_icmp_lt C 29 dX10_type_16 (by decide) (nI_ltI (by omega) (by omega)) (fun h16 => ?_) (fun h16 => ?_)
  · exact absurd h16 (by omega)
  · exact r_throwS (pc := 19) C Ee hl (X := nIS) (by decide) cl_IS in_IS at_IS ng_IS ot_IS Ee.2.2.1.2.2 Ee.2.2.2.2.2.2.2.2.2.1 dX10_type_19 dX10_type_22 dX10_type_23 dX10_type_25 dX10_type_28 ⟨by decide, by decide, by decide, by decide⟩ Rr
set_option maxHeartbeats 1000000 in
set_option maxRecDepth 100000 in
theorem z_undo1 (l : Launch) (g : Gd) (μ : Mm) (hl : l.stackTraces = false) {n nw : Nat} (hO : Ok μ n nw) (h2 : gI μ 2 = nI 0) : Cz l yX10_undo cX10_undo 1 (some .int) (rmz 6 90) g [.ref (ad g 0)] μ nIS := by
  obtain ⟨hn, hw, hn10, hnw, hs, h1n⟩ := hO
  have h1024 := pw10 hn10
  have h2n := Nat.two_pow_pos n
  refine Cz.of (by decide) (Nat.le_of_ble_eq_true rfl) (fun z A C X Ee Rr => ?_)
  refine r_aload_n C dX10_undo_0 0 rfl ?_
  refine r_get C X (k := 0) (R := RX10) (T := TX10) (N := 12) (n := 2) (v := .ref (ad g 3)) (by decide) rfl rfl inw10 (by decide) rfl hw_1_210 rfl dX10_undo_1 ?_
  refine r_get C X (k := 3) (R := RX5) (T := TX5) (N := 4) (n := 0) (v := .int (gI μ 2)) (by decide) rfl rfl inw5 (by decide) rfl hw_1_79 rfl dX10_undo_4 ?_
  refine G_top (y := (nI 0)) h2 ?_
  refine r_if_ne C 21 dX10_undo_7 (by decide) (zI_ne (by omega)) (fun h7 => ?_) (fun h7 => ?_)
  · exact absurd rfl h7
  · exact r_throwW (pc := 10) C Ee hl (X := nIS) (by decide) cl_IS in_IS at_IS ng_IS ot_IS Ee.2.2.1.2.2 Ee.2.2.2.2.2.2.2.2.2.2 dX10_undo_10 dX10_undo_13 dX10_undo_14 dX10_undo_17 dX10_undo_20 ⟨by decide, by decide, by decide, by decide⟩ Rr
set_option maxHeartbeats 1000000 in
set_option maxRecDepth 100000 in
theorem z_compress4 (l : Launch) (g : Gd) (μ : Mm) (hl : l.stackTraces = false) {n nw : Nat} (hO : Ok μ n nw) {f j : Nat} (h_f : f < 4) (h_j : j < n) : Cz l yX10_compress cX10_compress 4 (some .int) (rmz 8 133) g [.ref (ad g 0), .int (nI f), .int (nI j), .int (nI j)] μ nIA := by
  obtain ⟨hn, hw, hn10, hnw, hs, h1n⟩ := hO
  have h1024 := pw10 hn10
  have h2n := Nat.two_pow_pos n
  refine Cz.of (by decide) (Nat.le_of_ble_eq_true rfl) (fun z A C X Ee Rr => ?_)
  refine r_iload_n C dX10_compress_0 1 rfl ?_
  refine r_callP C (As := [.int (nI f)]) (rest := []) (st1 := []) miX10_checkFamily msX10_checkFamily (y_checkFamily l (f := f) (by omega)) hw_3_177 rfl ⟨by decide, by decide, rfl, rfl, by decide, by decide⟩ rfl (Nat.le_of_ble_eq_true rfl) dX10_compress_1 rfl ?_
  refine r_aload_n C dX10_compress_4 0 rfl ?_
  refine r_iload_n C dX10_compress_5 2 rfl ?_
  refine r_callV C X (As := [.int (nI j)]) (rest := []) (st1 := []) (μ' := μ) (k := 0) (T := TX10) miX10_checkElement mvX10_checkElement (y_checkElement l g μ (n := n) (x := j) hn (by omega) (by omega)) hw_4_6 (by decide) rfl rfl rfl ⟨by decide, by decide, rfl, rfl, by decide, by decide⟩ rfl (Nat.le_of_ble_eq_true rfl) dX10_compress_6 rfl ?_
  refine r_aload_n C dX10_compress_9 0 rfl ?_
  refine r_iload_n C dX10_compress_10 3 rfl ?_
  refine r_callV C X (As := [.int (nI j)]) (rest := []) (st1 := []) (μ' := μ) (k := 0) (T := TX10) miX10_checkElement mvX10_checkElement (y_checkElement l g μ (n := n) (x := j) hn (by omega) (by omega)) hw_4_6 (by decide) rfl rfl rfl ⟨by decide, by decide, rfl, rfl, by decide, by decide⟩ rfl (Nat.le_of_ble_eq_true rfl) dX10_compress_11 rfl ?_
  refine r_iload_n C dX10_compress_14 3 rfl ?_
  refine r_iload_n C dX10_compress_15 2 rfl ?_
  refine r_icmp_ne C 29 dX10_compress_16 (by decide) (not_congr (nI_eq (by omega) (by omega))) (fun h16 => ?_) (fun h16 => ?_)
  · exact absurd rfl h16
  · exact r_throwS (pc := 19) C Ee hl (X := nIA) (by decide) cl_IA in_IA at_IA ng_IA ot_IA Ee.2.2.1.1 Ee.2.2.2.2.2.2.2.2.1 dX10_compress_19 dX10_compress_22 dX10_compress_23 dX10_compress_25 dX10_compress_28 ⟨by decide, by decide, by decide, by decide⟩ Rr
