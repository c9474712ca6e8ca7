set_option maxHeartbeats 1000000 in
set_option maxRecDepth 100000 in
theorem y_checkFamily (l : Launch) {f : Nat} (hf : f < 4) : Cp l yX10_checkFamily cX10_checkFamily 1 none (rmk 0 0) [.int (nI f)] none := by
  refine Cp.of (D := (fun _ => 0, fun _ _ => 0)) (by decide) (Nat.le_of_ble_eq_true rfl) (fun z A C Rr => ?_)
  refine r_iload_n C dX10_checkFamily_0 0 rfl ?_
  refine r_if_lt C 9 dX10_checkFamily_1 (by decide) (zI_lt (by omega)) (fun h1 => ?_) (fun h1 => ?_)
  · exact h1.elim
  · refine r_iload_n C dX10_checkFamily_4 0 rfl ?_
    refine r_iconst C (v := (nI 4)) dX10_checkFamily_5 rfl ?_
    refine r_icmp_lt C 20 dX10_checkFamily_6 (by decide) (nI_ltI (by omega) (by omega)) (fun h6 => ?_) (fun h6 => ?_)
    · exact p_vret C dX10_checkFamily_20 Rr
    · exact absurd hf h6
set_option maxHeartbeats 1000000 in
set_option maxRecDepth 100000 in
theorem y_checkNotNegative (l : Launch) {v : Nat} (hv : v < 2 ^ 31) : Cp l yX10_checkNotNegative cX10_checkNotNegative 1 none (rmk 0 0) [.int (nI v)] none := by
  refine Cp.of (D := (fun _ => 0, fun _ _ => 0)) (by decide) (Nat.le_of_ble_eq_true rfl) (fun z A C Rr => ?_)
  refine r_iload_n C dX10_checkNotNegative_0 0 rfl ?_
  refine r_if_ge C 15 dX10_checkNotNegative_1 (by decide) (zI_ge (by omega)) (fun h1 => ?_) (fun h1 => ?_)
  · exact p_vret C dX10_checkNotNegative_15 Rr
  · exact absurd trivial h1
set_option maxHeartbeats 1000000 in
set_option maxRecDepth 100000 in
theorem y_checkRange (l : Launch) {v a b : Int32} (ha : a ≤ v) (hb : v ≤ b) : Cp l yX10_checkRange cX10_checkRange 3 none (rmk 0 0) [.int v, .int a, .int b] none := by
  refine Cp.of (D := (fun _ => 0, fun _ _ => 0)) (by decide) (Nat.le_of_ble_eq_true rfl) (fun z A C Rr => ?_)
  refine r_iload_n C dX10_checkRange_0 0 rfl ?_
  refine r_iload_n C dX10_checkRange_1 1 rfl ?_
  refine r_icmp_lt C 10 dX10_checkRange_2 (by decide) Iff.rfl (fun h2 => ?_) (fun h2 => ?_)
  · exact absurd h2 (Int32.not_lt.mpr ha)
  · refine r_iload_n C dX10_checkRange_5 0 rfl ?_
    refine r_iload_n C dX10_checkRange_6 2 rfl ?_
    refine r_icmp_le C 21 dX10_checkRange_7 (by decide) Iff.rfl (fun h7 => ?_) (fun h7 => ?_)
    · exact p_vret C dX10_checkRange_21 Rr
    · exact absurd hb h7
