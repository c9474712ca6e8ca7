theorem ldU {μ : Mm} {i j k w : Nat} {F : Nat → Int64} (h : k ≤ w) : gJ (sJ μ i (rowU k F (gJ μ i))) j w = gJ μ j w := by
  by_cases e : j = i
  · subst e; rw [gJ_s, rowU_ge _ _ h]
  · rw [gJ_n _ _ e]
def shrW (a : Int64) (k : Nat) : Int64 := (a.toUInt64 >>> ((nI k).toInt64.toUInt64 &&& Int64.toUInt64 63)).toInt64
def shlW (a : Int64) (k : Nat) : Int64 := a <<< ((nI k).toInt64 &&& 63)
def bw (c : Nat) : Int64 := shlW 1 (c &&& 63)
def lowb (x : Int64) : Nat := bc ((x &&& -x) - 1)
def dropb (x : Int64) : Nat → Int64
  | 0 => x
  | k + 1 => dropb x k &&& (dropb x k - 1)
def lk (w e : Nat) : Int64 := if e < 6 then lackT e else if w &&& 2 ^ (e - 6) = 0 then -1 else 0
def oz (w k : Nat) : Int64 := if pN w ≤ k ∧ k - pN w < 7 then sizeT (k - pN w) else 0
theorem div64 {c : Nat} (h : c < 1024) : c / 64 &&& 15 = c / 64 := by
  rw [show (15 : Nat) = 2 ^ 4 - 1 from rfl, Nat.and_two_pow_sub_one_eq_mod]; omega
theorem p2_lt {e : Nat} (h : e < 10) : 2 ^ e < 2 ^ 10 := Nat.pow_lt_pow_right (by decide) h
theorem p2_6 {e : Nat} (h6 : 6 ≤ e) (h : e < 10) : 2 ^ (e - 6) < 2 ^ 4 := Nat.pow_lt_pow_right (by decide) (by omega)
theorem bcond {P : Prop} {b : Bool} (h : P ↔ b = true) (q : P) : b = true := h.mp q
set_option maxHeartbeats 1000000 in
set_option maxRecDepth 100000 in
theorem c_wordOf (l : Launch) {c : Nat} (hc : c < 1024) : Cp l yX3_wordOf cX3_wordOf 1 (some .int) (rmk 0 0) [.int (nI c)] (some (.int (nI (c / 64)))) := by
  refine Cp.of (D := (fun _ => 0, fun _ _ => 0)) (by decide) (Nat.le_of_ble_eq_true rfl) (fun z A C Rr => ?_)
  refine r_iload_n C dX3_wordOf_0 0 rfl ?_
  refine r_bipush C (v := (nI 64)) dX3_wordOf_1 (by decide) ?_
  refine r_idiv C (v := (nI (c / 64))) dX3_wordOf_3 (by decide) (pk_div (by omega) (by decide) (by decide)) ?_
  refine r_bipush C (v := (nI 15)) dX3_wordOf_4 (by decide) ?_
  refine r_iand C (v := (nI (c / 64))) dX3_wordOf_6 (by rw [nand, div64 hc]) ?_
  exact p_iret C dX3_wordOf_7 Rr
set_option maxHeartbeats 1000000 in
set_option maxRecDepth 100000 in
theorem c_bitOf (l : Launch) (c : Nat) : Cp l yX3_bitOf cX3_bitOf 1 (some .long) (rmk 0 0) [.int (nI c)] (some (.long (bw c))) := by
  refine Cp.of (D := (fun _ => 0, fun _ _ => 0)) (by decide) (Nat.le_of_ble_eq_true rfl) (fun z A C Rr => ?_)
  refine r_lconst C (v := (lN 1)) dX3_bitOf_0 rfl ?_
  refine r_iload_n C dX3_bitOf_1 0 rfl ?_
  refine r_bipush C (v := (nI 63)) dX3_bitOf_2 (by decide) ?_
  refine r_iand C (v := (nI (c &&& 63))) dX3_bitOf_4 (nand _ _) ?_
  refine r_lshl C (v := (bw c)) dX3_bitOf_5 rfl ?_
  exact p_lret C dX3_bitOf_6 Rr
set_option maxHeartbeats 1000000 in
set_option maxRecDepth 100000 in
theorem c_lowestBit (l : Launch) (x : Int64) : Cp l yX3_lowestBit cX3_lowestBit 2 (some .int) (rmk 1 21) [.long x] (some (.int (nI (lowb x)))) := by
  refine Cp.of (D := (fun _ => 0, fun _ _ => 0)) (by decide) (Nat.le_of_ble_eq_true rfl) (fun z A C Rr => ?_)
  refine r_lload_n C dX3_lowestBit_0 0 rfl ?_
  refine r_lload_n C dX3_lowestBit_1 0 rfl ?_
  refine r_lneg C (v := (-x)) dX3_lowestBit_2 rfl ?_
  refine r_land C (v := (x &&& (-x))) dX3_lowestBit_3 rfl ?_
  refine r_lconst C (v := (lN 1)) dX3_lowestBit_4 rfl ?_
  refine r_lsub C (v := ((x &&& (-x)) - (lN 1))) dX3_lowestBit_5 rfl ?_
  refine r_callP C (As := [.long ((x &&& (-x)) - (lN 1))]) (rest := []) (st1 := [.int (nI (bc ((x &&& (-x)) - (lN 1))))]) miJ13_bitCount_95d88 msJ13_bitCount_95d88 (c_bitCountL l ((x &&& (-x)) - (lN 1))) hw_2_26 rfl ⟨by decide, by decide, rfl, rfl, by decide, by decide⟩ rfl (Nat.le_of_ble_eq_true rfl) dX3_lowestBit_6 rfl ?_
  refine G_top (y := (nI (lowb x))) rfl ?_
  exact p_iret C dX3_lowestBit_9 Rr
set_option maxHeartbeats 1000000 in
set_option maxRecDepth 100000 in
theorem lp_bitAt {z : Zt} {A : Nat → Prop} {l : Launch} {D : va_G} (C : Cx z A l (rmk 2 42) cX3_bitAt 6 "SetFamilies$Family") {x : Int64} {m : Nat} (hm : m < 2 ^ 31) (Rr : Rp z A (some .int) (some (.int (nI (lowb (dropb x m)))))) : ∀ (n_ : Nat) (k : Nat), m - k < n_ → k ≤ m → G z D A 6 [] 0 0 5 [(5, .int (nI k)), (3, .long (dropb x k)), (0, .long x), (2, .int (nI m))] [] := by
  intro n_
  induction n_ with
  | zero => intro k hm_; exact absurd hm_ (Nat.not_lt_zero _)
  | succ n_ ih =>
    intro k hm_ hk
    refine r_iload C dX3_bitAt_5 0 rfl ?_
    refine r_iload_n C dX3_bitAt_7 3 rfl ?_
    refine r_icmp_ge C 23 dX3_bitAt_8 (by decide) (nI_leI (by omega) (by omega)) (fun h8 => ?_) (fun h8 => ?_)
    · have hkm : k = m := by omega
      subst hkm
      refine r_lload_n C dX3_bitAt_23 1 rfl ?_
      refine r_callP C (As := [.long (dropb x k)]) (rest := []) (st1 := [.int (nI (lowb (dropb x k)))]) miX3_lowestBit msX3_lowestBit (c_lowestBit l (dropb x k)) hw_2_32 rfl ⟨by decide, by decide, rfl, rfl, by decide, by decide⟩ rfl (Nat.le_of_ble_eq_true rfl) dX3_bitAt_24 rfl ?_
      exact p_iret C dX3_bitAt_27 Rr
    · refine r_lload_n C dX3_bitAt_11 1 rfl ?_
      refine r_lload_n C dX3_bitAt_12 1 rfl ?_
      refine r_lconst C (v := (lN 1)) dX3_bitAt_13 rfl ?_
      refine r_lsub C (v := ((dropb x k) - (lN 1))) dX3_bitAt_14 rfl ?_
      refine r_land C (v := ((dropb x k) &&& ((dropb x k) - (lN 1)))) dX3_bitAt_15 rfl ?_
      refine G_topl (y := (dropb x (k + 1))) rfl ?_
      refine r_lstore_n C (lv' := [(3, .long (dropb x (k + 1))), (5, .int (nI k)), (0, .long x), (2, .int (nI m))]) 3 dX3_bitAt_16 rfl (by decide) rfl ?_
      refine r_iinc C (v := (nI (k + 1))) (lv' := [(5, .int (nI (k + 1))), (3, .long (dropb x (k + 1))), (0, .long x), (2, .int (nI m))]) 5 1 dX3_bitAt_17 rfl (inc_N _ 1) (by decide) rfl ?_
      refine r_goto C 5 dX3_bitAt_20 (by decide) ?_
      exact ih (k + 1) (by omega) (by omega)
set_option maxHeartbeats 1000000 in
set_option maxRecDepth 100000 in
theorem c_bitAt (l : Launch) (x : Int64) {m : Nat} (hm : m < 2 ^ 31) : Cp l yX3_bitAt cX3_bitAt 6 (some .int) (rmk 2 42) [.long x, .int (nI m)] (some (.int (nI (lowb (dropb x m))))) := by
  refine Cp.of (D := (fun _ => 0, fun _ _ => 0)) (by decide) (Nat.le_of_ble_eq_true rfl) (fun z A C Rr => ?_)
  refine r_lload_n C dX3_bitAt_0 0 rfl ?_
  refine r_lstore_n C (lv' := [(3, .long x), (0, .long x), (2, .int (nI m))]) 3 dX3_bitAt_1 rfl (by decide) rfl ?_
  refine r_iconst C (v := (nI 0)) dX3_bitAt_2 rfl ?_
  refine r_istore C (lv' := [(5, .int (nI 0)), (3, .long x), (0, .long x), (2, .int (nI m))]) 5 dX3_bitAt_3 (by decide) rfl ?_
  exact lp_bitAt C hm Rr (m + 1) 0 (by omega) (by omega)
set_option maxHeartbeats 1000000 in
set_option maxRecDepth 100000 in
theorem c_lacking (l : Launch) (g : Gd) (μ : Mm) {w e : Nat} (hw : w < 2 ^ 31) (he : e < 10) : Ct l yX3_lacking cX3_lacking 2 (some .long) (rmk 0 0) g [.int (nI w), .int (nI e)] μ (some (.long (lk w e))) μ := by
  refine Ct.of (by decide) (Nat.le_of_ble_eq_true rfl) (fun z A C X Rr => ?_)
  refine r_iload_n C dX3_lacking_0 1 rfl ?_
  refine r_if_lt C 18 dX3_lacking_1 (by decide) (zI_lt (by omega)) (fun h1 => ?_) (fun h1 => ?_)
  · exact h1.elim
  · refine r_iload_n C dX3_lacking_4 1 rfl ?_
    refine r_gLack C X hw_2_42 dX3_lacking_5 ?_
    refine r_nLack C X dX3_lacking_8 ?_
    refine r_icmp_ge C 18 dX3_lacking_9 (by decide) (nI_leI (by omega) (by omega)) (fun h9 => ?_) (fun h9 => ?_)
    · rw [lk, if_neg (by omega)] at Rr
      have h2e := p2_6 (show 6 ≤ e by omega) he
      refine r_iload_n C dX3_lacking_18 0 rfl ?_
      refine r_iconst C (v := (nI 1)) dX3_lacking_19 rfl ?_
      refine r_iload_n C dX3_lacking_20 1 rfl ?_
      refine r_bipush C (v := (nI 6)) dX3_lacking_21 (by decide) ?_
      refine r_isub C (v := (nI (e - 6))) dX3_lacking_23 (pk_sub (by omega)) ?_
      refine r_ishl C (v := (nI (2 ^ (e - 6)))) dX3_lacking_24 (nshl1 (by omega)) ?_
      refine r_iand C (v := (nI (w &&& (2 ^ (e - 6))))) dX3_lacking_25 (nand _ _) ?_
      refine r_if_ne C 35 dX3_lacking_26 (by decide) (zI_ne (Nat.lt_of_le_of_lt Nat.and_le_left (by omega))) (fun h26 => ?_) (fun h26 => ?_)
      · rw [if_neg h26] at Rr
        refine r_lconst C (v := (lN 0)) dX3_lacking_35 rfl ?_
        exact r_lret C dX3_lacking_36 Rr
      · rw [if_pos (Decidable.not_not.mp h26)] at Rr
        refine r_ldc2 C dX3_lacking_29 hw_2_44 ?_
        refine r_goto C 36 dX3_lacking_32 (by decide) ?_
        exact r_lret C dX3_lacking_36 Rr
    · rw [lk, if_pos (by omega)] at Rr
      refine r_gLack C X hw_2_42 dX3_lacking_12 ?_
      refine r_iload_n C dX3_lacking_15 1 rfl ?_
      refine r_lLack C X (by omega) dX3_lacking_16 ?_
      exact r_lret C dX3_lacking_17 Rr
set_option maxHeartbeats 1000000 in
set_option maxRecDepth 100000 in
theorem c_ofSize (l : Launch) (g : Gd) (μ : Mm) {w k : Nat} (hw : w < 2 ^ 30) (hk : k < 2 ^ 30) : Ct l yX3_ofSize cX3_ofSize 3 (some .long) (rmk 1 20) g [.int (nI w), .int (nI k)] μ (some (.long (oz w k))) μ := by
  refine Ct.of (by decide) (Nat.le_of_ble_eq_true rfl) (fun z A C X Rr => ?_)
  refine r_iload_n C dX3_ofSize_0 1 rfl ?_
  refine r_iload_n C dX3_ofSize_1 0 rfl ?_
  refine r_callP C (As := [.int (nI w)]) (rest := [.int (nI k)]) (st1 := [.int (nI (pN w)), .int (nI k)]) miJ6_bitCount_0f7a4 msJ6_bitCount_0f7a4 (c_bitCountI l (n := w) (by omega)) hw_2_199 rfl ⟨by decide, by decide, rfl, rfl, by decide, by decide⟩ rfl (Nat.le_of_ble_eq_true rfl) dX3_ofSize_2 rfl ?_
  have hp := pN_le w
  by_cases hk : pN w ≤ k
  · refine r_isub C (v := (nI (k - (pN w)))) dX3_ofSize_5 (pk_sub (by omega)) ?_
    refine r_istore_n C (lv' := [(2, .int (nI (k - (pN w)))), (0, .int (nI w)), (1, .int (nI k))]) 2 dX3_ofSize_6 rfl (by decide) rfl ?_
    refine r_iload_n C dX3_ofSize_7 0 rfl ?_
    refine r_if_lt C 27 dX3_ofSize_8 (by decide) (zI_lt (by omega)) (fun h8 => ?_) (fun h8 => ?_)
    · exact h8.elim
    · refine r_iload_n C dX3_ofSize_11 0 rfl ?_
      refine r_gSize C X hw_2_205 dX3_ofSize_12 ?_
      refine r_nSize C X dX3_ofSize_15 ?_
      refine r_icmp_ge C 27 dX3_ofSize_16 (by decide) (nI_leI (by omega) (by omega)) (fun h16 => ?_) (fun h16 => ?_)
      · rw [oz, if_neg (by omega)] at Rr
        refine r_lconst C (v := (lN 0)) dX3_ofSize_27 rfl ?_
        exact r_lret C dX3_ofSize_28 Rr
      · rw [oz, if_pos (by omega)] at Rr
        refine r_gSize C X hw_2_205 dX3_ofSize_19 ?_
        refine r_iload_n C dX3_ofSize_22 0 rfl ?_
        refine r_lSize C X (by omega) dX3_ofSize_23 ?_
        refine r_goto C 28 dX3_ofSize_24 (by decide) ?_
        exact r_lret C dX3_ofSize_28 Rr
  · rw [oz, if_neg (by omega)] at Rr
    refine r_isub C (v := (nI k - nI (pN w))) dX3_ofSize_5 rfl ?_
    refine r_istore_n C (lv' := [(2, .int (nI k - nI (pN w))), (0, .int (nI w)), (1, .int (nI k))]) 2 dX3_ofSize_6 rfl (by decide) rfl ?_
    refine r_iload_n C dX3_ofSize_7 0 rfl ?_
    refine r_if_lt C 27 dX3_ofSize_8 (by decide) Iff.rfl (fun h8 => ?_) (fun h8 => ?_)
    · refine r_lconst C (v := (lN 0)) dX3_ofSize_27 rfl ?_
      exact r_lret C dX3_ofSize_28 Rr
    · exact absurd (pk_sneg (by omega) (by omega)) h8
