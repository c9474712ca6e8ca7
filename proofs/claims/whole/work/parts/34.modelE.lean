theorem ch_fac (a k : Nat) (h : k ≤ a) : ch a k * (a - k) = (k + 1) * ch a (k + 1) := by
  have h1 := ch_step (a - k) k
  -- via (a+1): (k+1) ch (a+1) (k+1) = (a+1) ch a k ; ch (a+1)(k+1) = ch a k + ch a (k+1)
  have e1 := ch_mul a k
  rw [ch_s, Nat.mul_add] at e1
  have e2 : (a + 1) * ch a k = (k + 1) * ch a k + ch a k * (a - k) := by
    rw [Nat.mul_comm (ch a k) (a - k), ← Nat.add_mul]; congr 1; omega
  omega
theorem over_div {a k : Nat} (h : k ≤ a) (hk : k < 20) (hc : ch a (k + 1) < 2 ^ 50) : lN (ch a k * (a - k)) / lN (k + 1) = lN (ch a (k + 1)) := by
  have h2 : (k + 1) * ch a (k + 1) ≤ 20 * ch a (k + 1) := Nat.mul_le_mul_right _ (by omega)
  rw [ch_fac a k h, pk_lDiv (by omega) (by omega) (by omega), Nat.mul_div_cancel_left _ (by omega)]
theorem zmul (y : Int64) : lN 0 * y = lN 0 := Int64.zero_mul
set_option maxHeartbeats 1000000 in
set_option maxRecDepth 100000 in
theorem lp_over {z : Zt} {A : Nat → Prop} {l : Launch} {D : va_G} (C : Cx z A l (rmk 0 0) cX11_over 5 "SetFamiliesModel") {a b : Nat} (ha : a < 2 ^ 31) (hb : b ≤ 10) (hc : ∀ j, j ≤ b → ch a j < 2 ^ 50) (Rr : Rp z A (some .long) (some (.long (lN (ch a b))))) : ∀ (n_ : Nat) (k : Nat), b - k < n_ → k ≤ b → G z D A 5 [] 0 0 5 [(4, .int (nI k)), (2, .long (lN (ch a k))), (0, .int (nI a)), (1, .int (nI b))] [] := by
  intro n_
  induction n_ with
  | zero => intro k hm_; exact absurd hm_ (Nat.not_lt_zero _)
  | succ n_ ih =>
    intro k hm_ hk
    refine r_iload C dX11_over_5 0 rfl ?_
    refine r_iload_n C dX11_over_7 3 rfl ?_
    refine r_icmp_ge C 31 dX11_over_8 (by decide) (nI_leI (by omega) (by omega)) (fun h8 => ?_) (fun h8 => ?_)
    · have hkn : k = b := by omega
      subst hkn
      refine r_iload_n C dX11_over_31 2 rfl ?_
      refine r_iload_n C dX11_over_32 3 rfl ?_
      refine r_icmp_ge C 40 dX11_over_33 (by decide) (nI_leI (by omega) (by omega)) (fun h33 => ?_) (fun h33 => ?_)
      · refine r_lload_n C dX11_over_40 1 rfl ?_
        exact p_lret C dX11_over_41 Rr
      · rw [ch_gt (by omega)] at Rr
        refine r_lconst C (v := (lN 0)) dX11_over_36 rfl ?_
        refine r_goto C 41 dX11_over_37 (by decide) ?_
        exact p_lret C dX11_over_41 Rr
    · by_cases hka : k ≤ a
      · refine r_lload_n C dX11_over_11 1 rfl ?_
        refine r_iload_n C dX11_over_12 2 rfl ?_
        refine r_iload C dX11_over_13 0 rfl ?_
        refine r_isub C (v := (nI (a - k))) dX11_over_15 (pk_sub (by omega)) ?_
        refine r_i2l C (v := (lN (a - k))) dX11_over_16 (nI_l (by omega)) ?_
        refine r_lmul C (v := (lN ((ch a k) * (a - k)))) dX11_over_17 (lN_mul _ _) ?_
        refine r_iload C dX11_over_18 0 rfl ?_
        refine r_iconst C (v := (nI 1)) dX11_over_20 rfl ?_
        refine r_iadd C (v := (nI (k + 1))) dX11_over_21 (nI_add _ _) ?_
        refine r_i2l C (v := (lN (k + 1))) dX11_over_22 (nI_l (by omega)) ?_
        refine r_ldiv C (v := (lN (ch a (k + 1)))) dX11_over_23 (lne (by omega) (by omega)) (over_div hka (by omega) (hc (k + 1) (by omega))) ?_
        refine r_lstore_n C (lv' := [(2, .long (lN (ch a (k + 1)))), (4, .int (nI k)), (0, .int (nI a)), (1, .int (nI b))]) 2 dX11_over_24 rfl (by decide) rfl ?_
        refine r_iinc C (v := (nI (k + 1))) (lv' := [(4, .int (nI (k + 1))), (2, .long (lN (ch a (k + 1)))), (0, .int (nI a)), (1, .int (nI b))]) 4 1 dX11_over_25 rfl (inc_N _ 1) (by decide) rfl ?_
        refine r_goto C 5 dX11_over_28 (by decide) ?_
        exact ih (k + 1) (by omega) (by omega)
      · refine r_lload_n C dX11_over_11 1 rfl ?_
        refine r_iload_n C dX11_over_12 2 rfl ?_
        refine r_iload C dX11_over_13 0 rfl ?_
        refine r_isub C (v := (nI a - nI k)) dX11_over_15 rfl ?_
        refine r_i2l C (v := (((nI a - nI k)).toInt64)) dX11_over_16 rfl ?_
        refine r_lmul C (v := (lN 0)) dX11_over_17 (by rw [ch_gt (show a < k by omega)]; exact zmul _) ?_
        refine r_iload C dX11_over_18 0 rfl ?_
        refine r_iconst C (v := (nI 1)) dX11_over_20 rfl ?_
        refine r_iadd C (v := (nI (k + 1))) dX11_over_21 (nI_add _ _) ?_
        refine r_i2l C (v := (lN (k + 1))) dX11_over_22 (nI_l (by omega)) ?_
        refine r_ldiv C (v := (lN (ch a (k + 1)))) dX11_over_23 (lne (by omega) (by omega)) (by rw [ch_gt (show a < k + 1 by omega), pk_lDiv (by decide) (by omega) (by omega), Nat.zero_div]) ?_
        refine r_lstore_n C (lv' := [(2, .long (lN (ch a (k + 1)))), (4, .int (nI k)), (0, .int (nI a)), (1, .int (nI b))]) 2 dX11_over_24 rfl (by decide) rfl ?_
        refine r_iinc C (v := (nI (k + 1))) (lv' := [(4, .int (nI (k + 1))), (2, .long (lN (ch a (k + 1)))), (0, .int (nI a)), (1, .int (nI b))]) 4 1 dX11_over_25 rfl (inc_N _ 1) (by decide) rfl ?_
        refine r_goto C 5 dX11_over_28 (by decide) ?_
        exact ih (k + 1) (by omega) (by omega)
set_option maxHeartbeats 1000000 in
set_option maxRecDepth 100000 in
theorem c_over (l : Launch) {a b : Nat} (ha : a < 2 ^ 31) (hb : b ≤ 10) (hc : ∀ j, j ≤ b → ch a j < 2 ^ 50) : Cp l yX11_over cX11_over 5 (some .long) (rmk 0 0) [.int (nI a), .int (nI b)] (some (.long (lN (ch a b)))) := by
  refine Cp.of (D := (fun _ => 0, fun _ _ => 0)) (by decide) (Nat.le_of_ble_eq_true rfl) (fun z A C Rr => ?_)
  refine r_lconst C (v := (lN 1)) dX11_over_0 rfl ?_
  refine r_lstore_n C (lv' := [(2, .long (lN 1)), (0, .int (nI a)), (1, .int (nI b))]) 2 dX11_over_1 rfl (by decide) rfl ?_
  refine r_iconst C (v := (nI 0)) dX11_over_2 rfl ?_
  refine r_istore C (lv' := [(4, .int (nI 0)), (2, .long (lN 1)), (0, .int (nI a)), (1, .int (nI b))]) 4 dX11_over_3 (by decide) rfl ?_
  refine G_lv (lv' := [(4, .int (nI 0)), (2, .long (lN (ch a 0))), (0, .int (nI a)), (1, .int (nI b))]) (by rw [ch_0]) ?_
  exact lp_over C ha hb hc Rr (b + 1) 0 (by omega) (by omega)
theorem ch20 : ∀ a, a < 21 → ∀ j, j < 11 → ch a j ≤ 184756 := by decide +kernel
theorem ch_inc {a j : Nat} (h : 2 * (j + 1) ≤ a + 1) : ch a j ≤ ch a (j + 1) := by
  have e := ch_fac a j (by omega)
  have h1 : (j + 1) * ch a j ≤ ch a j * (a - j) := by rw [Nat.mul_comm (ch a j)]; exact Nat.mul_le_mul_right _ (by omega)
  rw [e] at h1
  exact Nat.le_of_mul_le_mul_left h1 (by omega)
theorem ch_upto {a : Nat} (h : 20 ≤ a) : ∀ d j, j + d ≤ 10 → ch a j ≤ ch a (j + d)
  | 0, j, _ => Nat.le_refl _
  | d + 1, j, hd => Nat.le_trans (ch_upto h d j (by omega)) (by rw [show j + (d + 1) = (j + d) + 1 by omega]; exact ch_inc (by omega))
theorem ov_le {a b : Nat} (_ : a < 2 ^ 31) (hb : b ≤ 10) (hc : ch a b < 2 ^ 49) : ∀ j, j ≤ b → ch a j < 2 ^ 50 := by
  intro j hj
  rcases Nat.lt_or_ge a 21 with q | q
  · have := ch20 a q j (by omega); omega
  · have := ch_upto (a := a) (by omega) (b - j) j (by omega)
    rw [show j + (b - j) = b by omega] at this; omega
/-- (t over k) is at least t - k + 1, from t = k on -/
theorem ch_lin {k : Nat} (hk : 1 ≤ k) : ∀ d, d + 1 ≤ ch (k + d) k
  | 0 => by rw [show ch (k + 0) k = 1 from ch_nn k]; exact Nat.le_refl _
  | d + 1 => by
    have h := ch_lin hk d
    obtain ⟨j, rfl⟩ : ∃ j, k = j + 1 := ⟨k - 1, by omega⟩
    rw [show j + 1 + (d + 1) = (j + 1 + d) + 1 by omega, ch_s]
    have := ch_pos (n := j + 1 + d) (k := j) (by omega)
    omega
def grt (m k : Nat) : Nat := if k = 1 then m else gtF m k (m + 20 - k) k
theorem grt_ok {m i : Nat} (hm : 1 ≤ m) (h1 : 1 ≤ i) (h10 : i ≤ 10) : i ≤ grt m i ∧ ch (grt m i) i ≤ m ∧ grt m i ≤ m + 20 := by
  unfold grt
  by_cases q : i = 1
  · rw [if_pos q, q, ch_1]; omega
  · rw [if_neg q]; obtain ⟨a, b, c⟩ := gtF_ok m i (m + 20 - i) i (Nat.le_refl _) (by rw [ch_nn]; exact hm); exact ⟨a, b, by omega⟩
set_option maxHeartbeats 1000000 in
set_option maxRecDepth 100000 in
theorem lp_greatest {z : Zt} {A : Nat → Prop} {l : Launch} {D : va_G} (C : Cx z A l (rmk 1 24) cX11_greatest 3 "SetFamiliesModel") {m k : Nat} (hm : 1 ≤ m) (hm6 : m ≤ 1000000) (h2 : 2 ≤ k) (h10 : k ≤ 10) : ∀ (n_ : Nat) (t : Nat), m + 20 - t < n_ → t ≤ m + 20 → k ≤ t → ch t k ≤ m → Rp z A (some .int) (some (.int (nI (gtF m k (m + 20 - t) t)))) → G z D A 3 [] 0 0 11 [(2, .int (nI t)), (0, .int (nI m)), (1, .int (nI k))] [] := by
  intro n_
  induction n_ with
  | zero => intro t hm_; exact absurd hm_ (Nat.not_lt_zero _)
  | succ n_ ih =>
    intro t hm_ ht hit hct Rr
    refine r_iload_n C dX11_greatest_11 2 rfl ?_
    refine r_iconst C (v := (nI 1)) dX11_greatest_12 rfl ?_
    refine r_icmp_le C 35 dX11_greatest_13 (by decide) (nI_leI (by omega) (by omega)) (fun h13 => ?_) (fun h13 => ?_)
    · exact absurd h13 (by omega)
    · have hnx := ch_next hit
      have hnx2 : (k + 1) * ch t k ≤ 11 * m := Nat.mul_le_mul (by omega) hct
      have hln := ch_lin (k := k) (by omega) (t - k)
      rw [show k + (t - k) = t by omega] at hln
      rw [show m + 20 - t = (m + 20 - (t + 1)) + 1 by omega, gtF] at Rr
      refine r_iload_n C dX11_greatest_16 0 rfl ?_
      refine r_iconst C (v := (nI 1)) dX11_greatest_17 rfl ?_
      refine r_iadd C (v := (nI (t + 1))) dX11_greatest_18 (nI_add _ _) ?_
      refine r_iload_n C dX11_greatest_19 2 rfl ?_
      refine r_callP C (As := [.int (nI (t + 1)), .int (nI k)]) (rest := []) (st1 := [.long (lN (ch (t + 1) k))]) miX11_over msX11_over (c_over l (a := t + 1) (b := k) (by omega) (by omega) (ov_le (by omega) (by omega) (by omega))) hw_5_202 rfl ⟨by decide, by decide, rfl, rfl, by decide, by decide⟩ rfl (Nat.le_of_ble_eq_true rfl) dX11_greatest_20 rfl ?_
      refine r_iload_n C dX11_greatest_23 1 rfl ?_
      refine r_i2l C (v := (lN m)) dX11_greatest_24 (nI_l (by omega)) ?_
      refine r_lcmp C dX11_greatest_25 ?_
      refine r_if_gt C 35 dX11_greatest_26 (by decide) ((lgc_gt _ _).trans (pk_lLT (by omega) (by omega))) (fun h26 => ?_) (fun h26 => ?_)
      · rw [if_neg (by omega)] at Rr
        refine r_iload_n C dX11_greatest_35 0 rfl ?_
        exact p_iret C dX11_greatest_36 Rr
      · rw [if_pos (by omega)] at Rr
        refine r_iinc C (v := (nI (t + 1))) (lv' := [(2, .int (nI (t + 1))), (0, .int (nI m)), (1, .int (nI k))]) 2 0 dX11_greatest_29 rfl (inc_N _ 1) (by decide) rfl ?_
        refine r_goto C 11 dX11_greatest_32 (by decide) ?_
        exact ih (t + 1) (by omega) (by omega) (by omega) (by omega) Rr
set_option maxHeartbeats 1000000 in
set_option maxRecDepth 100000 in
theorem c_greatest (l : Launch) {m k : Nat} (hm : 1 ≤ m) (hm6 : m ≤ 1000000) (h1 : 1 ≤ k) (h10 : k ≤ 10) : Cp l yX11_greatest cX11_greatest 3 (some .int) (rmk 1 24) [.int (nI m), .int (nI k)] (some (.int (nI (grt m k)))) := by
  refine Cp.of (D := (fun _ => 0, fun _ _ => 0)) (by decide) (Nat.le_of_ble_eq_true rfl) (fun z A C Rr => ?_)
  refine r_iload_n C dX11_greatest_0 1 rfl ?_
  refine r_iconst C (v := (nI 1)) dX11_greatest_1 rfl ?_
  refine r_icmp_ne C 9 dX11_greatest_2 (by decide) (not_congr (nI_eq (by omega) (by omega))) (fun h2 => ?_) (fun h2 => ?_)
  · rw [grt, if_neg h2] at Rr
    refine r_iload_n C dX11_greatest_9 1 rfl ?_
    refine r_istore_n C (lv' := [(2, .int (nI k)), (0, .int (nI m)), (1, .int (nI k))]) 2 dX11_greatest_10 rfl (by decide) rfl ?_
    exact lp_greatest C hm hm6 (by omega) h10 (m + 21) k (by omega) (by omega) (Nat.le_refl _) (by rw [ch_nn]; exact hm) Rr
  · have hk1 : k = 1 := Decidable.not_not.mp h2
    subst hk1
    rw [grt, if_pos rfl] at Rr
    refine r_iload_n C dX11_greatest_5 0 rfl ?_
    refine r_goto C 10 dX11_greatest_6 (by decide) ?_
    refine r_istore_n C (lv' := [(2, .int (nI m)), (0, .int (nI m)), (1, .int (nI 1))]) 2 dX11_greatest_10 rfl (by decide) rfl ?_
    refine r_iload_n C dX11_greatest_11 2 rfl ?_
    refine r_iconst C (v := (nI 1)) dX11_greatest_12 rfl ?_
    refine r_icmp_le C 35 dX11_greatest_13 (by decide) (nI_leI (by omega) (by omega)) (fun h13 => ?_) (fun h13 => ?_)
    · refine r_iload_n C dX11_greatest_35 0 rfl ?_
      exact p_iret C dX11_greatest_36 Rr
    · exact absurd (Nat.le_refl 1) h13
def lshG : Nat → Nat → Nat
  | 0, _ => 0
  | i + 1, left => if left = 0 then 0 else ch (grt left (i + 1)) i + lshG i (left - ch (grt left (i + 1)) (i + 1))
set_option maxHeartbeats 1000000 in
set_option maxRecDepth 100000 in
theorem lp_bound {z : Zt} {A : Nat → Prop} {l : Launch} {D : va_G} (C : Cx z A l (rmk 2 46) cX11_bound 6 "SetFamiliesModel") {m k : Nat} : ∀ (n_ : Nat) (i b d : Nat), i < n_ → i ≤ 10 → d ≤ 1000000 → Rp z A (some .int) (some (.int (nI (b + lshG i d)))) → G z D A 6 [] 0 0 7 [(4, .int (nI i)), (3, .int (nI b)), (2, .int (nI d)), (0, .int (nI m)), (1, .int (nI k))] [] := by
  intro n_
  induction n_ with
  | zero => intro i b d hm_; exact absurd hm_ (Nat.not_lt_zero _)
  | succ n_ ih =>
    intro i b d hm_ hi10 hd6 Rr
    refine r_iload C dX11_bound_7 0 rfl ?_
    refine r_if_le C 54 dX11_bound_9 (by decide) (zI_le (by omega)) (fun h9 => ?_) (fun h9 => ?_)
    · subst h9
      rw [lshG, Nat.add_zero] at Rr
      refine r_iload_n C dX11_bound_54 1 rfl ?_
      exact p_iret C dX11_bound_55 Rr
    · refine r_iload_n C dX11_bound_12 2 rfl ?_
      refine r_if_le C 54 dX11_bound_13 (by decide) (zI_le (by omega)) (fun h13 => ?_) (fun h13 => ?_)
      · obtain ⟨j, rfl⟩ : ∃ j, i = j + 1 := ⟨i - 1, by omega⟩
        rw [lshG, if_pos h13, Nat.add_zero] at Rr
        refine r_iload_n C dX11_bound_54 1 rfl ?_
        exact p_iret C dX11_bound_55 Rr
      · obtain ⟨j, rfl⟩ : ∃ j, i = j + 1 := ⟨i - 1, by omega⟩
        rw [lshG, if_neg h13, ← Nat.add_assoc] at Rr
        obtain ⟨g1, g2, g3⟩ := grt_ok (m := d) (i := j + 1) (by omega) (by omega) (by omega)
        have hpr := ch_pred g1
        have hpr2 : (j + 1) * ch (grt d (j + 1)) (j + 1) ≤ 10 * d := Nat.mul_le_mul (by omega) g2
        refine r_iload_n C dX11_bound_16 2 rfl ?_
        refine r_iload C dX11_bound_17 0 rfl ?_
        refine r_callP C (As := [.int (nI d), .int (nI (j + 1))]) (rest := []) (st1 := [.int (nI (grt d (j + 1)))]) miX11_greatest msX11_greatest (c_greatest l (m := d) (k := (j + 1)) (by omega) (by omega) (by omega) (by omega)) hw_5_218 rfl ⟨by decide, by decide, rfl, rfl, by decide, by decide⟩ rfl (Nat.le_of_ble_eq_true rfl) dX11_bound_19 rfl ?_
        refine r_istore C (lv' := [(5, .int (nI (grt d (j + 1)))), (4, .int (nI (j + 1))), (3, .int (nI b)), (2, .int (nI d)), (0, .int (nI m)), (1, .int (nI k))]) 5 dX11_bound_22 (by decide) rfl ?_
        refine r_iload_n C dX11_bound_24 3 rfl ?_
        refine r_iload C dX11_bound_25 0 rfl ?_
        refine r_iload C dX11_bound_27 1 rfl ?_
        refine r_callP C (As := [.int (nI (grt d (j + 1))), .int (nI (j + 1))]) (rest := [.int (nI d)]) (st1 := [.long (lN (ch (grt d (j + 1)) (j + 1))), .int (nI d)]) miX11_over msX11_over (c_over l (a := grt d (j + 1)) (b := (j + 1)) (by omega) (by omega) (ov_le (by omega) (by omega) (by omega))) hw_5_202 rfl ⟨by decide, by decide, rfl, rfl, by decide, by decide⟩ rfl (Nat.le_of_ble_eq_true rfl) dX11_bound_29 rfl ?_
        refine r_l2i C (v := (nI (ch (grt d (j + 1)) (j + 1)))) dX11_bound_32 (lN_i _) ?_
        refine r_isub C (v := (nI (d - (ch (grt d (j + 1)) (j + 1))))) dX11_bound_33 (pk_sub (by omega)) ?_
        refine r_istore_n C (lv' := [(2, .int (nI (d - (ch (grt d (j + 1)) (j + 1))))), (5, .int (nI (grt d (j + 1)))), (4, .int (nI (j + 1))), (3, .int (nI b)), (0, .int (nI m)), (1, .int (nI k))]) 2 dX11_bound_34 rfl (by decide) rfl ?_
        refine r_iload_n C dX11_bound_35 3 rfl ?_
        refine r_iload C dX11_bound_36 1 rfl ?_
        refine r_iload C dX11_bound_38 2 rfl ?_
        refine r_iconst C (v := (nI 1)) dX11_bound_40 rfl ?_
        refine r_isub C (v := (nI j)) dX11_bound_41 (pk_sub (a := j + 1) (b := 1) (by omega)) ?_
        refine r_callP C (As := [.int (nI (grt d (j + 1))), .int (nI j)]) (rest := [.int (nI b)]) (st1 := [.long (lN (ch (grt d (j + 1)) j)), .int (nI b)]) miX11_over msX11_over (c_over l (a := grt d (j + 1)) (b := j) (by omega) (by omega) (ov_le (by omega) (by omega) (by omega))) hw_5_202 rfl ⟨by decide, by decide, rfl, rfl, by decide, by decide⟩ rfl (Nat.le_of_ble_eq_true rfl) dX11_bound_42 rfl ?_
        refine r_l2i C (v := (nI (ch (grt d (j + 1)) j))) dX11_bound_45 (lN_i _) ?_
        refine r_iadd C (v := (nI (b + (ch (grt d (j + 1)) j)))) dX11_bound_46 (nI_add _ _) ?_
        refine r_istore_n C (lv' := [(3, .int (nI (b + (ch (grt d (j + 1)) j)))), (2, .int (nI (d - (ch (grt d (j + 1)) (j + 1))))), (5, .int (nI (grt d (j + 1)))), (4, .int (nI (j + 1))), (0, .int (nI m)), (1, .int (nI k))]) 3 dX11_bound_47 rfl (by decide) rfl ?_
        refine r_iinc C (v := (nI j)) (lv' := [(4, .int (nI j)), (3, .int (nI (b + (ch (grt d (j + 1)) j)))), (2, .int (nI (d - (ch (grt d (j + 1)) (j + 1))))), (5, .int (nI (grt d (j + 1)))), (0, .int (nI m)), (1, .int (nI k))]) 4 3 dX11_bound_48 rfl (pk_m1 _) (by decide) rfl ?_
        refine r_goto C 7 dX11_bound_51 (by decide) ?_
        refine G_sub (lv' := [(4, .int (nI j)), (3, .int (nI (b + (ch (grt d (j + 1)) j)))), (2, .int (nI (d - (ch (grt d (j + 1)) (j + 1))))), (0, .int (nI m)), (1, .int (nI k))]) [0, 1, 2, 4, 5] rfl ?_
        exact ih j (b + ch (grt d (j + 1)) j) (d - ch (grt d (j + 1)) (j + 1)) (by omega) (by omega) (by omega) Rr
set_option maxHeartbeats 1000000 in
set_option maxRecDepth 100000 in
theorem c_bound (l : Launch) {m k : Nat} (hm6 : m ≤ 1000000) (hk10 : k ≤ 10) : Cp l yX11_bound cX11_bound 6 (some .int) (rmk 2 46) [.int (nI m), .int (nI k)] (some (.int (nI (lshG k m)))) := by
  refine Cp.of (D := (fun _ => 0, fun _ _ => 0)) (by decide) (Nat.le_of_ble_eq_true rfl) (fun z A C Rr => ?_)
  refine r_iload_n C dX11_bound_0 0 rfl ?_
  refine r_istore_n C (lv' := [(2, .int (nI m)), (0, .int (nI m)), (1, .int (nI k))]) 2 dX11_bound_1 rfl (by decide) rfl ?_
  refine r_iconst C (v := (nI 0)) dX11_bound_2 rfl ?_
  refine r_istore_n C (lv' := [(3, .int (nI 0)), (2, .int (nI m)), (0, .int (nI m)), (1, .int (nI k))]) 3 dX11_bound_3 rfl (by decide) rfl ?_
  refine r_iload_n C dX11_bound_4 3 rfl ?_
  refine r_istore C (lv' := [(4, .int (nI k)), (3, .int (nI 0)), (2, .int (nI m)), (0, .int (nI m)), (1, .int (nI k))]) 4 dX11_bound_5 (by decide) rfl ?_
  exact lp_bound C (m := m) (k := k) (k + 1) k 0 m (by omega) (by omega) hm6 (by rw [Nat.zero_add]; exact Rr)
set_option maxHeartbeats 1000000 in
set_option maxRecDepth 100000 in
theorem lp_divisor {z : Zt} {A : Nat → Prop} {l : Launch} {D : va_G} (C : Cx z A l (rmk 0 0) cX11_divisor 10 "SetFamiliesModel") {x y : Nat} : ∀ (n_ : Nat) (a b : Nat), b < n_ → a < 2 ^ 63 → b < 2 ^ 63 → Rp z A (some .long) (some (.long (lN (gdF n_ a b)))) → G z D A 10 [] 0 0 6 [(6, .long (lN b)), (4, .long (lN a)), (0, .long (lN x)), (2, .long (lN y))] [] := by
  intro n_
  induction n_ with
  | zero => intro a b hm_; exact absurd hm_ (Nat.not_lt_zero _)
  | succ n_ ih =>
    intro a b hm_ ha hb Rr
    rw [gdF] at Rr
    refine r_lload C dX11_divisor_6 0 rfl ?_
    refine r_lconst C (v := (lN 0)) dX11_divisor_8 rfl ?_
    refine r_lcmp C dX11_divisor_9 ?_
    refine r_if_eq C 31 dX11_divisor_10 (by decide) ((lgc_eq _ _).trans (pk_lEQ (by omega) (by omega))) (fun h10 => ?_) (fun h10 => ?_)
    · rw [if_pos h10] at Rr
      refine r_lload C dX11_divisor_31 1 rfl ?_
      exact p_lret C dX11_divisor_33 Rr
    · rw [if_neg h10] at Rr
      refine r_lload C dX11_divisor_13 1 rfl ?_
      refine r_lload C dX11_divisor_15 0 rfl ?_
      refine r_lrem C (v := (lN (a % b))) dX11_divisor_17 (fun q => h10 ((pk_lEQ (b := 0) (by omega) (by decide)).mp q)) (pk_lRem (by omega) (by omega) (by omega)) ?_
      refine r_lstore C (lv' := [(8, .long (lN (a % b))), (6, .long (lN b)), (4, .long (lN a)), (0, .long (lN x)), (2, .long (lN y))]) 8 dX11_divisor_18 (by decide) rfl ?_
      refine r_lload C dX11_divisor_20 1 rfl ?_
      refine r_lstore C (lv' := [(4, .long (lN b)), (8, .long (lN (a % b))), (6, .long (lN b)), (0, .long (lN x)), (2, .long (lN y))]) 4 dX11_divisor_22 (by decide) rfl ?_
      refine r_lload C dX11_divisor_24 1 rfl ?_
      refine r_lstore C (lv' := [(6, .long (lN (a % b))), (4, .long (lN b)), (8, .long (lN (a % b))), (0, .long (lN x)), (2, .long (lN y))]) 6 dX11_divisor_26 (by decide) rfl ?_
      refine r_goto C 6 dX11_divisor_28 (by decide) ?_
      refine G_sub (lv' := [(6, .long (lN (a % b))), (4, .long (lN b)), (0, .long (lN x)), (2, .long (lN y))]) [0, 1, 3, 4] rfl ?_
      exact ih b (a % b) (by have := Nat.mod_lt a (show b > 0 by omega); omega) hb (Nat.lt_trans (Nat.mod_lt _ (by omega)) hb) Rr
set_option maxHeartbeats 1000000 in
set_option maxRecDepth 100000 in
theorem c_divisor (l : Launch) {x y : Nat} (hx : x < 2 ^ 63) (hy : y < 2 ^ 63) : Cp l yX11_divisor cX11_divisor 10 (some .long) (rmk 0 0) [.long (lN x), .long (lN y)] (some (.long (lN (gdF (y + 1) x y)))) := by
  refine Cp.of (D := (fun _ => 0, fun _ _ => 0)) (by decide) (Nat.le_of_ble_eq_true rfl) (fun z A C Rr => ?_)
  refine r_lload_n C dX11_divisor_0 0 rfl ?_
  refine r_lstore C (lv' := [(4, .long (lN x)), (0, .long (lN x)), (2, .long (lN y))]) 4 dX11_divisor_1 (by decide) rfl ?_
  refine r_lload_n C dX11_divisor_3 2 rfl ?_
  refine r_lstore C (lv' := [(6, .long (lN y)), (4, .long (lN x)), (0, .long (lN x)), (2, .long (lN y))]) 6 dX11_divisor_4 (by decide) rfl ?_
  exact lp_divisor C (x := x) (y := y) (y + 1) x y (by omega) hx hy Rr
set_option maxHeartbeats 1000000 in
set_option maxRecDepth 100000 in
theorem c_mixes (l : Launch) (g : Gd) (μ : Mm) {h : Int64} (hh : gL μ 2 = h) (v : Int64) : Ct l yX11_mixes cX11_mixes 3 none (rmk 0 0) g [.ref (ad g 19), .long v] μ none (sL μ 2 (mx h v)) := by
  refine Ct.of (by decide) (Nat.le_of_ble_eq_true rfl) (fun z A C X Rr => ?_)
  refine r_aload_n C dX11_mixes_0 0 rfl ?_
  refine r_ldc2 C dX11_mixes_1 hw_6_88 ?_
  refine r_aload_n C dX11_mixes_4 0 rfl ?_
  refine r_get C X (k := 19) (R := RX11) (T := TX11) (N := 15) (n := 14) (v := .long (gL μ 2)) (by decide) rfl rfl inw11 (by decide) rfl hw_5_32 rfl dX11_mixes_5 ?_
  refine G_topl (y := h) hh ?_
  refine r_lmul C (v := ((31) * h)) dX11_mixes_8 rfl ?_
  refine r_lload_n C dX11_mixes_9 1 rfl ?_
  refine r_ladd C (v := (((31) * h) + v)) dX11_mixes_10 rfl ?_
  refine G_topl (y := (mx h v)) rfl ?_
  refine r_put C X (μ' := (sL μ 2 (mx h v))) (k := 19) (R := RX11) (T := TX11) (N := 15) (n := 14) (v := .long (mx h v)) (ty := .long) (by decide) rfl rfl inw11 tyX11_ok nmX11 (by decide) rfl hw_5_32 rfl rfl rfl rfl (Nat.le_of_ble_eq_true rfl) dX11_mixes_11 (WF_sL2_at g _ _) (WF_sL2_ne g _ _) ?_
  exact r_vret C dX11_mixes_14 Rr
