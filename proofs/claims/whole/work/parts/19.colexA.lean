/-- binomial coefficients -/
def ch : Nat → Nat → Nat
  | _, 0 => 1
  | 0, _ + 1 => 0
  | n + 1, k + 1 => ch n k + ch n (k + 1)
theorem ch_0 (n : Nat) : ch n 0 = 1 := by cases n <;> rfl
theorem ch_s (n k : Nat) : ch (n + 1) (k + 1) = ch n k + ch n (k + 1) := rfl
theorem ch_gt : ∀ {n k : Nat}, n < k → ch n k = 0
  | 0, 0, h => absurd h (by decide)
  | 0, k + 1, _ => rfl
  | n + 1, 0, h => absurd h (by omega)
  | n + 1, k + 1, h => by rw [ch_s, ch_gt (by omega), ch_gt (by omega)]
theorem ch_nn : ∀ n : Nat, ch n n = 1
  | 0 => rfl
  | n + 1 => by rw [ch_s, ch_nn n, ch_gt (by omega)]
theorem ch_1 : ∀ n : Nat, ch n 1 = n
  | 0 => rfl
  | n + 1 => by rw [ch_s, ch_0, ch_1 n]; omega
theorem ch_mul : ∀ n k : Nat, (k + 1) * ch (n + 1) (k + 1) = (n + 1) * ch n k
  | 0, 0 => rfl
  | 0, k + 1 => by rw [ch_s, ch_gt (show 0 < k + 1 by omega), ch_gt (show 0 < k + 2 by omega)]; simp
  | n + 1, 0 => by rw [ch_1, ch_0]; omega
  | n + 1, k + 1 => by
    have h1 := ch_mul n k
    have h2 := ch_mul n (k + 1)
    rw [ch_s (n + 1) (k + 1), Nat.mul_add, h2, ch_s n k]
    rw [show (k + 1 + 1) * (ch n k + ch n (k + 1)) = (k + 1) * ch (n + 1) (k + 1) + ch (n + 1) (k + 1) by rw [ch_s]; rw [Nat.add_mul (k + 1) 1, Nat.one_mul], h1, ch_s]
    rw [Nat.mul_add, show (n + 1 + 1) * ch n k = (n + 1) * ch n k + ch n k by rw [Nat.add_mul, Nat.one_mul], show (n + 1 + 1) * ch n (k + 1) = (n + 1) * ch n (k + 1) + ch n (k + 1) by rw [Nat.add_mul, Nat.one_mul]]
    omega
theorem ch_up (m : Nat) : ∀ t d : Nat, ch (m + t) t ≤ ch (m + (t + d)) (t + d)
  | t, 0 => Nat.le_refl _
  | t, d + 1 => Nat.le_trans (ch_up m t d) (by rw [show m + (t + (d + 1)) = (m + (t + d)) + 1 by omega, show t + (d + 1) = (t + d) + 1 by omega, ch_s]; omega)
theorem ch_step (m t : Nat) : ch (m + t) t * (m + (t + 1)) = (t + 1) * ch (m + (t + 1)) (t + 1) := by
  rw [show m + (t + 1) = (m + t) + 1 by omega, ch_mul, Nat.mul_comm]
theorem ch_mono : ∀ {a b : Nat} (k : Nat), a ≤ b → ch a k ≤ ch b k
  | a, b, 0, _ => by rw [ch_0, ch_0]; exact Nat.le_refl _
  | a, b, k + 1, h => by
    induction h with
    | refl => exact Nat.le_refl _
    | step h ih => exact Nat.le_trans ih (by rw [ch_s]; omega)
/-- (a + 1 over k) is at most k + 1 times (a over k), from a = k on -/
theorem ch_next : ∀ {a k : Nat}, k ≤ a → ch (a + 1) k ≤ (k + 1) * ch a k
  | a, 0, _ => by rw [ch_0, ch_0]; omega
  | 0, k + 1, h => absurd h (by omega)
  | a + 1, k + 1, h => by
    have e1 := ch_mul (a + 1) k
    have e2 := ch_mul a k
    -- (k+1) ch (a+2) (k+1) = (a+2) ch (a+1) k ; ch (a+1) k = ch (a+2)(k+1) - ch (a+1)(k+1)
    have e3 : ch (a + 1 + 1) (k + 1) = ch (a + 1) k + ch (a + 1) (k + 1) := rfl
    rcases Nat.lt_or_ge a k with q | q
    · have : a = k := by omega
      omega
    · have ih := ch_next (a := a) (k := k) q
      rw [e3]
      have e4 : ch (a + 1) k ≤ (k + 1) * ch a k := ih
      have e5 : ch a k ≤ ch (a + 1) (k + 1) := by rw [ch_s]; omega
      have e6 : (k + 1) * ch a k ≤ (k + 1) * ch (a + 1) (k + 1) := Nat.mul_le_mul_left _ e5
      rw [show (k + 1 + 1) * ch (a + 1) (k + 1) = (k + 1) * ch (a + 1) (k + 1) + ch (a + 1) (k + 1) by rw [Nat.add_mul (k + 1) 1, Nat.one_mul]]
      omega
theorem bin_div {m t b : Nat} (ht : t < b) (hb : b ≤ 10) (hc : ch (m + b) b < 2 ^ 50) (hm : m < 2 ^ 31) : lN (ch (m + t) t * (m + (t + 1))) / lN (t + 1) = lN (ch (m + (t + 1)) (t + 1)) := by
  have h1 : ch (m + (t + 1)) (t + 1) ≤ ch (m + b) b := by have := ch_up m (t + 1) (b - (t + 1)); rw [show t + 1 + (b - (t + 1)) = b by omega] at this; exact this
  have h2 : (t + 1) * ch (m + (t + 1)) (t + 1) ≤ 10 * ch (m + (t + 1)) (t + 1) := Nat.mul_le_mul_right _ (by omega)
  rw [ch_step, pk_lDiv (by omega) (by omega) (by omega), Nat.mul_div_cancel_left _ (by omega)]
theorem l0 : (lN 0 : Int64) = 0 := rfl
theorem lne {a : Nat} (h0 : 0 < a) (h : a < 2 ^ 31) : ¬ lN a = 0 := fun q => by have := (lN_eq (b := 0) h (by decide)).mp q; omega
theorem holds_iff (c x : Nat) : c / 2 ^ x &&& 1 = 1 ↔ c.testBit x = true := by
  rw [Nat.testBit_eq_decide_div_mod_eq, decide_eq_true_iff, show (1 : Nat) = 2 ^ 1 - 1 from rfl, Nat.and_two_pow_sub_one_eq_mod]
set_option maxHeartbeats 1000000 in
set_option maxRecDepth 100000 in
theorem c_holds (l : Launch) {c x : Nat} (hc : c < 2 ^ 31) (hx : x < 32) : Cp l yX10_holds cX10_holds 2 (some .boolean) (rmk 0 0) [.int (nI c), .int (nI x)] (some (.int (bI (c.testBit x)))) := by
  refine Cp.of (D := (fun _ => 0, fun _ _ => 0)) (by decide) (Nat.le_of_ble_eq_true rfl) (fun z A C Rr => ?_)
  refine r_iload_n C dX10_holds_0 0 rfl ?_
  refine r_iload_n C dX10_holds_1 1 rfl ?_
  refine r_ishr C (v := (nI (c / 2 ^ x))) dX10_holds_2 (nshr (by omega) (by omega)) ?_
  refine r_iconst C (v := (nI 1)) dX10_holds_3 rfl ?_
  refine r_iand C (v := (nI ((c / 2 ^ x) &&& 1))) dX10_holds_4 (nand _ _) ?_
  refine r_iconst C (v := (nI 1)) dX10_holds_5 rfl ?_
  refine r_icmp_ne C 13 dX10_holds_6 (by decide) (not_congr (nI_eq (Nat.lt_of_le_of_lt Nat.and_le_right (by decide)) (by decide))) (fun h6 => ?_) (fun h6 => ?_)
  · refine r_iconst C (v := (nI 0)) dX10_holds_13 rfl ?_
    refine G_top (y := (bI (c.testBit x))) (b0 (Bool.eq_false_iff.mpr (fun q => h6 ((holds_iff c x).mpr q)))) ?_
    exact p_zret C dX10_holds_14 (nar_b _) Rr
  · refine r_iconst C (v := (nI 1)) dX10_holds_9 rfl ?_
    refine r_goto C 14 dX10_holds_10 (by decide) ?_
    refine G_top (y := (bI (c.testBit x))) (b1 ((holds_iff c x).mp (Decidable.not_not.mp h6))) ?_
    exact p_zret C dX10_holds_14 (nar_b _) Rr
set_option maxHeartbeats 1000000 in
set_option maxRecDepth 100000 in
theorem lp_binomial {z : Zt} {A : Nat → Prop} {l : Launch} {D : va_G} (C : Cx z A l (rmk 0 0) cX0_binomial 5 "SetFamilies$Colex") {a b : Nat} (ha : a < 2 ^ 31) (hb : b ≤ 10) (hc : ch a b < 2 ^ 50) (hba : b ≤ a) (Rr : Rp z A (some .long) (some (.long (lN (ch a b))))) : ∀ (n_ : Nat) (t : Nat), b - t < n_ → t ≤ b → G z D A 5 [] 0 0 16 [(4, .int (nI (t + 1))), (2, .long (lN (ch (a - b + t) t))), (0, .int (nI a)), (1, .int (nI b))] [] := by
  intro n_
  induction n_ with
  | zero => intro t hm_; exact absurd hm_ (Nat.not_lt_zero _)
  | succ n_ ih =>
    intro t hm_ ht
    refine r_iload C dX0_binomial_16 0 rfl ?_
    refine r_iload_n C dX0_binomial_18 3 rfl ?_
    refine r_icmp_gt C 42 dX0_binomial_19 (by decide) (nI_ltI (by omega) (by omega)) (fun h19 => ?_) (fun h19 => ?_)
    · have htb : t = b := by omega
      subst htb
      rw [show a - t + t = a by omega]
      refine r_lload_n C dX0_binomial_42 1 rfl ?_
      exact p_lret C dX0_binomial_43 Rr
    · refine r_lload_n C dX0_binomial_22 1 rfl ?_
      refine r_iload_n C dX0_binomial_23 2 rfl ?_
      refine r_iload_n C dX0_binomial_24 3 rfl ?_
      refine r_isub C (v := (nI (a - b))) dX0_binomial_25 (pk_sub (by omega)) ?_
      refine r_iload C dX0_binomial_26 0 rfl ?_
      refine r_iadd C (v := (nI (a - b + (t + 1)))) dX0_binomial_28 (nI_add _ _) ?_
      refine r_i2l C (v := (lN (a - b + (t + 1)))) dX0_binomial_29 (nI_l (by omega)) ?_
      refine r_lmul C (v := (lN ((ch (a - b + t) t) * (a - b + (t + 1))))) dX0_binomial_30 (lN_mul _ _) ?_
      refine r_iload C dX0_binomial_31 0 rfl ?_
      refine r_i2l C (v := (lN (t + 1))) dX0_binomial_33 (nI_l (by omega)) ?_
      refine r_ldiv C (v := (lN (ch (a - b + (t + 1)) (t + 1)))) dX0_binomial_34 (lne (by omega) (by omega)) (bin_div (by omega) hb (by rw [show a - b + b = a by omega]; exact hc) (by omega)) ?_
      refine r_lstore_n C (lv' := [(2, .long (lN (ch (a - b + (t + 1)) (t + 1)))), (4, .int (nI (t + 1))), (0, .int (nI a)), (1, .int (nI b))]) 2 dX0_binomial_35 rfl (by decide) rfl ?_
      refine r_iinc C (v := (nI (t + 1 + 1))) (lv' := [(4, .int (nI (t + 1 + 1))), (2, .long (lN (ch (a - b + (t + 1)) (t + 1)))), (0, .int (nI a)), (1, .int (nI b))]) 4 1 dX0_binomial_36 rfl (inc_N _ 1) (by decide) rfl ?_
      refine r_goto C 16 dX0_binomial_39 (by decide) ?_
      exact ih (t + 1) (by omega) (by omega)
set_option maxHeartbeats 1000000 in
set_option maxRecDepth 100000 in
theorem c_binomial (l : Launch) {a b : Nat} (ha : a < 2 ^ 31) (hb : b ≤ 10) (hc : ch a b < 2 ^ 50) : Cp l yX0_binomial cX0_binomial 5 (some .long) (rmk 0 0) [.int (nI a), .int (nI b)] (some (.long (lN (ch a b)))) := by
  refine Cp.of (D := (fun _ => 0, fun _ _ => 0)) (by decide) (Nat.le_of_ble_eq_true rfl) (fun z A C Rr => ?_)
  refine r_iload_n C dX0_binomial_0 1 rfl ?_
  refine r_if_lt C 9 dX0_binomial_1 (by decide) (zI_lt (by omega)) (fun h1 => ?_) (fun h1 => ?_)
  · exact h1.elim
  · refine r_iload_n C dX0_binomial_4 1 rfl ?_
    refine r_iload_n C dX0_binomial_5 0 rfl ?_
    refine r_icmp_le C 11 dX0_binomial_6 (by decide) (nI_leI (by omega) (by omega)) (fun h6 => ?_) (fun h6 => ?_)
    · refine r_lconst C (v := (lN 1)) dX0_binomial_11 rfl ?_
      refine r_lstore_n C (lv' := [(2, .long (lN 1)), (0, .int (nI a)), (1, .int (nI b))]) 2 dX0_binomial_12 rfl (by decide) rfl ?_
      refine r_iconst C (v := (nI 1)) dX0_binomial_13 rfl ?_
      refine r_istore C (lv' := [(4, .int (nI 1)), (2, .long (lN 1)), (0, .int (nI a)), (1, .int (nI b))]) 4 dX0_binomial_14 (by decide) rfl ?_
      refine G_lv (lv' := [(4, .int (nI (0 + 1))), (2, .long (lN (ch (a - b + 0) 0))), (0, .int (nI a)), (1, .int (nI b))]) (by rw [ch_0]) ?_
      exact lp_binomial C ha hb hc (by omega) Rr (b + 1) 0 (by omega) (by omega)
    · rw [ch_gt (by omega)] at Rr
      refine r_lconst C (v := (lN 0)) dX0_binomial_9 rfl ?_
      exact p_lret C dX0_binomial_10 Rr
