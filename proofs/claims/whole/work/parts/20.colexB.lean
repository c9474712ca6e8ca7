theorem lgc_lt (x y : Int64) : lg_cmp x y < 0 ↔ x < y := by
  unfold lg_cmp
  by_cases h : x > y
  · rw [if_pos h]; exact ⟨fun q => absurd q (by decide), fun q => absurd (Int64.lt_trans q h) Int64.lt_irrefl⟩
  · rw [if_neg h]
    by_cases h2 : x = y
    · rw [if_pos h2]; subst h2; exact ⟨fun q => absurd q (by decide), fun q => absurd q h⟩
    · rw [if_neg h2]; exact ⟨fun _ => Int64.lt_of_le_of_ne (Int64.not_lt.mp h) h2, fun _ => by decide⟩
theorem lgc_ge (x y : Int64) : 0 ≤ lg_cmp x y ↔ ¬ x < y := by rw [← lgc_lt, Int32.not_lt]
/-- rank and size of the elements below k -/
def rkF (c : Nat) : Nat → Nat × Nat
  | 0 => (0, 0)
  | x + 1 => if c.testBit x = true then ((rkF c x).1 + ch x ((rkF c x).2 + 1), (rkF c x).2 + 1) else rkF c x
theorem ch10 : ∀ a, a < 11 → ∀ b, b < 12 → ch a b ≤ 252 := by decide +kernel
theorem rkF_le (c : Nat) : ∀ k, k ≤ 10 → (rkF c k).1 ≤ k * 252 ∧ (rkF c k).2 ≤ k
  | 0, _ => ⟨Nat.le_refl _, Nat.le_refl _⟩
  | k + 1, h => by
    obtain ⟨h1, h2⟩ := rkF_le c k (by omega)
    have h3 := ch10 k (by omega) ((rkF c k).2 + 1) (by omega)
    rw [rkF]
    by_cases q : c.testBit k = true
    · rw [if_pos q]; constructor <;> simp only <;> omega
    · rw [if_neg q]; exact ⟨Nat.le_trans h1 (Nat.mul_le_mul_right _ (Nat.le_succ _)), Nat.le_succ_of_le h2⟩
/-- the greatest top for which (top over i) is at most m -/
def gtF (m i : Nat) : Nat → Nat → Nat
  | 0, t => t
  | f + 1, t => if ch (t + 1) i ≤ m then gtF m i f (t + 1) else t
def gtop (m i : Nat) : Nat := if i = 1 then m else gtF m i (1500 - i) i
theorem gtF_ok (m i : Nat) : ∀ f t, i ≤ t → ch t i ≤ m → i ≤ gtF m i f t ∧ ch (gtF m i f t) i ≤ m ∧ gtF m i f t ≤ t + f
  | 0, t, h1, h2 => ⟨h1, h2, Nat.le_refl _⟩
  | f + 1, t, h1, h2 => by
    rw [gtF]
    by_cases q : ch (t + 1) i ≤ m
    · rw [if_pos q]; obtain ⟨a, b, c⟩ := gtF_ok m i f (t + 1) (by omega) q; exact ⟨a, b, by omega⟩
    · rw [if_neg q]; exact ⟨h1, h2, by omega⟩
theorem gtop_ok {m i : Nat} (hm : 1 ≤ m) (h1 : 1 ≤ i) (h10 : i ≤ 10) : i ≤ gtop m i ∧ ch (gtop m i) i ≤ m ∧ gtop m i ≤ m + 1500 := by
  unfold gtop
  by_cases q : i = 1
  · rw [if_pos q, q, ch_1]; omega
  · rw [if_neg q]; obtain ⟨a, b, c⟩ := gtF_ok m i (1500 - i) i (Nat.le_refl _) (by rw [ch_nn]; exact hm); exact ⟨a, b, by omega⟩
/-- (a over k) is at most (k + 1) times (a over k + 1), where k + 1 is at most a -/
theorem ch_pred {a k : Nat} (h : k + 1 ≤ a) : ch a k ≤ (k + 1) * ch a (k + 1) := by
  obtain ⟨b, rfl⟩ : ∃ b, a = b + 1 := ⟨a - 1, by omega⟩
  have h1 := ch_mul b k
  have h2 : ch (b + 1) k ≤ (k + 1) * ch b k := ch_next (by omega)
  rw [h1]
  exact Nat.le_trans h2 (Nat.mul_le_mul_right _ (by omega))
def casF (k index : Nat) : Nat → Nat → Int32
  | 0, _ => -1
  | i + 1, left => if left = 0 then -1 else if k - (i + 1) = index then nI (gtop left (i + 1)) else casF k index i (left - ch (gtop left (i + 1)) (i + 1))
def lshF : Nat → Nat → Nat
  | 0, _ => 0
  | i + 1, left => if left = 0 then 0 else ch (gtop left (i + 1)) i + lshF i (left - ch (gtop left (i + 1)) (i + 1))
theorem lshF_le : ∀ i left, i ≤ 10 → left ≤ 1000000 → lshF i left ≤ i * 10000000
  | 0, _, _, _ => Nat.zero_le _
  | i + 1, left, hi, hl => by
    rw [lshF]
    by_cases q : left = 0
    · rw [if_pos q]; omega
    · rw [if_neg q]
      obtain ⟨a, b, c⟩ := gtop_ok (m := left) (i := i + 1) (by omega) (by omega) hi
      have h1 := ch_pred a
      have h2 : (i + 1) * ch (gtop left (i + 1)) (i + 1) ≤ 10 * left := Nat.mul_le_mul hi b
      have h3 := lshF_le i (left - ch (gtop left (i + 1)) (i + 1)) (by omega) (by omega)
      omega
def gdF : Nat → Nat → Nat → Nat
  | 0, a, _ => a
  | f + 1, a, b => if b = 0 then a else gdF f b (a % b)
/-- the set of a rank: from element x - 1 down -/
def soF : Nat → Nat → Nat → Nat → Nat
  | 0, _, _, set => set
  | x + 1, size, left, set => if size = 0 then set else if ch x size ≤ left then soF x (size - 1) (left - ch x size) (set ||| 2 ^ x) else soF x size left set
def pI (y : Nat) : Int32 := nI y + (-1)
theorem pI_lt {y : Nat} (h : y < 100) : pI y < 0 ↔ y = 0 := by
  unfold pI
  rcases y with _ | y
  · decide
  · rw [pk_m1]; exact ⟨fun q => absurd q (nI_pos (by omega)), fun q => by omega⟩
theorem pI_s (x : Nat) : pI (x + 1) = nI x := pk_m1 x
theorem pI_d (x : Nat) : nI x + Int32.ofInt (-1) = pI x := rfl
theorem dec1 {i : Nat} (h : 0 < i) : nI i + Int32.ofInt (-1) = nI (i - 1) := by
  obtain ⟨j, rfl⟩ : ∃ j, i = j + 1 := ⟨i - 1, by omega⟩
  exact pk_m1 j
theorem ts_t {b : Bool} (h : ¬ b = false) : b = true := eq_true_of_ne_false h
theorem ts_f {b : Bool} (h : b = false) : ¬ b = true := by rw [h]; decide
set_option maxHeartbeats 1000000 in
set_option maxRecDepth 100000 in
theorem lp_rankOf {z : Zt} {A : Nat → Prop} {l : Launch} {g : Gd} {μ : Mm} (C : Cx z A l (rmk 1 24) cX0_rankOf 5 "SetFamilies$Colex") (X : Kx z g A) {c : Nat} (hc : c < 1024) (Rr : Rx z g A (some .int) (some (.int (nI (rkF c 10).1))) μ) : ∀ (n_ : Nat) (x : Nat), 10 - x < n_ → x ≤ 10 → G z g.1 A 5 (wd g μ) 0 0 7 [(4, .int (nI x)), (3, .int (nI ((rkF c x).2))), (1, .long (lN ((rkF c x).1))), (0, .int (nI c))] [] := by
  intro n_
  induction n_ with
  | zero => intro x hm_; exact absurd hm_ (Nat.not_lt_zero _)
  | succ n_ ih =>
    intro x hm_ hx10
    refine r_iload C dX0_rankOf_7 0 rfl ?_
    refine r_bipush C (v := (nI 10)) dX0_rankOf_9 (by decide) ?_
    refine r_icmp_ge C 41 dX0_rankOf_11 (by decide) (nI_leI (by omega) (by omega)) (fun h11 => ?_) (fun h11 => ?_)
    · have hx : x = 10 := by omega
      subst hx
      refine r_lload_n C dX0_rankOf_41 2 rfl ?_
      refine r_l2i C (v := (nI ((rkF c 10).1))) dX0_rankOf_42 (lN_i _) ?_
      exact r_iret C dX0_rankOf_43 Rr
    · have hle := rkF_le c x (by omega)
      refine r_iload_n C dX0_rankOf_14 3 rfl ?_
      refine r_iload C dX0_rankOf_15 0 rfl ?_
      refine r_callPN C (As := [.int (nI c), .int (nI x)]) (rest := []) (st1 := [.int (bI (Nat.testBit c x))]) miX10_holds msX10_holds (c_holds l (c := c) (x := x) (by omega) (by omega)) X.2.2.2.2.2.2.2 rfl ⟨by decide, by decide, rfl, rfl, by decide, by decide⟩ rfl (Nat.le_of_ble_eq_true rfl) dX0_rankOf_17 rfl ?_
      refine r_if_eq C 35 dX0_rankOf_20 (by decide) (bI_eq _) (fun h20 => ?_) (fun h20 => ?_)
      · refine r_iinc C (v := (nI (x + 1))) (lv' := [(4, .int (nI (x + 1))), (3, .int (nI ((rkF c x).2))), (1, .long (lN ((rkF c x).1))), (0, .int (nI c))]) 4 0 dX0_rankOf_35 rfl (inc_N _ 1) (by decide) rfl ?_
        refine r_goto C 7 dX0_rankOf_38 (by decide) ?_
        refine G_lv (lv' := [(4, .int (nI (x + 1))), (3, .int (nI (rkF c (x + 1)).2)), (1, .long (lN (rkF c (x + 1)).1)), (0, .int (nI c))]) (by rw [rkF, if_neg (ts_f h20)]) ?_
        exact ih (x + 1) (by omega) (by omega)
      · refine r_iinc C (v := (nI ((rkF c x).2 + 1))) (lv' := [(3, .int (nI ((rkF c x).2 + 1))), (4, .int (nI x)), (1, .long (lN ((rkF c x).1))), (0, .int (nI c))]) 3 1 dX0_rankOf_23 rfl (inc_N _ 1) (by decide) rfl ?_
        refine r_lload_n C dX0_rankOf_26 2 rfl ?_
        refine r_iload C dX0_rankOf_27 1 rfl ?_
        refine r_iload_n C dX0_rankOf_29 0 rfl ?_
        refine r_callP C (As := [.int (nI x), .int (nI ((rkF c x).2 + 1))]) (rest := [.long (lN ((rkF c x).1))]) (st1 := [.long (lN (ch x ((rkF c x).2 + 1))), .long (lN ((rkF c x).1))]) miX0_binomial msX0_binomial (c_binomial l (a := x) (b := (rkF c x).2 + 1) (by omega) (by omega) (by have := ch10 x (by omega) ((rkF c x).2 + 1) (by omega); omega)) hw_3_79 rfl ⟨by decide, by decide, rfl, rfl, by decide, by decide⟩ rfl (Nat.le_of_ble_eq_true rfl) dX0_rankOf_30 rfl ?_
        refine r_ladd C (v := (lN ((rkF c x).1 + ch x ((rkF c x).2 + 1)))) dX0_rankOf_33 (lN_add _ _) ?_
        refine r_lstore_n C (lv' := [(1, .long (lN ((rkF c x).1 + ch x ((rkF c x).2 + 1)))), (3, .int (nI ((rkF c x).2 + 1))), (4, .int (nI x)), (0, .int (nI c))]) 1 dX0_rankOf_34 rfl (by decide) rfl ?_
        refine r_iinc C (v := (nI (x + 1))) (lv' := [(4, .int (nI (x + 1))), (1, .long (lN ((rkF c x).1 + ch x ((rkF c x).2 + 1)))), (3, .int (nI ((rkF c x).2 + 1))), (0, .int (nI c))]) 4 2 dX0_rankOf_35 rfl (inc_N _ 1) (by decide) rfl ?_
        refine r_goto C 7 dX0_rankOf_38 (by decide) ?_
        refine G_lv (lv' := [(4, .int (nI (x + 1))), (1, .long (lN (rkF c (x + 1)).1)), (3, .int (nI (rkF c (x + 1)).2)), (0, .int (nI c))]) (by rw [rkF, if_pos (ts_t h20)]) ?_
        refine G_sub (lv' := [(4, .int (nI (x + 1))), (3, .int (nI ((rkF c (x + 1)).2))), (1, .long (lN ((rkF c (x + 1)).1))), (0, .int (nI c))]) [0, 2, 1, 3] rfl ?_
        exact ih (x + 1) (by omega) (by omega)
set_option maxHeartbeats 1000000 in
set_option maxRecDepth 100000 in
theorem c_rankOf (l : Launch) (g : Gd) (μ : Mm) {c : Nat} (hc : c < 1024) : Ct l yX0_rankOf cX0_rankOf 5 (some .int) (rmk 1 24) g [.int (nI c)] μ (some (.int (nI ((rkF c 10).1)))) μ := by
  refine Ct.of (by decide) (Nat.le_of_ble_eq_true rfl) (fun z A C X Rr => ?_)
  refine r_lconst C (v := (lN 0)) dX0_rankOf_0 rfl ?_
  refine r_lstore_n C (lv' := [(1, .long (lN 0)), (0, .int (nI c))]) 1 dX0_rankOf_1 rfl (by decide) rfl ?_
  refine r_iconst C (v := (nI 0)) dX0_rankOf_2 rfl ?_
  refine r_istore_n C (lv' := [(3, .int (nI 0)), (1, .long (lN 0)), (0, .int (nI c))]) 3 dX0_rankOf_3 rfl (by decide) rfl ?_
  refine r_iconst C (v := (nI 0)) dX0_rankOf_4 rfl ?_
  refine r_istore C (lv' := [(4, .int (nI 0)), (3, .int (nI 0)), (1, .long (lN 0)), (0, .int (nI c))]) 4 dX0_rankOf_5 (by decide) rfl ?_
  exact lp_rankOf C X hc Rr 11 0 (by decide) (by decide)
set_option maxHeartbeats 1000000 in
set_option maxRecDepth 100000 in
theorem lp_greatestTop {z : Zt} {A : Nat → Prop} {l : Launch} {D : va_G} (C : Cx z A l (rmk 1 24) cX0_greatestTop 3 "SetFamilies$Colex") {m i : Nat} (hm : 1 ≤ m) (hm6 : m ≤ 1000000) (h1 : 1 ≤ i) (h10 : i ≤ 10) : ∀ (n_ : Nat) (t : Nat), 1500 - t < n_ → t ≤ 1500 → i ≤ t → ch t i ≤ m → Rp z A (some .int) (some (.int (nI (gtF m i (1500 - t) t)))) → G z D A 3 [] 0 0 9 [(2, .int (nI t)), (0, .int (nI m)), (1, .int (nI i))] [] := by
  intro n_
  induction n_ with
  | zero => intro t hm_; exact absurd hm_ (Nat.not_lt_zero _)
  | succ n_ ih =>
    intro t hm_ ht hit hct Rr
    refine r_iload_n C dX0_greatestTop_9 0 rfl ?_
    refine r_sipush C (v := (nI 1500)) dX0_greatestTop_10 (by decide) ?_
    refine r_icmp_ge C 35 dX0_greatestTop_13 (by decide) (nI_leI (by omega) (by omega)) (fun h13 => ?_) (fun h13 => ?_)
    · rw [show 1500 - t = 0 by omega, gtF] at Rr
      refine r_iload_n C dX0_greatestTop_35 0 rfl ?_
      exact p_iret C dX0_greatestTop_36 Rr
    · have hnx := ch_next hit
      have hnx2 : (i + 1) * ch t i ≤ 11 * m := Nat.mul_le_mul (by omega) hct
      rw [show 1500 - t = (1500 - (t + 1)) + 1 by omega, gtF] at Rr
      refine r_iload_n C dX0_greatestTop_16 0 rfl ?_
      refine r_iconst C (v := (nI 1)) dX0_greatestTop_17 rfl ?_
      refine r_iadd C (v := (nI (t + 1))) dX0_greatestTop_18 (nI_add _ _) ?_
      refine r_iload_n C dX0_greatestTop_19 2 rfl ?_
      refine r_callP C (As := [.int (nI (t + 1)), .int (nI i)]) (rest := []) (st1 := [.long (lN (ch (t + 1) i))]) miX0_binomial msX0_binomial (c_binomial l (a := t + 1) (b := i) (by omega) (by omega) (by omega)) hw_3_79 rfl ⟨by decide, by decide, rfl, rfl, by decide, by decide⟩ rfl (Nat.le_of_ble_eq_true rfl) dX0_greatestTop_20 rfl ?_
      refine r_iload_n C dX0_greatestTop_23 1 rfl ?_
      refine r_i2l C (v := (lN m)) dX0_greatestTop_24 (nI_l (by omega)) ?_
      refine r_lcmp C dX0_greatestTop_25 ?_
      refine r_if_gt C 35 dX0_greatestTop_26 (by decide) ((lgc_gt _ _).trans (pk_lLT (by omega) (by omega))) (fun h26 => ?_) (fun h26 => ?_)
      · rw [if_neg (by omega)] at Rr
        refine r_iload_n C dX0_greatestTop_35 0 rfl ?_
        exact p_iret C dX0_greatestTop_36 Rr
      · rw [if_pos (by omega)] at Rr
        refine r_iinc C (v := (nI (t + 1))) (lv' := [(2, .int (nI (t + 1))), (0, .int (nI m)), (1, .int (nI i))]) 2 0 dX0_greatestTop_29 rfl (inc_N _ 1) (by decide) rfl ?_
        refine r_goto C 9 dX0_greatestTop_32 (by decide) ?_
        exact ih (t + 1) (by omega) (by omega) (by omega) (by omega) Rr
set_option maxHeartbeats 1000000 in
set_option maxRecDepth 100000 in
theorem c_greatestTop (l : Launch) {m i : Nat} (hm : 1 ≤ m) (hm6 : m ≤ 1000000) (h1 : 1 ≤ i) (h10 : i ≤ 10) : Cp l yX0_greatestTop cX0_greatestTop 3 (some .int) (rmk 1 24) [.int (nI m), .int (nI i)] (some (.int (nI (gtop m i)))) := by
  refine Cp.of (D := (fun _ => 0, fun _ _ => 0)) (by decide) (Nat.le_of_ble_eq_true rfl) (fun z A C Rr => ?_)
  refine r_iload_n C dX0_greatestTop_0 1 rfl ?_
  refine r_iconst C (v := (nI 1)) dX0_greatestTop_1 rfl ?_
  refine r_icmp_ne C 7 dX0_greatestTop_2 (by decide) (not_congr (nI_eq (by omega) (by omega))) (fun h2 => ?_) (fun h2 => ?_)
  · rw [gtop, if_neg h2] at Rr
    refine r_iload_n C dX0_greatestTop_7 1 rfl ?_
    refine r_istore_n C (lv' := [(2, .int (nI i)), (0, .int (nI m)), (1, .int (nI i))]) 2 dX0_greatestTop_8 rfl (by decide) rfl ?_
    exact lp_greatestTop C hm hm6 h1 h10 1501 i (by omega) (by omega) (Nat.le_refl _) (by rw [ch_nn]; exact hm) Rr
  · rw [gtop, if_pos (Decidable.not_not.mp h2)] at Rr
    refine r_iload_n C dX0_greatestTop_5 0 rfl ?_
    exact p_iret C dX0_greatestTop_6 Rr
set_option maxHeartbeats 1000000 in
set_option maxRecDepth 100000 in
theorem lp_cascadeNumber {z : Zt} {A : Nat → Prop} {l : Launch} {D : va_G} (C : Cx z A l (rmk 2 46) cX0_cascadeNumber 6 "SetFamilies$Colex") {m k q : Nat} (hk10 : k ≤ 10) (hq : q < 2 ^ 31) : ∀ (n_ : Nat) (i d : Nat), i < n_ → i ≤ k → i ≤ 10 → d ≤ 1000000 → Rp z A (some .int) (some (.int (casF k q i d))) → G z D A 6 [] 0 0 5 [(4, .int (nI i)), (3, .int (nI d)), (0, .int (nI m)), (1, .int (nI k)), (2, .int (nI q))] [] := by
  intro n_
  induction n_ with
  | zero => intro i d hm_; exact absurd hm_ (Nat.not_lt_zero _)
  | succ n_ ih =>
    intro i d hm_ hik hi10 hd6 Rr
    refine r_iload C dX0_cascadeNumber_5 0 rfl ?_
    refine r_iconst C (v := (nI 1)) dX0_cascadeNumber_7 rfl ?_
    refine r_icmp_lt C 51 dX0_cascadeNumber_8 (by decide) (nI_ltI (by omega) (by omega)) (fun h8 => ?_) (fun h8 => ?_)
    · have hi0 : i = 0 := by omega
      subst hi0
      rw [casF] at Rr
      refine r_iconst C (v := (-1)) dX0_cascadeNumber_51 rfl ?_
      exact p_iret C dX0_cascadeNumber_52 Rr
    · refine r_iload_n C dX0_cascadeNumber_11 1 rfl ?_
      refine r_if_le C 51 dX0_cascadeNumber_12 (by decide) (zI_le (by omega)) (fun h12 => ?_) (fun h12 => ?_)
      · obtain ⟨j, rfl⟩ : ∃ j, i = j + 1 := ⟨i - 1, by omega⟩
        rw [casF, if_pos h12] at Rr
        refine r_iconst C (v := (-1)) dX0_cascadeNumber_51 rfl ?_
        exact p_iret C dX0_cascadeNumber_52 Rr
      · obtain ⟨j, rfl⟩ : ∃ j, i = j + 1 := ⟨i - 1, by omega⟩
        rw [casF, if_neg h12] at Rr
        obtain ⟨g1, g2, g3⟩ := gtop_ok (m := d) (i := j + 1) (by omega) (by omega) (by omega)
        refine r_iload_n C dX0_cascadeNumber_15 1 rfl ?_
        refine r_iload C dX0_cascadeNumber_16 0 rfl ?_
        refine r_callP C (As := [.int (nI d), .int (nI (j + 1))]) (rest := []) (st1 := [.int (nI (gtop d (j + 1)))]) miX0_greatestTop msX0_greatestTop (c_greatestTop l (m := d) (i := (j + 1)) (by omega) (by omega) (by omega) (by omega)) hw_3_76 rfl ⟨by decide, by decide, rfl, rfl, by decide, by decide⟩ rfl (Nat.le_of_ble_eq_true rfl) dX0_cascadeNumber_18 rfl ?_
        refine r_istore C (lv' := [(5, .int (nI (gtop d (j + 1)))), (4, .int (nI (j + 1))), (3, .int (nI d)), (0, .int (nI m)), (1, .int (nI k)), (2, .int (nI q))]) 5 dX0_cascadeNumber_21 (by decide) rfl ?_
        refine r_iload_n C dX0_cascadeNumber_23 4 rfl ?_
        refine r_iload C dX0_cascadeNumber_24 1 rfl ?_
        refine r_isub C (v := (nI (k - (j + 1)))) dX0_cascadeNumber_26 (pk_sub (by omega)) ?_
        refine r_iload_n C dX0_cascadeNumber_27 5 rfl ?_
        refine r_icmp_ne C 34 dX0_cascadeNumber_28 (by decide) (not_congr (nI_eq (by omega) (by omega))) (fun h28 => ?_) (fun h28 => ?_)
        · rw [if_neg h28] at Rr
          refine r_iload_n C dX0_cascadeNumber_34 2 rfl ?_
          refine r_iload C dX0_cascadeNumber_35 0 rfl ?_
          refine r_iload C dX0_cascadeNumber_37 1 rfl ?_
          refine r_callP C (As := [.int (nI (gtop d (j + 1))), .int (nI (j + 1))]) (rest := [.int (nI d)]) (st1 := [.long (lN (ch (gtop d (j + 1)) (j + 1))), .int (nI d)]) miX0_binomial msX0_binomial (c_binomial l (a := gtop d (j + 1)) (b := (j + 1)) (by omega) (by omega) (by omega)) hw_3_79 rfl ⟨by decide, by decide, rfl, rfl, by decide, by decide⟩ rfl (Nat.le_of_ble_eq_true rfl) dX0_cascadeNumber_39 rfl ?_
          refine r_l2i C (v := (nI (ch (gtop d (j + 1)) (j + 1)))) dX0_cascadeNumber_42 (lN_i _) ?_
          refine r_isub C (v := (nI (d - (ch (gtop d (j + 1)) (j + 1))))) dX0_cascadeNumber_43 (pk_sub (by omega)) ?_
          refine r_istore_n C (lv' := [(3, .int (nI (d - (ch (gtop d (j + 1)) (j + 1))))), (5, .int (nI (gtop d (j + 1)))), (4, .int (nI (j + 1))), (0, .int (nI m)), (1, .int (nI k)), (2, .int (nI q))]) 3 dX0_cascadeNumber_44 rfl (by decide) rfl ?_
          refine r_iinc C (v := (nI j)) (lv' := [(4, .int (nI j)), (3, .int (nI (d - (ch (gtop d (j + 1)) (j + 1))))), (5, .int (nI (gtop d (j + 1)))), (0, .int (nI m)), (1, .int (nI k)), (2, .int (nI q))]) 4 2 dX0_cascadeNumber_45 rfl (pk_m1 _) (by decide) rfl ?_
          refine r_goto C 5 dX0_cascadeNumber_48 (by decide) ?_
          refine G_sub (lv' := [(4, .int (nI j)), (3, .int (nI (d - (ch (gtop d (j + 1)) (j + 1))))), (0, .int (nI m)), (1, .int (nI k)), (2, .int (nI q))]) [0, 1, 3, 4, 5] rfl ?_
          exact ih j (d - ch (gtop d (j + 1)) (j + 1)) (by omega) (by omega) (by omega) (by omega) Rr
        · rw [if_pos (Decidable.not_not.mp h28)] at Rr
          refine r_iload C dX0_cascadeNumber_31 0 rfl ?_
          exact p_iret C dX0_cascadeNumber_33 Rr
set_option maxHeartbeats 1000000 in
set_option maxRecDepth 100000 in
theorem c_cascadeNumber (l : Launch) {m k q : Nat} (hm6 : m ≤ 1000000) (hk10 : k ≤ 10) (hq : q < 2 ^ 31) : Cp l yX0_cascadeNumber cX0_cascadeNumber 6 (some .int) (rmk 2 46) [.int (nI m), .int (nI k), .int (nI q)] (some (.int (casF k q k m))) := by
  refine Cp.of (D := (fun _ => 0, fun _ _ => 0)) (by decide) (Nat.le_of_ble_eq_true rfl) (fun z A C Rr => ?_)
  refine r_iload_n C dX0_cascadeNumber_0 0 rfl ?_
  refine r_istore_n C (lv' := [(3, .int (nI m)), (0, .int (nI m)), (1, .int (nI k)), (2, .int (nI q))]) 3 dX0_cascadeNumber_1 rfl (by decide) rfl ?_
  refine r_iload_n C dX0_cascadeNumber_2 2 rfl ?_
  refine r_istore C (lv' := [(4, .int (nI k)), (3, .int (nI m)), (0, .int (nI m)), (1, .int (nI k)), (2, .int (nI q))]) 4 dX0_cascadeNumber_3 (by decide) rfl ?_
  exact lp_cascadeNumber C hk10 hq (k + 1) k m (by omega) (Nat.le_refl _) (by omega) hm6 Rr
set_option maxHeartbeats 1000000 in
set_option maxRecDepth 100000 in
theorem lp_leastShadow {z : Zt} {A : Nat → Prop} {l : Launch} {D : va_G} (C : Cx z A l (rmk 2 46) cX0_leastShadow 7 "SetFamilies$Colex") {m k : Nat} : ∀ (n_ : Nat) (i b d : Nat), i < n_ → i ≤ 10 → d ≤ 1000000 → Rp z A (some .int) (some (.int (nI (b + lshF i d)))) → G z D A 7 [] 0 0 7 [(5, .int (nI i)), (3, .long (lN b)), (2, .int (nI d)), (0, .int (nI m)), (1, .int (nI k))] [] := by
  intro n_
  induction n_ with
  | zero => intro i b d hm_; exact absurd hm_ (Nat.not_lt_zero _)
  | succ n_ ih =>
    intro i b d hm_ hi10 hd6 Rr
    refine r_iload C dX0_leastShadow_7 0 rfl ?_
    refine r_iconst C (v := (nI 1)) dX0_leastShadow_9 rfl ?_
    refine r_icmp_lt C 54 dX0_leastShadow_10 (by decide) (nI_ltI (by omega) (by omega)) (fun h10 => ?_) (fun h10 => ?_)
    · have hi0 : i = 0 := by omega
      subst hi0
      rw [lshF, Nat.add_zero] at Rr
      refine r_lload_n C dX0_leastShadow_54 1 rfl ?_
      refine r_l2i C (v := (nI b)) dX0_leastShadow_55 (lN_i _) ?_
      exact p_iret C dX0_leastShadow_56 Rr
    · refine r_iload_n C dX0_leastShadow_13 2 rfl ?_
      refine r_if_le C 54 dX0_leastShadow_14 (by decide) (zI_le (by omega)) (fun h14 => ?_) (fun h14 => ?_)
      · obtain ⟨j, rfl⟩ : ∃ j, i = j + 1 := ⟨i - 1, by omega⟩
        rw [lshF, if_pos h14, Nat.add_zero] at Rr
        refine r_lload_n C dX0_leastShadow_54 1 rfl ?_
        refine r_l2i C (v := (nI b)) dX0_leastShadow_55 (lN_i _) ?_
        exact p_iret C dX0_leastShadow_56 Rr
      · obtain ⟨j, rfl⟩ : ∃ j, i = j + 1 := ⟨i - 1, by omega⟩
        rw [lshF, if_neg h14, ← Nat.add_assoc] at Rr
        obtain ⟨g1, g2, g3⟩ := gtop_ok (m := d) (i := j + 1) (by omega) (by omega) (by omega)
        have hpr := ch_pred g1
        have hpr2 : (j + 1) * ch (gtop d (j + 1)) (j + 1) ≤ 10 * d := Nat.mul_le_mul (by omega) g2
        refine r_iload_n C dX0_leastShadow_17 2 rfl ?_
        refine r_iload C dX0_leastShadow_18 0 rfl ?_
        refine r_callP C (As := [.int (nI d), .int (nI (j + 1))]) (rest := []) (st1 := [.int (nI (gtop d (j + 1)))]) miX0_greatestTop msX0_greatestTop (c_greatestTop l (m := d) (i := (j + 1)) (by omega) (by omega) (by omega) (by omega)) hw_3_76 rfl ⟨by decide, by decide, rfl, rfl, by decide, by decide⟩ rfl (Nat.le_of_ble_eq_true rfl) dX0_leastShadow_20 rfl ?_
        refine r_istore C (lv' := [(6, .int (nI (gtop d (j + 1)))), (5, .int (nI (j + 1))), (3, .long (lN b)), (2, .int (nI d)), (0, .int (nI m)), (1, .int (nI k))]) 6 dX0_leastShadow_23 (by decide) rfl ?_
        refine r_lload_n C dX0_leastShadow_25 2 rfl ?_
        refine r_iload C dX0_leastShadow_26 0 rfl ?_
        refine r_iload C dX0_leastShadow_28 1 rfl ?_
        refine r_iconst C (v := (nI 1)) dX0_leastShadow_30 rfl ?_
        refine r_isub C (v := (nI j)) dX0_leastShadow_31 (pk_sub (a := j + 1) (b := 1) (by omega)) ?_
        refine r_callP C (As := [.int (nI (gtop d (j + 1))), .int (nI j)]) (rest := [.long (lN b)]) (st1 := [.long (lN (ch (gtop d (j + 1)) j)), .long (lN b)]) miX0_binomial msX0_binomial (c_binomial l (a := gtop d (j + 1)) (b := j) (by omega) (by omega) (by omega)) hw_3_79 rfl ⟨by decide, by decide, rfl, rfl, by decide, by decide⟩ rfl (Nat.le_of_ble_eq_true rfl) dX0_leastShadow_32 rfl ?_
        refine r_ladd C (v := (lN (b + (ch (gtop d (j + 1)) j)))) dX0_leastShadow_35 (lN_add _ _) ?_
        refine r_lstore_n C (lv' := [(3, .long (lN (b + (ch (gtop d (j + 1)) j)))), (6, .int (nI (gtop d (j + 1)))), (5, .int (nI (j + 1))), (2, .int (nI d)), (0, .int (nI m)), (1, .int (nI k))]) 3 dX0_leastShadow_36 rfl (by decide) rfl ?_
        refine r_iload_n C dX0_leastShadow_37 3 rfl ?_
        refine r_iload C dX0_leastShadow_38 1 rfl ?_
        refine r_iload C dX0_leastShadow_40 2 rfl ?_
        refine r_callP C (As := [.int (nI (gtop d (j + 1))), .int (nI (j + 1))]) (rest := [.int (nI d)]) (st1 := [.long (lN (ch (gtop d (j + 1)) (j + 1))), .int (nI d)]) miX0_binomial msX0_binomial (c_binomial l (a := gtop d (j + 1)) (b := (j + 1)) (by omega) (by omega) (by omega)) hw_3_79 rfl ⟨by decide, by decide, rfl, rfl, by decide, by decide⟩ rfl (Nat.le_of_ble_eq_true rfl) dX0_leastShadow_42 rfl ?_
        refine r_l2i C (v := (nI (ch (gtop d (j + 1)) (j + 1)))) dX0_leastShadow_45 (lN_i _) ?_
        refine r_isub C (v := (nI (d - (ch (gtop d (j + 1)) (j + 1))))) dX0_leastShadow_46 (pk_sub (by omega)) ?_
        refine r_istore_n C (lv' := [(2, .int (nI (d - (ch (gtop d (j + 1)) (j + 1))))), (3, .long (lN (b + (ch (gtop d (j + 1)) j)))), (6, .int (nI (gtop d (j + 1)))), (5, .int (nI (j + 1))), (0, .int (nI m)), (1, .int (nI k))]) 2 dX0_leastShadow_47 rfl (by decide) rfl ?_
        refine r_iinc C (v := (nI j)) (lv' := [(5, .int (nI j)), (2, .int (nI (d - (ch (gtop d (j + 1)) (j + 1))))), (3, .long (lN (b + (ch (gtop d (j + 1)) j)))), (6, .int (nI (gtop d (j + 1)))), (0, .int (nI m)), (1, .int (nI k))]) 5 3 dX0_leastShadow_48 rfl (pk_m1 _) (by decide) rfl ?_
        refine r_goto C 7 dX0_leastShadow_51 (by decide) ?_
        refine G_sub (lv' := [(5, .int (nI j)), (3, .long (lN (b + (ch (gtop d (j + 1)) j)))), (2, .int (nI (d - (ch (gtop d (j + 1)) (j + 1))))), (0, .int (nI m)), (1, .int (nI k))]) [0, 2, 1, 4, 5] rfl ?_
        exact ih j (b + ch (gtop d (j + 1)) j) (d - ch (gtop d (j + 1)) (j + 1)) (by omega) (by omega) (by omega) Rr
set_option maxHeartbeats 1000000 in
set_option maxRecDepth 100000 in
theorem c_leastShadow (l : Launch) {m k : Nat} (hm6 : m ≤ 1000000) (hk10 : k ≤ 10) : Cp l yX0_leastShadow cX0_leastShadow 7 (some .int) (rmk 2 46) [.int (nI m), .int (nI k)] (some (.int (nI (lshF k m)))) := by
  refine Cp.of (D := (fun _ => 0, fun _ _ => 0)) (by decide) (Nat.le_of_ble_eq_true rfl) (fun z A C Rr => ?_)
  refine r_iload_n C dX0_leastShadow_0 0 rfl ?_
  refine r_istore_n C (lv' := [(2, .int (nI m)), (0, .int (nI m)), (1, .int (nI k))]) 2 dX0_leastShadow_1 rfl (by decide) rfl ?_
  refine r_lconst C (v := (lN 0)) dX0_leastShadow_2 rfl ?_
  refine r_lstore_n C (lv' := [(3, .long (lN 0)), (2, .int (nI m)), (0, .int (nI m)), (1, .int (nI k))]) 3 dX0_leastShadow_3 rfl (by decide) rfl ?_
  refine r_iload_n C dX0_leastShadow_4 3 rfl ?_
  refine r_istore C (lv' := [(5, .int (nI k)), (3, .long (lN 0)), (2, .int (nI m)), (0, .int (nI m)), (1, .int (nI k))]) 5 dX0_leastShadow_5 (by decide) rfl ?_
  exact lp_leastShadow C (m := m) (k := k) (k + 1) k 0 m (by omega) (by omega) hm6 (by rw [Nat.zero_add]; exact Rr)
set_option maxHeartbeats 1000000 in
set_option maxRecDepth 100000 in
theorem lp_greatestDivisor {z : Zt} {A : Nat → Prop} {l : Launch} {D : va_G} (C : Cx z A l (rmk 0 0) cX0_greatestDivisor 11 "SetFamilies$Colex") {x y : Nat} : ∀ (n_ : Nat) (k a b : Nat), 1000 - k < n_ → k ≤ 1000 → a < 2 ^ 63 → b < 2 ^ 63 → Rp z A (some .long) (some (.long (lN (gdF (1000 - k) a b)))) → G z D A 11 [] 0 0 9 [(8, .int (nI k)), (6, .long (lN b)), (4, .long (lN a)), (0, .long (lN x)), (2, .long (lN y))] [] := by
  intro n_
  induction n_ with
  | zero => intro k a b hm_; exact absurd hm_ (Nat.not_lt_zero _)
  | succ n_ ih =>
    intro k a b hm_ hk ha hb Rr
    refine r_iload C dX0_greatestDivisor_9 0 rfl ?_
    refine r_sipush C (v := (nI 1000)) dX0_greatestDivisor_11 (by decide) ?_
    refine r_icmp_ge C 45 dX0_greatestDivisor_14 (by decide) (nI_leI (by omega) (by omega)) (fun h14 => ?_) (fun h14 => ?_)
    · rw [show 1000 - k = 0 by omega, gdF] at Rr
      refine r_lload C dX0_greatestDivisor_45 2 rfl ?_
      exact p_lret C dX0_greatestDivisor_47 Rr
    · rw [show 1000 - k = (1000 - (k + 1)) + 1 by omega, gdF] at Rr
      refine r_lload C dX0_greatestDivisor_17 1 rfl ?_
      refine r_lconst C (v := (lN 0)) dX0_greatestDivisor_19 rfl ?_
      refine r_lcmp C dX0_greatestDivisor_20 ?_
      refine r_if_eq C 45 dX0_greatestDivisor_21 (by decide) ((lgc_eq _ _).trans (pk_lEQ (by omega) (by omega))) (fun h21 => ?_) (fun h21 => ?_)
      · rw [if_pos h21] at Rr
        refine r_lload C dX0_greatestDivisor_45 2 rfl ?_
        exact p_lret C dX0_greatestDivisor_47 Rr
      · rw [if_neg h21] at Rr
        refine r_lload C dX0_greatestDivisor_24 2 rfl ?_
        refine r_lload C dX0_greatestDivisor_26 1 rfl ?_
        refine r_lrem C (v := (lN (a % b))) dX0_greatestDivisor_28 (fun q => h21 ((pk_lEQ (b := 0) (by omega) (by decide)).mp q)) (pk_lRem (by omega) (by omega) (by omega)) ?_
        refine r_lstore C (lv' := [(9, .long (lN (a % b))), (8, .int (nI k)), (6, .long (lN b)), (4, .long (lN a)), (0, .long (lN x)), (2, .long (lN y))]) 9 dX0_greatestDivisor_29 (by decide) rfl ?_
        refine r_lload C dX0_greatestDivisor_31 2 rfl ?_
        refine r_lstore C (lv' := [(4, .long (lN b)), (9, .long (lN (a % b))), (8, .int (nI k)), (6, .long (lN b)), (0, .long (lN x)), (2, .long (lN y))]) 4 dX0_greatestDivisor_33 (by decide) rfl ?_
        refine r_lload C dX0_greatestDivisor_35 1 rfl ?_
        refine r_lstore C (lv' := [(6, .long (lN (a % b))), (4, .long (lN b)), (9, .long (lN (a % b))), (8, .int (nI k)), (0, .long (lN x)), (2, .long (lN y))]) 6 dX0_greatestDivisor_37 (by decide) rfl ?_
        refine r_iinc C (v := (nI (k + 1))) (lv' := [(8, .int (nI (k + 1))), (6, .long (lN (a % b))), (4, .long (lN b)), (9, .long (lN (a % b))), (0, .long (lN x)), (2, .long (lN y))]) 8 3 dX0_greatestDivisor_39 rfl (inc_N _ 1) (by decide) rfl ?_
        refine r_goto C 9 dX0_greatestDivisor_42 (by decide) ?_
        refine G_sub (lv' := [(8, .int (nI (k + 1))), (6, .long (lN (a % b))), (4, .long (lN b)), (0, .long (lN x)), (2, .long (lN y))]) [0, 1, 2, 4, 5] rfl ?_
        exact ih (k + 1) b (a % b) (by omega) (by omega) hb (Nat.lt_trans (Nat.mod_lt _ (by omega)) hb) Rr
set_option maxHeartbeats 1000000 in
set_option maxRecDepth 100000 in
theorem c_greatestDivisor (l : Launch) {x y : Nat} (hx : x < 2 ^ 63) (hy : y < 2 ^ 63) : Cp l yX0_greatestDivisor cX0_greatestDivisor 11 (some .long) (rmk 0 0) [.long (lN x), .long (lN y)] (some (.long (lN (gdF 1000 x y)))) := by
  refine Cp.of (D := (fun _ => 0, fun _ _ => 0)) (by decide) (Nat.le_of_ble_eq_true rfl) (fun z A C Rr => ?_)
  refine r_lload_n C dX0_greatestDivisor_0 0 rfl ?_
  refine r_lstore C (lv' := [(4, .long (lN x)), (0, .long (lN x)), (2, .long (lN y))]) 4 dX0_greatestDivisor_1 (by decide) rfl ?_
  refine r_lload_n C dX0_greatestDivisor_3 2 rfl ?_
  refine r_lstore C (lv' := [(6, .long (lN y)), (4, .long (lN x)), (0, .long (lN x)), (2, .long (lN y))]) 6 dX0_greatestDivisor_4 (by decide) rfl ?_
  refine r_iconst C (v := (nI 0)) dX0_greatestDivisor_6 rfl ?_
  refine r_istore C (lv' := [(8, .int (nI 0)), (6, .long (lN y)), (4, .long (lN x)), (0, .long (lN x)), (2, .long (lN y))]) 8 dX0_greatestDivisor_7 (by decide) rfl ?_
  exact lp_greatestDivisor C (x := x) (y := y) 1001 0 x y (by decide) (by decide) hx hy Rr
set_option maxHeartbeats 1000000 in
set_option maxRecDepth 100000 in
theorem lp_setOf {z : Zt} {A : Nat → Prop} {l : Launch} {D : va_G} (C : Cx z A l (rmk 1 24) cX0_setOf 9 "SetFamilies$Colex") {k r : Nat} : ∀ (n_ : Nat) (y d e u : Nat), y < n_ → y ≤ 10 → e ≤ 10 → d < 2 ^ 31 → Rp z A (some .int) (some (.int (nI (soF y e d u)))) → G z D A 9 [] 0 0 26 [(6, .int (pI y)), (4, .long (lN d)), (3, .int (nI e)), (2, .int (nI u)), (0, .int (nI k)), (1, .int (nI r))] [] := by
  intro n_
  induction n_ with
  | zero => intro y d e u hm_; exact absurd hm_ (Nat.not_lt_zero _)
  | succ n_ ih =>
    intro y d e u hm_ hy he hd Rr
    refine r_iload C dX0_setOf_26 0 rfl ?_
    refine r_if_lt C 74 dX0_setOf_28 (by decide) (pI_lt (by omega)) (fun h28 => ?_) (fun h28 => ?_)
    · subst h28
      rw [soF] at Rr
      refine r_iload_n C dX0_setOf_74 3 rfl ?_
      exact p_iret C dX0_setOf_75 Rr
    · obtain ⟨x, rfl⟩ : ∃ x, y = x + 1 := ⟨y - 1, by omega⟩
      rw [soF] at Rr
      rw [pI_s]
      refine r_iload_n C dX0_setOf_31 2 rfl ?_
      refine r_if_le C 74 dX0_setOf_32 (by decide) (zI_le (by omega)) (fun h32 => ?_) (fun h32 => ?_)
      · rw [if_pos h32] at Rr
        refine r_iload_n C dX0_setOf_74 3 rfl ?_
        exact p_iret C dX0_setOf_75 Rr
      · rw [if_neg h32] at Rr
        refine r_iload C dX0_setOf_35 0 rfl ?_
        refine r_iload_n C dX0_setOf_37 2 rfl ?_
        refine r_callP C (As := [.int (nI x), .int (nI e)]) (rest := []) (st1 := [.long (lN (ch x e))]) miX0_binomial msX0_binomial (c_binomial l (a := x) (b := e) (by omega) (by omega) (by have := ch10 x (by omega) e (by omega); omega)) hw_3_79 rfl ⟨by decide, by decide, rfl, rfl, by decide, by decide⟩ rfl (Nat.le_of_ble_eq_true rfl) dX0_setOf_38 rfl ?_
        have hch := ch10 x (by omega) e (by omega)
        refine r_lstore C (lv' := [(7, .long (lN (ch x e))), (6, .int (nI x)), (4, .long (lN d)), (3, .int (nI e)), (2, .int (nI u)), (0, .int (nI k)), (1, .int (nI r))]) 7 dX0_setOf_41 (by decide) rfl ?_
        refine r_lload C dX0_setOf_43 0 rfl ?_
        refine r_lload C dX0_setOf_45 2 rfl ?_
        refine r_lcmp C dX0_setOf_47 ?_
        refine r_if_gt C 68 dX0_setOf_48 (by decide) ((lgc_gt _ _).trans (pk_lLT (by omega) (by omega))) (fun h48 => ?_) (fun h48 => ?_)
        · rw [if_neg (by omega)] at Rr
          refine r_iinc C (v := (pI x)) (lv' := [(6, .int (pI x)), (7, .long (lN (ch x e))), (4, .long (lN d)), (3, .int (nI e)), (2, .int (nI u)), (0, .int (nI k)), (1, .int (nI r))]) 6 1 dX0_setOf_68 rfl (pI_d x) (by decide) rfl ?_
          refine r_goto C 26 dX0_setOf_71 (by decide) ?_
          refine G_sub (lv' := [(6, .int (pI x)), (4, .long (lN d)), (3, .int (nI e)), (2, .int (nI u)), (0, .int (nI k)), (1, .int (nI r))]) [0, 2, 3, 4, 5, 6] rfl ?_
          exact ih x d e u (by omega) (by omega) (by omega) (by omega) Rr
        · rw [if_pos (by omega)] at Rr
          refine r_lload C dX0_setOf_51 2 rfl ?_
          refine r_lload C dX0_setOf_53 0 rfl ?_
          refine r_lsub C (v := (lN (d - ch x e))) dX0_setOf_55 (lN_sub (by omega)) ?_
          refine r_lstore C (lv' := [(4, .long (lN (d - ch x e))), (7, .long (lN (ch x e))), (6, .int (nI x)), (3, .int (nI e)), (2, .int (nI u)), (0, .int (nI k)), (1, .int (nI r))]) 4 dX0_setOf_56 (by decide) rfl ?_
          refine r_iload_n C dX0_setOf_58 4 rfl ?_
          refine r_iconst C (v := (nI 1)) dX0_setOf_59 rfl ?_
          refine r_iload C dX0_setOf_60 2 rfl ?_
          refine r_ishl C (v := (nI (2 ^ x))) dX0_setOf_62 (nshl1 (by omega)) ?_
          refine r_ior C (v := (nI (u ||| (2 ^ x)))) dX0_setOf_63 (nor _ _) ?_
          refine r_istore_n C (lv' := [(2, .int (nI (u ||| (2 ^ x)))), (4, .long (lN (d - ch x e))), (7, .long (lN (ch x e))), (6, .int (nI x)), (3, .int (nI e)), (0, .int (nI k)), (1, .int (nI r))]) 2 dX0_setOf_64 rfl (by decide) rfl ?_
          refine r_iinc C (v := (nI (e - 1))) (lv' := [(3, .int (nI (e - 1))), (2, .int (nI (u ||| (2 ^ x)))), (4, .long (lN (d - ch x e))), (7, .long (lN (ch x e))), (6, .int (nI x)), (0, .int (nI k)), (1, .int (nI r))]) 3 4 dX0_setOf_65 rfl (dec1 (by omega)) (by decide) rfl ?_
          refine r_iinc C (v := (pI x)) (lv' := [(6, .int (pI x)), (3, .int (nI (e - 1))), (2, .int (nI (u ||| (2 ^ x)))), (4, .long (lN (d - ch x e))), (7, .long (lN (ch x e))), (0, .int (nI k)), (1, .int (nI r))]) 6 4 dX0_setOf_68 rfl (pI_d x) (by decide) rfl ?_
          refine r_goto C 26 dX0_setOf_71 (by decide) ?_
          refine G_sub (lv' := [(6, .int (pI x)), (4, .long (lN (d - ch x e))), (3, .int (nI (e - 1))), (2, .int (nI (u ||| (2 ^ x)))), (0, .int (nI k)), (1, .int (nI r))]) [0, 3, 1, 2, 5, 6] rfl ?_
          exact ih x (d - ch x e) (e - 1) (u ||| 2 ^ x) (by omega) (by omega) (by omega) (by omega) Rr
set_option maxHeartbeats 1000000 in
set_option maxRecDepth 100000 in
theorem c_setOf (l : Launch) {k r : Nat} (hk10 : k ≤ 10) (hr : r < 2 ^ 31) : Cp l yX0_setOf cX0_setOf 9 (some .int) (rmk 1 24) [.int (nI k), .int (nI r)] (some (.int (if r < ch 10 k then nI (soF 10 k r 0) else (-1)))) := by
  refine Cp.of (D := (fun _ => 0, fun _ _ => 0)) (by decide) (Nat.le_of_ble_eq_true rfl) (fun z A C Rr => ?_)
  refine r_iload_n C dX0_setOf_0 1 rfl ?_
  refine r_i2l C (v := (lN r)) dX0_setOf_1 (nI_l (by omega)) ?_
  refine r_bipush C (v := (nI 10)) dX0_setOf_2 (by decide) ?_
  refine r_iload_n C dX0_setOf_4 0 rfl ?_
  refine r_callP C (As := [.int (nI 10), .int (nI k)]) (rest := [.long (lN r)]) (st1 := [.long (lN (ch 10 k)), .long (lN r)]) miX0_binomial msX0_binomial (c_binomial l (a := 10) (b := k) (by omega) (by omega) (by have := ch10 10 (by omega) k (by omega); omega)) hw_3_79 rfl ⟨by decide, by decide, rfl, rfl, by decide, by decide⟩ rfl (Nat.le_of_ble_eq_true rfl) dX0_setOf_5 rfl ?_
  have hch := ch10 10 (by omega) k (by omega)
  refine r_lcmp C dX0_setOf_8 ?_
  refine r_if_lt C 14 dX0_setOf_9 (by decide) ((lgc_lt _ _).trans (pk_lLT (by omega) (by omega))) (fun h9 => ?_) (fun h9 => ?_)
  · rw [if_pos h9] at Rr
    refine r_iconst C (v := (nI 0)) dX0_setOf_14 rfl ?_
    refine r_istore_n C (lv' := [(2, .int (nI 0)), (0, .int (nI k)), (1, .int (nI r))]) 2 dX0_setOf_15 rfl (by decide) rfl ?_
    refine r_iload_n C dX0_setOf_16 1 rfl ?_
    refine r_istore_n C (lv' := [(3, .int (nI k)), (2, .int (nI 0)), (0, .int (nI k)), (1, .int (nI r))]) 3 dX0_setOf_17 rfl (by decide) rfl ?_
    refine r_iload_n C dX0_setOf_18 3 rfl ?_
    refine r_i2l C (v := (lN r)) dX0_setOf_19 (nI_l (by omega)) ?_
    refine r_lstore C (lv' := [(4, .long (lN r)), (3, .int (nI k)), (2, .int (nI 0)), (0, .int (nI k)), (1, .int (nI r))]) 4 dX0_setOf_20 (by decide) rfl ?_
    refine r_bipush C (v := (nI 9)) dX0_setOf_22 (by decide) ?_
    refine r_istore C (lv' := [(6, .int (nI 9)), (4, .long (lN r)), (3, .int (nI k)), (2, .int (nI 0)), (0, .int (nI k)), (1, .int (nI r))]) 6 dX0_setOf_24 (by decide) rfl ?_
    exact lp_setOf C (k := k) (r := r) 11 10 r k 0 (by decide) (by decide) (by omega) (by omega) Rr
  · rw [if_neg h9] at Rr
    refine r_iconst C (v := (-1)) dX0_setOf_12 rfl ?_
    exact p_iret C dX0_setOf_13 Rr
