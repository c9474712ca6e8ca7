theorem gdF_gcd : ∀ r a b, b < r → gdF r a b = Nat.gcd a b
  | 0, _, _, h => absurd h (Nat.not_lt_zero _)
  | r + 1, a, b, h => by
    rw [gdF]
    by_cases q : b = 0
    · rw [if_pos q, q, Nat.gcd_zero_right]
    · have hm := Nat.mod_lt a (show b > 0 by omega)
      rw [if_neg q, gdF_gcd r b (a % b) (by omega), Nat.gcd_comm a b, Nat.gcd_rec b a, Nat.gcd_comm]
def ctK (k s : Nat) : Nat := if b10 s = k then 1 else 0
theorem ctK_ch : ∀ n, n < 11 → ∀ k, k < 11 → sm (ctK k) (2 ^ n) ≤ ch n k := by decide +kernel
theorem sm_mono {f g : Nat → Nat} (h : ∀ i, f i ≤ g i) : ∀ n, sm f n ≤ sm g n
  | 0 => Nat.le_refl _
  | n + 1 => Nat.add_le_add (sm_mono h n) (h n)
theorem szK (F : Nat → Bool) (f : Nat) {n k : Nat} (hn : n ≤ 10) (hk : k ≤ n) : szF F f (nI k) (2 ^ n) ≤ ch n k := by
  refine Nat.le_trans (sm_mono (g := ctK k) (fun i => ?_) _) (ctK_ch n (by omega) k (by omega))
  unfold szc ctK
  by_cases q : F (1024 * f + i) = true ∧ (nI k = -1 ∨ nI (b10 i) = nI k)
  · have hb := b10_lt i
    rw [if_pos q, if_pos]
    · exact Nat.le_refl _
    · rcases q.2 with h | h
      · exact absurd h (m1_ne k (by omega))
      · exact (nI_eq (by omega) (by omega)).mp h
  · rw [if_neg q]; exact Nat.zero_le _
def wgP (n : Nat) : Nat → Nat
  | 0 => 1
  | k + 1 => wgP n k * ch n k
theorem wgP_le : ∀ n, n < 11 → ∀ k, k < 12 → wgP n k ≤ 2 ^ 56 := by decide +kernel
def wgU (F : Nat → Bool) (f n k u d : Nat) : Nat := u * ch n k + szF F f (nI k) (2 ^ n) * d
def wgF (F : Nat → Bool) (f n : Nat) : Nat → Nat × Nat
  | 0 => (0, 1)
  | k + 1 => let u := wgU F f n k (wgF F f n k).1 (wgF F f n k).2; let d := (wgF F f n k).2 * ch n k; (u / Nat.gcd d u, d / Nat.gcd d u)
theorem wgF_step {F : Nat → Bool} {f n k u d : Nat} (hw : wgF F f n k = (u, d)) : wgF F f n (k + 1) = (wgU F f n k u d / Nat.gcd (d * ch n k) (wgU F f n k u d), d * ch n k / Nat.gcd (d * ch n k) (wgU F f n k u d)) := by rw [wgF, hw]
theorem wgU_le {F : Nat → Bool} {f n k u d : Nat} (hn : n ≤ 10) (hk : k ≤ n) (h3 : u ≤ k * d) : wgU F f n k u d ≤ (k + 1) * (d * ch n k) := by
  have h1 : u * ch n k ≤ k * d * ch n k := Nat.mul_le_mul_right _ h3
  have h2 : szF F f (nI k) (2 ^ n) * d ≤ ch n k * d := Nat.mul_le_mul_right _ (szK F f hn hk)
  unfold wgU
  rw [Nat.succ_mul, ← Nat.mul_assoc, Nat.mul_comm d (ch n k)]
  exact Nat.add_le_add h1 h2
theorem wgF_ok (F : Nat → Bool) (f : Nat) {n : Nat} (hn : n ≤ 10) : ∀ k, k ≤ n + 1 → ∀ u d, wgF F f n k = (u, d) → 1 ≤ d ∧ d ≤ wgP n k ∧ u ≤ k * d
  | 0, _, u, d, e => by cases e; exact ⟨Nat.le_refl _, Nat.le_refl _, Nat.le_refl _⟩
  | k + 1, h, u, d, e => by
    obtain ⟨i1, i2, i3⟩ := wgF_ok F f hn k (by omega) (wgF F f n k).1 (wgF F f n k).2 rfl
    have hU := wgU_le (F := F) (f := f) hn (show k ≤ n by omega) i3
    rw [wgF_step rfl] at e
    have hc : 0 < ch n k := ch_pos (by omega)
    have hD : 0 < (wgF F f n k).2 * ch n k := Nat.mul_pos i1 hc
    have hP : (wgF F f n k).2 * ch n k ≤ wgP n (k + 1) := Nat.mul_le_mul_right _ i2
    generalize (wgF F f n k).2 * ch n k = D at e hU hD hP
    generalize wgU F f n k (wgF F f n k).1 (wgF F f n k).2 = U at e hU
    cases e
    refine ⟨Nat.div_pos (Nat.gcd_le_left U hD) (Nat.gcd_pos_of_pos_left _ hD), Nat.le_trans (Nat.div_le_self _ _) hP, ?_⟩
    rw [← Nat.mul_div_assoc _ (Nat.gcd_dvd_left D U)]
    exact Nat.div_le_div_right hU
def mW (μ : Mm) (u d : Nat) : Mm := sL (sL μ 0 (lN u)) 1 (lN d)
theorem gL_mW0 (μ : Mm) (u d : Nat) : gL (mW μ u d) 0 = lN u := (gL_n _ _ (by decide)).trans (gL_s _ _ _)
theorem gL_mW1 (μ : Mm) (u d : Nat) : gL (mW μ u d) 1 = lN d := gL_s _ _ _
theorem gL_mW (μ : Mm) (u d : Nat) {k : Nat} (h : k ≠ 0 ∧ k ≠ 1) : gL (mW μ u d) k = gL μ k := (gL_n _ _ h.2).trans (gL_n _ _ h.1)
theorem gI_mW (μ : Mm) (u d k : Nat) : gI (mW μ u d) k = gI μ k := rfl
theorem gA_mW (μ : Mm) (u d k : Nat) : gA (mW μ u d) k = gA μ k := rfl
theorem mW_0 (μ : Mm) (u d v : Nat) : sL (mW μ u d) 0 (lN v) = mW μ v d := by unfold mW; rw [sL_c _ _ _ (by decide), sL_u]
theorem mW_1 (μ : Mm) (u d v : Nat) : sL (mW μ u d) 1 (lN v) = mW μ u v := sL_u _ _ _ _
set_option maxHeartbeats 1000000 in
set_option maxRecDepth 100000 in
theorem lp_weighs {z : Zt} {A : Nat → Prop} {l : Launch} {g : Gd} {μ : Mm} (C : Cx z A l (rmk 2 46) cX11_weighs 7 "SetFamiliesModel") (X : Kx z g A) {F : Nat → Bool} {n f : Nat} (h6 : gI μ 6 = nI n) (hn10 : n ≤ 10) (h5 : gA μ 5 = bR F) (hf : f < 4) (Rr : Rx z g A none none (mW μ (wgF F f n (n + 1)).1 (wgF F f n (n + 1)).2)) : ∀ (n_ : Nat) (k : Nat) (u : Nat) (d : Nat), n + 1 - k < n_ → k ≤ n + 1 → wgF F f n k = (u, d) → G z g.1 A 7 (wd g (mW μ u d)) 0 0 12 [(2, .int (nI k)), (0, .ref (ad g 19)), (1, .int (nI f))] [] := by
  intro n_
  induction n_ with
  | zero => intro k u d hm_; exact absurd hm_ (Nat.not_lt_zero _)
  | succ n_ ih =>
    intro k u d hm_ hk hw
    refine r_iload_n C dX11_weighs_12 0 rfl ?_
    refine r_aload_n C dX11_weighs_13 1 rfl ?_
    refine r_get C X (k := 19) (R := RX11) (T := TX11) (N := 15) (n := 1) (v := .int (gI (mW μ u d) 6)) (by decide) rfl rfl inw11 (by decide) rfl hw_5_19 rfl dX11_weighs_14 ?_
    refine G_top (y := (nI n)) ((gI_mW _ _ _ _).trans h6) ?_
    refine r_icmp_gt C 103 dX11_weighs_17 (by decide) (nI_ltI (by omega) (by omega)) (fun h17 => ?_) (fun h17 => ?_)
    · have hk2 : k = n + 1 := by omega
      subst hk2
      rw [hw] at Rr
      exact r_vret C dX11_weighs_103 Rr
    · have h1024 := pw10 hn10
      have hkn : k ≤ n := by omega
      have hch := ch20 n (by omega) k (by omega)
      obtain ⟨i1, i2, i3⟩ := wgF_ok F f hn10 k hk u d hw
      have hU := wgU_le (F := F) (f := f) hn10 hkn i3
      have hc : 0 < ch n k := ch_pos (by omega)
      have hD : 0 < d * ch n k := Nat.mul_pos i1 hc
      have hP : d * ch n k ≤ wgP n (k + 1) := Nat.mul_le_mul_right _ i2
      have hP2 := wgP_le n (by omega) (k + 1) (by omega)
      have hU2 : (k + 1) * (d * ch n k) ≤ 11 * (d * ch n k) := Nat.mul_le_mul_right _ (by omega)
      have hg1 := Nat.gcd_le_left (wgU F f n k u d) hD
      have hg2 := Nat.gcd_pos_of_pos_left (wgU F f n k u d) hD
      have hszl := szF_le F f (nI k) (2 ^ n)
      refine r_aload_n C dX11_weighs_20 1 rfl ?_
      refine r_get C X (k := 19) (R := RX11) (T := TX11) (N := 15) (n := 1) (v := .int (gI (mW μ u d) 6)) (by decide) rfl rfl inw11 (by decide) rfl hw_5_19 rfl dX11_weighs_21 ?_
      refine G_top (y := (nI n)) ((gI_mW _ _ _ _).trans h6) ?_
      refine r_iload_n C dX11_weighs_24 0 rfl ?_
      refine r_callP C (As := [.int (nI n), .int (nI k)]) (rest := []) (st1 := [.long (lN (ch n k))]) miX11_over msX11_over (c_over l (a := n) (b := k) (by omega) (by omega) (ov_le (by omega) (by omega) (by omega))) hw_5_202 rfl ⟨by decide, by decide, rfl, rfl, by decide, by decide⟩ rfl (Nat.le_of_ble_eq_true rfl) dX11_weighs_25 rfl ?_
      refine r_lstore_n C (lv' := [(3, .long (lN (ch n k))), (2, .int (nI k)), (0, .ref (ad g 19)), (1, .int (nI f))]) 3 dX11_weighs_28 rfl (by decide) rfl ?_
      refine r_aload_n C dX11_weighs_29 2 rfl ?_
      refine r_aload_n C dX11_weighs_30 2 rfl ?_
      refine r_get C X (k := 19) (R := RX11) (T := TX11) (N := 15) (n := 9) (v := .long (gL (mW μ u d) 0)) (by decide) rfl rfl inw11 (by decide) rfl hw_5_27 rfl dX11_weighs_31 ?_
      refine G_topl (y := (lN u)) (gL_mW0 _ _ _) ?_
      refine r_lload_n C dX11_weighs_34 0 rfl ?_
      refine r_lmul C (v := (lN (u * (ch n k)))) dX11_weighs_35 (lN_mul _ _) ?_
      refine r_aload_n C dX11_weighs_36 2 rfl ?_
      refine r_iload_n C dX11_weighs_37 3 rfl ?_
      refine r_iload_n C dX11_weighs_38 1 rfl ?_
      refine r_callV C X (As := [.int (nI f), .int (nI k)]) (rest := [.long (lN (u * (ch n k))), .ref (ad g 19)]) (st1 := [.int (nI (szF F f (nI k) (2 ^ n))), .long (lN (u * (ch n k))), .ref (ad g 19)]) (μ' := (mW μ u d)) (k := 19) (T := TX11) miX11_sizeOf mvX11_sizeOf (c_sizeOf l g (mW μ u d) (F := F) (n := n) (f := f) ((gI_mW _ _ _ _).trans h6) (by omega) ((gA_mW _ _ _ _).trans h5) (by omega) (nI k)) hw_5_119 (by decide) rfl rfl rfl ⟨by decide, by decide, rfl, rfl, by decide, by decide⟩ rfl (Nat.le_of_ble_eq_true rfl) dX11_weighs_39 rfl ?_
      refine r_i2l C (v := (lN (szF F f (nI k) (2 ^ n)))) dX11_weighs_42 (nI_l (by omega)) ?_
      refine r_aload_n C dX11_weighs_43 2 rfl ?_
      refine r_get C X (k := 19) (R := RX11) (T := TX11) (N := 15) (n := 10) (v := .long (gL (mW μ u d) 1)) (by decide) rfl rfl inw11 (by decide) rfl hw_5_28 rfl dX11_weighs_44 ?_
      refine G_topl (y := (lN d)) (gL_mW1 _ _ _) ?_
      refine r_lmul C (v := (lN ((szF F f (nI k) (2 ^ n)) * d))) dX11_weighs_47 (lN_mul _ _) ?_
      refine r_ladd C (v := (lN (u * (ch n k) + ((szF F f (nI k) (2 ^ n)) * d)))) dX11_weighs_48 (lN_add _ _) ?_
      refine G_topl (y := (lN (wgU F f n k u d))) rfl ?_
      refine r_put C X (μ' := (sL (mW μ u d) 0 (lN (wgU F f n k u d)))) (k := 19) (R := RX11) (T := TX11) (N := 15) (n := 9) (v := .long (lN (wgU F f n k u d))) (ty := .long) (by decide) rfl rfl inw11 tyX11_ok nmX11 (by decide) rfl hw_5_27 rfl rfl rfl rfl (Nat.le_of_ble_eq_true rfl) dX11_weighs_49 (WF_sL0_at g _ _) (WF_sL0_ne g _ _) ?_
      refine G_mem (μ' := (mW μ (wgU F f n k u d) d)) (mW_0 _ _ _ _) ?_
      refine r_aload_n C dX11_weighs_52 2 rfl ?_
      refine r_aload_n C dX11_weighs_53 2 rfl ?_
      refine r_get C X (k := 19) (R := RX11) (T := TX11) (N := 15) (n := 10) (v := .long (gL (mW μ (wgU F f n k u d) d) 1)) (by decide) rfl rfl inw11 (by decide) rfl hw_5_28 rfl dX11_weighs_54 ?_
      refine G_topl (y := (lN d)) (gL_mW1 _ _ _) ?_
      refine r_lload_n C dX11_weighs_57 0 rfl ?_
      refine r_lmul C (v := (lN (d * (ch n k)))) dX11_weighs_58 (lN_mul _ _) ?_
      refine r_put C X (μ' := (sL (mW μ (wgU F f n k u d) d) 1 (lN (d * (ch n k))))) (k := 19) (R := RX11) (T := TX11) (N := 15) (n := 10) (v := .long (lN (d * (ch n k)))) (ty := .long) (by decide) rfl rfl inw11 tyX11_ok nmX11 (by decide) rfl hw_5_28 rfl rfl rfl rfl (Nat.le_of_ble_eq_true rfl) dX11_weighs_59 (WF_sL1_at g _ _) (WF_sL1_ne g _ _) ?_
      refine G_mem (μ' := (mW μ (wgU F f n k u d) (d * ch n k))) (mW_1 _ _ _ _) ?_
      refine r_aload_n C dX11_weighs_62 2 rfl ?_
      refine r_get C X (k := 19) (R := RX11) (T := TX11) (N := 15) (n := 10) (v := .long (gL (mW μ (wgU F f n k u d) (d * ch n k)) 1)) (by decide) rfl rfl inw11 (by decide) rfl hw_5_28 rfl dX11_weighs_63 ?_
      refine G_topl (y := (lN (d * ch n k))) (gL_mW1 _ _ _) ?_
      refine r_aload_n C dX11_weighs_66 2 rfl ?_
      refine r_get C X (k := 19) (R := RX11) (T := TX11) (N := 15) (n := 9) (v := .long (gL (mW μ (wgU F f n k u d) (d * ch n k)) 0)) (by decide) rfl rfl inw11 (by decide) rfl hw_5_27 rfl dX11_weighs_67 ?_
      refine G_topl (y := (lN (wgU F f n k u d))) (gL_mW0 _ _ _) ?_
      refine r_callP C (As := [.long (lN (d * ch n k)), .long (lN (wgU F f n k u d))]) (rest := []) (st1 := [.long (lN (gdF ((wgU F f n k u d) + 1) (d * ch n k) (wgU F f n k u d)))]) miX11_divisor msX11_divisor (c_divisor l (x := d * ch n k) (y := wgU F f n k u d) (by omega) (by omega)) hw_6_20 rfl ⟨by decide, by decide, rfl, rfl, by decide, by decide⟩ rfl (Nat.le_of_ble_eq_true rfl) dX11_weighs_70 rfl ?_
      refine G_topl (y := (lN (Nat.gcd (d * ch n k) (wgU F f n k u d)))) (congrArg lN (gdF_gcd _ _ _ (Nat.lt_succ_self _))) ?_
      refine r_lstore C (lv' := [(5, .long (lN (Nat.gcd (d * ch n k) (wgU F f n k u d)))), (3, .long (lN (ch n k))), (2, .int (nI k)), (0, .ref (ad g 19)), (1, .int (nI f))]) 5 dX11_weighs_73 (by decide) rfl ?_
      refine r_aload_n C dX11_weighs_75 3 rfl ?_
      refine r_dup C dX11_weighs_76 rfl ?_
      refine r_get C X (k := 19) (R := RX11) (T := TX11) (N := 15) (n := 9) (v := .long (gL (mW μ (wgU F f n k u d) (d * ch n k)) 0)) (by decide) rfl rfl inw11 (by decide) rfl hw_5_27 rfl dX11_weighs_77 ?_
      refine G_topl (y := (lN (wgU F f n k u d))) (gL_mW0 _ _ _) ?_
      refine r_lload C dX11_weighs_80 0 rfl ?_
      refine r_ldiv C (v := (lN (wgU F f n k u d / Nat.gcd (d * ch n k) (wgU F f n k u d)))) dX11_weighs_82 (fun q => by have := (pk_lEQ (b := 0) (by omega) (by decide)).mp q; omega) (pk_lDiv (by omega) (by omega) (by omega)) ?_
      refine r_put C X (μ' := (sL (mW μ (wgU F f n k u d) (d * ch n k)) 0 (lN (wgU F f n k u d / Nat.gcd (d * ch n k) (wgU F f n k u d))))) (k := 19) (R := RX11) (T := TX11) (N := 15) (n := 9) (v := .long (lN (wgU F f n k u d / Nat.gcd (d * ch n k) (wgU F f n k u d)))) (ty := .long) (by decide) rfl rfl inw11 tyX11_ok nmX11 (by decide) rfl hw_5_27 rfl rfl rfl rfl (Nat.le_of_ble_eq_true rfl) dX11_weighs_83 (WF_sL0_at g _ _) (WF_sL0_ne g _ _) ?_
      refine G_mem (μ' := (mW μ (wgU F f n k u d / Nat.gcd (d * ch n k) (wgU F f n k u d)) (d * ch n k))) (mW_0 _ _ _ _) ?_
      refine r_aload_n C dX11_weighs_86 3 rfl ?_
      refine r_dup C dX11_weighs_87 rfl ?_
      refine r_get C X (k := 19) (R := RX11) (T := TX11) (N := 15) (n := 10) (v := .long (gL (mW μ (wgU F f n k u d / Nat.gcd (d * ch n k) (wgU F f n k u d)) (d * ch n k)) 1)) (by decide) rfl rfl inw11 (by decide) rfl hw_5_28 rfl dX11_weighs_88 ?_
      refine G_topl (y := (lN (d * ch n k))) (gL_mW1 _ _ _) ?_
      refine r_lload C dX11_weighs_91 0 rfl ?_
      refine r_ldiv C (v := (lN (d * ch n k / Nat.gcd (d * ch n k) (wgU F f n k u d)))) dX11_weighs_93 (fun q => by have := (pk_lEQ (b := 0) (by omega) (by decide)).mp q; omega) (pk_lDiv (by omega) (by omega) (by omega)) ?_
      refine r_put C X (μ' := (sL (mW μ (wgU F f n k u d / Nat.gcd (d * ch n k) (wgU F f n k u d)) (d * ch n k)) 1 (lN (d * ch n k / Nat.gcd (d * ch n k) (wgU F f n k u d))))) (k := 19) (R := RX11) (T := TX11) (N := 15) (n := 10) (v := .long (lN (d * ch n k / Nat.gcd (d * ch n k) (wgU F f n k u d)))) (ty := .long) (by decide) rfl rfl inw11 tyX11_ok nmX11 (by decide) rfl hw_5_28 rfl rfl rfl rfl (Nat.le_of_ble_eq_true rfl) dX11_weighs_94 (WF_sL1_at g _ _) (WF_sL1_ne g _ _) ?_
      refine G_mem (μ' := (mW μ (wgU F f n k u d / Nat.gcd (d * ch n k) (wgU F f n k u d)) (d * ch n k / Nat.gcd (d * ch n k) (wgU F f n k u d)))) (mW_1 _ _ _ _) ?_
      refine r_iinc C (v := (nI (k + 1))) (lv' := [(2, .int (nI (k + 1))), (5, .long (lN (Nat.gcd (d * ch n k) (wgU F f n k u d)))), (3, .long (lN (ch n k))), (0, .ref (ad g 19)), (1, .int (nI f))]) 2 2 dX11_weighs_97 rfl (inc_N _ 1) (by decide) rfl ?_
      refine r_goto C 12 dX11_weighs_100 (by decide) ?_
      refine G_sub (lv' := [(2, .int (nI (k + 1))), (0, .ref (ad g 19)), (1, .int (nI f))]) [0, 3, 4] rfl ?_
      exact ih (k + 1) (wgU F f n k u d / Nat.gcd (d * ch n k) (wgU F f n k u d)) (d * ch n k / Nat.gcd (d * ch n k) (wgU F f n k u d)) (by omega) (by omega) (wgF_step hw)
set_option maxHeartbeats 1000000 in
set_option maxRecDepth 100000 in
theorem c_weighs (l : Launch) (g : Gd) (μ : Mm) {F : Nat → Bool} {n f : Nat} (h6 : gI μ 6 = nI n) (hn10 : n ≤ 10) (h5 : gA μ 5 = bR F) (hf : f < 4) : Ct l yX11_weighs cX11_weighs 7 none (rmk 2 46) g [.ref (ad g 19), .int (nI f)] μ none (mW μ (wgF F f n (n + 1)).1 (wgF F f n (n + 1)).2) := by
  refine Ct.of (by decide) (Nat.le_of_ble_eq_true rfl) (fun z A C X Rr => ?_)
  refine r_aload_n C dX11_weighs_0 0 rfl ?_
  refine r_lconst C (v := (lN 0)) dX11_weighs_1 rfl ?_
  refine r_put C X (μ' := (sL μ 0 (lN 0))) (k := 19) (R := RX11) (T := TX11) (N := 15) (n := 9) (v := .long (lN 0)) (ty := .long) (by decide) rfl rfl inw11 tyX11_ok nmX11 (by decide) rfl hw_5_27 rfl rfl rfl rfl (Nat.le_of_ble_eq_true rfl) dX11_weighs_2 (WF_sL0_at g _ _) (WF_sL0_ne g _ _) ?_
  refine r_aload_n C dX11_weighs_5 0 rfl ?_
  refine r_lconst C (v := (lN 1)) dX11_weighs_6 rfl ?_
  refine r_put C X (μ' := (sL (sL μ 0 (lN 0)) 1 (lN 1))) (k := 19) (R := RX11) (T := TX11) (N := 15) (n := 10) (v := .long (lN 1)) (ty := .long) (by decide) rfl rfl inw11 tyX11_ok nmX11 (by decide) rfl hw_5_28 rfl rfl rfl rfl (Nat.le_of_ble_eq_true rfl) dX11_weighs_7 (WF_sL1_at g _ _) (WF_sL1_ne g _ _) ?_
  refine G_mem (μ' := (mW μ 0 1)) rfl ?_
  refine r_iconst C (v := (nI 0)) dX11_weighs_10 rfl ?_
  refine r_istore_n C (lv' := [(2, .int (nI 0)), (0, .ref (ad g 19)), (1, .int (nI f))]) 2 dX11_weighs_11 rfl (by decide) rfl ?_
  exact lp_weighs C X h6 hn10 h5 hf Rr (n + 2) 0 0 1 (by omega) (by omega) rfl
