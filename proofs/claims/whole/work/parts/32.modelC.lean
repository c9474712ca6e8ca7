/-- the model's state: n, the families, the past, the row 'out' -/
def Mo (μ : Mm) (F P O : Nat → Bool) (n ps : Nat) : Prop := gI μ 6 = nI n ∧ gI μ 7 = nI ps ∧ ps ≤ 4 ∧ gA μ 5 = bR F ∧ gA μ 6 = bR P ∧ gA μ 9 = bR O ∧ 1 ≤ n ∧ n ≤ 10
def szc (F : Nat → Bool) (f : Nat) (lv : Int32) (s : Nat) : Nat := if F (1024 * f + s) = true ∧ (lv = -1 ∨ nI (b10 s) = lv) then 1 else 0
def szF (F : Nat → Bool) (f : Nat) (lv : Int32) : Nat → Nat := sm (szc F f lv)
theorem szF_le (F : Nat → Bool) (f : Nat) (lv : Int32) (k : Nat) : szF F f lv k ≤ k * 1 := sm_le (fun s => by unfold szc; split <;> decide) k
def dgc (F : Nat → Bool) (f x s : Nat) : Nat := if F (1024 * f + s) = true then s / 2 ^ x &&& 1 else 0
def dgF (F : Nat → Bool) (f x : Nat) : Nat → Nat := sm (dgc F f x)
theorem dgF_le (F : Nat → Bool) (f x k : Nat) : dgF F f x k ≤ k * 1 := sm_le (fun s => by unfold dgc; split; exact Nat.and_le_right; decide) k
theorem b10_lt (c : Nat) : b10 c ≤ 10 := by have := b10_le c 10; unfold b10k at this; unfold b10; omega
set_option maxHeartbeats 1000000 in
set_option maxRecDepth 100000 in
theorem lp_sizeOf {z : Zt} {A : Nat → Prop} {l : Launch} {g : Gd} {μ : Mm} (C : Cx z A l (rmk 1 22) cX11_sizeOf 5 "SetFamiliesModel") (X : Kx z g A) {F : Nat → Bool} {n f : Nat} {lv : Int32} (h6 : gI μ 6 = nI n) (hn10 : n ≤ 10) (h5 : gA μ 5 = bR F) (hf : f < 4) (h1024 : 2 ^ n ≤ 1024) (Rr : Rx z g A (some .int) (some (.int (nI (szF F f lv (2 ^ n))))) μ) : ∀ (n_ : Nat) (s : Nat), 2 ^ n - s < n_ → s ≤ 2 ^ n → G z g.1 A 5 (wd g μ) 0 0 5 [(4, .int (nI s)), (3, .int (nI (szF F f lv s))), (0, .ref (ad g 19)), (1, .int (nI f)), (2, .int lv)] [] := by
  intro n_
  induction n_ with
  | zero => intro s hm_; exact absurd hm_ (Nat.not_lt_zero _)
  | succ n_ ih =>
    intro s hm_ hs
    refine r_iload C dX11_sizeOf_5 0 rfl ?_
    refine r_aload_n C dX11_sizeOf_7 2 rfl ?_
    refine r_callV C X (As := []) (rest := [.int (nI s)]) (st1 := [.int (nI (2 ^ n)), .int (nI s)]) (μ' := μ) (k := 19) (T := TX11) miX11_codes mvX11_codes (c_codes l g μ (n := n) h6 (by omega)) hw_5_99 (by decide) rfl rfl rfl ⟨by decide, by decide, rfl, rfl, by decide, by decide⟩ rfl (Nat.le_of_ble_eq_true rfl) dX11_sizeOf_8 rfl ?_
    refine r_icmp_ge C 58 dX11_sizeOf_11 (by decide) (nI_leI (by omega) (by omega)) (fun h11 => ?_) (fun h11 => ?_)
    · have hs2 : s = 2 ^ n := by omega
      subst hs2
      refine r_iload_n C dX11_sizeOf_58 1 rfl ?_
      exact r_iret C dX11_sizeOf_59 Rr
    · have hsz := szF_le F f lv s
      have hb10 := b10_lt s
      refine r_iload_n C dX11_sizeOf_14 1 rfl ?_
      refine r_aload_n C dX11_sizeOf_15 2 rfl ?_
      refine r_get C X (k := 19) (R := RX11) (T := TX11) (N := 15) (n := 2) (v := .ref (ad g 20)) (by decide) rfl rfl inw11 (by decide) rfl hw_5_20 rfl dX11_sizeOf_16 ?_
      refine r_sipush C (v := (nI 1024)) dX11_sizeOf_19 (by decide) ?_
      refine r_iload_n C dX11_sizeOf_22 3 rfl ?_
      refine r_imul C (v := (nI (1024 * f))) dX11_sizeOf_23 (pk_mul _ _) ?_
      refine r_iload C dX11_sizeOf_24 0 rfl ?_
      refine r_iadd C (v := (nI (1024 * f + s))) dX11_sizeOf_26 (nI_add _ _) ?_
      refine r_zald C X (k := 20) (v := (bI (F (1024 * f + s)))) (by decide) rfl (by omega) (by decide) (bR_at h5 _) dX11_sizeOf_27 ?_
      refine r_if_eq C 49 dX11_sizeOf_28 (by decide) (bI_eq _) (fun h28 => ?_) (fun h28 => ?_)
      · refine r_iconst C (v := (nI 0)) dX11_sizeOf_49 rfl ?_
        refine G_top (y := (nI (szc F f lv s))) (by rw [szc, if_neg (fun q => ts_f h28 q.1)]) ?_
        refine r_iadd C (v := (nI (szF F f lv (s + 1)))) dX11_sizeOf_50 (nI_add _ _) ?_
        refine r_istore_n C (lv' := [(3, .int (nI (szF F f lv (s + 1)))), (4, .int (nI s)), (0, .ref (ad g 19)), (1, .int (nI f)), (2, .int lv)]) 3 dX11_sizeOf_51 rfl (by decide) rfl ?_
        refine r_iinc C (v := (nI (s + 1))) (lv' := [(4, .int (nI (s + 1))), (3, .int (nI (szF F f lv (s + 1)))), (0, .ref (ad g 19)), (1, .int (nI f)), (2, .int lv)]) 4 1 dX11_sizeOf_52 rfl (inc_N _ 1) (by decide) rfl ?_
        refine r_goto C 5 dX11_sizeOf_55 (by decide) ?_
        exact ih (s + 1) (by omega) (by omega)
      · refine r_iload_n C dX11_sizeOf_31 4 rfl ?_
        refine r_iconst C (v := (-1)) dX11_sizeOf_32 rfl ?_
        refine r_icmp_eq C 45 dX11_sizeOf_33 (by decide) Iff.rfl (fun h33 => ?_) (fun h33 => ?_)
        · refine r_iconst C (v := (nI 1)) dX11_sizeOf_45 rfl ?_
          refine r_goto C 50 dX11_sizeOf_46 (by decide) ?_
          refine G_top (y := (nI (szc F f lv s))) (by rw [szc, if_pos ⟨ts_t h28, Or.inl h33⟩]) ?_
          refine r_iadd C (v := (nI (szF F f lv (s + 1)))) dX11_sizeOf_50 (nI_add _ _) ?_
          refine r_istore_n C (lv' := [(3, .int (nI (szF F f lv (s + 1)))), (4, .int (nI s)), (0, .ref (ad g 19)), (1, .int (nI f)), (2, .int lv)]) 3 dX11_sizeOf_51 rfl (by decide) rfl ?_
          refine r_iinc C (v := (nI (s + 1))) (lv' := [(4, .int (nI (s + 1))), (3, .int (nI (szF F f lv (s + 1)))), (0, .ref (ad g 19)), (1, .int (nI f)), (2, .int lv)]) 4 1 dX11_sizeOf_52 rfl (inc_N _ 1) (by decide) rfl ?_
          refine r_goto C 5 dX11_sizeOf_55 (by decide) ?_
          exact ih (s + 1) (by omega) (by omega)
        · refine r_iload C dX11_sizeOf_36 0 rfl ?_
          refine r_callP C (As := [.int (nI s)]) (rest := [.int (nI (szF F f lv s))]) (st1 := [.int (nI (b10 s)), .int (nI (szF F f lv s))]) miX11_bits msX11_bits (c_bits l (c := s) (by omega)) hw_5_123 rfl ⟨by decide, by decide, rfl, rfl, by decide, by decide⟩ rfl (Nat.le_of_ble_eq_true rfl) dX11_sizeOf_38 rfl ?_
          refine r_iload_n C dX11_sizeOf_41 4 rfl ?_
          refine r_icmp_ne C 49 dX11_sizeOf_42 (by decide) Iff.rfl (fun h42 => ?_) (fun h42 => ?_)
          · refine r_iconst C (v := (nI 0)) dX11_sizeOf_49 rfl ?_
            refine G_top (y := (nI (szc F f lv s))) (by rw [szc, if_neg (fun q => q.2.elim h33 h42)]) ?_
            refine r_iadd C (v := (nI (szF F f lv (s + 1)))) dX11_sizeOf_50 (nI_add _ _) ?_
            refine r_istore_n C (lv' := [(3, .int (nI (szF F f lv (s + 1)))), (4, .int (nI s)), (0, .ref (ad g 19)), (1, .int (nI f)), (2, .int lv)]) 3 dX11_sizeOf_51 rfl (by decide) rfl ?_
            refine r_iinc C (v := (nI (s + 1))) (lv' := [(4, .int (nI (s + 1))), (3, .int (nI (szF F f lv (s + 1)))), (0, .ref (ad g 19)), (1, .int (nI f)), (2, .int lv)]) 4 1 dX11_sizeOf_52 rfl (inc_N _ 1) (by decide) rfl ?_
            refine r_goto C 5 dX11_sizeOf_55 (by decide) ?_
            exact ih (s + 1) (by omega) (by omega)
          · refine r_iconst C (v := (nI 1)) dX11_sizeOf_45 rfl ?_
            refine r_goto C 50 dX11_sizeOf_46 (by decide) ?_
            refine G_top (y := (nI (szc F f lv s))) (by rw [szc, if_pos ⟨ts_t h28, Or.inr (Decidable.not_not.mp h42)⟩]) ?_
            refine r_iadd C (v := (nI (szF F f lv (s + 1)))) dX11_sizeOf_50 (nI_add _ _) ?_
            refine r_istore_n C (lv' := [(3, .int (nI (szF F f lv (s + 1)))), (4, .int (nI s)), (0, .ref (ad g 19)), (1, .int (nI f)), (2, .int lv)]) 3 dX11_sizeOf_51 rfl (by decide) rfl ?_
            refine r_iinc C (v := (nI (s + 1))) (lv' := [(4, .int (nI (s + 1))), (3, .int (nI (szF F f lv (s + 1)))), (0, .ref (ad g 19)), (1, .int (nI f)), (2, .int lv)]) 4 1 dX11_sizeOf_52 rfl (inc_N _ 1) (by decide) rfl ?_
            refine r_goto C 5 dX11_sizeOf_55 (by decide) ?_
            exact ih (s + 1) (by omega) (by omega)
set_option maxHeartbeats 1000000 in
set_option maxRecDepth 100000 in
theorem c_sizeOf (l : Launch) (g : Gd) (μ : Mm) {F : Nat → Bool} {n f : Nat} (h6 : gI μ 6 = nI n) (hn10 : n ≤ 10) (h5 : gA μ 5 = bR F) (hf : f < 4) (lv : Int32) : Ct l yX11_sizeOf cX11_sizeOf 5 (some .int) (rmk 1 22) g [.ref (ad g 19), .int (nI f), .int lv] μ (some (.int (nI (szF F f lv (2 ^ n))))) μ := by
  have h1024 := pw10 hn10
  have h2n := Nat.two_pow_pos n
  refine Ct.of (by decide) (Nat.le_of_ble_eq_true rfl) (fun z A C X Rr => ?_)
  refine r_iconst C (v := (nI 0)) dX11_sizeOf_0 rfl ?_
  refine r_istore_n C (lv' := [(3, .int (nI 0)), (0, .ref (ad g 19)), (1, .int (nI f)), (2, .int lv)]) 3 dX11_sizeOf_1 rfl (by decide) rfl ?_
  refine r_iconst C (v := (nI 0)) dX11_sizeOf_2 rfl ?_
  refine r_istore C (lv' := [(4, .int (nI 0)), (3, .int (nI 0)), (0, .ref (ad g 19)), (1, .int (nI f)), (2, .int lv)]) 4 dX11_sizeOf_3 (by decide) rfl ?_
  exact lp_sizeOf C X h6 hn10 h5 hf h1024 Rr (2 ^ n + 1) 0 (by omega) (by omega)
set_option maxHeartbeats 1000000 in
set_option maxRecDepth 100000 in
theorem lp_degreeOf {z : Zt} {A : Nat → Prop} {l : Launch} {g : Gd} {μ : Mm} (C : Cx z A l (rmk 1 20) cX11_degreeOf 5 "SetFamiliesModel") (X : Kx z g A) {F : Nat → Bool} {n f x : Nat} (h6 : gI μ 6 = nI n) (hn10 : n ≤ 10) (h5 : gA μ 5 = bR F) (hf : f < 4) (hx : x < 10) (h1024 : 2 ^ n ≤ 1024) (Rr : Rx z g A (some .int) (some (.int (nI (dgF F f x (2 ^ n))))) μ) : ∀ (n_ : Nat) (s : Nat), 2 ^ n - s < n_ → s ≤ 2 ^ n → G z g.1 A 5 (wd g μ) 0 0 5 [(4, .int (nI s)), (3, .int (nI (dgF F f x s))), (0, .ref (ad g 19)), (1, .int (nI f)), (2, .int (nI x))] [] := by
  intro n_
  induction n_ with
  | zero => intro s hm_; exact absurd hm_ (Nat.not_lt_zero _)
  | succ n_ ih =>
    intro s hm_ hs
    refine r_iload C dX11_degreeOf_5 0 rfl ?_
    refine r_aload_n C dX11_degreeOf_7 2 rfl ?_
    refine r_callV C X (As := []) (rest := [.int (nI s)]) (st1 := [.int (nI (2 ^ n)), .int (nI s)]) (μ' := μ) (k := 19) (T := TX11) miX11_codes mvX11_codes (c_codes l g μ (n := n) h6 (by omega)) hw_5_99 (by decide) rfl rfl rfl ⟨by decide, by decide, rfl, rfl, by decide, by decide⟩ rfl (Nat.le_of_ble_eq_true rfl) dX11_degreeOf_8 rfl ?_
    refine r_icmp_ge C 49 dX11_degreeOf_11 (by decide) (nI_leI (by omega) (by omega)) (fun h11 => ?_) (fun h11 => ?_)
    · have hs2 : s = 2 ^ n := by omega
      subst hs2
      refine r_iload_n C dX11_degreeOf_49 1 rfl ?_
      exact r_iret C dX11_degreeOf_50 Rr
    · have hsz := dgF_le F f x s
      refine r_iload_n C dX11_degreeOf_14 1 rfl ?_
      refine r_aload_n C dX11_degreeOf_15 2 rfl ?_
      refine r_get C X (k := 19) (R := RX11) (T := TX11) (N := 15) (n := 2) (v := .ref (ad g 20)) (by decide) rfl rfl inw11 (by decide) rfl hw_5_20 rfl dX11_degreeOf_16 ?_
      refine r_sipush C (v := (nI 1024)) dX11_degreeOf_19 (by decide) ?_
      refine r_iload_n C dX11_degreeOf_22 3 rfl ?_
      refine r_imul C (v := (nI (1024 * f))) dX11_degreeOf_23 (pk_mul _ _) ?_
      refine r_iload C dX11_degreeOf_24 0 rfl ?_
      refine r_iadd C (v := (nI (1024 * f + s))) dX11_degreeOf_26 (nI_add _ _) ?_
      refine r_zald C X (k := 20) (v := (bI (F (1024 * f + s)))) (by decide) rfl (by omega) (by decide) (bR_at h5 _) dX11_degreeOf_27 ?_
      refine r_if_eq C 40 dX11_degreeOf_28 (by decide) (bI_eq _) (fun h28 => ?_) (fun h28 => ?_)
      · refine r_iconst C (v := (nI 0)) dX11_degreeOf_40 rfl ?_
        refine G_top (y := (nI (dgc F f x s))) (by rw [dgc, if_neg (ts_f h28)]) ?_
        refine r_iadd C (v := (nI (dgF F f x (s + 1)))) dX11_degreeOf_41 (nI_add _ _) ?_
        refine r_istore_n C (lv' := [(3, .int (nI (dgF F f x (s + 1)))), (4, .int (nI s)), (0, .ref (ad g 19)), (1, .int (nI f)), (2, .int (nI x))]) 3 dX11_degreeOf_42 rfl (by decide) rfl ?_
        refine r_iinc C (v := (nI (s + 1))) (lv' := [(4, .int (nI (s + 1))), (3, .int (nI (dgF F f x (s + 1)))), (0, .ref (ad g 19)), (1, .int (nI f)), (2, .int (nI x))]) 4 1 dX11_degreeOf_43 rfl (inc_N _ 1) (by decide) rfl ?_
        refine r_goto C 5 dX11_degreeOf_46 (by decide) ?_
        exact ih (s + 1) (by omega) (by omega)
      · refine r_iload C dX11_degreeOf_31 0 rfl ?_
        refine r_iload_n C dX11_degreeOf_33 4 rfl ?_
        refine r_ishr C (v := (nI (s / 2 ^ x))) dX11_degreeOf_34 (nshr (by omega) (by omega)) ?_
        refine r_iconst C (v := (nI 1)) dX11_degreeOf_35 rfl ?_
        refine r_iand C (v := (nI ((s / 2 ^ x) &&& 1))) dX11_degreeOf_36 (nand _ _) ?_
        refine r_goto C 41 dX11_degreeOf_37 (by decide) ?_
        refine G_top (y := (nI (dgc F f x s))) (by rw [dgc, if_pos (ts_t h28)]) ?_
        refine r_iadd C (v := (nI (dgF F f x (s + 1)))) dX11_degreeOf_41 (nI_add _ _) ?_
        refine r_istore_n C (lv' := [(3, .int (nI (dgF F f x (s + 1)))), (4, .int (nI s)), (0, .ref (ad g 19)), (1, .int (nI f)), (2, .int (nI x))]) 3 dX11_degreeOf_42 rfl (by decide) rfl ?_
        refine r_iinc C (v := (nI (s + 1))) (lv' := [(4, .int (nI (s + 1))), (3, .int (nI (dgF F f x (s + 1)))), (0, .ref (ad g 19)), (1, .int (nI f)), (2, .int (nI x))]) 4 1 dX11_degreeOf_43 rfl (inc_N _ 1) (by decide) rfl ?_
        refine r_goto C 5 dX11_degreeOf_46 (by decide) ?_
        exact ih (s + 1) (by omega) (by omega)
set_option maxHeartbeats 1000000 in
set_option maxRecDepth 100000 in
theorem c_degreeOf (l : Launch) (g : Gd) (μ : Mm) {F : Nat → Bool} {n f x : Nat} (h6 : gI μ 6 = nI n) (hn10 : n ≤ 10) (h5 : gA μ 5 = bR F) (hf : f < 4) (hx : x < 10) : Ct l yX11_degreeOf cX11_degreeOf 5 (some .int) (rmk 1 20) g [.ref (ad g 19), .int (nI f), .int (nI x)] μ (some (.int (nI (dgF F f x (2 ^ n))))) μ := by
  have h1024 := pw10 hn10
  have h2n := Nat.two_pow_pos n
  refine Ct.of (by decide) (Nat.le_of_ble_eq_true rfl) (fun z A C X Rr => ?_)
  refine r_iconst C (v := (nI 0)) dX11_degreeOf_0 rfl ?_
  refine r_istore_n C (lv' := [(3, .int (nI 0)), (0, .ref (ad g 19)), (1, .int (nI f)), (2, .int (nI x))]) 3 dX11_degreeOf_1 rfl (by decide) rfl ?_
  refine r_iconst C (v := (nI 0)) dX11_degreeOf_2 rfl ?_
  refine r_istore C (lv' := [(4, .int (nI 0)), (3, .int (nI 0)), (0, .ref (ad g 19)), (1, .int (nI f)), (2, .int (nI x))]) 4 dX11_degreeOf_3 (by decide) rfl ?_
  exact lp_degreeOf C X h6 hn10 h5 hf hx h1024 Rr (2 ^ n + 1) 0 (by omega) (by omega)
set_option maxHeartbeats 1000000 in
set_option maxRecDepth 100000 in
theorem lp_empties {z : Zt} {A : Nat → Prop} {l : Launch} {g : Gd} {μ : Mm} (C : Cx z A l (rmk 0 0) cX11_empties 2 "SetFamiliesModel") (X : Kx z g A) {O : Nat → Bool} (Rr : Rx z g A none none (sA μ 9 (bR (rowU 1024 (fun _ => false) O)))) : ∀ (n_ : Nat) (k : Nat), 1024 - k < n_ → k ≤ 1024 → G z g.1 A 2 (wd g (sA μ 9 (bR (rowU k (fun _ => false) O)))) 0 0 2 [(1, .int (nI k)), (0, .ref (ad g 19))] [] := by
  intro n_
  induction n_ with
  | zero => intro k hm_; exact absurd hm_ (Nat.not_lt_zero _)
  | succ n_ ih =>
    intro k hm_ hk
    refine r_iload_n C dX11_empties_2 0 rfl ?_
    refine r_sipush C (v := (nI 1024)) dX11_empties_3 (by decide) ?_
    refine r_icmp_ge C 22 dX11_empties_6 (by decide) (nI_leI (by omega) (by omega)) (fun h6 => ?_) (fun h6 => ?_)
    · have hk : k = 1024 := by omega
      subst hk
      exact r_vret C dX11_empties_22 Rr
    · refine r_aload_n C dX11_empties_9 1 rfl ?_
      refine r_get C X (k := 19) (R := RX11) (T := TX11) (N := 15) (n := 8) (v := .ref (ad g 24)) (by decide) rfl rfl inw11 (by decide) rfl hw_5_26 rfl dX11_empties_10 ?_
      refine r_iload_n C dX11_empties_13 0 rfl ?_
      refine r_iconst C (v := (nI 0)) dX11_empties_14 rfl ?_
      refine G_top (y := (bI false)) rfl ?_
      refine r_zast C X (k := 24) (f' := bR (rowU (k + 1) (fun _ => false) O)) (μ' := (sA (sA μ 9 (bR (rowU k (fun _ => false) O))) 9 (bR (rowU (k + 1) (fun _ => false) O)))) (by decide) rfl (by omega) (by decide) (by rw [gA_s]; exact bR_s _ _ _ rfl) dX11_empties_15 (congrArg (iR g 3 1024) (gA_s _ _ _)) (WF_sA9_ne g _ _) ?_
      refine G_mem (μ' := (sA μ 9 (bR (rowU (k + 1) (fun _ => false) O)))) (sA_u _ _ _ _) ?_
      refine r_iinc C (v := (nI (k + 1))) (lv' := [(1, .int (nI (k + 1))), (0, .ref (ad g 19))]) 1 0 dX11_empties_16 rfl (inc_N _ 1) (by decide) rfl ?_
      refine r_goto C 2 dX11_empties_19 (by decide) ?_
      exact ih (k + 1) (by omega) (by omega)
set_option maxHeartbeats 1000000 in
set_option maxRecDepth 100000 in
theorem c_empties (l : Launch) (g : Gd) (μ : Mm) {O : Nat → Bool} (h9 : gA μ 9 = bR O) : Ct l yX11_empties cX11_empties 2 none (rmk 0 0) g [.ref (ad g 19)] μ none (sA μ 9 (bR (rowU 1024 (fun _ => false) O))) := by
  refine Ct.of (by decide) (Nat.le_of_ble_eq_true rfl) (fun z A C X Rr => ?_)
  refine r_iconst C (v := (nI 0)) dX11_empties_0 rfl ?_
  refine r_istore_n C (lv' := [(1, .int (nI 0)), (0, .ref (ad g 19))]) 1 dX11_empties_1 rfl (by decide) rfl ?_
  refine G_mem (show μ = (sA μ 9 (bR (rowU 0 (fun _ => false) O))) by rw [rowU_0, ← h9, sA_i]) ?_
  exact lp_empties C X Rr 1025 0 (by decide) (by decide)
theorem gI_mNote {μ : Mm} {F P : Nat → Bool} {n ps q : Nat} (h : q ≠ 7) : gI (mNote μ F P n ps) q = gI μ q := (gI_n _ _ h).trans ((gI_A _ _ _ _).trans (gI_A _ _ _ _))
theorem gA_mNote {μ : Mm} {F P : Nat → Bool} {n ps q : Nat} (h : q ≠ 6 ∧ q ≠ 7) : gA (mNote μ F P n ps) q = gA μ q := (gA_I _ _ _ _).trans ((gA_n _ _ h.2).trans (gA_n _ _ h.1))
theorem gA_mNote6 {μ : Mm} {F P : Nat → Bool} {n ps : Nat} : gA (mNote μ F P n ps) 6 = bR (ntP F P ps) := (gA_I _ _ _ _).trans ((gA_n _ _ (by decide)).trans (gA_s _ _ _))
def lyB (F O : Nat → Bool) (q k : Nat) : Nat → Bool := fun c => if 1024 * q ≤ c ∧ c < 1024 * q + k then O (c - 1024 * q) else F c
theorem lyB_0 (F P : Nat → Bool) (q : Nat) : lyB F P q 0 = F := by funext c; unfold lyB; rw [if_neg (by omega)]
theorem lyB_s (F O : Nat → Bool) (q k : Nat) : upd (bR (lyB F O q k)) (1024 * q + k) (vp_nar .boolean (bI (O k))) = bR (lyB F O q (k + 1)) := by
  rw [nar_z]; funext w; unfold upd bR lyB
  by_cases h : w = 1024 * q + k
  · subst h; rw [if_pos rfl, if_pos (by omega), show 1024 * q + k - 1024 * q = k by omega]
  · rw [if_neg h]
    by_cases h2 : 1024 * q ≤ w ∧ w < 1024 * q + k
    · rw [if_pos h2, if_pos (by omega)]
    · rw [if_neg h2, if_neg (by omega)]
def mLays (μ : Mm) (F P O : Nat → Bool) (n ps q : Nat) : Mm := sA (mNote μ F P n ps) 5 (bR (lyB F O q 1024))
set_option maxHeartbeats 1000000 in
set_option maxRecDepth 100000 in
theorem lp_lays {z : Zt} {A : Nat → Prop} {l : Launch} {g : Gd} (C : Cx z A l (rmk 2 46) cX11_lays 3 "SetFamiliesModel") (X : Kx z g A) {M : Mm} {F O : Nat → Bool} {n q : Nat} (h6 : gI M 6 = nI n) (h9 : gA M 9 = bR O) (hn10 : n ≤ 10) (hq : q < 4) (Rr : Rx z g A (some .int) (some (.int (nI (szF (lyB F O q 1024) q (-1) (2 ^ n))))) (sA M 5 (bR (lyB F O q 1024)))) : ∀ (n_ : Nat) (k : Nat), 1024 - k < n_ → k ≤ 1024 → G z g.1 A 3 (wd g (sA M 5 (bR (lyB F O q k)))) 0 0 6 [(2, .int (nI k)), (0, .ref (ad g 19)), (1, .int (nI q))] [] := by
  intro n_
  induction n_ with
  | zero => intro k hm_; exact absurd hm_ (Nat.not_lt_zero _)
  | succ n_ ih =>
    intro k hm_ hk
    refine r_iload_n C dX11_lays_6 0 rfl ?_
    refine r_sipush C (v := (nI 1024)) dX11_lays_7 (by decide) ?_
    refine r_icmp_ge C 37 dX11_lays_10 (by decide) (nI_leI (by omega) (by omega)) (fun h10 => ?_) (fun h10 => ?_)
    · have hk : k = 1024 := by omega
      subst hk
      refine r_aload_n C dX11_lays_37 1 rfl ?_
      refine r_iload_n C dX11_lays_38 2 rfl ?_
      refine r_iconst C (v := (-1)) dX11_lays_39 rfl ?_
      refine r_callV C X (As := [.int (nI q), .int (-1)]) (rest := []) (st1 := [.int (nI (szF (lyB F O q 1024) q (-1) (2 ^ n)))]) (μ' := (sA M 5 (bR (lyB F O q 1024)))) (k := 19) (T := TX11) miX11_sizeOf mvX11_sizeOf (c_sizeOf l g (sA M 5 (bR (lyB F O q 1024))) (F := lyB F O q 1024) (n := n) (f := q) ((gI_A _ _ _ _).trans h6) (by omega) (gA_s _ _ _) (by omega) (-1)) hw_5_119 (by decide) rfl rfl rfl ⟨by decide, by decide, rfl, rfl, by decide, by decide⟩ rfl (Nat.le_of_ble_eq_true rfl) dX11_lays_40 rfl ?_
      exact r_iret C dX11_lays_43 Rr
    · refine r_aload_n C dX11_lays_13 1 rfl ?_
      refine r_get C X (k := 19) (R := RX11) (T := TX11) (N := 15) (n := 2) (v := .ref (ad g 20)) (by decide) rfl rfl inw11 (by decide) rfl hw_5_20 rfl dX11_lays_14 ?_
      refine r_sipush C (v := (nI 1024)) dX11_lays_17 (by decide) ?_
      refine r_iload_n C dX11_lays_20 2 rfl ?_
      refine r_imul C (v := (nI (1024 * q))) dX11_lays_21 (pk_mul _ _) ?_
      refine r_iload_n C dX11_lays_22 0 rfl ?_
      refine r_iadd C (v := (nI (1024 * q + k))) dX11_lays_23 (nI_add _ _) ?_
      refine r_aload_n C dX11_lays_24 1 rfl ?_
      refine r_get C X (k := 19) (R := RX11) (T := TX11) (N := 15) (n := 8) (v := .ref (ad g 24)) (by decide) rfl rfl inw11 (by decide) rfl hw_5_26 rfl dX11_lays_25 ?_
      refine r_iload_n C dX11_lays_28 0 rfl ?_
      refine r_zald C X (k := 24) (v := (bI (O k))) (by decide) rfl (by omega) (by decide) (bR_at ((gA_n _ _ (by decide)).trans h9) _) dX11_lays_29 ?_
      refine r_zast C X (k := 20) (f' := bR (lyB F O q (k + 1))) (μ' := (sA (sA M 5 (bR (lyB F O q k))) 5 (bR (lyB F O q (k + 1))))) (by decide) rfl (by omega) (by decide) (by rw [gA_s]; exact lyB_s _ _ _ _) dX11_lays_30 (congrArg (iR g 3 4096) (gA_s _ _ _)) (WF_sA5_ne g _ _) ?_
      refine G_mem (μ' := (sA M 5 (bR (lyB F O q (k + 1))))) (sA_u _ _ _ _) ?_
      refine r_iinc C (v := (nI (k + 1))) (lv' := [(2, .int (nI (k + 1))), (0, .ref (ad g 19)), (1, .int (nI q))]) 2 0 dX11_lays_31 rfl (inc_N _ 1) (by decide) rfl ?_
      refine r_goto C 6 dX11_lays_34 (by decide) ?_
      exact ih (k + 1) (by omega) (by omega)
set_option maxHeartbeats 1000000 in
set_option maxRecDepth 100000 in
theorem c_lays (l : Launch) (g : Gd) (μ : Mm) {F P O : Nat → Bool} {n ps q : Nat} (hM : Mo μ F P O n ps) (hq : q < 4) : Ct l yX11_lays cX11_lays 3 (some .int) (rmk 2 46) g [.ref (ad g 19), .int (nI q)] μ (some (.int (nI (szF (lyB F O q 1024) q (-1) (2 ^ n))))) (mLays μ F P O n ps q) := by
  obtain ⟨h6, h7, hps, h5, hP, h9, h1n, hn10⟩ := hM
  refine Ct.of (by decide) (Nat.le_of_ble_eq_true rfl) (fun z A C X Rr => ?_)
  refine r_aload_n C dX11_lays_0 0 rfl ?_
  refine r_callV C X (As := []) (rest := []) (st1 := []) (μ' := (mNote μ F P n ps)) (k := 19) (T := TX11) miX11_note mvX11_note (c_note l g μ (F := F) (P := P) (n := n) (ps := ps) h6 h7 (by omega) h5 hP) hw_5_80 (by decide) rfl rfl rfl ⟨by decide, by decide, rfl, rfl, by decide, by decide⟩ rfl (Nat.le_of_ble_eq_true rfl) dX11_lays_1 rfl ?_
  refine r_iconst C (v := (nI 0)) dX11_lays_4 rfl ?_
  refine r_istore_n C (lv' := [(2, .int (nI 0)), (0, .ref (ad g 19)), (1, .int (nI q))]) 2 dX11_lays_5 rfl (by decide) rfl ?_
  refine G_mem (show mNote μ F P n ps = sA (mNote μ F P n ps) 5 (bR (lyB F O q 0)) by rw [lyB_0]; exact (sA_i _ 5).symm.trans (congrArg (sA _ 5) ((gA_mNote (by decide)).trans h5))) ?_
  exact lp_lays C X (M := mNote μ F P n ps) ((gI_mNote (by decide)).trans h6) ((gA_mNote (by decide)).trans h9) hn10 hq Rr 1025 0 (by decide) (by decide)
