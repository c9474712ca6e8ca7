def cmT (j i s : Nat) : Nat := s ^^^ 2 ^ j ^^^ 2 ^ i
def cmC (F : Nat → Bool) (f j i s : Nat) : Bool := F (1024 * f + s) && decide (s / 2 ^ j &&& 1 = 1) && decide (s / 2 ^ i &&& 1 = 0)
def cmF (F : Nat → Bool) (f j i : Nat) : Nat → (Nat → Bool) × Nat
  | 0 => (F, 0)
  | s + 1 => let t := cmF F f j i s; if cmC t.1 f j i s = true ∧ t.1 (1024 * f + cmT j i s) = false then (upB (upB t.1 (1024 * f + s) false) (1024 * f + cmT j i s) true, t.2 + 1) else t
theorem cmF_le (F : Nat → Bool) (f j i : Nat) : ∀ s, (cmF F f j i s).2 ≤ s
  | 0 => Nat.le_refl _
  | s + 1 => by 
    have := cmF_le F f j i s
    rw [cmF]
    split
    · exact Nat.succ_le_succ this
    · exact Nat.le_succ_of_le this
theorem cmT_lt {j i s n : Nat} (hs : s < 2 ^ n) (hj : j < n) (hi : i < n) : cmT j i s < 2 ^ n := Nat.xor_lt_two_pow (Nat.xor_lt_two_pow hs (Nat.pow_lt_pow_right (by decide) hj)) (Nat.pow_lt_pow_right (by decide) hi)
set_option maxHeartbeats 1000000 in
set_option maxRecDepth 100000 in
theorem lp_compresses {z : Zt} {A : Nat → Prop} {l : Launch} {g : Gd} {μ : Mm} (C : Cx z A l (rmk 1 20) cX11_compresses 8 "SetFamiliesModel") (X : Kx z g A) {F : Nat → Bool} {n f j i : Nat} (h6 : gI μ 6 = nI n) (hn10 : n ≤ 10) (hf : f < 4) (hj : j < n) (hi : i < n) (h1024 : 2 ^ n ≤ 1024) (h2n : 0 < 2 ^ n) (Rr : Rx z g A (some .int) (some (.int (nI (cmF F f j i (2 ^ n)).2))) (sA μ 5 (bR (cmF F f j i (2 ^ n)).1))) : ∀ (n_ : Nat) (s : Nat), 2 ^ n - s < n_ → s ≤ 2 ^ n → G z g.1 A 8 (wd g (sA μ 5 (bR (cmF F f j i s).1))) 0 0 6 [(5, .int (nI s)), (4, .int (nI ((cmF F f j i s).2))), (0, .ref (ad g 19)), (1, .int (nI f)), (2, .int (nI j)), (3, .int (nI i))] [] := by
  intro n_
  induction n_ with
  | zero => intro s hm_; exact absurd hm_ (Nat.not_lt_zero _)
  | succ n_ ih =>
    intro s hm_ hs
    refine r_iload C dX11_compresses_6 0 rfl ?_
    refine r_aload_n C dX11_compresses_8 2 rfl ?_
    refine r_callV C X (As := []) (rest := [.int (nI s)]) (st1 := [.int (nI (2 ^ n)), .int (nI s)]) (μ' := (sA μ 5 (bR (cmF F f j i s).1))) (k := 19) (T := TX11) miX11_codes mvX11_codes (c_codes l g (sA μ 5 (bR (cmF F f j i s).1)) (n := n) ((gI_A _ _ _ _).trans h6) (by omega)) hw_5_99 (by decide) rfl rfl rfl ⟨by decide, by decide, rfl, rfl, by decide, by decide⟩ rfl (Nat.le_of_ble_eq_true rfl) dX11_compresses_9 rfl ?_
    refine r_icmp_ge C 127 dX11_compresses_12 (by decide) (nI_leI (by omega) (by omega)) (fun h12 => ?_) (fun h12 => ?_)
    · have hs2 : s = 2 ^ n := by omega
      subst hs2
      refine r_iload C dX11_compresses_127 1 rfl ?_
      exact r_iret C dX11_compresses_129 Rr
    · have hcl := cmF_le F f j i s
      have htl := cmT_lt (s := s) (by omega) hj hi
      refine r_aload_n C dX11_compresses_15 2 rfl ?_
      refine r_get C X (k := 19) (R := RX11) (T := TX11) (N := 15) (n := 2) (v := .ref (ad g 20)) (by decide) rfl rfl inw11 (by decide) rfl hw_5_20 rfl dX11_compresses_16 ?_
      refine r_sipush C (v := (nI 1024)) dX11_compresses_19 (by decide) ?_
      refine r_iload_n C dX11_compresses_22 3 rfl ?_
      refine r_imul C (v := (nI (1024 * f))) dX11_compresses_23 (pk_mul _ _) ?_
      refine r_iload C dX11_compresses_24 0 rfl ?_
      refine r_iadd C (v := (nI (1024 * f + s))) dX11_compresses_26 (nI_add _ _) ?_
      refine r_zald C X (k := 20) (v := (bI (((cmF F f j i s).1) (1024 * f + s)))) (by decide) rfl (by omega) (by decide) (bR_at (gA_s _ _ _) _) dX11_compresses_27 ?_
      refine r_if_eq C 54 dX11_compresses_28 (by decide) (bI_eq _) (fun h28 => ?_) (fun h28 => ?_)
      · refine r_iconst C (v := (nI 0)) dX11_compresses_54 rfl ?_
        refine G_top (y := (bI (cmC (cmF F f j i s).1 f j i s))) (b0 (show cmC (cmF F f j i s).1 f j i s = false by unfold cmC; rw [h28]; rfl)) ?_
        refine r_istore C (lv' := [(6, .int (bI (cmC (cmF F f j i s).1 f j i s))), (5, .int (nI s)), (4, .int (nI ((cmF F f j i s).2))), (0, .ref (ad g 19)), (1, .int (nI f)), (2, .int (nI j)), (3, .int (nI i))]) 6 dX11_compresses_55 (by decide) rfl ?_
        refine r_iload C dX11_compresses_57 1 rfl ?_
        refine r_iconst C (v := (nI 1)) dX11_compresses_59 rfl ?_
        refine r_iload_n C dX11_compresses_60 5 rfl ?_
        refine r_ishl C (v := (nI (2 ^ j))) dX11_compresses_61 (nshl1 (by omega)) ?_
        refine r_ixor C (v := (nI (s ^^^ (2 ^ j)))) dX11_compresses_62 (nxor _ _) ?_
        refine r_iconst C (v := (nI 1)) dX11_compresses_63 rfl ?_
        refine r_iload_n C dX11_compresses_64 6 rfl ?_
        refine r_ishl C (v := (nI (2 ^ i))) dX11_compresses_65 (nshl1 (by omega)) ?_
        refine r_ixor C (v := (nI ((s ^^^ (2 ^ j)) ^^^ (2 ^ i)))) dX11_compresses_66 (nxor _ _) ?_
        refine G_top (y := (nI (cmT j i s))) rfl ?_
        refine r_istore C (lv' := [(7, .int (nI (cmT j i s))), (6, .int (bI (cmC (cmF F f j i s).1 f j i s))), (5, .int (nI s)), (4, .int (nI ((cmF F f j i s).2))), (0, .ref (ad g 19)), (1, .int (nI f)), (2, .int (nI j)), (3, .int (nI i))]) 7 dX11_compresses_67 (by decide) rfl ?_
        refine r_iload C dX11_compresses_69 1 rfl ?_
        refine r_if_eq C 121 dX11_compresses_71 (by decide) (bI_eq _) (fun h71 => ?_) (fun h71 => ?_)
        · refine r_iinc C (v := (nI (s + 1))) (lv' := [(5, .int (nI (s + 1))), (7, .int (nI (cmT j i s))), (6, .int (bI (cmC (cmF F f j i s).1 f j i s))), (4, .int (nI ((cmF F f j i s).2))), (0, .ref (ad g 19)), (1, .int (nI f)), (2, .int (nI j)), (3, .int (nI i))]) 5 2 dX11_compresses_121 rfl (inc_N _ 1) (by decide) rfl ?_
          refine r_goto C 6 dX11_compresses_124 (by decide) ?_
          refine G_mem (μ' := (sA μ 5 (bR (cmF F f j i (s + 1)).1))) (by rw [cmF, if_neg (fun q => ts_f h71 q.1)]) ?_
          refine G_lv (lv' := [(5, .int (nI (s + 1))), (7, .int (nI (cmT j i s))), (6, .int (bI (cmC (cmF F f j i s).1 f j i s))), (4, .int (nI ((cmF F f j i (s + 1)).2))), (0, .ref (ad g 19)), (1, .int (nI f)), (2, .int (nI j)), (3, .int (nI i))]) (by rw [cmF, if_neg (fun q => ts_f h71 q.1)]) ?_
          refine G_sub (lv' := [(5, .int (nI (s + 1))), (4, .int (nI ((cmF F f j i (s + 1)).2))), (0, .ref (ad g 19)), (1, .int (nI f)), (2, .int (nI j)), (3, .int (nI i))]) [0, 3, 4, 5, 6, 7] rfl ?_
          exact ih (s + 1) (by omega) (by omega)
        · refine r_aload_n C dX11_compresses_74 4 rfl ?_
          refine r_get C X (k := 19) (R := RX11) (T := TX11) (N := 15) (n := 2) (v := .ref (ad g 20)) (by decide) rfl rfl inw11 (by decide) rfl hw_5_20 rfl dX11_compresses_75 ?_
          refine r_sipush C (v := (nI 1024)) dX11_compresses_78 (by decide) ?_
          refine r_iload_n C dX11_compresses_81 5 rfl ?_
          refine r_imul C (v := (nI (1024 * f))) dX11_compresses_82 (pk_mul _ _) ?_
          refine r_iload C dX11_compresses_83 0 rfl ?_
          refine r_iadd C (v := (nI (1024 * f + (cmT j i s)))) dX11_compresses_85 (nI_add _ _) ?_
          refine r_zald C X (k := 20) (v := (bI (((cmF F f j i s).1) (1024 * f + (cmT j i s))))) (by decide) rfl (by omega) (by decide) (bR_at (gA_s _ _ _) _) dX11_compresses_86 ?_
          refine r_if_ne C 121 dX11_compresses_87 (by decide) (bI_ne _) (fun h87 => ?_) (fun h87 => ?_)
          · refine r_iinc C (v := (nI (s + 1))) (lv' := [(5, .int (nI (s + 1))), (7, .int (nI (cmT j i s))), (6, .int (bI (cmC (cmF F f j i s).1 f j i s))), (4, .int (nI ((cmF F f j i s).2))), (0, .ref (ad g 19)), (1, .int (nI f)), (2, .int (nI j)), (3, .int (nI i))]) 5 2 dX11_compresses_121 rfl (inc_N _ 1) (by decide) rfl ?_
            refine r_goto C 6 dX11_compresses_124 (by decide) ?_
            refine G_mem (μ' := (sA μ 5 (bR (cmF F f j i (s + 1)).1))) (by rw [cmF, if_neg (fun q => ts_f q.2 h87)]) ?_
            refine G_lv (lv' := [(5, .int (nI (s + 1))), (7, .int (nI (cmT j i s))), (6, .int (bI (cmC (cmF F f j i s).1 f j i s))), (4, .int (nI ((cmF F f j i (s + 1)).2))), (0, .ref (ad g 19)), (1, .int (nI f)), (2, .int (nI j)), (3, .int (nI i))]) (by rw [cmF, if_neg (fun q => ts_f q.2 h87)]) ?_
            refine G_sub (lv' := [(5, .int (nI (s + 1))), (4, .int (nI ((cmF F f j i (s + 1)).2))), (0, .ref (ad g 19)), (1, .int (nI f)), (2, .int (nI j)), (3, .int (nI i))]) [0, 3, 4, 5, 6, 7] rfl ?_
            exact ih (s + 1) (by omega) (by omega)
          · refine r_aload_n C dX11_compresses_90 4 rfl ?_
            refine r_get C X (k := 19) (R := RX11) (T := TX11) (N := 15) (n := 2) (v := .ref (ad g 20)) (by decide) rfl rfl inw11 (by decide) rfl hw_5_20 rfl dX11_compresses_91 ?_
            refine r_sipush C (v := (nI 1024)) dX11_compresses_94 (by decide) ?_
            refine r_iload_n C dX11_compresses_97 5 rfl ?_
            refine r_imul C (v := (nI (1024 * f))) dX11_compresses_98 (pk_mul _ _) ?_
            refine r_iload C dX11_compresses_99 2 rfl ?_
            refine r_iadd C (v := (nI (1024 * f + s))) dX11_compresses_101 (nI_add _ _) ?_
            refine r_iconst C (v := (nI 0)) dX11_compresses_102 rfl ?_
            refine G_top (y := (bI false)) rfl ?_
            refine r_zast C X (k := 20) (f' := bR (upB (cmF F f j i s).1 (1024 * f + s) false)) (μ' := (sA (sA μ 5 (bR (cmF F f j i s).1)) 5 (bR (upB (cmF F f j i s).1 (1024 * f + s) false)))) (by decide) rfl (by omega) (by decide) (by rw [gA_s]; exact bR_up _ _ _) dX11_compresses_103 (congrArg (iR g 3 4096) (gA_s _ _ _)) (WF_sA5_ne g _ _) ?_
            refine G_mem (μ' := (sA μ 5 (bR (upB (cmF F f j i s).1 (1024 * f + s) false)))) (sA_u _ _ _ _) ?_
            refine r_aload_n C dX11_compresses_104 4 rfl ?_
            refine r_get C X (k := 19) (R := RX11) (T := TX11) (N := 15) (n := 2) (v := .ref (ad g 20)) (by decide) rfl rfl inw11 (by decide) rfl hw_5_20 rfl dX11_compresses_105 ?_
            refine r_sipush C (v := (nI 1024)) dX11_compresses_108 (by decide) ?_
            refine r_iload_n C dX11_compresses_111 5 rfl ?_
            refine r_imul C (v := (nI (1024 * f))) dX11_compresses_112 (pk_mul _ _) ?_
            refine r_iload C dX11_compresses_113 0 rfl ?_
            refine r_iadd C (v := (nI (1024 * f + (cmT j i s)))) dX11_compresses_115 (nI_add _ _) ?_
            refine r_iconst C (v := (nI 1)) dX11_compresses_116 rfl ?_
            refine G_top (y := (bI true)) rfl ?_
            refine r_zast C X (k := 20) (f' := bR (upB (upB (cmF F f j i s).1 (1024 * f + s) false) (1024 * f + cmT j i s) true)) (μ' := (sA (sA μ 5 (bR (upB (cmF F f j i s).1 (1024 * f + s) false))) 5 (bR (upB (upB (cmF F f j i s).1 (1024 * f + s) false) (1024 * f + cmT j i s) true)))) (by decide) rfl (by omega) (by decide) (by rw [gA_s]; exact bR_up _ _ _) dX11_compresses_117 (congrArg (iR g 3 4096) (gA_s _ _ _)) (WF_sA5_ne g _ _) ?_
            refine G_mem (μ' := (sA μ 5 (bR (upB (upB (cmF F f j i s).1 (1024 * f + s) false) (1024 * f + cmT j i s) true)))) (sA_u _ _ _ _) ?_
            refine r_iinc C (v := (nI ((cmF F f j i s).2 + 1))) (lv' := [(4, .int (nI ((cmF F f j i s).2 + 1))), (7, .int (nI (cmT j i s))), (6, .int (bI (cmC (cmF F f j i s).1 f j i s))), (5, .int (nI s)), (0, .ref (ad g 19)), (1, .int (nI f)), (2, .int (nI j)), (3, .int (nI i))]) 4 3 dX11_compresses_118 rfl (inc_N _ 1) (by decide) rfl ?_
            refine r_iinc C (v := (nI (s + 1))) (lv' := [(5, .int (nI (s + 1))), (4, .int (nI ((cmF F f j i s).2 + 1))), (7, .int (nI (cmT j i s))), (6, .int (bI (cmC (cmF F f j i s).1 f j i s))), (0, .ref (ad g 19)), (1, .int (nI f)), (2, .int (nI j)), (3, .int (nI i))]) 5 3 dX11_compresses_121 rfl (inc_N _ 1) (by decide) rfl ?_
            refine r_goto C 6 dX11_compresses_124 (by decide) ?_
            refine G_mem (μ' := (sA μ 5 (bR (cmF F f j i (s + 1)).1))) (by rw [cmF, if_pos ⟨ts_t h71, Bool.eq_false_iff.mpr h87⟩]) ?_
            refine G_lv (lv' := [(5, .int (nI (s + 1))), (4, .int (nI ((cmF F f j i (s + 1)).2))), (7, .int (nI (cmT j i s))), (6, .int (bI (cmC (cmF F f j i s).1 f j i s))), (0, .ref (ad g 19)), (1, .int (nI f)), (2, .int (nI j)), (3, .int (nI i))]) (by rw [cmF, if_pos ⟨ts_t h71, Bool.eq_false_iff.mpr h87⟩]) ?_
            refine G_sub (lv' := [(5, .int (nI (s + 1))), (4, .int (nI ((cmF F f j i (s + 1)).2))), (0, .ref (ad g 19)), (1, .int (nI f)), (2, .int (nI j)), (3, .int (nI i))]) [0, 1, 4, 5, 6, 7] rfl ?_
            exact ih (s + 1) (by omega) (by omega)
      · refine r_iload C dX11_compresses_31 0 rfl ?_
        refine r_iload_n C dX11_compresses_33 4 rfl ?_
        refine r_ishr C (v := (nI (s / 2 ^ j))) dX11_compresses_34 (nshr (by omega) (by omega)) ?_
        refine r_iconst C (v := (nI 1)) dX11_compresses_35 rfl ?_
        refine r_iand C (v := (nI ((s / 2 ^ j) &&& 1))) dX11_compresses_36 (nand _ _) ?_
        refine r_iconst C (v := (nI 1)) dX11_compresses_37 rfl ?_
        refine r_icmp_ne C 54 dX11_compresses_38 (by decide) (not_congr (nI_eq (Nat.lt_of_le_of_lt Nat.and_le_right (by decide)) (by decide))) (fun h38 => ?_) (fun h38 => ?_)
        · refine r_iconst C (v := (nI 0)) dX11_compresses_54 rfl ?_
          refine G_top (y := (bI (cmC (cmF F f j i s).1 f j i s))) (b0 (show cmC (cmF F f j i s).1 f j i s = false by unfold cmC; rw [decide_eq_false h38, Bool.and_false, Bool.false_and])) ?_
          refine r_istore C (lv' := [(6, .int (bI (cmC (cmF F f j i s).1 f j i s))), (5, .int (nI s)), (4, .int (nI ((cmF F f j i s).2))), (0, .ref (ad g 19)), (1, .int (nI f)), (2, .int (nI j)), (3, .int (nI i))]) 6 dX11_compresses_55 (by decide) rfl ?_
          refine r_iload C dX11_compresses_57 1 rfl ?_
          refine r_iconst C (v := (nI 1)) dX11_compresses_59 rfl ?_
          refine r_iload_n C dX11_compresses_60 5 rfl ?_
          refine r_ishl C (v := (nI (2 ^ j))) dX11_compresses_61 (nshl1 (by omega)) ?_
          refine r_ixor C (v := (nI (s ^^^ (2 ^ j)))) dX11_compresses_62 (nxor _ _) ?_
          refine r_iconst C (v := (nI 1)) dX11_compresses_63 rfl ?_
          refine r_iload_n C dX11_compresses_64 6 rfl ?_
          refine r_ishl C (v := (nI (2 ^ i))) dX11_compresses_65 (nshl1 (by omega)) ?_
          refine r_ixor C (v := (nI ((s ^^^ (2 ^ j)) ^^^ (2 ^ i)))) dX11_compresses_66 (nxor _ _) ?_
          refine G_top (y := (nI (cmT j i s))) rfl ?_
          refine r_istore C (lv' := [(7, .int (nI (cmT j i s))), (6, .int (bI (cmC (cmF F f j i s).1 f j i s))), (5, .int (nI s)), (4, .int (nI ((cmF F f j i s).2))), (0, .ref (ad g 19)), (1, .int (nI f)), (2, .int (nI j)), (3, .int (nI i))]) 7 dX11_compresses_67 (by decide) rfl ?_
          refine r_iload C dX11_compresses_69 1 rfl ?_
          refine r_if_eq C 121 dX11_compresses_71 (by decide) (bI_eq _) (fun h71 => ?_) (fun h71 => ?_)
          · refine r_iinc C (v := (nI (s + 1))) (lv' := [(5, .int (nI (s + 1))), (7, .int (nI (cmT j i s))), (6, .int (bI (cmC (cmF F f j i s).1 f j i s))), (4, .int (nI ((cmF F f j i s).2))), (0, .ref (ad g 19)), (1, .int (nI f)), (2, .int (nI j)), (3, .int (nI i))]) 5 2 dX11_compresses_121 rfl (inc_N _ 1) (by decide) rfl ?_
            refine r_goto C 6 dX11_compresses_124 (by decide) ?_
            refine G_mem (μ' := (sA μ 5 (bR (cmF F f j i (s + 1)).1))) (by rw [cmF, if_neg (fun q => ts_f h71 q.1)]) ?_
            refine G_lv (lv' := [(5, .int (nI (s + 1))), (7, .int (nI (cmT j i s))), (6, .int (bI (cmC (cmF F f j i s).1 f j i s))), (4, .int (nI ((cmF F f j i (s + 1)).2))), (0, .ref (ad g 19)), (1, .int (nI f)), (2, .int (nI j)), (3, .int (nI i))]) (by rw [cmF, if_neg (fun q => ts_f h71 q.1)]) ?_
            refine G_sub (lv' := [(5, .int (nI (s + 1))), (4, .int (nI ((cmF F f j i (s + 1)).2))), (0, .ref (ad g 19)), (1, .int (nI f)), (2, .int (nI j)), (3, .int (nI i))]) [0, 3, 4, 5, 6, 7] rfl ?_
            exact ih (s + 1) (by omega) (by omega)
          · refine r_aload_n C dX11_compresses_74 4 rfl ?_
            refine r_get C X (k := 19) (R := RX11) (T := TX11) (N := 15) (n := 2) (v := .ref (ad g 20)) (by decide) rfl rfl inw11 (by decide) rfl hw_5_20 rfl dX11_compresses_75 ?_
            refine r_sipush C (v := (nI 1024)) dX11_compresses_78 (by decide) ?_
            refine r_iload_n C dX11_compresses_81 5 rfl ?_
            refine r_imul C (v := (nI (1024 * f))) dX11_compresses_82 (pk_mul _ _) ?_
            refine r_iload C dX11_compresses_83 0 rfl ?_
            refine r_iadd C (v := (nI (1024 * f + (cmT j i s)))) dX11_compresses_85 (nI_add _ _) ?_
            refine r_zald C X (k := 20) (v := (bI (((cmF F f j i s).1) (1024 * f + (cmT j i s))))) (by decide) rfl (by omega) (by decide) (bR_at (gA_s _ _ _) _) dX11_compresses_86 ?_
            refine r_if_ne C 121 dX11_compresses_87 (by decide) (bI_ne _) (fun h87 => ?_) (fun h87 => ?_)
            · refine r_iinc C (v := (nI (s + 1))) (lv' := [(5, .int (nI (s + 1))), (7, .int (nI (cmT j i s))), (6, .int (bI (cmC (cmF F f j i s).1 f j i s))), (4, .int (nI ((cmF F f j i s).2))), (0, .ref (ad g 19)), (1, .int (nI f)), (2, .int (nI j)), (3, .int (nI i))]) 5 2 dX11_compresses_121 rfl (inc_N _ 1) (by decide) rfl ?_
              refine r_goto C 6 dX11_compresses_124 (by decide) ?_
              refine G_mem (μ' := (sA μ 5 (bR (cmF F f j i (s + 1)).1))) (by rw [cmF, if_neg (fun q => ts_f q.2 h87)]) ?_
              refine G_lv (lv' := [(5, .int (nI (s + 1))), (7, .int (nI (cmT j i s))), (6, .int (bI (cmC (cmF F f j i s).1 f j i s))), (4, .int (nI ((cmF F f j i (s + 1)).2))), (0, .ref (ad g 19)), (1, .int (nI f)), (2, .int (nI j)), (3, .int (nI i))]) (by rw [cmF, if_neg (fun q => ts_f q.2 h87)]) ?_
              refine G_sub (lv' := [(5, .int (nI (s + 1))), (4, .int (nI ((cmF F f j i (s + 1)).2))), (0, .ref (ad g 19)), (1, .int (nI f)), (2, .int (nI j)), (3, .int (nI i))]) [0, 3, 4, 5, 6, 7] rfl ?_
              exact ih (s + 1) (by omega) (by omega)
            · refine r_aload_n C dX11_compresses_90 4 rfl ?_
              refine r_get C X (k := 19) (R := RX11) (T := TX11) (N := 15) (n := 2) (v := .ref (ad g 20)) (by decide) rfl rfl inw11 (by decide) rfl hw_5_20 rfl dX11_compresses_91 ?_
              refine r_sipush C (v := (nI 1024)) dX11_compresses_94 (by decide) ?_
              refine r_iload_n C dX11_compresses_97 5 rfl ?_
              refine r_imul C (v := (nI (1024 * f))) dX11_compresses_98 (pk_mul _ _) ?_
              refine r_iload C dX11_compresses_99 2 rfl ?_
              refine r_iadd C (v := (nI (1024 * f + s))) dX11_compresses_101 (nI_add _ _) ?_
              refine r_iconst C (v := (nI 0)) dX11_compresses_102 rfl ?_
              refine G_top (y := (bI false)) rfl ?_
              refine r_zast C X (k := 20) (f' := bR (upB (cmF F f j i s).1 (1024 * f + s) false)) (μ' := (sA (sA μ 5 (bR (cmF F f j i s).1)) 5 (bR (upB (cmF F f j i s).1 (1024 * f + s) false)))) (by decide) rfl (by omega) (by decide) (by rw [gA_s]; exact bR_up _ _ _) dX11_compresses_103 (congrArg (iR g 3 4096) (gA_s _ _ _)) (WF_sA5_ne g _ _) ?_
              refine G_mem (μ' := (sA μ 5 (bR (upB (cmF F f j i s).1 (1024 * f + s) false)))) (sA_u _ _ _ _) ?_
              refine r_aload_n C dX11_compresses_104 4 rfl ?_
              refine r_get C X (k := 19) (R := RX11) (T := TX11) (N := 15) (n := 2) (v := .ref (ad g 20)) (by decide) rfl rfl inw11 (by decide) rfl hw_5_20 rfl dX11_compresses_105 ?_
              refine r_sipush C (v := (nI 1024)) dX11_compresses_108 (by decide) ?_
              refine r_iload_n C dX11_compresses_111 5 rfl ?_
              refine r_imul C (v := (nI (1024 * f))) dX11_compresses_112 (pk_mul _ _) ?_
              refine r_iload C dX11_compresses_113 0 rfl ?_
              refine r_iadd C (v := (nI (1024 * f + (cmT j i s)))) dX11_compresses_115 (nI_add _ _) ?_
              refine r_iconst C (v := (nI 1)) dX11_compresses_116 rfl ?_
              refine G_top (y := (bI true)) rfl ?_
              refine r_zast C X (k := 20) (f' := bR (upB (upB (cmF F f j i s).1 (1024 * f + s) false) (1024 * f + cmT j i s) true)) (μ' := (sA (sA μ 5 (bR (upB (cmF F f j i s).1 (1024 * f + s) false))) 5 (bR (upB (upB (cmF F f j i s).1 (1024 * f + s) false) (1024 * f + cmT j i s) true)))) (by decide) rfl (by omega) (by decide) (by rw [gA_s]; exact bR_up _ _ _) dX11_compresses_117 (congrArg (iR g 3 4096) (gA_s _ _ _)) (WF_sA5_ne g _ _) ?_
              refine G_mem (μ' := (sA μ 5 (bR (upB (upB (cmF F f j i s).1 (1024 * f + s) false) (1024 * f + cmT j i s) true)))) (sA_u _ _ _ _) ?_
              refine r_iinc C (v := (nI ((cmF F f j i s).2 + 1))) (lv' := [(4, .int (nI ((cmF F f j i s).2 + 1))), (7, .int (nI (cmT j i s))), (6, .int (bI (cmC (cmF F f j i s).1 f j i s))), (5, .int (nI s)), (0, .ref (ad g 19)), (1, .int (nI f)), (2, .int (nI j)), (3, .int (nI i))]) 4 3 dX11_compresses_118 rfl (inc_N _ 1) (by decide) rfl ?_
              refine r_iinc C (v := (nI (s + 1))) (lv' := [(5, .int (nI (s + 1))), (4, .int (nI ((cmF F f j i s).2 + 1))), (7, .int (nI (cmT j i s))), (6, .int (bI (cmC (cmF F f j i s).1 f j i s))), (0, .ref (ad g 19)), (1, .int (nI f)), (2, .int (nI j)), (3, .int (nI i))]) 5 3 dX11_compresses_121 rfl (inc_N _ 1) (by decide) rfl ?_
              refine r_goto C 6 dX11_compresses_124 (by decide) ?_
              refine G_mem (μ' := (sA μ 5 (bR (cmF F f j i (s + 1)).1))) (by rw [cmF, if_pos ⟨ts_t h71, Bool.eq_false_iff.mpr h87⟩]) ?_
              refine G_lv (lv' := [(5, .int (nI (s + 1))), (4, .int (nI ((cmF F f j i (s + 1)).2))), (7, .int (nI (cmT j i s))), (6, .int (bI (cmC (cmF F f j i s).1 f j i s))), (0, .ref (ad g 19)), (1, .int (nI f)), (2, .int (nI j)), (3, .int (nI i))]) (by rw [cmF, if_pos ⟨ts_t h71, Bool.eq_false_iff.mpr h87⟩]) ?_
              refine G_sub (lv' := [(5, .int (nI (s + 1))), (4, .int (nI ((cmF F f j i (s + 1)).2))), (0, .ref (ad g 19)), (1, .int (nI f)), (2, .int (nI j)), (3, .int (nI i))]) [0, 1, 4, 5, 6, 7] rfl ?_
              exact ih (s + 1) (by omega) (by omega)
        · refine r_iload C dX11_compresses_41 0 rfl ?_
          refine r_iload_n C dX11_compresses_43 5 rfl ?_
          refine r_ishr C (v := (nI (s / 2 ^ i))) dX11_compresses_44 (nshr (by omega) (by omega)) ?_
          refine r_iconst C (v := (nI 1)) dX11_compresses_45 rfl ?_
          refine r_iand C (v := (nI ((s / 2 ^ i) &&& 1))) dX11_compresses_46 (nand _ _) ?_
          refine r_if_ne C 54 dX11_compresses_47 (by decide) (zI_ne (Nat.lt_of_le_of_lt Nat.and_le_right (by decide))) (fun h47 => ?_) (fun h47 => ?_)
          · refine r_iconst C (v := (nI 0)) dX11_compresses_54 rfl ?_
            refine G_top (y := (bI (cmC (cmF F f j i s).1 f j i s))) (b0 (show cmC (cmF F f j i s).1 f j i s = false by unfold cmC; rw [decide_eq_false h47, Bool.and_false])) ?_
            refine r_istore C (lv' := [(6, .int (bI (cmC (cmF F f j i s).1 f j i s))), (5, .int (nI s)), (4, .int (nI ((cmF F f j i s).2))), (0, .ref (ad g 19)), (1, .int (nI f)), (2, .int (nI j)), (3, .int (nI i))]) 6 dX11_compresses_55 (by decide) rfl ?_
            refine r_iload C dX11_compresses_57 1 rfl ?_
            refine r_iconst C (v := (nI 1)) dX11_compresses_59 rfl ?_
            refine r_iload_n C dX11_compresses_60 5 rfl ?_
            refine r_ishl C (v := (nI (2 ^ j))) dX11_compresses_61 (nshl1 (by omega)) ?_
            refine r_ixor C (v := (nI (s ^^^ (2 ^ j)))) dX11_compresses_62 (nxor _ _) ?_
            refine r_iconst C (v := (nI 1)) dX11_compresses_63 rfl ?_
            refine r_iload_n C dX11_compresses_64 6 rfl ?_
            refine r_ishl C (v := (nI (2 ^ i))) dX11_compresses_65 (nshl1 (by omega)) ?_
            refine r_ixor C (v := (nI ((s ^^^ (2 ^ j)) ^^^ (2 ^ i)))) dX11_compresses_66 (nxor _ _) ?_
            refine G_top (y := (nI (cmT j i s))) rfl ?_
            refine r_istore C (lv' := [(7, .int (nI (cmT j i s))), (6, .int (bI (cmC (cmF F f j i s).1 f j i s))), (5, .int (nI s)), (4, .int (nI ((cmF F f j i s).2))), (0, .ref (ad g 19)), (1, .int (nI f)), (2, .int (nI j)), (3, .int (nI i))]) 7 dX11_compresses_67 (by decide) rfl ?_
            refine r_iload C dX11_compresses_69 1 rfl ?_
            refine r_if_eq C 121 dX11_compresses_71 (by decide) (bI_eq _) (fun h71 => ?_) (fun h71 => ?_)
            · refine r_iinc C (v := (nI (s + 1))) (lv' := [(5, .int (nI (s + 1))), (7, .int (nI (cmT j i s))), (6, .int (bI (cmC (cmF F f j i s).1 f j i s))), (4, .int (nI ((cmF F f j i s).2))), (0, .ref (ad g 19)), (1, .int (nI f)), (2, .int (nI j)), (3, .int (nI i))]) 5 2 dX11_compresses_121 rfl (inc_N _ 1) (by decide) rfl ?_
              refine r_goto C 6 dX11_compresses_124 (by decide) ?_
              refine G_mem (μ' := (sA μ 5 (bR (cmF F f j i (s + 1)).1))) (by rw [cmF, if_neg (fun q => ts_f h71 q.1)]) ?_
              refine G_lv (lv' := [(5, .int (nI (s + 1))), (7, .int (nI (cmT j i s))), (6, .int (bI (cmC (cmF F f j i s).1 f j i s))), (4, .int (nI ((cmF F f j i (s + 1)).2))), (0, .ref (ad g 19)), (1, .int (nI f)), (2, .int (nI j)), (3, .int (nI i))]) (by rw [cmF, if_neg (fun q => ts_f h71 q.1)]) ?_
              refine G_sub (lv' := [(5, .int (nI (s + 1))), (4, .int (nI ((cmF F f j i (s + 1)).2))), (0, .ref (ad g 19)), (1, .int (nI f)), (2, .int (nI j)), (3, .int (nI i))]) [0, 3, 4, 5, 6, 7] rfl ?_
              exact ih (s + 1) (by omega) (by omega)
            · refine r_aload_n C dX11_compresses_74 4 rfl ?_
              refine r_get C X (k := 19) (R := RX11) (T := TX11) (N := 15) (n := 2) (v := .ref (ad g 20)) (by decide) rfl rfl inw11 (by decide) rfl hw_5_20 rfl dX11_compresses_75 ?_
              refine r_sipush C (v := (nI 1024)) dX11_compresses_78 (by decide) ?_
              refine r_iload_n C dX11_compresses_81 5 rfl ?_
              refine r_imul C (v := (nI (1024 * f))) dX11_compresses_82 (pk_mul _ _) ?_
              refine r_iload C dX11_compresses_83 0 rfl ?_
              refine r_iadd C (v := (nI (1024 * f + (cmT j i s)))) dX11_compresses_85 (nI_add _ _) ?_
              refine r_zald C X (k := 20) (v := (bI (((cmF F f j i s).1) (1024 * f + (cmT j i s))))) (by decide) rfl (by omega) (by decide) (bR_at (gA_s _ _ _) _) dX11_compresses_86 ?_
              refine r_if_ne C 121 dX11_compresses_87 (by decide) (bI_ne _) (fun h87 => ?_) (fun h87 => ?_)
              · refine r_iinc C (v := (nI (s + 1))) (lv' := [(5, .int (nI (s + 1))), (7, .int (nI (cmT j i s))), (6, .int (bI (cmC (cmF F f j i s).1 f j i s))), (4, .int (nI ((cmF F f j i s).2))), (0, .ref (ad g 19)), (1, .int (nI f)), (2, .int (nI j)), (3, .int (nI i))]) 5 2 dX11_compresses_121 rfl (inc_N _ 1) (by decide) rfl ?_
                refine r_goto C 6 dX11_compresses_124 (by decide) ?_
                refine G_mem (μ' := (sA μ 5 (bR (cmF F f j i (s + 1)).1))) (by rw [cmF, if_neg (fun q => ts_f q.2 h87)]) ?_
                refine G_lv (lv' := [(5, .int (nI (s + 1))), (7, .int (nI (cmT j i s))), (6, .int (bI (cmC (cmF F f j i s).1 f j i s))), (4, .int (nI ((cmF F f j i (s + 1)).2))), (0, .ref (ad g 19)), (1, .int (nI f)), (2, .int (nI j)), (3, .int (nI i))]) (by rw [cmF, if_neg (fun q => ts_f q.2 h87)]) ?_
                refine G_sub (lv' := [(5, .int (nI (s + 1))), (4, .int (nI ((cmF F f j i (s + 1)).2))), (0, .ref (ad g 19)), (1, .int (nI f)), (2, .int (nI j)), (3, .int (nI i))]) [0, 3, 4, 5, 6, 7] rfl ?_
                exact ih (s + 1) (by omega) (by omega)
              · refine r_aload_n C dX11_compresses_90 4 rfl ?_
                refine r_get C X (k := 19) (R := RX11) (T := TX11) (N := 15) (n := 2) (v := .ref (ad g 20)) (by decide) rfl rfl inw11 (by decide) rfl hw_5_20 rfl dX11_compresses_91 ?_
                refine r_sipush C (v := (nI 1024)) dX11_compresses_94 (by decide) ?_
                refine r_iload_n C dX11_compresses_97 5 rfl ?_
                refine r_imul C (v := (nI (1024 * f))) dX11_compresses_98 (pk_mul _ _) ?_
                refine r_iload C dX11_compresses_99 2 rfl ?_
                refine r_iadd C (v := (nI (1024 * f + s))) dX11_compresses_101 (nI_add _ _) ?_
                refine r_iconst C (v := (nI 0)) dX11_compresses_102 rfl ?_
                refine G_top (y := (bI false)) rfl ?_
                refine r_zast C X (k := 20) (f' := bR (upB (cmF F f j i s).1 (1024 * f + s) false)) (μ' := (sA (sA μ 5 (bR (cmF F f j i s).1)) 5 (bR (upB (cmF F f j i s).1 (1024 * f + s) false)))) (by decide) rfl (by omega) (by decide) (by rw [gA_s]; exact bR_up _ _ _) dX11_compresses_103 (congrArg (iR g 3 4096) (gA_s _ _ _)) (WF_sA5_ne g _ _) ?_
                refine G_mem (μ' := (sA μ 5 (bR (upB (cmF F f j i s).1 (1024 * f + s) false)))) (sA_u _ _ _ _) ?_
                refine r_aload_n C dX11_compresses_104 4 rfl ?_
                refine r_get C X (k := 19) (R := RX11) (T := TX11) (N := 15) (n := 2) (v := .ref (ad g 20)) (by decide) rfl rfl inw11 (by decide) rfl hw_5_20 rfl dX11_compresses_105 ?_
                refine r_sipush C (v := (nI 1024)) dX11_compresses_108 (by decide) ?_
                refine r_iload_n C dX11_compresses_111 5 rfl ?_
                refine r_imul C (v := (nI (1024 * f))) dX11_compresses_112 (pk_mul _ _) ?_
                refine r_iload C dX11_compresses_113 0 rfl ?_
                refine r_iadd C (v := (nI (1024 * f + (cmT j i s)))) dX11_compresses_115 (nI_add _ _) ?_
                refine r_iconst C (v := (nI 1)) dX11_compresses_116 rfl ?_
                refine G_top (y := (bI true)) rfl ?_
                refine r_zast C X (k := 20) (f' := bR (upB (upB (cmF F f j i s).1 (1024 * f + s) false) (1024 * f + cmT j i s) true)) (μ' := (sA (sA μ 5 (bR (upB (cmF F f j i s).1 (1024 * f + s) false))) 5 (bR (upB (upB (cmF F f j i s).1 (1024 * f + s) false) (1024 * f + cmT j i s) true)))) (by decide) rfl (by omega) (by decide) (by rw [gA_s]; exact bR_up _ _ _) dX11_compresses_117 (congrArg (iR g 3 4096) (gA_s _ _ _)) (WF_sA5_ne g _ _) ?_
                refine G_mem (μ' := (sA μ 5 (bR (upB (upB (cmF F f j i s).1 (1024 * f + s) false) (1024 * f + cmT j i s) true)))) (sA_u _ _ _ _) ?_
                refine r_iinc C (v := (nI ((cmF F f j i s).2 + 1))) (lv' := [(4, .int (nI ((cmF F f j i s).2 + 1))), (7, .int (nI (cmT j i s))), (6, .int (bI (cmC (cmF F f j i s).1 f j i s))), (5, .int (nI s)), (0, .ref (ad g 19)), (1, .int (nI f)), (2, .int (nI j)), (3, .int (nI i))]) 4 3 dX11_compresses_118 rfl (inc_N _ 1) (by decide) rfl ?_
                refine r_iinc C (v := (nI (s + 1))) (lv' := [(5, .int (nI (s + 1))), (4, .int (nI ((cmF F f j i s).2 + 1))), (7, .int (nI (cmT j i s))), (6, .int (bI (cmC (cmF F f j i s).1 f j i s))), (0, .ref (ad g 19)), (1, .int (nI f)), (2, .int (nI j)), (3, .int (nI i))]) 5 3 dX11_compresses_121 rfl (inc_N _ 1) (by decide) rfl ?_
                refine r_goto C 6 dX11_compresses_124 (by decide) ?_
                refine G_mem (μ' := (sA μ 5 (bR (cmF F f j i (s + 1)).1))) (by rw [cmF, if_pos ⟨ts_t h71, Bool.eq_false_iff.mpr h87⟩]) ?_
                refine G_lv (lv' := [(5, .int (nI (s + 1))), (4, .int (nI ((cmF F f j i (s + 1)).2))), (7, .int (nI (cmT j i s))), (6, .int (bI (cmC (cmF F f j i s).1 f j i s))), (0, .ref (ad g 19)), (1, .int (nI f)), (2, .int (nI j)), (3, .int (nI i))]) (by rw [cmF, if_pos ⟨ts_t h71, Bool.eq_false_iff.mpr h87⟩]) ?_
                refine G_sub (lv' := [(5, .int (nI (s + 1))), (4, .int (nI ((cmF F f j i (s + 1)).2))), (0, .ref (ad g 19)), (1, .int (nI f)), (2, .int (nI j)), (3, .int (nI i))]) [0, 1, 4, 5, 6, 7] rfl ?_
                exact ih (s + 1) (by omega) (by omega)
          · refine r_iconst C (v := (nI 1)) dX11_compresses_50 rfl ?_
            refine r_goto C 55 dX11_compresses_51 (by decide) ?_
            refine G_top (y := (bI (cmC (cmF F f j i s).1 f j i s))) (b1 (show cmC (cmF F f j i s).1 f j i s = true by unfold cmC; rw [ts_t h28, decide_eq_true (Decidable.not_not.mp h38), decide_eq_true (Decidable.not_not.mp h47)]; rfl)) ?_
            refine r_istore C (lv' := [(6, .int (bI (cmC (cmF F f j i s).1 f j i s))), (5, .int (nI s)), (4, .int (nI ((cmF F f j i s).2))), (0, .ref (ad g 19)), (1, .int (nI f)), (2, .int (nI j)), (3, .int (nI i))]) 6 dX11_compresses_55 (by decide) rfl ?_
            refine r_iload C dX11_compresses_57 1 rfl ?_
            refine r_iconst C (v := (nI 1)) dX11_compresses_59 rfl ?_
            refine r_iload_n C dX11_compresses_60 5 rfl ?_
            refine r_ishl C (v := (nI (2 ^ j))) dX11_compresses_61 (nshl1 (by omega)) ?_
            refine r_ixor C (v := (nI (s ^^^ (2 ^ j)))) dX11_compresses_62 (nxor _ _) ?_
            refine r_iconst C (v := (nI 1)) dX11_compresses_63 rfl ?_
            refine r_iload_n C dX11_compresses_64 6 rfl ?_
            refine r_ishl C (v := (nI (2 ^ i))) dX11_compresses_65 (nshl1 (by omega)) ?_
            refine r_ixor C (v := (nI ((s ^^^ (2 ^ j)) ^^^ (2 ^ i)))) dX11_compresses_66 (nxor _ _) ?_
            refine G_top (y := (nI (cmT j i s))) rfl ?_
            refine r_istore C (lv' := [(7, .int (nI (cmT j i s))), (6, .int (bI (cmC (cmF F f j i s).1 f j i s))), (5, .int (nI s)), (4, .int (nI ((cmF F f j i s).2))), (0, .ref (ad g 19)), (1, .int (nI f)), (2, .int (nI j)), (3, .int (nI i))]) 7 dX11_compresses_67 (by decide) rfl ?_
            refine r_iload C dX11_compresses_69 1 rfl ?_
            refine r_if_eq C 121 dX11_compresses_71 (by decide) (bI_eq _) (fun h71 => ?_) (fun h71 => ?_)
            · refine r_iinc C (v := (nI (s + 1))) (lv' := [(5, .int (nI (s + 1))), (7, .int (nI (cmT j i s))), (6, .int (bI (cmC (cmF F f j i s).1 f j i s))), (4, .int (nI ((cmF F f j i s).2))), (0, .ref (ad g 19)), (1, .int (nI f)), (2, .int (nI j)), (3, .int (nI i))]) 5 2 dX11_compresses_121 rfl (inc_N _ 1) (by decide) rfl ?_
              refine r_goto C 6 dX11_compresses_124 (by decide) ?_
              refine G_mem (μ' := (sA μ 5 (bR (cmF F f j i (s + 1)).1))) (by rw [cmF, if_neg (fun q => ts_f h71 q.1)]) ?_
              refine G_lv (lv' := [(5, .int (nI (s + 1))), (7, .int (nI (cmT j i s))), (6, .int (bI (cmC (cmF F f j i s).1 f j i s))), (4, .int (nI ((cmF F f j i (s + 1)).2))), (0, .ref (ad g 19)), (1, .int (nI f)), (2, .int (nI j)), (3, .int (nI i))]) (by rw [cmF, if_neg (fun q => ts_f h71 q.1)]) ?_
              refine G_sub (lv' := [(5, .int (nI (s + 1))), (4, .int (nI ((cmF F f j i (s + 1)).2))), (0, .ref (ad g 19)), (1, .int (nI f)), (2, .int (nI j)), (3, .int (nI i))]) [0, 3, 4, 5, 6, 7] rfl ?_
              exact ih (s + 1) (by omega) (by omega)
            · refine r_aload_n C dX11_compresses_74 4 rfl ?_
              refine r_get C X (k := 19) (R := RX11) (T := TX11) (N := 15) (n := 2) (v := .ref (ad g 20)) (by decide) rfl rfl inw11 (by decide) rfl hw_5_20 rfl dX11_compresses_75 ?_
              refine r_sipush C (v := (nI 1024)) dX11_compresses_78 (by decide) ?_
              refine r_iload_n C dX11_compresses_81 5 rfl ?_
              refine r_imul C (v := (nI (1024 * f))) dX11_compresses_82 (pk_mul _ _) ?_
              refine r_iload C dX11_compresses_83 0 rfl ?_
              refine r_iadd C (v := (nI (1024 * f + (cmT j i s)))) dX11_compresses_85 (nI_add _ _) ?_
              refine r_zald C X (k := 20) (v := (bI (((cmF F f j i s).1) (1024 * f + (cmT j i s))))) (by decide) rfl (by omega) (by decide) (bR_at (gA_s _ _ _) _) dX11_compresses_86 ?_
              refine r_if_ne C 121 dX11_compresses_87 (by decide) (bI_ne _) (fun h87 => ?_) (fun h87 => ?_)
              · refine r_iinc C (v := (nI (s + 1))) (lv' := [(5, .int (nI (s + 1))), (7, .int (nI (cmT j i s))), (6, .int (bI (cmC (cmF F f j i s).1 f j i s))), (4, .int (nI ((cmF F f j i s).2))), (0, .ref (ad g 19)), (1, .int (nI f)), (2, .int (nI j)), (3, .int (nI i))]) 5 2 dX11_compresses_121 rfl (inc_N _ 1) (by decide) rfl ?_
                refine r_goto C 6 dX11_compresses_124 (by decide) ?_
                refine G_mem (μ' := (sA μ 5 (bR (cmF F f j i (s + 1)).1))) (by rw [cmF, if_neg (fun q => ts_f q.2 h87)]) ?_
                refine G_lv (lv' := [(5, .int (nI (s + 1))), (7, .int (nI (cmT j i s))), (6, .int (bI (cmC (cmF F f j i s).1 f j i s))), (4, .int (nI ((cmF F f j i (s + 1)).2))), (0, .ref (ad g 19)), (1, .int (nI f)), (2, .int (nI j)), (3, .int (nI i))]) (by rw [cmF, if_neg (fun q => ts_f q.2 h87)]) ?_
                refine G_sub (lv' := [(5, .int (nI (s + 1))), (4, .int (nI ((cmF F f j i (s + 1)).2))), (0, .ref (ad g 19)), (1, .int (nI f)), (2, .int (nI j)), (3, .int (nI i))]) [0, 3, 4, 5, 6, 7] rfl ?_
                exact ih (s + 1) (by omega) (by omega)
              · refine r_aload_n C dX11_compresses_90 4 rfl ?_
                refine r_get C X (k := 19) (R := RX11) (T := TX11) (N := 15) (n := 2) (v := .ref (ad g 20)) (by decide) rfl rfl inw11 (by decide) rfl hw_5_20 rfl dX11_compresses_91 ?_
                refine r_sipush C (v := (nI 1024)) dX11_compresses_94 (by decide) ?_
                refine r_iload_n C dX11_compresses_97 5 rfl ?_
                refine r_imul C (v := (nI (1024 * f))) dX11_compresses_98 (pk_mul _ _) ?_
                refine r_iload C dX11_compresses_99 2 rfl ?_
                refine r_iadd C (v := (nI (1024 * f + s))) dX11_compresses_101 (nI_add _ _) ?_
                refine r_iconst C (v := (nI 0)) dX11_compresses_102 rfl ?_
                refine G_top (y := (bI false)) rfl ?_
                refine r_zast C X (k := 20) (f' := bR (upB (cmF F f j i s).1 (1024 * f + s) false)) (μ' := (sA (sA μ 5 (bR (cmF F f j i s).1)) 5 (bR (upB (cmF F f j i s).1 (1024 * f + s) false)))) (by decide) rfl (by omega) (by decide) (by rw [gA_s]; exact bR_up _ _ _) dX11_compresses_103 (congrArg (iR g 3 4096) (gA_s _ _ _)) (WF_sA5_ne g _ _) ?_
                refine G_mem (μ' := (sA μ 5 (bR (upB (cmF F f j i s).1 (1024 * f + s) false)))) (sA_u _ _ _ _) ?_
                refine r_aload_n C dX11_compresses_104 4 rfl ?_
                refine r_get C X (k := 19) (R := RX11) (T := TX11) (N := 15) (n := 2) (v := .ref (ad g 20)) (by decide) rfl rfl inw11 (by decide) rfl hw_5_20 rfl dX11_compresses_105 ?_
                refine r_sipush C (v := (nI 1024)) dX11_compresses_108 (by decide) ?_
                refine r_iload_n C dX11_compresses_111 5 rfl ?_
                refine r_imul C (v := (nI (1024 * f))) dX11_compresses_112 (pk_mul _ _) ?_
                refine r_iload C dX11_compresses_113 0 rfl ?_
                refine r_iadd C (v := (nI (1024 * f + (cmT j i s)))) dX11_compresses_115 (nI_add _ _) ?_
                refine r_iconst C (v := (nI 1)) dX11_compresses_116 rfl ?_
                refine G_top (y := (bI true)) rfl ?_
                refine r_zast C X (k := 20) (f' := bR (upB (upB (cmF F f j i s).1 (1024 * f + s) false) (1024 * f + cmT j i s) true)) (μ' := (sA (sA μ 5 (bR (upB (cmF F f j i s).1 (1024 * f + s) false))) 5 (bR (upB (upB (cmF F f j i s).1 (1024 * f + s) false) (1024 * f + cmT j i s) true)))) (by decide) rfl (by omega) (by decide) (by rw [gA_s]; exact bR_up _ _ _) dX11_compresses_117 (congrArg (iR g 3 4096) (gA_s _ _ _)) (WF_sA5_ne g _ _) ?_
                refine G_mem (μ' := (sA μ 5 (bR (upB (upB (cmF F f j i s).1 (1024 * f + s) false) (1024 * f + cmT j i s) true)))) (sA_u _ _ _ _) ?_
                refine r_iinc C (v := (nI ((cmF F f j i s).2 + 1))) (lv' := [(4, .int (nI ((cmF F f j i s).2 + 1))), (7, .int (nI (cmT j i s))), (6, .int (bI (cmC (cmF F f j i s).1 f j i s))), (5, .int (nI s)), (0, .ref (ad g 19)), (1, .int (nI f)), (2, .int (nI j)), (3, .int (nI i))]) 4 3 dX11_compresses_118 rfl (inc_N _ 1) (by decide) rfl ?_
                refine r_iinc C (v := (nI (s + 1))) (lv' := [(5, .int (nI (s + 1))), (4, .int (nI ((cmF F f j i s).2 + 1))), (7, .int (nI (cmT j i s))), (6, .int (bI (cmC (cmF F f j i s).1 f j i s))), (0, .ref (ad g 19)), (1, .int (nI f)), (2, .int (nI j)), (3, .int (nI i))]) 5 3 dX11_compresses_121 rfl (inc_N _ 1) (by decide) rfl ?_
                refine r_goto C 6 dX11_compresses_124 (by decide) ?_
                refine G_mem (μ' := (sA μ 5 (bR (cmF F f j i (s + 1)).1))) (by rw [cmF, if_pos ⟨ts_t h71, Bool.eq_false_iff.mpr h87⟩]) ?_
                refine G_lv (lv' := [(5, .int (nI (s + 1))), (4, .int (nI ((cmF F f j i (s + 1)).2))), (7, .int (nI (cmT j i s))), (6, .int (bI (cmC (cmF F f j i s).1 f j i s))), (0, .ref (ad g 19)), (1, .int (nI f)), (2, .int (nI j)), (3, .int (nI i))]) (by rw [cmF, if_pos ⟨ts_t h71, Bool.eq_false_iff.mpr h87⟩]) ?_
                refine G_sub (lv' := [(5, .int (nI (s + 1))), (4, .int (nI ((cmF F f j i (s + 1)).2))), (0, .ref (ad g 19)), (1, .int (nI f)), (2, .int (nI j)), (3, .int (nI i))]) [0, 1, 4, 5, 6, 7] rfl ?_
                exact ih (s + 1) (by omega) (by omega)
set_option maxHeartbeats 1000000 in
set_option maxRecDepth 100000 in
theorem c_compresses (l : Launch) (g : Gd) (μ : Mm) {F : Nat → Bool} {n f j i : Nat} (h6 : gI μ 6 = nI n) (hn10 : n ≤ 10) (h5 : gA μ 5 = bR F) (hf : f < 4) (hj : j < n) (hi : i < n) : Ct l yX11_compresses cX11_compresses 8 (some .int) (rmk 1 20) g [.ref (ad g 19), .int (nI f), .int (nI j), .int (nI i)] μ (some (.int (nI ((cmF F f j i (2 ^ n)).2)))) (sA μ 5 (bR (cmF F f j i (2 ^ n)).1)) := by
  have h1024 := pw10 hn10
  have h2n := Nat.two_pow_pos n
  refine Ct.of (by decide) (Nat.le_of_ble_eq_true rfl) (fun z A C X Rr => ?_)
  refine r_iconst C (v := (nI 0)) dX11_compresses_0 rfl ?_
  refine r_istore C (lv' := [(4, .int (nI 0)), (0, .ref (ad g 19)), (1, .int (nI f)), (2, .int (nI j)), (3, .int (nI i))]) 4 dX11_compresses_1 (by decide) rfl ?_
  refine r_iconst C (v := (nI 0)) dX11_compresses_3 rfl ?_
  refine r_istore C (lv' := [(5, .int (nI 0)), (4, .int (nI 0)), (0, .ref (ad g 19)), (1, .int (nI f)), (2, .int (nI j)), (3, .int (nI i))]) 5 dX11_compresses_4 (by decide) rfl ?_
  refine G_mem (show μ = (sA μ 5 (bR (cmF F f j i 0).1)) from (sA_i μ 5).symm.trans (congrArg (sA μ 5) h5)) ?_
  exact lp_compresses C X h6 hn10 hf hj hi h1024 h2n Rr (2 ^ n + 1) 0 (by omega) (by omega)
def fcI (F : Nat → Bool) (b s : Nat) : Nat → Nat → Option Nat
  | 0, _ => none
  | r + 1, t => if F (1024 * b + t) = true ∧ s &&& t = 0 then some t else fcI F b s r (t + 1)
def fcO (F : Nat → Bool) (a b n : Nat) : Nat → Nat → Int32
  | 0, _ => -1
  | r + 1, s => if F (1024 * a + s) = true then (match fcI F b s (2 ^ n) 0 with | some t => nI (1024 * s + t) | none => fcO F a b n r (s + 1)) else fcO F a b n r (s + 1)
set_option maxHeartbeats 1000000 in
set_option maxRecDepth 100000 in
theorem lp_firstCrossingI {z : Zt} {A : Nat → Prop} {l : Launch} {g : Gd} {μ : Mm} (C : Cx z A l (rmk 1 20) cX11_firstCrossing 5 "SetFamiliesModel") (X : Kx z g A) {F : Nat → Bool} {n a b s : Nat} (h6 : gI μ 6 = nI n) (hn10 : n ≤ 10) (h5 : gA μ 5 = bR F) (ha : a < 4) (hb : b < 4) (hs : s < 2 ^ n) (hFs : F (1024 * a + s) = true) (h1024 : 2 ^ n ≤ 1024) (h2n : 0 < 2 ^ n) : ∀ (n_ : Nat) (t : Nat), 2 ^ n - t < n_ → t ≤ 2 ^ n → (∀ u, fcI F b s (2 ^ n - t) t = some u → Rx z g A (some .int) (some (.int (nI (1024 * s + u)))) μ) → (fcI F b s (2 ^ n - t) t = none → G z g.1 A 5 (wd g μ) 0 0 75 [(3, .int (nI s)), (0, .ref (ad g 19)), (1, .int (nI a)), (2, .int (nI b))] []) → G z g.1 A 5 (wd g μ) 0 0 13 [(4, .int (nI t)), (3, .int (nI s)), (0, .ref (ad g 19)), (1, .int (nI a)), (2, .int (nI b))] [] := by
  intro n_
  induction n_ with
  | zero => intro t hm_; exact absurd hm_ (Nat.not_lt_zero _)
  | succ n_ ih =>
    intro t hm_ ht KR KK
    refine r_iload C dX11_firstCrossing_13 0 rfl ?_
    refine r_aload_n C dX11_firstCrossing_15 2 rfl ?_
    refine r_callV C X (As := []) (rest := [.int (nI t)]) (st1 := [.int (nI (2 ^ n)), .int (nI t)]) (μ' := μ) (k := 19) (T := TX11) miX11_codes mvX11_codes (c_codes l g μ (n := n) h6 (by omega)) hw_5_99 (by decide) rfl rfl rfl ⟨by decide, by decide, rfl, rfl, by decide, by decide⟩ rfl (Nat.le_of_ble_eq_true rfl) dX11_firstCrossing_16 rfl ?_
    refine r_icmp_ge C 75 dX11_firstCrossing_19 (by decide) (nI_leI (by omega) (by omega)) (fun h19 => ?_) (fun h19 => ?_)
    · rw [show 2 ^ n - t = 0 by omega, fcI] at KR KK
      refine G_sub (lv' := [(3, .int (nI s)), (0, .ref (ad g 19)), (1, .int (nI a)), (2, .int (nI b))]) [1, 2, 3, 4] rfl ?_
      exact KK rfl
    · refine r_aload_n C dX11_firstCrossing_22 2 rfl ?_
      refine r_get C X (k := 19) (R := RX11) (T := TX11) (N := 15) (n := 2) (v := .ref (ad g 20)) (by decide) rfl rfl inw11 (by decide) rfl hw_5_20 rfl dX11_firstCrossing_23 ?_
      refine r_sipush C (v := (nI 1024)) dX11_firstCrossing_26 (by decide) ?_
      refine r_iload_n C dX11_firstCrossing_29 3 rfl ?_
      refine r_imul C (v := (nI (1024 * a))) dX11_firstCrossing_30 (pk_mul _ _) ?_
      refine r_iload_n C dX11_firstCrossing_31 1 rfl ?_
      refine r_iadd C (v := (nI (1024 * a + s))) dX11_firstCrossing_32 (nI_add _ _) ?_
      refine r_zald C X (k := 20) (v := (bI (F (1024 * a + s)))) (by decide) rfl (by omega) (by decide) (bR_at h5 _) dX11_firstCrossing_33 ?_
      refine r_if_eq C 75 dX11_firstCrossing_34 (by decide) (bI_eq _) (fun h34 => ?_) (fun h34 => ?_)
      · exact absurd h34 (by rw [hFs]; decide)
      · rw [show 2 ^ n - t = (2 ^ n - (t + 1)) + 1 by omega, fcI] at KR KK
        refine r_aload_n C dX11_firstCrossing_37 2 rfl ?_
        refine r_get C X (k := 19) (R := RX11) (T := TX11) (N := 15) (n := 2) (v := .ref (ad g 20)) (by decide) rfl rfl inw11 (by decide) rfl hw_5_20 rfl dX11_firstCrossing_38 ?_
        refine r_sipush C (v := (nI 1024)) dX11_firstCrossing_41 (by decide) ?_
        refine r_iload_n C dX11_firstCrossing_44 4 rfl ?_
        refine r_imul C (v := (nI (1024 * b))) dX11_firstCrossing_45 (pk_mul _ _) ?_
        refine r_iload C dX11_firstCrossing_46 0 rfl ?_
        refine r_iadd C (v := (nI (1024 * b + t))) dX11_firstCrossing_48 (nI_add _ _) ?_
        refine r_zald C X (k := 20) (v := (bI (F (1024 * b + t)))) (by decide) rfl (by omega) (by decide) (bR_at h5 _) dX11_firstCrossing_49 ?_
        refine r_if_eq C 69 dX11_firstCrossing_50 (by decide) (bI_eq _) (fun h50 => ?_) (fun h50 => ?_)
        · rw [if_neg (fun q => ts_f h50 q.1)] at KR KK
          refine r_iinc C (v := (nI (t + 1))) (lv' := [(4, .int (nI (t + 1))), (3, .int (nI s)), (0, .ref (ad g 19)), (1, .int (nI a)), (2, .int (nI b))]) 4 0 dX11_firstCrossing_69 rfl (inc_N _ 1) (by decide) rfl ?_
          refine r_goto C 13 dX11_firstCrossing_72 (by decide) ?_
          exact ih (t + 1) (by omega) (by omega) KR KK
        · refine r_iload_n C dX11_firstCrossing_53 1 rfl ?_
          refine r_iload C dX11_firstCrossing_54 0 rfl ?_
          refine r_iand C (v := (nI (s &&& t))) dX11_firstCrossing_56 (nand _ _) ?_
          refine r_if_ne C 69 dX11_firstCrossing_57 (by decide) (zI_ne (Nat.lt_of_le_of_lt Nat.and_le_left (by omega))) (fun h57 => ?_) (fun h57 => ?_)
          · rw [if_neg (fun q => h57 q.2)] at KR KK
            refine r_iinc C (v := (nI (t + 1))) (lv' := [(4, .int (nI (t + 1))), (3, .int (nI s)), (0, .ref (ad g 19)), (1, .int (nI a)), (2, .int (nI b))]) 4 0 dX11_firstCrossing_69 rfl (inc_N _ 1) (by decide) rfl ?_
            refine r_goto C 13 dX11_firstCrossing_72 (by decide) ?_
            exact ih (t + 1) (by omega) (by omega) KR KK
          · rw [if_pos ⟨ts_t h50, Decidable.not_not.mp h57⟩] at KR
            refine r_sipush C (v := (nI 1024)) dX11_firstCrossing_60 (by decide) ?_
            refine r_iload_n C dX11_firstCrossing_63 1 rfl ?_
            refine r_imul C (v := (nI (1024 * s))) dX11_firstCrossing_64 (pk_mul _ _) ?_
            refine r_iload C dX11_firstCrossing_65 0 rfl ?_
            refine r_iadd C (v := (nI (1024 * s + t))) dX11_firstCrossing_67 (nI_add _ _) ?_
            exact r_iret C dX11_firstCrossing_68 (KR t rfl)
set_option maxHeartbeats 1000000 in
set_option maxRecDepth 100000 in
theorem lp_firstCrossing {z : Zt} {A : Nat → Prop} {l : Launch} {g : Gd} {μ : Mm} (C : Cx z A l (rmk 1 20) cX11_firstCrossing 5 "SetFamiliesModel") (X : Kx z g A) {F : Nat → Bool} {n a b : Nat} (h6 : gI μ 6 = nI n) (hn10 : n ≤ 10) (h5 : gA μ 5 = bR F) (ha : a < 4) (hb : b < 4) (h1024 : 2 ^ n ≤ 1024) (h2n : 0 < 2 ^ n) : ∀ (n_ : Nat) (s : Nat), 2 ^ n - s < n_ → s ≤ 2 ^ n → Rx z g A (some .int) (some (.int (fcO F a b n (2 ^ n - s) s))) μ → G z g.1 A 5 (wd g μ) 0 0 2 [(3, .int (nI s)), (0, .ref (ad g 19)), (1, .int (nI a)), (2, .int (nI b))] [] := by
  intro n_
  induction n_ with
  | zero => intro s hm_; exact absurd hm_ (Nat.not_lt_zero _)
  | succ n_ ih =>
    intro s hm_ hs Rr
    refine r_iload_n C dX11_firstCrossing_2 0 rfl ?_
    refine r_aload_n C dX11_firstCrossing_3 1 rfl ?_
    refine r_callV C X (As := []) (rest := [.int (nI s)]) (st1 := [.int (nI (2 ^ n)), .int (nI s)]) (μ' := μ) (k := 19) (T := TX11) miX11_codes mvX11_codes (c_codes l g μ (n := n) h6 (by omega)) hw_5_99 (by decide) rfl rfl rfl ⟨by decide, by decide, rfl, rfl, by decide, by decide⟩ rfl (Nat.le_of_ble_eq_true rfl) dX11_firstCrossing_4 rfl ?_
    refine r_icmp_ge C 81 dX11_firstCrossing_7 (by decide) (nI_leI (by omega) (by omega)) (fun h7 => ?_) (fun h7 => ?_)
    · rw [show 2 ^ n - s = 0 by omega, fcO] at Rr
      refine r_iconst C (v := (-1)) dX11_firstCrossing_81 rfl ?_
      exact r_iret C dX11_firstCrossing_82 Rr
    · have hs1 : s < 2 ^ n := by omega
      refine r_iconst C (v := (nI 0)) dX11_firstCrossing_10 rfl ?_
      refine r_istore C (lv' := [(4, .int (nI 0)), (3, .int (nI s)), (0, .ref (ad g 19)), (1, .int (nI a)), (2, .int (nI b))]) 4 dX11_firstCrossing_11 (by decide) rfl ?_
      rw [show 2 ^ n - s = (2 ^ n - (s + 1)) + 1 by omega, fcO] at Rr
      by_cases hFs : F (1024 * a + s) = true
      · rw [if_pos hFs] at Rr
        refine lp_firstCrossingI C X h6 hn10 h5 ha hb hs1 hFs h1024 h2n (2 ^ n + 1) 0 (by omega) (by omega) (fun t ht => by rw [Nat.sub_zero] at ht; rw [ht] at Rr; exact Rr) (fun hT => ?_)
        rw [Nat.sub_zero] at hT
        rw [hT] at Rr
        refine r_iinc C (v := (nI (s + 1))) (lv' := [(3, .int (nI (s + 1))), (0, .ref (ad g 19)), (1, .int (nI a)), (2, .int (nI b))]) 3 0 dX11_firstCrossing_75 rfl (inc_N _ 1) (by decide) rfl ?_
        refine r_goto C 2 dX11_firstCrossing_78 (by decide) ?_
        exact ih (s + 1) (by omega) (by omega) Rr
      · rw [if_neg hFs] at Rr
        refine r_iload C dX11_firstCrossing_13 0 rfl ?_
        refine r_aload_n C dX11_firstCrossing_15 2 rfl ?_
        refine r_callV C X (As := []) (rest := [.int (nI 0)]) (st1 := [.int (nI (2 ^ n)), .int (nI 0)]) (μ' := μ) (k := 19) (T := TX11) miX11_codes mvX11_codes (c_codes l g μ (n := n) h6 (by omega)) hw_5_99 (by decide) rfl rfl rfl ⟨by decide, by decide, rfl, rfl, by decide, by decide⟩ rfl (Nat.le_of_ble_eq_true rfl) dX11_firstCrossing_16 rfl ?_
        refine r_icmp_ge C 75 dX11_firstCrossing_19 (by decide) (nI_leI (by omega) (by omega)) (fun h19 => ?_) (fun h19 => ?_)
        · exact absurd h19 (by omega)
        · refine r_aload_n C dX11_firstCrossing_22 2 rfl ?_
          refine r_get C X (k := 19) (R := RX11) (T := TX11) (N := 15) (n := 2) (v := .ref (ad g 20)) (by decide) rfl rfl inw11 (by decide) rfl hw_5_20 rfl dX11_firstCrossing_23 ?_
          refine r_sipush C (v := (nI 1024)) dX11_firstCrossing_26 (by decide) ?_
          refine r_iload_n C dX11_firstCrossing_29 3 rfl ?_
          refine r_imul C (v := (nI (1024 * a))) dX11_firstCrossing_30 (pk_mul _ _) ?_
          refine r_iload_n C dX11_firstCrossing_31 1 rfl ?_
          refine r_iadd C (v := (nI (1024 * a + s))) dX11_firstCrossing_32 (nI_add _ _) ?_
          refine r_zald C X (k := 20) (v := (bI (F (1024 * a + s)))) (by decide) rfl (by omega) (by decide) (bR_at h5 _) dX11_firstCrossing_33 ?_
          refine r_if_eq C 75 dX11_firstCrossing_34 (by decide) (bI_eq _) (fun h34 => ?_) (fun h34 => ?_)
          · refine r_iinc C (v := (nI (s + 1))) (lv' := [(3, .int (nI (s + 1))), (4, .int (nI 0)), (0, .ref (ad g 19)), (1, .int (nI a)), (2, .int (nI b))]) 3 1 dX11_firstCrossing_75 rfl (inc_N _ 1) (by decide) rfl ?_
            refine r_goto C 2 dX11_firstCrossing_78 (by decide) ?_
            refine G_sub (lv' := [(3, .int (nI (s + 1))), (0, .ref (ad g 19)), (1, .int (nI a)), (2, .int (nI b))]) [0, 2, 3, 4] rfl ?_
            exact ih (s + 1) (by omega) (by omega) Rr
          · exact absurd (ts_t h34) hFs
set_option maxHeartbeats 1000000 in
set_option maxRecDepth 100000 in
theorem c_firstCrossing (l : Launch) (g : Gd) (μ : Mm) {F : Nat → Bool} {n a b : Nat} (h6 : gI μ 6 = nI n) (hn10 : n ≤ 10) (h5 : gA μ 5 = bR F) (ha : a < 4) (hb : b < 4) : Ct l yX11_firstCrossing cX11_firstCrossing 5 (some .int) (rmk 1 20) g [.ref (ad g 19), .int (nI a), .int (nI b)] μ (some (.int (fcO F a b n (2 ^ n) 0))) μ := by
  have h1024 := pw10 hn10
  have h2n := Nat.two_pow_pos n
  refine Ct.of (by decide) (Nat.le_of_ble_eq_true rfl) (fun z A C X Rr => ?_)
  refine r_iconst C (v := (nI 0)) dX11_firstCrossing_0 rfl ?_
  refine r_istore_n C (lv' := [(3, .int (nI 0)), (0, .ref (ad g 19)), (1, .int (nI a)), (2, .int (nI b))]) 3 dX11_firstCrossing_1 rfl (by decide) rfl ?_
  exact lp_firstCrossing C X h6 hn10 h5 ha hb h1024 h2n (2 ^ n + 1) 0 (by omega) (by omega) Rr
