def coV (p : Nat) (a b : Bool) : Bool := match p with
  | 0 => a || b
  | 1 => a && b
  | 2 => a && !b
  | _ => a != b
set_option maxHeartbeats 1000000 in
set_option maxRecDepth 100000 in
theorem lp_combineM {z : Zt} {A : Nat → Prop} {l : Launch} {g : Gd} (C : Cx z A l (rmk 3 68) cX11_combine 8 "SetFamiliesModel") (X : Kx z g A) {M : Mm} {F P O : Nat → Bool} {n ps q p a b : Nat} (h6 : gI M 6 = nI n) (h7 : gI M 7 = nI ps) (hps : ps ≤ 4) (h5 : gA M 5 = bR F) (hP : gA M 6 = bR P) (h1n : 1 ≤ n) (hn10 : n ≤ 10) (hq : q < 4) (hp : p < 4) (ha : a < 4) (hb : b < 4) (h1024 : 2 ^ n ≤ 1024) (Rr : Rx z g A (some .int) (some (.int (nI (szF (lyB F (rowU 1024 (fun c => coV p (F (1024 * a + c)) (F (1024 * b + c))) O) q 1024) q (-1) (2 ^ n))))) (mLays (sA M 9 (bR (rowU 1024 (fun c => coV p (F (1024 * a + c)) (F (1024 * b + c))) O))) F P (rowU 1024 (fun c => coV p (F (1024 * a + c)) (F (1024 * b + c))) O) n ps q)) : ∀ (n_ : Nat) (s : Nat), 1024 - s < n_ → s ≤ 1024 → G z g.1 A 8 (wd g (sA M 9 (bR (rowU s (fun c => coV p (F (1024 * a + c)) (F (1024 * b + c))) O)))) 0 0 45 [(5, .int (nI s)), (0, .ref (ad g 19)), (1, .int (nI q)), (2, .int (nI p)), (3, .int (nI a)), (4, .int (nI b))] [] := by
  intro n_
  induction n_ with
  | zero => intro s hm_; exact absurd hm_ (Nat.not_lt_zero _)
  | succ n_ ih =>
    intro s hm_ hs
    refine r_iload C dX11_combine_45 0 rfl ?_
    refine r_sipush C (v := (nI 1024)) dX11_combine_47 (by decide) ?_
    refine r_icmp_ge C 177 dX11_combine_50 (by decide) (nI_leI (by omega) (by omega)) (fun h50 => ?_) (fun h50 => ?_)
    · have hs2 : s = 1024 := by omega
      subst hs2
      refine r_aload_n C dX11_combine_177 1 rfl ?_
      refine r_iload_n C dX11_combine_178 2 rfl ?_
      refine r_callV C X (As := [.int (nI q)]) (rest := []) (st1 := [.int (nI (szF (lyB F (rowU 1024 (fun c => coV p (F (1024 * a + c)) (F (1024 * b + c))) O) q 1024) q (-1) (2 ^ n)))]) (μ' := (mLays (sA M 9 (bR (rowU 1024 (fun c => coV p (F (1024 * a + c)) (F (1024 * b + c))) O))) F P (rowU 1024 (fun c => coV p (F (1024 * a + c)) (F (1024 * b + c))) O) n ps q)) (k := 19) (T := TX11) miX11_lays mvX11_lays (c_lays l g (sA M 9 (bR (rowU 1024 (fun c => coV p (F (1024 * a + c)) (F (1024 * b + c))) O))) (F := F) (P := P) (O := (rowU 1024 (fun c => coV p (F (1024 * a + c)) (F (1024 * b + c))) O)) (n := n) (ps := ps) (q := q) ⟨((gI_A _ _ _ _).trans h6), ((gI_A _ _ _ _).trans h7), hps, ((gA_n _ _ (by decide)).trans h5), ((gA_n _ _ (by decide)).trans hP), (gA_s _ _ _), h1n, hn10⟩ (by omega)) hw_5_146 (by decide) rfl rfl rfl ⟨by decide, by decide, rfl, rfl, by decide, by decide⟩ rfl (Nat.le_of_ble_eq_true rfl) dX11_combine_179 rfl ?_
      exact r_iret C dX11_combine_182 Rr
    · refine r_aload_n C dX11_combine_53 1 rfl ?_
      refine r_get C X (k := 19) (R := RX11) (T := TX11) (N := 15) (n := 2) (v := .ref (ad g 20)) (by decide) rfl rfl inw11 (by decide) rfl hw_5_20 rfl dX11_combine_54 ?_
      refine r_sipush C (v := (nI 1024)) dX11_combine_57 (by decide) ?_
      refine r_iload_n C dX11_combine_60 4 rfl ?_
      refine r_imul C (v := (nI (1024 * a))) dX11_combine_61 (pk_mul _ _) ?_
      refine r_iload C dX11_combine_62 0 rfl ?_
      refine r_iadd C (v := (nI (1024 * a + s))) dX11_combine_64 (nI_add _ _) ?_
      refine r_zald C X (k := 20) (v := (bI (F (1024 * a + s)))) (by decide) rfl (by omega) (by decide) (bR_at ((gA_n _ _ (by decide)).trans h5) _) dX11_combine_65 ?_
      refine r_istore C (lv' := [(6, .int (bI (F (1024 * a + s)))), (5, .int (nI s)), (0, .ref (ad g 19)), (1, .int (nI q)), (2, .int (nI p)), (3, .int (nI a)), (4, .int (nI b))]) 6 dX11_combine_66 (by decide) rfl ?_
      refine r_aload_n C dX11_combine_68 2 rfl ?_
      refine r_get C X (k := 19) (R := RX11) (T := TX11) (N := 15) (n := 2) (v := .ref (ad g 20)) (by decide) rfl rfl inw11 (by decide) rfl hw_5_20 rfl dX11_combine_69 ?_
      refine r_sipush C (v := (nI 1024)) dX11_combine_72 (by decide) ?_
      refine r_iload C dX11_combine_75 6 rfl ?_
      refine r_imul C (v := (nI (1024 * b))) dX11_combine_77 (pk_mul _ _) ?_
      refine r_iload C dX11_combine_78 1 rfl ?_
      refine r_iadd C (v := (nI (1024 * b + s))) dX11_combine_80 (nI_add _ _) ?_
      refine r_zald C X (k := 20) (v := (bI (F (1024 * b + s)))) (by decide) rfl (by omega) (by decide) (bR_at ((gA_n _ _ (by decide)).trans h5) _) dX11_combine_81 ?_
      refine r_istore C (lv' := [(7, .int (bI (F (1024 * b + s)))), (6, .int (bI (F (1024 * a + s)))), (5, .int (nI s)), (0, .ref (ad g 19)), (1, .int (nI q)), (2, .int (nI p)), (3, .int (nI a)), (4, .int (nI b))]) 7 dX11_combine_82 (by decide) rfl ?_
      refine r_aload_n C dX11_combine_84 3 rfl ?_
      refine r_get C X (k := 19) (R := RX11) (T := TX11) (N := 15) (n := 8) (v := .ref (ad g 24)) (by decide) rfl rfl inw11 (by decide) rfl hw_5_26 rfl dX11_combine_85 ?_
      refine r_iload C dX11_combine_88 2 rfl ?_
      rcases (show p = 0 ∨ p = 1 ∨ p = 2 ∨ p = 3 by omega) with rfl | rfl | rfl | rfl
      · refine r_iload_n C dX11_combine_90 5 rfl ?_
        refine r_if_ne C 112 dX11_combine_91 (by decide) (zI_ne (by omega)) (fun h91 => ?_) (fun h91 => ?_)
        · exact absurd rfl h91
        · refine r_iload C dX11_combine_94 1 rfl ?_
          refine r_if_ne C 104 dX11_combine_96 (by decide) (bI_ne _) (fun h96 => ?_) (fun h96 => ?_)
          · refine r_iconst C (v := (nI 1)) dX11_combine_104 rfl ?_
            refine r_goto C 170 dX11_combine_105 (by decide) ?_
            refine G_top (y := (bI (coV 0 (F (1024 * a + s)) (F (1024 * b + s))))) (b1 (show coV 0 (F (1024 * a + s)) (F (1024 * b + s)) = true by show (_ || _) = true; rw [h96]; rfl)) ?_
            refine r_zast C X (k := 24) (f' := bR (rowU (s + 1) (fun c => coV 0 (F (1024 * a + c)) (F (1024 * b + c))) O)) (μ' := (sA (sA M 9 (bR (rowU s (fun c => coV 0 (F (1024 * a + c)) (F (1024 * b + c))) O))) 9 (bR (rowU (s + 1) (fun c => coV 0 (F (1024 * a + c)) (F (1024 * b + c))) O)))) (by decide) rfl (by omega) (by decide) (by rw [gA_s]; exact bR_s _ _ _ rfl) dX11_combine_170 (congrArg (iR g 3 1024) (gA_s _ _ _)) (WF_sA9_ne g _ _) ?_
            refine G_mem (μ' := (sA M 9 (bR (rowU (s + 1) (fun c => coV 0 (F (1024 * a + c)) (F (1024 * b + c))) O)))) (sA_u _ _ _ _) ?_
            refine r_iinc C (v := (nI (s + 1))) (lv' := [(5, .int (nI (s + 1))), (7, .int (bI (F (1024 * b + s)))), (6, .int (bI (F (1024 * a + s)))), (0, .ref (ad g 19)), (1, .int (nI q)), (2, .int (nI 0)), (3, .int (nI a)), (4, .int (nI b))]) 5 2 dX11_combine_171 rfl (inc_N _ 1) (by decide) rfl ?_
            refine r_goto C 45 dX11_combine_174 (by decide) ?_
            refine G_sub (lv' := [(5, .int (nI (s + 1))), (0, .ref (ad g 19)), (1, .int (nI q)), (2, .int (nI 0)), (3, .int (nI a)), (4, .int (nI b))]) [0, 3, 4, 5, 6, 7] rfl ?_
            exact ih (s + 1) (by omega) (by omega)
          · refine r_iload C dX11_combine_99 0 rfl ?_
            refine r_if_eq C 108 dX11_combine_101 (by decide) (bI_eq _) (fun h101 => ?_) (fun h101 => ?_)
            · refine r_iconst C (v := (nI 0)) dX11_combine_108 rfl ?_
              refine r_goto C 170 dX11_combine_109 (by decide) ?_
              refine G_top (y := (bI (coV 0 (F (1024 * a + s)) (F (1024 * b + s))))) (b0 (show coV 0 (F (1024 * a + s)) (F (1024 * b + s)) = false by show (_ || _) = false; rw [Bool.eq_false_iff.mpr h96, h101]; rfl)) ?_
              refine r_zast C X (k := 24) (f' := bR (rowU (s + 1) (fun c => coV 0 (F (1024 * a + c)) (F (1024 * b + c))) O)) (μ' := (sA (sA M 9 (bR (rowU s (fun c => coV 0 (F (1024 * a + c)) (F (1024 * b + c))) O))) 9 (bR (rowU (s + 1) (fun c => coV 0 (F (1024 * a + c)) (F (1024 * b + c))) O)))) (by decide) rfl (by omega) (by decide) (by rw [gA_s]; exact bR_s _ _ _ rfl) dX11_combine_170 (congrArg (iR g 3 1024) (gA_s _ _ _)) (WF_sA9_ne g _ _) ?_
              refine G_mem (μ' := (sA M 9 (bR (rowU (s + 1) (fun c => coV 0 (F (1024 * a + c)) (F (1024 * b + c))) O)))) (sA_u _ _ _ _) ?_
              refine r_iinc C (v := (nI (s + 1))) (lv' := [(5, .int (nI (s + 1))), (7, .int (bI (F (1024 * b + s)))), (6, .int (bI (F (1024 * a + s)))), (0, .ref (ad g 19)), (1, .int (nI q)), (2, .int (nI 0)), (3, .int (nI a)), (4, .int (nI b))]) 5 2 dX11_combine_171 rfl (inc_N _ 1) (by decide) rfl ?_
              refine r_goto C 45 dX11_combine_174 (by decide) ?_
              refine G_sub (lv' := [(5, .int (nI (s + 1))), (0, .ref (ad g 19)), (1, .int (nI q)), (2, .int (nI 0)), (3, .int (nI a)), (4, .int (nI b))]) [0, 3, 4, 5, 6, 7] rfl ?_
              exact ih (s + 1) (by omega) (by omega)
            · refine r_iconst C (v := (nI 1)) dX11_combine_104 rfl ?_
              refine r_goto C 170 dX11_combine_105 (by decide) ?_
              refine G_top (y := (bI (coV 0 (F (1024 * a + s)) (F (1024 * b + s))))) (b1 (show coV 0 (F (1024 * a + s)) (F (1024 * b + s)) = true by show (_ || _) = true; rw [ts_t h101, Bool.or_true])) ?_
              refine r_zast C X (k := 24) (f' := bR (rowU (s + 1) (fun c => coV 0 (F (1024 * a + c)) (F (1024 * b + c))) O)) (μ' := (sA (sA M 9 (bR (rowU s (fun c => coV 0 (F (1024 * a + c)) (F (1024 * b + c))) O))) 9 (bR (rowU (s + 1) (fun c => coV 0 (F (1024 * a + c)) (F (1024 * b + c))) O)))) (by decide) rfl (by omega) (by decide) (by rw [gA_s]; exact bR_s _ _ _ rfl) dX11_combine_170 (congrArg (iR g 3 1024) (gA_s _ _ _)) (WF_sA9_ne g _ _) ?_
              refine G_mem (μ' := (sA M 9 (bR (rowU (s + 1) (fun c => coV 0 (F (1024 * a + c)) (F (1024 * b + c))) O)))) (sA_u _ _ _ _) ?_
              refine r_iinc C (v := (nI (s + 1))) (lv' := [(5, .int (nI (s + 1))), (7, .int (bI (F (1024 * b + s)))), (6, .int (bI (F (1024 * a + s)))), (0, .ref (ad g 19)), (1, .int (nI q)), (2, .int (nI 0)), (3, .int (nI a)), (4, .int (nI b))]) 5 2 dX11_combine_171 rfl (inc_N _ 1) (by decide) rfl ?_
              refine r_goto C 45 dX11_combine_174 (by decide) ?_
              refine G_sub (lv' := [(5, .int (nI (s + 1))), (0, .ref (ad g 19)), (1, .int (nI q)), (2, .int (nI 0)), (3, .int (nI a)), (4, .int (nI b))]) [0, 3, 4, 5, 6, 7] rfl ?_
              exact ih (s + 1) (by omega) (by omega)
      · refine r_iload_n C dX11_combine_90 5 rfl ?_
        refine r_if_ne C 112 dX11_combine_91 (by decide) (zI_ne (by omega)) (fun h91 => ?_) (fun h91 => ?_)
        · refine r_iload_n C dX11_combine_112 5 rfl ?_
          refine r_iconst C (v := (nI 1)) dX11_combine_113 rfl ?_
          refine r_icmp_ne C 135 dX11_combine_114 (by decide) (not_congr (nI_eq (by omega) (by omega))) (fun h114 => ?_) (fun h114 => ?_)
          · exact absurd rfl h114
          · refine r_iload C dX11_combine_117 1 rfl ?_
            refine r_if_eq C 131 dX11_combine_119 (by decide) (bI_eq _) (fun h119 => ?_) (fun h119 => ?_)
            · refine r_iconst C (v := (nI 0)) dX11_combine_131 rfl ?_
              refine r_goto C 170 dX11_combine_132 (by decide) ?_
              refine G_top (y := (bI (coV 1 (F (1024 * a + s)) (F (1024 * b + s))))) (b0 (show coV 1 (F (1024 * a + s)) (F (1024 * b + s)) = false by show (_ && _) = false; rw [h119]; rfl)) ?_
              refine r_zast C X (k := 24) (f' := bR (rowU (s + 1) (fun c => coV 1 (F (1024 * a + c)) (F (1024 * b + c))) O)) (μ' := (sA (sA M 9 (bR (rowU s (fun c => coV 1 (F (1024 * a + c)) (F (1024 * b + c))) O))) 9 (bR (rowU (s + 1) (fun c => coV 1 (F (1024 * a + c)) (F (1024 * b + c))) O)))) (by decide) rfl (by omega) (by decide) (by rw [gA_s]; exact bR_s _ _ _ rfl) dX11_combine_170 (congrArg (iR g 3 1024) (gA_s _ _ _)) (WF_sA9_ne g _ _) ?_
              refine G_mem (μ' := (sA M 9 (bR (rowU (s + 1) (fun c => coV 1 (F (1024 * a + c)) (F (1024 * b + c))) O)))) (sA_u _ _ _ _) ?_
              refine r_iinc C (v := (nI (s + 1))) (lv' := [(5, .int (nI (s + 1))), (7, .int (bI (F (1024 * b + s)))), (6, .int (bI (F (1024 * a + s)))), (0, .ref (ad g 19)), (1, .int (nI q)), (2, .int (nI 1)), (3, .int (nI a)), (4, .int (nI b))]) 5 2 dX11_combine_171 rfl (inc_N _ 1) (by decide) rfl ?_
              refine r_goto C 45 dX11_combine_174 (by decide) ?_
              refine G_sub (lv' := [(5, .int (nI (s + 1))), (0, .ref (ad g 19)), (1, .int (nI q)), (2, .int (nI 1)), (3, .int (nI a)), (4, .int (nI b))]) [0, 3, 4, 5, 6, 7] rfl ?_
              exact ih (s + 1) (by omega) (by omega)
            · refine r_iload C dX11_combine_122 0 rfl ?_
              refine r_if_eq C 131 dX11_combine_124 (by decide) (bI_eq _) (fun h124 => ?_) (fun h124 => ?_)
              · refine r_iconst C (v := (nI 0)) dX11_combine_131 rfl ?_
                refine r_goto C 170 dX11_combine_132 (by decide) ?_
                refine G_top (y := (bI (coV 1 (F (1024 * a + s)) (F (1024 * b + s))))) (b0 (show coV 1 (F (1024 * a + s)) (F (1024 * b + s)) = false by show (_ && _) = false; rw [h124, Bool.and_false])) ?_
                refine r_zast C X (k := 24) (f' := bR (rowU (s + 1) (fun c => coV 1 (F (1024 * a + c)) (F (1024 * b + c))) O)) (μ' := (sA (sA M 9 (bR (rowU s (fun c => coV 1 (F (1024 * a + c)) (F (1024 * b + c))) O))) 9 (bR (rowU (s + 1) (fun c => coV 1 (F (1024 * a + c)) (F (1024 * b + c))) O)))) (by decide) rfl (by omega) (by decide) (by rw [gA_s]; exact bR_s _ _ _ rfl) dX11_combine_170 (congrArg (iR g 3 1024) (gA_s _ _ _)) (WF_sA9_ne g _ _) ?_
                refine G_mem (μ' := (sA M 9 (bR (rowU (s + 1) (fun c => coV 1 (F (1024 * a + c)) (F (1024 * b + c))) O)))) (sA_u _ _ _ _) ?_
                refine r_iinc C (v := (nI (s + 1))) (lv' := [(5, .int (nI (s + 1))), (7, .int (bI (F (1024 * b + s)))), (6, .int (bI (F (1024 * a + s)))), (0, .ref (ad g 19)), (1, .int (nI q)), (2, .int (nI 1)), (3, .int (nI a)), (4, .int (nI b))]) 5 2 dX11_combine_171 rfl (inc_N _ 1) (by decide) rfl ?_
                refine r_goto C 45 dX11_combine_174 (by decide) ?_
                refine G_sub (lv' := [(5, .int (nI (s + 1))), (0, .ref (ad g 19)), (1, .int (nI q)), (2, .int (nI 1)), (3, .int (nI a)), (4, .int (nI b))]) [0, 3, 4, 5, 6, 7] rfl ?_
                exact ih (s + 1) (by omega) (by omega)
              · refine r_iconst C (v := (nI 1)) dX11_combine_127 rfl ?_
                refine r_goto C 170 dX11_combine_128 (by decide) ?_
                refine G_top (y := (bI (coV 1 (F (1024 * a + s)) (F (1024 * b + s))))) (b1 (show coV 1 (F (1024 * a + s)) (F (1024 * b + s)) = true by show (_ && _) = true; rw [ts_t h119, ts_t h124]; rfl)) ?_
                refine r_zast C X (k := 24) (f' := bR (rowU (s + 1) (fun c => coV 1 (F (1024 * a + c)) (F (1024 * b + c))) O)) (μ' := (sA (sA M 9 (bR (rowU s (fun c => coV 1 (F (1024 * a + c)) (F (1024 * b + c))) O))) 9 (bR (rowU (s + 1) (fun c => coV 1 (F (1024 * a + c)) (F (1024 * b + c))) O)))) (by decide) rfl (by omega) (by decide) (by rw [gA_s]; exact bR_s _ _ _ rfl) dX11_combine_170 (congrArg (iR g 3 1024) (gA_s _ _ _)) (WF_sA9_ne g _ _) ?_
                refine G_mem (μ' := (sA M 9 (bR (rowU (s + 1) (fun c => coV 1 (F (1024 * a + c)) (F (1024 * b + c))) O)))) (sA_u _ _ _ _) ?_
                refine r_iinc C (v := (nI (s + 1))) (lv' := [(5, .int (nI (s + 1))), (7, .int (bI (F (1024 * b + s)))), (6, .int (bI (F (1024 * a + s)))), (0, .ref (ad g 19)), (1, .int (nI q)), (2, .int (nI 1)), (3, .int (nI a)), (4, .int (nI b))]) 5 2 dX11_combine_171 rfl (inc_N _ 1) (by decide) rfl ?_
                refine r_goto C 45 dX11_combine_174 (by decide) ?_
                refine G_sub (lv' := [(5, .int (nI (s + 1))), (0, .ref (ad g 19)), (1, .int (nI q)), (2, .int (nI 1)), (3, .int (nI a)), (4, .int (nI b))]) [0, 3, 4, 5, 6, 7] rfl ?_
                exact ih (s + 1) (by omega) (by omega)
        · exact absurd (Decidable.not_not.mp h91) (by decide)
      · refine r_iload_n C dX11_combine_90 5 rfl ?_
        refine r_if_ne C 112 dX11_combine_91 (by decide) (zI_ne (by omega)) (fun h91 => ?_) (fun h91 => ?_)
        · refine r_iload_n C dX11_combine_112 5 rfl ?_
          refine r_iconst C (v := (nI 1)) dX11_combine_113 rfl ?_
          refine r_icmp_ne C 135 dX11_combine_114 (by decide) (not_congr (nI_eq (by omega) (by omega))) (fun h114 => ?_) (fun h114 => ?_)
          · refine r_iload_n C dX11_combine_135 5 rfl ?_
            refine r_iconst C (v := (nI 2)) dX11_combine_136 rfl ?_
            refine r_icmp_ne C 158 dX11_combine_137 (by decide) (not_congr (nI_eq (by omega) (by omega))) (fun h137 => ?_) (fun h137 => ?_)
            · exact absurd rfl h137
            · refine r_iload C dX11_combine_140 1 rfl ?_
              refine r_if_eq C 154 dX11_combine_142 (by decide) (bI_eq _) (fun h142 => ?_) (fun h142 => ?_)
              · refine r_iconst C (v := (nI 0)) dX11_combine_154 rfl ?_
                refine r_goto C 170 dX11_combine_155 (by decide) ?_
                refine G_top (y := (bI (coV 2 (F (1024 * a + s)) (F (1024 * b + s))))) (b0 (show coV 2 (F (1024 * a + s)) (F (1024 * b + s)) = false by show (_ && _) = false; rw [h142]; rfl)) ?_
                refine r_zast C X (k := 24) (f' := bR (rowU (s + 1) (fun c => coV 2 (F (1024 * a + c)) (F (1024 * b + c))) O)) (μ' := (sA (sA M 9 (bR (rowU s (fun c => coV 2 (F (1024 * a + c)) (F (1024 * b + c))) O))) 9 (bR (rowU (s + 1) (fun c => coV 2 (F (1024 * a + c)) (F (1024 * b + c))) O)))) (by decide) rfl (by omega) (by decide) (by rw [gA_s]; exact bR_s _ _ _ rfl) dX11_combine_170 (congrArg (iR g 3 1024) (gA_s _ _ _)) (WF_sA9_ne g _ _) ?_
                refine G_mem (μ' := (sA M 9 (bR (rowU (s + 1) (fun c => coV 2 (F (1024 * a + c)) (F (1024 * b + c))) O)))) (sA_u _ _ _ _) ?_
                refine r_iinc C (v := (nI (s + 1))) (lv' := [(5, .int (nI (s + 1))), (7, .int (bI (F (1024 * b + s)))), (6, .int (bI (F (1024 * a + s)))), (0, .ref (ad g 19)), (1, .int (nI q)), (2, .int (nI 2)), (3, .int (nI a)), (4, .int (nI b))]) 5 2 dX11_combine_171 rfl (inc_N _ 1) (by decide) rfl ?_
                refine r_goto C 45 dX11_combine_174 (by decide) ?_
                refine G_sub (lv' := [(5, .int (nI (s + 1))), (0, .ref (ad g 19)), (1, .int (nI q)), (2, .int (nI 2)), (3, .int (nI a)), (4, .int (nI b))]) [0, 3, 4, 5, 6, 7] rfl ?_
                exact ih (s + 1) (by omega) (by omega)
              · refine r_iload C dX11_combine_145 0 rfl ?_
                refine r_if_ne C 154 dX11_combine_147 (by decide) (bI_ne _) (fun h147 => ?_) (fun h147 => ?_)
                · refine r_iconst C (v := (nI 0)) dX11_combine_154 rfl ?_
                  refine r_goto C 170 dX11_combine_155 (by decide) ?_
                  refine G_top (y := (bI (coV 2 (F (1024 * a + s)) (F (1024 * b + s))))) (b0 (show coV 2 (F (1024 * a + s)) (F (1024 * b + s)) = false by show (_ && !_) = false; rw [h147, Bool.not_true, Bool.and_false])) ?_
                  refine r_zast C X (k := 24) (f' := bR (rowU (s + 1) (fun c => coV 2 (F (1024 * a + c)) (F (1024 * b + c))) O)) (μ' := (sA (sA M 9 (bR (rowU s (fun c => coV 2 (F (1024 * a + c)) (F (1024 * b + c))) O))) 9 (bR (rowU (s + 1) (fun c => coV 2 (F (1024 * a + c)) (F (1024 * b + c))) O)))) (by decide) rfl (by omega) (by decide) (by rw [gA_s]; exact bR_s _ _ _ rfl) dX11_combine_170 (congrArg (iR g 3 1024) (gA_s _ _ _)) (WF_sA9_ne g _ _) ?_
                  refine G_mem (μ' := (sA M 9 (bR (rowU (s + 1) (fun c => coV 2 (F (1024 * a + c)) (F (1024 * b + c))) O)))) (sA_u _ _ _ _) ?_
                  refine r_iinc C (v := (nI (s + 1))) (lv' := [(5, .int (nI (s + 1))), (7, .int (bI (F (1024 * b + s)))), (6, .int (bI (F (1024 * a + s)))), (0, .ref (ad g 19)), (1, .int (nI q)), (2, .int (nI 2)), (3, .int (nI a)), (4, .int (nI b))]) 5 2 dX11_combine_171 rfl (inc_N _ 1) (by decide) rfl ?_
                  refine r_goto C 45 dX11_combine_174 (by decide) ?_
                  refine G_sub (lv' := [(5, .int (nI (s + 1))), (0, .ref (ad g 19)), (1, .int (nI q)), (2, .int (nI 2)), (3, .int (nI a)), (4, .int (nI b))]) [0, 3, 4, 5, 6, 7] rfl ?_
                  exact ih (s + 1) (by omega) (by omega)
                · refine r_iconst C (v := (nI 1)) dX11_combine_150 rfl ?_
                  refine r_goto C 170 dX11_combine_151 (by decide) ?_
                  refine G_top (y := (bI (coV 2 (F (1024 * a + s)) (F (1024 * b + s))))) (b1 (show coV 2 (F (1024 * a + s)) (F (1024 * b + s)) = true by show (_ && !_) = true; rw [ts_t h142, Bool.eq_false_iff.mpr h147]; rfl)) ?_
                  refine r_zast C X (k := 24) (f' := bR (rowU (s + 1) (fun c => coV 2 (F (1024 * a + c)) (F (1024 * b + c))) O)) (μ' := (sA (sA M 9 (bR (rowU s (fun c => coV 2 (F (1024 * a + c)) (F (1024 * b + c))) O))) 9 (bR (rowU (s + 1) (fun c => coV 2 (F (1024 * a + c)) (F (1024 * b + c))) O)))) (by decide) rfl (by omega) (by decide) (by rw [gA_s]; exact bR_s _ _ _ rfl) dX11_combine_170 (congrArg (iR g 3 1024) (gA_s _ _ _)) (WF_sA9_ne g _ _) ?_
                  refine G_mem (μ' := (sA M 9 (bR (rowU (s + 1) (fun c => coV 2 (F (1024 * a + c)) (F (1024 * b + c))) O)))) (sA_u _ _ _ _) ?_
                  refine r_iinc C (v := (nI (s + 1))) (lv' := [(5, .int (nI (s + 1))), (7, .int (bI (F (1024 * b + s)))), (6, .int (bI (F (1024 * a + s)))), (0, .ref (ad g 19)), (1, .int (nI q)), (2, .int (nI 2)), (3, .int (nI a)), (4, .int (nI b))]) 5 2 dX11_combine_171 rfl (inc_N _ 1) (by decide) rfl ?_
                  refine r_goto C 45 dX11_combine_174 (by decide) ?_
                  refine G_sub (lv' := [(5, .int (nI (s + 1))), (0, .ref (ad g 19)), (1, .int (nI q)), (2, .int (nI 2)), (3, .int (nI a)), (4, .int (nI b))]) [0, 3, 4, 5, 6, 7] rfl ?_
                  exact ih (s + 1) (by omega) (by omega)
          · exact absurd (Decidable.not_not.mp h114) (by decide)
        · exact absurd (Decidable.not_not.mp h91) (by decide)
      · refine r_iload_n C dX11_combine_90 5 rfl ?_
        refine r_if_ne C 112 dX11_combine_91 (by decide) (zI_ne (by omega)) (fun h91 => ?_) (fun h91 => ?_)
        · refine r_iload_n C dX11_combine_112 5 rfl ?_
          refine r_iconst C (v := (nI 1)) dX11_combine_113 rfl ?_
          refine r_icmp_ne C 135 dX11_combine_114 (by decide) (not_congr (nI_eq (by omega) (by omega))) (fun h114 => ?_) (fun h114 => ?_)
          · refine r_iload_n C dX11_combine_135 5 rfl ?_
            refine r_iconst C (v := (nI 2)) dX11_combine_136 rfl ?_
            refine r_icmp_ne C 158 dX11_combine_137 (by decide) (not_congr (nI_eq (by omega) (by omega))) (fun h137 => ?_) (fun h137 => ?_)
            · refine r_iload C dX11_combine_158 1 rfl ?_
              refine r_iload C dX11_combine_160 0 rfl ?_
              refine r_icmp_eq C 169 dX11_combine_162 (by decide) bI_inj (fun h162 => ?_) (fun h162 => ?_)
              · refine r_iconst C (v := (nI 0)) dX11_combine_169 rfl ?_
                refine G_top (y := (bI (coV 3 (F (1024 * a + s)) (F (1024 * b + s))))) (b0 (show coV 3 (F (1024 * a + s)) (F (1024 * b + s)) = false by show (_ != _) = false; rw [h162, bne_self_eq_false])) ?_
                refine r_zast C X (k := 24) (f' := bR (rowU (s + 1) (fun c => coV 3 (F (1024 * a + c)) (F (1024 * b + c))) O)) (μ' := (sA (sA M 9 (bR (rowU s (fun c => coV 3 (F (1024 * a + c)) (F (1024 * b + c))) O))) 9 (bR (rowU (s + 1) (fun c => coV 3 (F (1024 * a + c)) (F (1024 * b + c))) O)))) (by decide) rfl (by omega) (by decide) (by rw [gA_s]; exact bR_s _ _ _ rfl) dX11_combine_170 (congrArg (iR g 3 1024) (gA_s _ _ _)) (WF_sA9_ne g _ _) ?_
                refine G_mem (μ' := (sA M 9 (bR (rowU (s + 1) (fun c => coV 3 (F (1024 * a + c)) (F (1024 * b + c))) O)))) (sA_u _ _ _ _) ?_
                refine r_iinc C (v := (nI (s + 1))) (lv' := [(5, .int (nI (s + 1))), (7, .int (bI (F (1024 * b + s)))), (6, .int (bI (F (1024 * a + s)))), (0, .ref (ad g 19)), (1, .int (nI q)), (2, .int (nI 3)), (3, .int (nI a)), (4, .int (nI b))]) 5 2 dX11_combine_171 rfl (inc_N _ 1) (by decide) rfl ?_
                refine r_goto C 45 dX11_combine_174 (by decide) ?_
                refine G_sub (lv' := [(5, .int (nI (s + 1))), (0, .ref (ad g 19)), (1, .int (nI q)), (2, .int (nI 3)), (3, .int (nI a)), (4, .int (nI b))]) [0, 3, 4, 5, 6, 7] rfl ?_
                exact ih (s + 1) (by omega) (by omega)
              · refine r_iconst C (v := (nI 1)) dX11_combine_165 rfl ?_
                refine r_goto C 170 dX11_combine_166 (by decide) ?_
                refine G_top (y := (bI (coV 3 (F (1024 * a + s)) (F (1024 * b + s))))) (b1 (show coV 3 (F (1024 * a + s)) (F (1024 * b + s)) = true from bne_iff_ne.mpr h162)) ?_
                refine r_zast C X (k := 24) (f' := bR (rowU (s + 1) (fun c => coV 3 (F (1024 * a + c)) (F (1024 * b + c))) O)) (μ' := (sA (sA M 9 (bR (rowU s (fun c => coV 3 (F (1024 * a + c)) (F (1024 * b + c))) O))) 9 (bR (rowU (s + 1) (fun c => coV 3 (F (1024 * a + c)) (F (1024 * b + c))) O)))) (by decide) rfl (by omega) (by decide) (by rw [gA_s]; exact bR_s _ _ _ rfl) dX11_combine_170 (congrArg (iR g 3 1024) (gA_s _ _ _)) (WF_sA9_ne g _ _) ?_
                refine G_mem (μ' := (sA M 9 (bR (rowU (s + 1) (fun c => coV 3 (F (1024 * a + c)) (F (1024 * b + c))) O)))) (sA_u _ _ _ _) ?_
                refine r_iinc C (v := (nI (s + 1))) (lv' := [(5, .int (nI (s + 1))), (7, .int (bI (F (1024 * b + s)))), (6, .int (bI (F (1024 * a + s)))), (0, .ref (ad g 19)), (1, .int (nI q)), (2, .int (nI 3)), (3, .int (nI a)), (4, .int (nI b))]) 5 2 dX11_combine_171 rfl (inc_N _ 1) (by decide) rfl ?_
                refine r_goto C 45 dX11_combine_174 (by decide) ?_
                refine G_sub (lv' := [(5, .int (nI (s + 1))), (0, .ref (ad g 19)), (1, .int (nI q)), (2, .int (nI 3)), (3, .int (nI a)), (4, .int (nI b))]) [0, 3, 4, 5, 6, 7] rfl ?_
                exact ih (s + 1) (by omega) (by omega)
            · exact absurd (Decidable.not_not.mp h137) (by decide)
          · exact absurd (Decidable.not_not.mp h114) (by decide)
        · exact absurd (Decidable.not_not.mp h91) (by decide)
set_option maxHeartbeats 1000000 in
set_option maxRecDepth 100000 in
theorem y_combine (l : Launch) (g : Gd) (μ : Mm) {F P O : Nat → Bool} {n ps q p a b : Nat} (hM : Mo μ F P O n ps) (hq : q < 4) (hp : p < 4) (ha : a < 4) (hb : b < 4) : Ct l yX11_combine cX11_combine 8 (some .int) (rmk 3 68) g [.ref (ad g 19), .int (nI q), .int (nI p), .int (nI a), .int (nI b)] μ (some (.int (nI (szF (lyB F (rowU 1024 (fun c => coV p (F (1024 * a + c)) (F (1024 * b + c))) O) q 1024) q (-1) (2 ^ n))))) (mLays (sA (mgM μ true true) 9 (bR (rowU 1024 (fun c => coV p (F (1024 * a + c)) (F (1024 * b + c))) O))) F P (rowU 1024 (fun c => coV p (F (1024 * a + c)) (F (1024 * b + c))) O) n ps q) := by
  obtain ⟨h6, h7, hps, hF, hP, h9, h1n, hn10⟩ := hM
  have h1024 := pw10 hn10
  have h2n := Nat.two_pow_pos n
  refine Ct.of (by decide) (Nat.le_of_ble_eq_true rfl) (fun z A C X Rr => ?_)
  refine r_aload_n C dX11_combine_0 0 rfl ?_
  refine r_iload_n C dX11_combine_1 1 rfl ?_
  refine r_callP C (As := [.int (nI q)]) (rest := [.ref (ad g 19)]) (st1 := [.int (bI (inI (nI q) (nI 0) (nI 3))), .ref (ad g 19)]) miX11_isPlace msX11_isPlace (c_isPlace l (nI q)) hw_5_92 rfl ⟨by decide, by decide, rfl, rfl, by decide, by decide⟩ rfl (Nat.le_of_ble_eq_true rfl) dX11_combine_2 rfl ?_
  refine G_top (y := (bI true)) (congrArg bI (inN (v := q) (Nat.zero_le _) (by omega) (by decide))) ?_
  refine r_if_eq C 27 dX11_combine_5 (by decide) (bI_eq _) (fun h5 => ?_) (fun h5 => ?_)
  · exact absurd h5 (by decide)
  · refine r_iload_n C dX11_combine_8 3 rfl ?_
    refine r_callP C (As := [.int (nI a)]) (rest := [.ref (ad g 19)]) (st1 := [.int (bI (inI (nI a) (nI 0) (nI 3))), .ref (ad g 19)]) miX11_isPlace msX11_isPlace (c_isPlace l (nI a)) hw_5_92 rfl ⟨by decide, by decide, rfl, rfl, by decide, by decide⟩ rfl (Nat.le_of_ble_eq_true rfl) dX11_combine_9 rfl ?_
    refine G_top (y := (bI true)) (congrArg bI (inN (v := a) (Nat.zero_le _) (by omega) (by decide))) ?_
    refine r_if_eq C 27 dX11_combine_12 (by decide) (bI_eq _) (fun h12 => ?_) (fun h12 => ?_)
    · exact absurd h12 (by decide)
    · refine r_iload C dX11_combine_15 4 rfl ?_
      refine r_callP C (As := [.int (nI b)]) (rest := [.ref (ad g 19)]) (st1 := [.int (bI (inI (nI b) (nI 0) (nI 3))), .ref (ad g 19)]) miX11_isPlace msX11_isPlace (c_isPlace l (nI b)) hw_5_92 rfl ⟨by decide, by decide, rfl, rfl, by decide, by decide⟩ rfl (Nat.le_of_ble_eq_true rfl) dX11_combine_17 rfl ?_
      refine G_top (y := (bI true)) (congrArg bI (inN (v := b) (Nat.zero_le _) (by omega) (by decide))) ?_
      refine r_if_eq C 27 dX11_combine_20 (by decide) (bI_eq _) (fun h20 => ?_) (fun h20 => ?_)
      · exact absurd h20 (by decide)
      · refine r_iconst C (v := (nI 1)) dX11_combine_23 rfl ?_
        refine r_goto C 28 dX11_combine_24 (by decide) ?_
        refine G_top (y := (bI true)) rfl ?_
        refine r_iload_n C dX11_combine_28 2 rfl ?_
        refine r_iconst C (v := (nI 0)) dX11_combine_29 rfl ?_
        refine r_iconst C (v := (nI 3)) dX11_combine_30 rfl ?_
        refine r_callP C (As := [.int (nI p), .int (nI 0), .int (nI 3)]) (rest := [.int (bI true), .ref (ad g 19)]) (st1 := [.int (bI (inI (nI p) (nI 0) (nI 3))), .int (bI true), .ref (ad g 19)]) miX11_in msX11_in (c_in l (nI p) (nI 0) (nI 3)) hw_5_77 rfl ⟨by decide, by decide, rfl, rfl, by decide, by decide⟩ rfl (Nat.le_of_ble_eq_true rfl) dX11_combine_31 rfl ?_
        refine G_top (y := (bI true)) (congrArg bI (inN (v := p) (Nat.zero_le _) (by omega) (by decide))) ?_
        refine r_callV C X (As := [.int (bI true), .int (bI true)]) (rest := []) (st1 := [.int (bI (true && true))]) (μ' := (mgM μ true true)) (k := 19) (T := TX11) miX11_mayGo mvX11_mayGo (c_mayGo l g μ true true) hw_5_103 (by decide) rfl rfl rfl ⟨by decide, by decide, rfl, rfl, by decide, by decide⟩ rfl (Nat.le_of_ble_eq_true rfl) dX11_combine_34 rfl ?_
        refine r_if_ne C 42 dX11_combine_37 (by decide) (bI_ne _) (fun h37 => ?_) (fun h37 => ?_)
        · refine r_iconst C (v := (nI 0)) dX11_combine_42 rfl ?_
          refine r_istore C (lv' := [(5, .int (nI 0)), (0, .ref (ad g 19)), (1, .int (nI q)), (2, .int (nI p)), (3, .int (nI a)), (4, .int (nI b))]) 5 dX11_combine_43 (by decide) rfl ?_
          refine G_mem (show mgM μ true true = sA (mgM μ true true) 9 (bR (rowU 0 (fun c => coV p (F (1024 * a + c)) (F (1024 * b + c))) O)) by rw [rowU_0]; exact (sA_i _ 9).symm.trans (congrArg (sA _ 9) (gA_mgM.trans h9))) ?_
          exact lp_combineM C X (M := mgM μ true true) (O := O) ((gI_mgM (by decide)).trans h6) ((gI_mgM (by decide)).trans h7) hps (gA_mgM.trans hF) (gA_mgM.trans hP) h1n hn10 hq hp ha hb h1024 Rr 1025 0 (by decide) (by decide)
        · exact absurd rfl h37
/-- what a derivation lays into 'out' -/
def dvO (F O : Nat → Bool) (n p f : Nat) : Nat → Bool :=
  if p < 2 then swO F (rowU 1024 (fun _ => false) O) n f (decide (p = 1)) (2 ^ n)
  else if 7 < p then clW F f (decide (p = 8)) n (2 ^ n + 1) (rowU (2 ^ n) (fun c => F (1024 * f + c)) (rowU 1024 (fun _ => false) O))
  else rowU (2 ^ n) (fun c => idA F n p f c) (rowU 1024 (fun _ => false) O)
set_option maxHeartbeats 1000000 in
set_option maxRecDepth 100000 in
theorem lp_deriveM {z : Zt} {A : Nat → Prop} {l : Launch} {g : Gd} (C : Cx z A l (rmk 4 91) cX11_derive 5 "SetFamiliesModel") (X : Kx z g A) {M : Mm} {F P O : Nat → Bool} {n ps q p f : Nat} (h6 : gI M 6 = nI n) (h7 : gI M 7 = nI ps) (hps : ps ≤ 4) (h5 : gA M 5 = bR F) (hP : gA M 6 = bR P) (h1n : 1 ≤ n) (hn10 : n ≤ 10) (hq : q < 4) (hf : f < 4) (hp2 : 2 ≤ p) (hp7 : p ≤ 7) (h1024 : 2 ^ n ≤ 1024) (h2n : 0 < 2 ^ n) (Rr : Rx z g A (some .int) (some (.int (nI (szF (lyB F (rowU (2 ^ n) (fun c => idA F n p f c) O) q 1024) q (-1) (2 ^ n))))) (mLays (sA M 9 (bR (rowU (2 ^ n) (fun c => idA F n p f c) O))) F P (rowU (2 ^ n) (fun c => idA F n p f c) O) n ps q)) : ∀ (n_ : Nat) (s : Nat), 2 ^ n - s < n_ → s ≤ 2 ^ n → G z g.1 A 5 (wd g (sA M 9 (bR (rowU s (fun c => idA F n p f c) O)))) 0 0 90 [(4, .int (nI s)), (0, .ref (ad g 19)), (1, .int (nI q)), (2, .int (nI p)), (3, .int (nI f))] [] := by
  intro n_
  induction n_ with
  | zero => intro s hm_; exact absurd hm_ (Nat.not_lt_zero _)
  | succ n_ ih =>
    intro s hm_ hs
    refine r_iload C dX11_derive_90 0 rfl ?_
    refine r_aload_n C dX11_derive_92 1 rfl ?_
    refine r_callV C X (As := []) (rest := [.int (nI s)]) (st1 := [.int (nI (2 ^ n)), .int (nI s)]) (μ' := (sA M 9 (bR (rowU s (fun c => idA F n p f c) O)))) (k := 19) (T := TX11) miX11_codes mvX11_codes (c_codes l g (sA M 9 (bR (rowU s (fun c => idA F n p f c) O))) (n := n) ((gI_A _ _ _ _).trans h6) (by omega)) hw_5_99 (by decide) rfl rfl rfl ⟨by decide, by decide, rfl, rfl, by decide, by decide⟩ rfl (Nat.le_of_ble_eq_true rfl) dX11_derive_93 rfl ?_
    refine r_icmp_ge C 120 dX11_derive_96 (by decide) (nI_leI (by omega) (by omega)) (fun h96 => ?_) (fun h96 => ?_)
    · have hs2 : s = 2 ^ n := by omega
      subst hs2
      refine r_aload_n C dX11_derive_120 1 rfl ?_
      refine r_iload_n C dX11_derive_121 2 rfl ?_
      refine r_callV C X (As := [.int (nI q)]) (rest := []) (st1 := [.int (nI (szF (lyB F (rowU (2 ^ n) (fun c => idA F n p f c) O) q 1024) q (-1) (2 ^ n)))]) (μ' := (mLays (sA M 9 (bR (rowU (2 ^ n) (fun c => idA F n p f c) O))) F P (rowU (2 ^ n) (fun c => idA F n p f c) O) n ps q)) (k := 19) (T := TX11) miX11_lays mvX11_lays (c_lays l g (sA M 9 (bR (rowU (2 ^ n) (fun c => idA F n p f c) O))) (F := F) (P := P) (O := (rowU (2 ^ n) (fun c => idA F n p f c) O)) (n := n) (ps := ps) (q := q) ⟨((gI_A _ _ _ _).trans h6), ((gI_A _ _ _ _).trans h7), hps, ((gA_n _ _ (by decide)).trans h5), ((gA_n _ _ (by decide)).trans hP), (gA_s _ _ _), h1n, hn10⟩ (by omega)) hw_5_146 (by decide) rfl rfl rfl ⟨by decide, by decide, rfl, rfl, by decide, by decide⟩ rfl (Nat.le_of_ble_eq_true rfl) dX11_derive_122 rfl ?_
      exact r_iret C dX11_derive_125 Rr
    · refine r_aload_n C dX11_derive_99 1 rfl ?_
      refine r_get C X (k := 19) (R := RX11) (T := TX11) (N := 15) (n := 8) (v := .ref (ad g 24)) (by decide) rfl rfl inw11 (by decide) rfl hw_5_26 rfl dX11_derive_100 ?_
      refine r_iload C dX11_derive_103 0 rfl ?_
      refine r_aload_n C dX11_derive_105 1 rfl ?_
      refine r_iload_n C dX11_derive_106 3 rfl ?_
      refine r_iload_n C dX11_derive_107 4 rfl ?_
      refine r_iload C dX11_derive_108 0 rfl ?_
      refine r_callV C X (As := [.int (nI p), .int (nI f), .int (nI s)]) (rest := [.int (nI s), .ref (ad g 24)]) (st1 := [.int (bI (idA F n p f s)), .int (nI s), .ref (ad g 24)]) (μ' := (sA M 9 (bR (rowU s (fun c => idA F n p f c) O)))) (k := 19) (T := TX11) miX11_isDerived mvX11_isDerived (c_isDerived l g (sA M 9 (bR (rowU s (fun c => idA F n p f c) O))) (F := F) (n := n) (op := p) (f := f) (s := s) ((gI_A _ _ _ _).trans h6) (by omega) ((gA_n _ _ (by decide)).trans h5) (by omega) (by omega) (by omega) (by omega)) hw_5_166 (by decide) rfl rfl rfl ⟨by decide, by decide, rfl, rfl, by decide, by decide⟩ rfl (Nat.le_of_ble_eq_true rfl) dX11_derive_110 rfl ?_
      refine r_zast C X (k := 24) (f' := bR (rowU (s + 1) (fun c => idA F n p f c) O)) (μ' := (sA (sA M 9 (bR (rowU s (fun c => idA F n p f c) O))) 9 (bR (rowU (s + 1) (fun c => idA F n p f c) O)))) (by decide) rfl (by omega) (by decide) (by rw [gA_s]; exact bR_s _ _ _ rfl) dX11_derive_113 (congrArg (iR g 3 1024) (gA_s _ _ _)) (WF_sA9_ne g _ _) ?_
      refine G_mem (μ' := (sA M 9 (bR (rowU (s + 1) (fun c => idA F n p f c) O)))) (sA_u _ _ _ _) ?_
      refine r_iinc C (v := (nI (s + 1))) (lv' := [(4, .int (nI (s + 1))), (0, .ref (ad g 19)), (1, .int (nI q)), (2, .int (nI p)), (3, .int (nI f))]) 4 0 dX11_derive_114 rfl (inc_N _ 1) (by decide) rfl ?_
      refine r_goto C 90 dX11_derive_117 (by decide) ?_
      exact ih (s + 1) (by omega) (by omega)
set_option maxHeartbeats 1000000 in
set_option maxRecDepth 100000 in
theorem y_derive (l : Launch) (g : Gd) (μ : Mm) {F P O : Nat → Bool} {n ps q p f : Nat} (hM : Mo μ F P O n ps) (hq : q < 4) (hp : p < 10) (hf : f < 4) : Ct l yX11_derive cX11_derive 5 (some .int) (rmk 4 91) g [.ref (ad g 19), .int (nI q), .int (nI p), .int (nI f)] μ (some (.int (nI (szF (lyB F (dvO F O n p f) q 1024) q (-1) (2 ^ n))))) (mLays (sA (mgM μ true true) 9 (bR (dvO F O n p f))) F P (dvO F O n p f) n ps q) := by
  obtain ⟨h6, h7, hps, hF, hP, h9, h1n, hn10⟩ := hM
  have h1024 := pw10 hn10
  have h2n := Nat.two_pow_pos n
  refine Ct.of (by decide) (Nat.le_of_ble_eq_true rfl) (fun z A C X Rr => ?_)
  refine r_aload_n C dX11_derive_0 0 rfl ?_
  refine r_iload_n C dX11_derive_1 1 rfl ?_
  refine r_callP C (As := [.int (nI q)]) (rest := [.ref (ad g 19)]) (st1 := [.int (bI (inI (nI q) (nI 0) (nI 3))), .ref (ad g 19)]) miX11_isPlace msX11_isPlace (c_isPlace l (nI q)) hw_5_92 rfl ⟨by decide, by decide, rfl, rfl, by decide, by decide⟩ rfl (Nat.le_of_ble_eq_true rfl) dX11_derive_2 rfl ?_
  refine G_top (y := (bI true)) (congrArg bI (inN (v := q) (Nat.zero_le _) (by omega) (by decide))) ?_
  refine r_if_eq C 19 dX11_derive_5 (by decide) (bI_eq _) (fun h5 => ?_) (fun h5 => ?_)
  · exact absurd h5 (by decide)
  · refine r_iload_n C dX11_derive_8 3 rfl ?_
    refine r_callP C (As := [.int (nI f)]) (rest := [.ref (ad g 19)]) (st1 := [.int (bI (inI (nI f) (nI 0) (nI 3))), .ref (ad g 19)]) miX11_isPlace msX11_isPlace (c_isPlace l (nI f)) hw_5_92 rfl ⟨by decide, by decide, rfl, rfl, by decide, by decide⟩ rfl (Nat.le_of_ble_eq_true rfl) dX11_derive_9 rfl ?_
    refine G_top (y := (bI true)) (congrArg bI (inN (v := f) (Nat.zero_le _) (by omega) (by decide))) ?_
    refine r_if_eq C 19 dX11_derive_12 (by decide) (bI_eq _) (fun h12 => ?_) (fun h12 => ?_)
    · exact absurd h12 (by decide)
    · refine r_iconst C (v := (nI 1)) dX11_derive_15 rfl ?_
      refine r_goto C 20 dX11_derive_16 (by decide) ?_
      refine G_top (y := (bI true)) rfl ?_
      refine r_iload_n C dX11_derive_20 2 rfl ?_
      refine r_iconst C (v := (nI 0)) dX11_derive_21 rfl ?_
      refine r_bipush C (v := (nI 9)) dX11_derive_22 (by decide) ?_
      refine r_callP C (As := [.int (nI p), .int (nI 0), .int (nI 9)]) (rest := [.int (bI true), .ref (ad g 19)]) (st1 := [.int (bI (inI (nI p) (nI 0) (nI 9))), .int (bI true), .ref (ad g 19)]) miX11_in msX11_in (c_in l (nI p) (nI 0) (nI 9)) hw_5_77 rfl ⟨by decide, by decide, rfl, rfl, by decide, by decide⟩ rfl (Nat.le_of_ble_eq_true rfl) dX11_derive_24 rfl ?_
      refine G_top (y := (bI true)) (congrArg bI (inN (v := p) (Nat.zero_le _) (by omega) (by decide))) ?_
      refine r_callV C X (As := [.int (bI true), .int (bI true)]) (rest := []) (st1 := [.int (bI (true && true))]) (μ' := (mgM μ true true)) (k := 19) (T := TX11) miX11_mayGo mvX11_mayGo (c_mayGo l g μ true true) hw_5_103 (by decide) rfl rfl rfl ⟨by decide, by decide, rfl, rfl, by decide, by decide⟩ rfl (Nat.le_of_ble_eq_true rfl) dX11_derive_27 rfl ?_
      refine r_if_ne C 35 dX11_derive_30 (by decide) (bI_ne _) (fun h30 => ?_) (fun h30 => ?_)
      · refine r_aload_n C dX11_derive_35 0 rfl ?_
        refine r_callV C X (As := []) (rest := []) (st1 := []) (μ' := (sA (mgM μ true true) 9 (bR (rowU 1024 (fun _ => false) O)))) (k := 19) (T := TX11) miX11_empties mvX11_empties (c_empties l g (mgM μ true true) (O := O) ((gA_I _ _ _ _).trans h9)) hw_5_154 (by decide) rfl rfl rfl ⟨by decide, by decide, rfl, rfl, by decide, by decide⟩ rfl (Nat.le_of_ble_eq_true rfl) dX11_derive_36 rfl ?_
        refine r_iload_n C dX11_derive_39 2 rfl ?_
        refine r_iconst C (v := (nI 2)) dX11_derive_40 rfl ?_
        refine r_icmp_ge C 62 dX11_derive_41 (by decide) (nI_leI (by omega) (by omega)) (fun h41 => ?_) (fun h41 => ?_)
        · refine r_iload_n C dX11_derive_62 2 rfl ?_
          refine r_bipush C (v := (nI 7)) dX11_derive_63 (by decide) ?_
          refine r_icmp_le C 87 dX11_derive_65 (by decide) (nI_leI (by omega) (by omega)) (fun h65 => ?_) (fun h65 => ?_)
          · rw [dvO, if_neg (show ¬ p < 2 by omega), if_neg (show ¬ 7 < p by omega)] at Rr
            refine r_iconst C (v := (nI 0)) dX11_derive_87 rfl ?_
            refine r_istore C (lv' := [(4, .int (nI 0)), (0, .ref (ad g 19)), (1, .int (nI q)), (2, .int (nI p)), (3, .int (nI f))]) 4 dX11_derive_88 (by decide) rfl ?_
            refine G_mem (μ' := (sA (mgM μ true true) 9 (bR (rowU 0 (fun c => idA F n p f c) (rowU 1024 (fun _ => false) O))))) (by rw [rowU_0]) ?_
            exact lp_deriveM C X (M := mgM μ true true) (O := (rowU 1024 (fun _ => false) O)) ((gI_mgM (by decide)).trans h6) ((gI_mgM (by decide)).trans h7) hps (gA_mgM.trans hF) (gA_mgM.trans hP) h1n hn10 hq hf (by omega) (by omega) h1024 h2n Rr (2 ^ n + 1) 0 (by omega) (by omega)
          · rw [dvO, if_neg (show ¬ p < 2 by omega), if_pos (show 7 < p by omega)] at Rr
            refine r_aload_n C dX11_derive_68 0 rfl ?_
            refine r_iload_n C dX11_derive_69 3 rfl ?_
            refine r_iload_n C dX11_derive_70 2 rfl ?_
            refine r_bipush C (v := (nI 8)) dX11_derive_71 (by decide) ?_
            refine r_icmp_ne C 80 dX11_derive_73 (by decide) (not_congr (nI_eq (by omega) (by omega))) (fun h73 => ?_) (fun h73 => ?_)
            · refine r_iconst C (v := (nI 0)) dX11_derive_80 rfl ?_
              refine G_top (y := (bI (decide (p = 8)))) (bd0 h73) ?_
              refine r_callV C X (As := [.int (nI f), .int (bI (decide (p = 8)))]) (rest := []) (st1 := []) (μ' := (sA (sA (mgM μ true true) 9 (bR (rowU 1024 (fun _ => false) O))) 9 (bR (clW F f (decide (p = 8)) n (2 ^ n + 1) (rowU (2 ^ n) (fun c => F (1024 * f + c)) (rowU 1024 (fun _ => false) O)))))) (k := 19) (T := TX11) miX11_closes mvX11_closes (c_closes l g (sA (mgM μ true true) 9 (bR (rowU 1024 (fun _ => false) O))) (F := F) (O := rowU 1024 (fun _ => false) O) (n := n) (f := f) ((gI_A _ _ _ _).trans ((gI_n _ _ (by decide)).trans h6)) hn10 ((gA_n _ _ (by decide)).trans ((gA_I _ _ _ _).trans hF)) hf (gA_s _ _ _) (decide (p = 8))) hw_5_162 (by decide) rfl rfl rfl ⟨by decide, by decide, rfl, rfl, by decide, by decide⟩ rfl (Nat.le_of_ble_eq_true rfl) dX11_derive_81 rfl ?_
              refine G_mem (μ' := (sA (mgM μ true true) 9 (bR (clW F f (decide (p = 8)) n (2 ^ n + 1) (rowU (2 ^ n) (fun c => F (1024 * f + c)) (rowU 1024 (fun _ => false) O)))))) (sA_u _ _ _ _) ?_
              refine r_goto C 120 dX11_derive_84 (by decide) ?_
              refine r_aload_n C dX11_derive_120 0 rfl ?_
              refine r_iload_n C dX11_derive_121 1 rfl ?_
              refine r_callV C X (As := [.int (nI q)]) (rest := []) (st1 := [.int (nI (szF (lyB F (clW F f (decide (p = 8)) n (2 ^ n + 1) (rowU (2 ^ n) (fun c => F (1024 * f + c)) (rowU 1024 (fun _ => false) O))) q 1024) q (-1) (2 ^ n)))]) (μ' := (mLays (sA (mgM μ true true) 9 (bR (clW F f (decide (p = 8)) n (2 ^ n + 1) (rowU (2 ^ n) (fun c => F (1024 * f + c)) (rowU 1024 (fun _ => false) O))))) F P (clW F f (decide (p = 8)) n (2 ^ n + 1) (rowU (2 ^ n) (fun c => F (1024 * f + c)) (rowU 1024 (fun _ => false) O))) n ps q)) (k := 19) (T := TX11) miX11_lays mvX11_lays (c_lays l g (sA (mgM μ true true) 9 (bR (clW F f (decide (p = 8)) n (2 ^ n + 1) (rowU (2 ^ n) (fun c => F (1024 * f + c)) (rowU 1024 (fun _ => false) O))))) (F := F) (P := P) (O := (clW F f (decide (p = 8)) n (2 ^ n + 1) (rowU (2 ^ n) (fun c => F (1024 * f + c)) (rowU 1024 (fun _ => false) O)))) (n := n) (ps := ps) (q := q) ⟨((gI_A _ _ _ _).trans ((gI_n _ _ (by decide)).trans h6)), ((gI_A _ _ _ _).trans ((gI_n _ _ (by decide)).trans h7)), hps, ((gA_n _ _ (by decide)).trans ((gA_I _ _ _ _).trans hF)), ((gA_n _ _ (by decide)).trans ((gA_I _ _ _ _).trans hP)), (gA_s _ _ _), h1n, hn10⟩ (by omega)) hw_5_146 (by decide) rfl rfl rfl ⟨by decide, by decide, rfl, rfl, by decide, by decide⟩ rfl (Nat.le_of_ble_eq_true rfl) dX11_derive_122 rfl ?_
              exact r_iret C dX11_derive_125 Rr
            · refine r_iconst C (v := (nI 1)) dX11_derive_76 rfl ?_
              refine r_goto C 81 dX11_derive_77 (by decide) ?_
              refine G_top (y := (bI (decide (p = 8)))) (bd1 (Decidable.not_not.mp h73)) ?_
              refine r_callV C X (As := [.int (nI f), .int (bI (decide (p = 8)))]) (rest := []) (st1 := []) (μ' := (sA (sA (mgM μ true true) 9 (bR (rowU 1024 (fun _ => false) O))) 9 (bR (clW F f (decide (p = 8)) n (2 ^ n + 1) (rowU (2 ^ n) (fun c => F (1024 * f + c)) (rowU 1024 (fun _ => false) O)))))) (k := 19) (T := TX11) miX11_closes mvX11_closes (c_closes l g (sA (mgM μ true true) 9 (bR (rowU 1024 (fun _ => false) O))) (F := F) (O := rowU 1024 (fun _ => false) O) (n := n) (f := f) ((gI_A _ _ _ _).trans ((gI_n _ _ (by decide)).trans h6)) hn10 ((gA_n _ _ (by decide)).trans ((gA_I _ _ _ _).trans hF)) hf (gA_s _ _ _) (decide (p = 8))) hw_5_162 (by decide) rfl rfl rfl ⟨by decide, by decide, rfl, rfl, by decide, by decide⟩ rfl (Nat.le_of_ble_eq_true rfl) dX11_derive_81 rfl ?_
              refine G_mem (μ' := (sA (mgM μ true true) 9 (bR (clW F f (decide (p = 8)) n (2 ^ n + 1) (rowU (2 ^ n) (fun c => F (1024 * f + c)) (rowU 1024 (fun _ => false) O)))))) (sA_u _ _ _ _) ?_
              refine r_goto C 120 dX11_derive_84 (by decide) ?_
              refine r_aload_n C dX11_derive_120 0 rfl ?_
              refine r_iload_n C dX11_derive_121 1 rfl ?_
              refine r_callV C X (As := [.int (nI q)]) (rest := []) (st1 := [.int (nI (szF (lyB F (clW F f (decide (p = 8)) n (2 ^ n + 1) (rowU (2 ^ n) (fun c => F (1024 * f + c)) (rowU 1024 (fun _ => false) O))) q 1024) q (-1) (2 ^ n)))]) (μ' := (mLays (sA (mgM μ true true) 9 (bR (clW F f (decide (p = 8)) n (2 ^ n + 1) (rowU (2 ^ n) (fun c => F (1024 * f + c)) (rowU 1024 (fun _ => false) O))))) F P (clW F f (decide (p = 8)) n (2 ^ n + 1) (rowU (2 ^ n) (fun c => F (1024 * f + c)) (rowU 1024 (fun _ => false) O))) n ps q)) (k := 19) (T := TX11) miX11_lays mvX11_lays (c_lays l g (sA (mgM μ true true) 9 (bR (clW F f (decide (p = 8)) n (2 ^ n + 1) (rowU (2 ^ n) (fun c => F (1024 * f + c)) (rowU 1024 (fun _ => false) O))))) (F := F) (P := P) (O := (clW F f (decide (p = 8)) n (2 ^ n + 1) (rowU (2 ^ n) (fun c => F (1024 * f + c)) (rowU 1024 (fun _ => false) O)))) (n := n) (ps := ps) (q := q) ⟨((gI_A _ _ _ _).trans ((gI_n _ _ (by decide)).trans h6)), ((gI_A _ _ _ _).trans ((gI_n _ _ (by decide)).trans h7)), hps, ((gA_n _ _ (by decide)).trans ((gA_I _ _ _ _).trans hF)), ((gA_n _ _ (by decide)).trans ((gA_I _ _ _ _).trans hP)), (gA_s _ _ _), h1n, hn10⟩ (by omega)) hw_5_146 (by decide) rfl rfl rfl ⟨by decide, by decide, rfl, rfl, by decide, by decide⟩ rfl (Nat.le_of_ble_eq_true rfl) dX11_derive_122 rfl ?_
              exact r_iret C dX11_derive_125 Rr
        · rw [dvO, if_pos (show p < 2 by omega)] at Rr
          refine r_aload_n C dX11_derive_44 0 rfl ?_
          refine r_iload_n C dX11_derive_45 3 rfl ?_
          refine r_iload_n C dX11_derive_46 2 rfl ?_
          refine r_iconst C (v := (nI 1)) dX11_derive_47 rfl ?_
          refine r_icmp_ne C 55 dX11_derive_48 (by decide) (not_congr (nI_eq (by omega) (by omega))) (fun h48 => ?_) (fun h48 => ?_)
          · refine r_iconst C (v := (nI 0)) dX11_derive_55 rfl ?_
            refine G_top (y := (bI (decide (p = 1)))) (bd0 h48) ?_
            refine r_callV C X (As := [.int (nI f), .int (bI (decide (p = 1)))]) (rest := []) (st1 := []) (μ' := (sA (sA (mgM μ true true) 9 (bR (rowU 1024 (fun _ => false) O))) 9 (bR (swO F (rowU 1024 (fun _ => false) O) n f (decide (p = 1)) (2 ^ n))))) (k := 19) (T := TX11) miX11_shadow mvX11_shadow (c_shadow l g (sA (mgM μ true true) 9 (bR (rowU 1024 (fun _ => false) O))) (F := F) (O := rowU 1024 (fun _ => false) O) (n := n) (f := f) ((gI_A _ _ _ _).trans ((gI_n _ _ (by decide)).trans h6)) hn10 ((gA_n _ _ (by decide)).trans ((gA_I _ _ _ _).trans hF)) hf (gA_s _ _ _) (decide (p = 1))) hw_5_158 (by decide) rfl rfl rfl ⟨by decide, by decide, rfl, rfl, by decide, by decide⟩ rfl (Nat.le_of_ble_eq_true rfl) dX11_derive_56 rfl ?_
            refine G_mem (μ' := (sA (mgM μ true true) 9 (bR (swO F (rowU 1024 (fun _ => false) O) n f (decide (p = 1)) (2 ^ n))))) (sA_u _ _ _ _) ?_
            refine r_goto C 120 dX11_derive_59 (by decide) ?_
            refine r_aload_n C dX11_derive_120 0 rfl ?_
            refine r_iload_n C dX11_derive_121 1 rfl ?_
            refine r_callV C X (As := [.int (nI q)]) (rest := []) (st1 := [.int (nI (szF (lyB F (swO F (rowU 1024 (fun _ => false) O) n f (decide (p = 1)) (2 ^ n)) q 1024) q (-1) (2 ^ n)))]) (μ' := (mLays (sA (mgM μ true true) 9 (bR (swO F (rowU 1024 (fun _ => false) O) n f (decide (p = 1)) (2 ^ n)))) F P (swO F (rowU 1024 (fun _ => false) O) n f (decide (p = 1)) (2 ^ n)) n ps q)) (k := 19) (T := TX11) miX11_lays mvX11_lays (c_lays l g (sA (mgM μ true true) 9 (bR (swO F (rowU 1024 (fun _ => false) O) n f (decide (p = 1)) (2 ^ n)))) (F := F) (P := P) (O := (swO F (rowU 1024 (fun _ => false) O) n f (decide (p = 1)) (2 ^ n))) (n := n) (ps := ps) (q := q) ⟨((gI_A _ _ _ _).trans ((gI_n _ _ (by decide)).trans h6)), ((gI_A _ _ _ _).trans ((gI_n _ _ (by decide)).trans h7)), hps, ((gA_n _ _ (by decide)).trans ((gA_I _ _ _ _).trans hF)), ((gA_n _ _ (by decide)).trans ((gA_I _ _ _ _).trans hP)), (gA_s _ _ _), h1n, hn10⟩ (by omega)) hw_5_146 (by decide) rfl rfl rfl ⟨by decide, by decide, rfl, rfl, by decide, by decide⟩ rfl (Nat.le_of_ble_eq_true rfl) dX11_derive_122 rfl ?_
            exact r_iret C dX11_derive_125 Rr
          · refine r_iconst C (v := (nI 1)) dX11_derive_51 rfl ?_
            refine r_goto C 56 dX11_derive_52 (by decide) ?_
            refine G_top (y := (bI (decide (p = 1)))) (bd1 (Decidable.not_not.mp h48)) ?_
            refine r_callV C X (As := [.int (nI f), .int (bI (decide (p = 1)))]) (rest := []) (st1 := []) (μ' := (sA (sA (mgM μ true true) 9 (bR (rowU 1024 (fun _ => false) O))) 9 (bR (swO F (rowU 1024 (fun _ => false) O) n f (decide (p = 1)) (2 ^ n))))) (k := 19) (T := TX11) miX11_shadow mvX11_shadow (c_shadow l g (sA (mgM μ true true) 9 (bR (rowU 1024 (fun _ => false) O))) (F := F) (O := rowU 1024 (fun _ => false) O) (n := n) (f := f) ((gI_A _ _ _ _).trans ((gI_n _ _ (by decide)).trans h6)) hn10 ((gA_n _ _ (by decide)).trans ((gA_I _ _ _ _).trans hF)) hf (gA_s _ _ _) (decide (p = 1))) hw_5_158 (by decide) rfl rfl rfl ⟨by decide, by decide, rfl, rfl, by decide, by decide⟩ rfl (Nat.le_of_ble_eq_true rfl) dX11_derive_56 rfl ?_
            refine G_mem (μ' := (sA (mgM μ true true) 9 (bR (swO F (rowU 1024 (fun _ => false) O) n f (decide (p = 1)) (2 ^ n))))) (sA_u _ _ _ _) ?_
            refine r_goto C 120 dX11_derive_59 (by decide) ?_
            refine r_aload_n C dX11_derive_120 0 rfl ?_
            refine r_iload_n C dX11_derive_121 1 rfl ?_
            refine r_callV C X (As := [.int (nI q)]) (rest := []) (st1 := [.int (nI (szF (lyB F (swO F (rowU 1024 (fun _ => false) O) n f (decide (p = 1)) (2 ^ n)) q 1024) q (-1) (2 ^ n)))]) (μ' := (mLays (sA (mgM μ true true) 9 (bR (swO F (rowU 1024 (fun _ => false) O) n f (decide (p = 1)) (2 ^ n)))) F P (swO F (rowU 1024 (fun _ => false) O) n f (decide (p = 1)) (2 ^ n)) n ps q)) (k := 19) (T := TX11) miX11_lays mvX11_lays (c_lays l g (sA (mgM μ true true) 9 (bR (swO F (rowU 1024 (fun _ => false) O) n f (decide (p = 1)) (2 ^ n)))) (F := F) (P := P) (O := (swO F (rowU 1024 (fun _ => false) O) n f (decide (p = 1)) (2 ^ n))) (n := n) (ps := ps) (q := q) ⟨((gI_A _ _ _ _).trans ((gI_n _ _ (by decide)).trans h6)), ((gI_A _ _ _ _).trans ((gI_n _ _ (by decide)).trans h7)), hps, ((gA_n _ _ (by decide)).trans ((gA_I _ _ _ _).trans hF)), ((gA_n _ _ (by decide)).trans ((gA_I _ _ _ _).trans hP)), (gA_s _ _ _), h1n, hn10⟩ (by omega)) hw_5_146 (by decide) rfl rfl rfl ⟨by decide, by decide, rfl, rfl, by decide, by decide⟩ rfl (Nat.le_of_ble_eq_true rfl) dX11_derive_122 rfl ?_
            exact r_iret C dX11_derive_125 Rr
      · exact absurd rfl h30
