set_option maxHeartbeats 1000000 in
set_option maxRecDepth 100000 in
theorem lp_setGroundM {z : Zt} {A : Nat → Prop} {l : Launch} {g : Gd} (C : Cx z A l (rmk 1 22) cX11_setGround 4 "SetFamiliesModel") (X : Kx z g A) {M : Mm} {F : Nat → Bool} {n e : Nat} (Rr : Rx z g A (some .int) (some (.int (nI n))) (sA M 5 (bR (rowU 4096 (fun _ => false) F)))) : ∀ (n_ : Nat) (k : Nat), 4096 - k < n_ → k ≤ 4096 → G z g.1 A 4 (wd g (sA M 5 (bR (rowU k (fun _ => false) F)))) 0 0 44 [(3, .int (nI k)), (2, .int (nI n)), (0, .ref (ad g 19)), (1, .int (nI e))] [] := by
  intro n_
  induction n_ with
  | zero => intro k hm_; exact absurd hm_ (Nat.not_lt_zero _)
  | succ n_ ih =>
    intro k hm_ hk
    refine r_iload_n C dX11_setGround_44 0 rfl ?_
    refine r_sipush C (v := (nI 4096)) dX11_setGround_45 (by decide) ?_
    refine r_icmp_ge C 64 dX11_setGround_48 (by decide) (nI_leI (by omega) (by omega)) (fun h48 => ?_) (fun h48 => ?_)
    · have hk2 : k = 4096 := by omega
      subst hk2
      refine r_iload_n C dX11_setGround_64 1 rfl ?_
      exact r_iret C dX11_setGround_65 Rr
    · refine r_aload_n C dX11_setGround_51 2 rfl ?_
      refine r_get C X (k := 19) (R := RX11) (T := TX11) (N := 15) (n := 2) (v := .ref (ad g 20)) (by decide) rfl rfl inw11 (by decide) rfl hw_5_20 rfl dX11_setGround_52 ?_
      refine r_iload_n C dX11_setGround_55 0 rfl ?_
      refine r_iconst C (v := (nI 0)) dX11_setGround_56 rfl ?_
      refine G_top (y := (bI false)) rfl ?_
      refine r_zast C X (k := 20) (f' := bR (rowU (k + 1) (fun _ => false) F)) (μ' := (sA (sA M 5 (bR (rowU k (fun _ => false) F))) 5 (bR (rowU (k + 1) (fun _ => false) F)))) (by decide) rfl (by omega) (by decide) (by rw [gA_s]; exact bR_s _ _ _ rfl) dX11_setGround_57 (congrArg (iR g 3 4096) (gA_s _ _ _)) (WF_sA5_ne g _ _) ?_
      refine G_mem (μ' := (sA M 5 (bR (rowU (k + 1) (fun _ => false) F)))) (sA_u _ _ _ _) ?_
      refine r_iinc C (v := (nI (k + 1))) (lv' := [(3, .int (nI (k + 1))), (2, .int (nI n)), (0, .ref (ad g 19)), (1, .int (nI e))]) 3 0 dX11_setGround_58 rfl (inc_N _ 1) (by decide) rfl ?_
      refine r_goto C 44 dX11_setGround_61 (by decide) ?_
      exact ih (k + 1) (by omega) (by omega)
set_option maxHeartbeats 1000000 in
set_option maxRecDepth 100000 in
theorem y_setGround (l : Launch) (g : Gd) (μ : Mm) {F P O : Nat → Bool} {n ps e : Nat} (hM : Mo μ F P O n ps) (he : 1 ≤ e) (he10 : e ≤ 10) : Ct l yX11_setGround cX11_setGround 4 (some .int) (rmk 1 22) g [.ref (ad g 19), .int (nI e)] μ (some (.int (nI n))) (sA (sI (mNote (sI μ 5 (nI 0)) F P n ps) 6 (nI e)) 5 (bR (rowU 4096 (fun _ => false) F))) := by
  obtain ⟨h6, h7, hps, h5, hP, h9, h1n, hn10⟩ := hM
  have h1024 := pw10 hn10
  have h2n := Nat.two_pow_pos n
  refine Ct.of (by decide) (Nat.le_of_ble_eq_true rfl) (fun z A C X Rr => ?_)
  refine r_aload_n C dX11_setGround_0 0 rfl ?_
  refine r_iload_n C dX11_setGround_1 1 rfl ?_
  refine r_iconst C (v := (nI 1)) dX11_setGround_2 rfl ?_
  refine r_bipush C (v := (nI 10)) dX11_setGround_3 (by decide) ?_
  refine r_callP C (As := [.int (nI e), .int (nI 1), .int (nI 10)]) (rest := [.ref (ad g 19)]) (st1 := [.int (bI (inI (nI e) (nI 1) (nI 10))), .ref (ad g 19)]) miX11_in msX11_in (c_in l (nI e) (nI 1) (nI 10)) hw_5_77 rfl ⟨by decide, by decide, rfl, rfl, by decide, by decide⟩ rfl (Nat.le_of_ble_eq_true rfl) dX11_setGround_5 rfl ?_
  refine G_top (y := (bI true)) (congrArg bI (inN (v := e) he he10 (by decide))) ?_
  refine r_if_eq C 15 dX11_setGround_8 (by decide) (bI_eq _) (fun h8 => ?_) (fun h8 => ?_)
  · exact absurd h8 (by decide)
  · refine r_iconst C (v := (nI 0)) dX11_setGround_11 rfl ?_
    refine r_goto C 16 dX11_setGround_12 (by decide) ?_
    refine r_put C X (μ' := (sI μ 5 (nI 0))) (k := 19) (R := RX11) (T := TX11) (N := 15) (n := 0) (v := .int (nI 0)) (ty := .int) (by decide) rfl rfl inw11 tyX11_ok nmX11 (by decide) rfl hw_5_18 rfl rfl rfl rfl (Nat.le_of_ble_eq_true rfl) dX11_setGround_16 (WF_sI5_at g _ _) (WF_sI5_ne g _ _) ?_
    refine r_aload_n C dX11_setGround_19 0 rfl ?_
    refine r_get C X (k := 19) (R := RX11) (T := TX11) (N := 15) (n := 0) (v := .int (gI (sI μ 5 (nI 0)) 5)) (by decide) rfl rfl inw11 (by decide) rfl hw_5_18 rfl dX11_setGround_20 ?_
    refine G_top (y := (nI 0)) (gI_s _ _ _) ?_
    refine r_if_le C 28 dX11_setGround_23 (by decide) (zI_le (by omega)) (fun h23 => ?_) (fun h23 => ?_)
    · refine r_aload_n C dX11_setGround_28 0 rfl ?_
      refine r_callV C X (As := []) (rest := []) (st1 := []) (μ' := (mNote (sI μ 5 (nI 0)) F P n ps)) (k := 19) (T := TX11) miX11_note mvX11_note (c_note l g (sI μ 5 (nI 0)) (F := F) (P := P) (n := n) (ps := ps) ((gI_n _ _ (by decide)).trans h6) ((gI_n _ _ (by decide)).trans h7) (by omega) ((gA_I _ _ _ _).trans h5) ((gA_I _ _ _ _).trans hP)) hw_5_80 (by decide) rfl rfl rfl ⟨by decide, by decide, rfl, rfl, by decide, by decide⟩ rfl (Nat.le_of_ble_eq_true rfl) dX11_setGround_29 rfl ?_
      refine r_aload_n C dX11_setGround_32 0 rfl ?_
      refine r_get C X (k := 19) (R := RX11) (T := TX11) (N := 15) (n := 1) (v := .int (gI (mNote (sI μ 5 (nI 0)) F P n ps) 6)) (by decide) rfl rfl inw11 (by decide) rfl hw_5_19 rfl dX11_setGround_33 ?_
      refine G_top (y := (nI n)) ((gI_mNote (by decide)).trans ((gI_n _ _ (by decide)).trans h6)) ?_
      refine r_istore_n C (lv' := [(2, .int (nI n)), (0, .ref (ad g 19)), (1, .int (nI e))]) 2 dX11_setGround_36 rfl (by decide) rfl ?_
      refine r_aload_n C dX11_setGround_37 1 rfl ?_
      refine r_iload_n C dX11_setGround_38 2 rfl ?_
      refine r_put C X (μ' := (sI (mNote (sI μ 5 (nI 0)) F P n ps) 6 (nI e))) (k := 19) (R := RX11) (T := TX11) (N := 15) (n := 1) (v := .int (nI e)) (ty := .int) (by decide) rfl rfl inw11 tyX11_ok nmX11 (by decide) rfl hw_5_19 rfl rfl rfl rfl (Nat.le_of_ble_eq_true rfl) dX11_setGround_39 (WF_sI6_at g _ _) (WF_sI6_ne g _ _) ?_
      refine r_iconst C (v := (nI 0)) dX11_setGround_42 rfl ?_
      refine r_istore_n C (lv' := [(3, .int (nI 0)), (2, .int (nI n)), (0, .ref (ad g 19)), (1, .int (nI e))]) 3 dX11_setGround_43 rfl (by decide) rfl ?_
      refine G_mem (show (sI (mNote (sI μ 5 (nI 0)) F P n ps) 6 (nI e)) = sA (sI (mNote (sI μ 5 (nI 0)) F P n ps) 6 (nI e)) 5 (bR (rowU 0 (fun _ => false) F)) by rw [rowU_0]; exact (sA_i _ 5).symm.trans (congrArg (sA _ 5) ((gA_I _ _ _ _).trans ((gA_mNote (by decide)).trans h5)))) ?_
      exact lp_setGroundM C X (M := (sI (mNote (sI μ 5 (nI 0)) F P n ps) 6 (nI e))) (F := F) (n := n) (e := e) Rr 4097 0 (by decide) (by decide)
    · exact absurd rfl h23
def trO (F O : Nat → Bool) (f e : Nat) : Nat → Nat → Bool
  | 0 => O
  | s + 1 => upB (trO F O f e s) (s &&& e) (trO F O f e s (s &&& e) || F (1024 * f + s))
theorem gI_mgM {μ : Mm} {a b : Bool} {q : Nat} (h : q ≠ 5) : gI (mgM μ a b) q = gI μ q := gI_n _ _ h
theorem gA_mgM {μ : Mm} {a b : Bool} {q : Nat} : gA (mgM μ a b) q = gA μ q := rfl
set_option maxHeartbeats 1000000 in
set_option maxRecDepth 100000 in
theorem lp_traceM {z : Zt} {A : Nat → Prop} {l : Launch} {g : Gd} (C : Cx z A l (rmk 3 68) cX11_trace 5 "SetFamiliesModel") (X : Kx z g A) {M : Mm} {F P O : Nat → Bool} {n ps q f e : Nat} (h6 : gI M 6 = nI n) (h7 : gI M 7 = nI ps) (hps : ps ≤ 4) (h5 : gA M 5 = bR F) (hP : gA M 6 = bR P) (h1n : 1 ≤ n) (hn10 : n ≤ 10) (hq : q < 4) (hf : f < 4) (he : e < 1024) (h1024 : 2 ^ n ≤ 1024) (h2n : 0 < 2 ^ n) (Rr : Rx z g A (some .int) (some (.int (nI (szF (lyB F (trO F O f e (2 ^ n)) q 1024) q (-1) (2 ^ n))))) (mLays (sA M 9 (bR (trO F O f e (2 ^ n)))) F P (trO F O f e (2 ^ n)) n ps q)) : ∀ (n_ : Nat) (s : Nat), 2 ^ n - s < n_ → s ≤ 2 ^ n → G z g.1 A 5 (wd g (sA M 9 (bR (trO F O f e s)))) 0 0 40 [(4, .int (nI s)), (0, .ref (ad g 19)), (1, .int (nI q)), (2, .int (nI f)), (3, .int (nI e))] [] := by
  intro n_
  induction n_ with
  | zero => intro s hm_; exact absurd hm_ (Nat.not_lt_zero _)
  | succ n_ ih =>
    intro s hm_ hs
    refine r_iload C dX11_trace_40 0 rfl ?_
    refine r_aload_n C dX11_trace_42 1 rfl ?_
    refine r_callV C X (As := []) (rest := [.int (nI s)]) (st1 := [.int (nI (2 ^ n)), .int (nI s)]) (μ' := (sA M 9 (bR (trO F O f e s)))) (k := 19) (T := TX11) miX11_codes mvX11_codes (c_codes l g (sA M 9 (bR (trO F O f e s))) (n := n) ((gI_A _ _ _ _).trans h6) (by omega)) hw_5_99 (by decide) rfl rfl rfl ⟨by decide, by decide, rfl, rfl, by decide, by decide⟩ rfl (Nat.le_of_ble_eq_true rfl) dX11_trace_43 rfl ?_
    refine r_icmp_ge C 97 dX11_trace_46 (by decide) (nI_leI (by omega) (by omega)) (fun h46 => ?_) (fun h46 => ?_)
    · have hs2 : s = 2 ^ n := by omega
      subst hs2
      have hX : Mo (sA M 9 (bR (trO F O f e (2 ^ n)))) F P (trO F O f e (2 ^ n)) n ps := ⟨((gI_A _ _ _ _).trans h6), ((gI_A _ _ _ _).trans h7), hps, ((gA_n _ _ (by decide)).trans h5), ((gA_n _ _ (by decide)).trans hP), (gA_s _ _ _), h1n, hn10⟩
      refine r_aload_n C dX11_trace_97 1 rfl ?_
      refine r_iload_n C dX11_trace_98 2 rfl ?_
      refine r_callV C X (As := [.int (nI q)]) (rest := []) (st1 := [.int (nI (szF (lyB F (trO F O f e (2 ^ n)) q 1024) q (-1) (2 ^ n)))]) (μ' := (mLays (sA M 9 (bR (trO F O f e (2 ^ n)))) F P (trO F O f e (2 ^ n)) n ps q)) (k := 19) (T := TX11) miX11_lays mvX11_lays (c_lays l g (sA M 9 (bR (trO F O f e (2 ^ n)))) (F := F) (P := P) (O := (trO F O f e (2 ^ n))) (n := n) (ps := ps) (q := q) ⟨((gI_A _ _ _ _).trans h6), ((gI_A _ _ _ _).trans h7), hps, ((gA_n _ _ (by decide)).trans h5), ((gA_n _ _ (by decide)).trans hP), (gA_s _ _ _), h1n, hn10⟩ (by omega)) hw_5_146 (by decide) rfl rfl rfl ⟨by decide, by decide, rfl, rfl, by decide, by decide⟩ rfl (Nat.le_of_ble_eq_true rfl) dX11_trace_99 rfl ?_
      exact r_iret C dX11_trace_102 Rr
    · have hse : s &&& e < 1024 := and1024 (by omega)
      refine r_aload_n C dX11_trace_49 1 rfl ?_
      refine r_get C X (k := 19) (R := RX11) (T := TX11) (N := 15) (n := 8) (v := .ref (ad g 24)) (by decide) rfl rfl inw11 (by decide) rfl hw_5_26 rfl dX11_trace_50 ?_
      refine r_iload C dX11_trace_53 0 rfl ?_
      refine r_iload_n C dX11_trace_55 4 rfl ?_
      refine r_iand C (v := (nI (s &&& e))) dX11_trace_56 (nand _ _) ?_
      refine r_aload_n C dX11_trace_57 1 rfl ?_
      refine r_get C X (k := 19) (R := RX11) (T := TX11) (N := 15) (n := 8) (v := .ref (ad g 24)) (by decide) rfl rfl inw11 (by decide) rfl hw_5_26 rfl dX11_trace_58 ?_
      refine r_iload C dX11_trace_61 0 rfl ?_
      refine r_iload_n C dX11_trace_63 4 rfl ?_
      refine r_iand C (v := (nI (s &&& e))) dX11_trace_64 (nand _ _) ?_
      refine r_zald C X (k := 24) (v := (bI ((trO F O f e s) (s &&& e)))) (by decide) rfl (by omega) (by decide) (bR_at (gA_s _ _ _) _) dX11_trace_65 ?_
      refine r_if_ne C 85 dX11_trace_66 (by decide) (bI_ne _) (fun h66 => ?_) (fun h66 => ?_)
      · refine r_iconst C (v := (nI 1)) dX11_trace_85 rfl ?_
        refine r_goto C 90 dX11_trace_86 (by decide) ?_
        refine G_top (y := (bI ((trO F O f e s) (s &&& e) || F (1024 * f + s)))) (b1 (by rw [h66]; rfl)) ?_
        refine r_zast C X (k := 24) (f' := bR (trO F O f e (s + 1))) (μ' := (sA (sA M 9 (bR (trO F O f e s))) 9 (bR (trO F O f e (s + 1))))) (by decide) rfl (by omega) (by decide) (by rw [gA_s, trO]; exact bR_up _ _ _) dX11_trace_90 (congrArg (iR g 3 1024) (gA_s _ _ _)) (WF_sA9_ne g _ _) ?_
        refine G_mem (μ' := (sA M 9 (bR (trO F O f e (s + 1))))) (sA_u _ _ _ _) ?_
        refine r_iinc C (v := (nI (s + 1))) (lv' := [(4, .int (nI (s + 1))), (0, .ref (ad g 19)), (1, .int (nI q)), (2, .int (nI f)), (3, .int (nI e))]) 4 0 dX11_trace_91 rfl (inc_N _ 1) (by decide) rfl ?_
        refine r_goto C 40 dX11_trace_94 (by decide) ?_
        exact ih (s + 1) (by omega) (by omega)
      · refine r_aload_n C dX11_trace_69 1 rfl ?_
        refine r_get C X (k := 19) (R := RX11) (T := TX11) (N := 15) (n := 2) (v := .ref (ad g 20)) (by decide) rfl rfl inw11 (by decide) rfl hw_5_20 rfl dX11_trace_70 ?_
        refine r_sipush C (v := (nI 1024)) dX11_trace_73 (by decide) ?_
        refine r_iload_n C dX11_trace_76 3 rfl ?_
        refine r_imul C (v := (nI (1024 * f))) dX11_trace_77 (pk_mul _ _) ?_
        refine r_iload C dX11_trace_78 0 rfl ?_
        refine r_iadd C (v := (nI (1024 * f + s))) dX11_trace_80 (nI_add _ _) ?_
        refine r_zald C X (k := 20) (v := (bI (F (1024 * f + s)))) (by decide) rfl (by omega) (by decide) (bR_at ((gA_n _ _ (by decide)).trans h5) _) dX11_trace_81 ?_
        refine r_if_eq C 89 dX11_trace_82 (by decide) (bI_eq _) (fun h82 => ?_) (fun h82 => ?_)
        · refine r_iconst C (v := (nI 0)) dX11_trace_89 rfl ?_
          refine G_top (y := (bI ((trO F O f e s) (s &&& e) || F (1024 * f + s)))) (b0 (by rw [Bool.eq_false_iff.mpr h66, h82]; rfl)) ?_
          refine r_zast C X (k := 24) (f' := bR (trO F O f e (s + 1))) (μ' := (sA (sA M 9 (bR (trO F O f e s))) 9 (bR (trO F O f e (s + 1))))) (by decide) rfl (by omega) (by decide) (by rw [gA_s, trO]; exact bR_up _ _ _) dX11_trace_90 (congrArg (iR g 3 1024) (gA_s _ _ _)) (WF_sA9_ne g _ _) ?_
          refine G_mem (μ' := (sA M 9 (bR (trO F O f e (s + 1))))) (sA_u _ _ _ _) ?_
          refine r_iinc C (v := (nI (s + 1))) (lv' := [(4, .int (nI (s + 1))), (0, .ref (ad g 19)), (1, .int (nI q)), (2, .int (nI f)), (3, .int (nI e))]) 4 0 dX11_trace_91 rfl (inc_N _ 1) (by decide) rfl ?_
          refine r_goto C 40 dX11_trace_94 (by decide) ?_
          exact ih (s + 1) (by omega) (by omega)
        · refine r_iconst C (v := (nI 1)) dX11_trace_85 rfl ?_
          refine r_goto C 90 dX11_trace_86 (by decide) ?_
          refine G_top (y := (bI ((trO F O f e s) (s &&& e) || F (1024 * f + s)))) (b1 (by rw [ts_t h82, Bool.or_true])) ?_
          refine r_zast C X (k := 24) (f' := bR (trO F O f e (s + 1))) (μ' := (sA (sA M 9 (bR (trO F O f e s))) 9 (bR (trO F O f e (s + 1))))) (by decide) rfl (by omega) (by decide) (by rw [gA_s, trO]; exact bR_up _ _ _) dX11_trace_90 (congrArg (iR g 3 1024) (gA_s _ _ _)) (WF_sA9_ne g _ _) ?_
          refine G_mem (μ' := (sA M 9 (bR (trO F O f e (s + 1))))) (sA_u _ _ _ _) ?_
          refine r_iinc C (v := (nI (s + 1))) (lv' := [(4, .int (nI (s + 1))), (0, .ref (ad g 19)), (1, .int (nI q)), (2, .int (nI f)), (3, .int (nI e))]) 4 0 dX11_trace_91 rfl (inc_N _ 1) (by decide) rfl ?_
          refine r_goto C 40 dX11_trace_94 (by decide) ?_
          exact ih (s + 1) (by omega) (by omega)
set_option maxHeartbeats 1000000 in
set_option maxRecDepth 100000 in
theorem y_trace (l : Launch) (g : Gd) (μ : Mm) {F P O : Nat → Bool} {n ps q f e : Nat} (hM : Mo μ F P O n ps) (hq : q < 4) (hf : f < 4) (he : e < 2 ^ n) : Ct l yX11_trace cX11_trace 5 (some .int) (rmk 3 68) g [.ref (ad g 19), .int (nI q), .int (nI f), .int (nI e)] μ (some (.int (nI (szF (lyB F (trO F (rowU 1024 (fun _ => false) O) f e (2 ^ n)) q 1024) q (-1) (2 ^ n))))) (mLays (sA (mgM μ true true) 9 (bR (trO F (rowU 1024 (fun _ => false) O) f e (2 ^ n)))) F P (trO F (rowU 1024 (fun _ => false) O) f e (2 ^ n)) n ps q) := by
  obtain ⟨h6, h7, hps, hF, hP, h9, h1n, hn10⟩ := hM
  have h1024 := pw10 hn10
  have h2n := Nat.two_pow_pos n
  refine Ct.of (by decide) (Nat.le_of_ble_eq_true rfl) (fun z A C X Rr => ?_)
  refine r_aload_n C dX11_trace_0 0 rfl ?_
  refine r_iload_n C dX11_trace_1 1 rfl ?_
  refine r_callP C (As := [.int (nI q)]) (rest := [.ref (ad g 19)]) (st1 := [.int (bI (inI (nI q) (nI 0) (nI 3))), .ref (ad g 19)]) miX11_isPlace msX11_isPlace (c_isPlace l (nI q)) hw_5_92 rfl ⟨by decide, by decide, rfl, rfl, by decide, by decide⟩ rfl (Nat.le_of_ble_eq_true rfl) dX11_trace_2 rfl ?_
  refine G_top (y := (bI true)) (congrArg bI (inN (v := q) (Nat.zero_le _) (by omega) (by decide))) ?_
  refine r_if_eq C 19 dX11_trace_5 (by decide) (bI_eq _) (fun h5 => ?_) (fun h5 => ?_)
  · exact absurd h5 (by decide)
  · refine r_iload_n C dX11_trace_8 2 rfl ?_
    refine r_callP C (As := [.int (nI f)]) (rest := [.ref (ad g 19)]) (st1 := [.int (bI (inI (nI f) (nI 0) (nI 3))), .ref (ad g 19)]) miX11_isPlace msX11_isPlace (c_isPlace l (nI f)) hw_5_92 rfl ⟨by decide, by decide, rfl, rfl, by decide, by decide⟩ rfl (Nat.le_of_ble_eq_true rfl) dX11_trace_9 rfl ?_
    refine G_top (y := (bI true)) (congrArg bI (inN (v := f) (Nat.zero_le _) (by omega) (by decide))) ?_
    refine r_if_eq C 19 dX11_trace_12 (by decide) (bI_eq _) (fun h12 => ?_) (fun h12 => ?_)
    · exact absurd h12 (by decide)
    · refine r_iconst C (v := (nI 1)) dX11_trace_15 rfl ?_
      refine r_goto C 20 dX11_trace_16 (by decide) ?_
      refine G_top (y := (bI true)) rfl ?_
      refine r_aload_n C dX11_trace_20 0 rfl ?_
      refine r_iload_n C dX11_trace_21 3 rfl ?_
      refine r_callV C X (As := [.int (nI e)]) (rest := [.int (bI true), .ref (ad g 19)]) (st1 := [.int (bI (inI (nI e) (nI 0) (nI (2 ^ n - 1)))), .int (bI true), .ref (ad g 19)]) (μ' := μ) (k := 19) (T := TX11) miX11_isCode mvX11_isCode (c_isCode l g μ (n := n) h6 (by omega) (nI e)) hw_5_95 (by decide) rfl rfl rfl ⟨by decide, by decide, rfl, rfl, by decide, by decide⟩ rfl (Nat.le_of_ble_eq_true rfl) dX11_trace_22 rfl ?_
      refine G_top (y := (bI true)) (congrArg bI (inN (v := e) (Nat.zero_le _) (by omega) (by omega))) ?_
      refine r_callV C X (As := [.int (bI true), .int (bI true)]) (rest := []) (st1 := [.int (bI (true && true))]) (μ' := (mgM μ true true)) (k := 19) (T := TX11) miX11_mayGo mvX11_mayGo (c_mayGo l g μ true true) hw_5_103 (by decide) rfl rfl rfl ⟨by decide, by decide, rfl, rfl, by decide, by decide⟩ rfl (Nat.le_of_ble_eq_true rfl) dX11_trace_25 rfl ?_
      refine r_if_ne C 33 dX11_trace_28 (by decide) (bI_ne _) (fun h28 => ?_) (fun h28 => ?_)
      · refine r_aload_n C dX11_trace_33 0 rfl ?_
        refine r_callV C X (As := []) (rest := []) (st1 := []) (μ' := (sA (mgM μ true true) 9 (bR (rowU 1024 (fun _ => false) O)))) (k := 19) (T := TX11) miX11_empties mvX11_empties (c_empties l g (mgM μ true true) (O := O) ((gA_I _ _ _ _).trans h9)) hw_5_154 (by decide) rfl rfl rfl ⟨by decide, by decide, rfl, rfl, by decide, by decide⟩ rfl (Nat.le_of_ble_eq_true rfl) dX11_trace_34 rfl ?_
        refine r_iconst C (v := (nI 0)) dX11_trace_37 rfl ?_
        refine r_istore C (lv' := [(4, .int (nI 0)), (0, .ref (ad g 19)), (1, .int (nI q)), (2, .int (nI f)), (3, .int (nI e))]) 4 dX11_trace_38 (by decide) rfl ?_
        refine G_mem (μ' := (sA (mgM μ true true) 9 (bR (trO F (rowU 1024 (fun _ => false) O) f e 0)))) rfl ?_
        exact lp_traceM C X (M := mgM μ true true) (O := (rowU 1024 (fun _ => false) O)) ((gI_mgM (by decide)).trans h6) ((gI_mgM (by decide)).trans h7) hps (gA_mgM.trans hF) (gA_mgM.trans hP) h1n hn10 hq hf (by omega) h1024 h2n Rr (2 ^ n + 1) 0 (by omega) (by omega)
      · exact absurd rfl h28
