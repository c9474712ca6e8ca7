set_option maxHeartbeats 1000000 in
set_option maxRecDepth 100000 in
theorem lp_digestF {z : Zt} {A : Nat → Prop} {l : Launch} {g : Gd} (C : Cx z A l (rmk 5 120) cX11_digest 3 "SetFamiliesModel") (X : Kx z g A) {M : Mm} {F : Nat → Bool} {n : Nat} (h6 : gI M 6 = nI n) (hn10 : n ≤ 10) (h5 : gA M 5 = bR F) (KK : G z g.1 A 3 (wd g (dgM F n M 4)) 0 0 57 [(0, .ref (ad g 19))] []) : ∀ (n_ : Nat) (k : Nat), 4 - k < n_ → k ≤ 4 → G z g.1 A 3 (wd g (dgM F n M k)) 0 0 41 [(1, .int (nI k)), (0, .ref (ad g 19))] [] := by
  intro n_
  induction n_ with
  | zero => intro k hm_; exact absurd hm_ (Nat.not_lt_zero _)
  | succ n_ ih =>
    intro k hm_ hk
    refine r_iload_n C dX11_digest_41 0 rfl ?_
    refine r_iconst C (v := (nI 4)) dX11_digest_42 rfl ?_
    refine r_icmp_ge C 57 dX11_digest_43 (by decide) (nI_leI (by omega) (by omega)) (fun h43 => ?_) (fun h43 => ?_)
    · have hk2 : k = 4 := by omega
      subst hk2
      refine G_sub (lv' := [(0, .ref (ad g 19))]) [1] rfl ?_
      exact KK
    · refine r_aload_n C dX11_digest_46 1 rfl ?_
      refine r_iload_n C dX11_digest_47 0 rfl ?_
      refine r_callV C X (As := [.int (nI k)]) (rest := []) (st1 := []) (μ' := (dgM F n M (k + 1))) (k := 19) (T := TX11) miX11_mixesFamily mvX11_mixesFamily (c_mixesFamily l g (dgM F n M k) (F := F) (n := n) (f := k) (h := gL (dgM F n M k) 2) (((dgM_fr F n M k).1 6 (by decide)).trans h6) hn10 (((dgM_fr F n M k).2 5 (by decide) (by decide)).trans h5) (by omega) rfl) hw_6_89 (by decide) rfl rfl rfl ⟨by decide, by decide, rfl, rfl, by decide, by decide⟩ rfl (Nat.le_of_ble_eq_true rfl) dX11_digest_48 rfl ?_
      refine r_iinc C (v := (nI (k + 1))) (lv' := [(1, .int (nI (k + 1))), (0, .ref (ad g 19))]) 1 0 dX11_digest_51 rfl (inc_N _ 1) (by decide) rfl ?_
      refine r_goto C 41 dX11_digest_54 (by decide) ?_
      exact ih (k + 1) (by omega) (by omega)
set_option maxHeartbeats 1000000 in
set_option maxRecDepth 100000 in
theorem lp_digestI {z : Zt} {A : Nat → Prop} {l : Launch} {g : Gd} (C : Cx z A l (rmk 5 120) cX11_digest 3 "SetFamiliesModel") (X : Kx z g A) {M : Mm} {F : Nat → Bool} {n : Nat} (h6 : gI M 6 = nI n) (hn10 : n ≤ 10) (h5 : gA M 5 = bR F) {a : Nat} {h : Int64} (ha : a < 4) (KK : G z g.1 A 3 (wd g (sL M 2 (dgI F n a h 4))) 0 0 88 [(1, .int (nI a)), (0, .ref (ad g 19))] []) : ∀ (n_ : Nat) (b : Nat), 4 - b < n_ → b ≤ 4 → G z g.1 A 3 (wd g (sL M 2 (dgI F n a h b))) 0 0 66 [(2, .int (nI b)), (1, .int (nI a)), (0, .ref (ad g 19))] [] := by
  intro n_
  induction n_ with
  | zero => intro b hm_; exact absurd hm_ (Nat.not_lt_zero _)
  | succ n_ ih =>
    intro b hm_ hb
    refine r_iload_n C dX11_digest_66 0 rfl ?_
    refine r_iconst C (v := (nI 4)) dX11_digest_67 rfl ?_
    refine r_icmp_ge C 88 dX11_digest_68 (by decide) (nI_leI (by omega) (by omega)) (fun h68 => ?_) (fun h68 => ?_)
    · have hk2 : b = 4 := by omega
      subst hk2
      refine G_sub (lv' := [(1, .int (nI a)), (0, .ref (ad g 19))]) [1, 2] rfl ?_
      exact KK
    · refine r_aload_n C dX11_digest_71 2 rfl ?_
      refine r_aload_n C dX11_digest_72 2 rfl ?_
      refine r_iload_n C dX11_digest_73 1 rfl ?_
      refine r_iload_n C dX11_digest_74 0 rfl ?_
      refine r_callV C X (As := [.int (nI a), .int (nI b)]) (rest := [.ref (ad g 19)]) (st1 := [.int (fcO F a b n (2 ^ n) 0), .ref (ad g 19)]) (μ' := (sL M 2 (dgI F n a h b))) (k := 19) (T := TX11) miX11_firstCrossing mvX11_firstCrossing (c_firstCrossing l g (sL M 2 (dgI F n a h b)) (F := F) (n := n) (a := a) (b := b) ((gI_L _ _ _ _).trans h6) (by omega) ((gA_L _ _ _ _).trans h5) (by omega) (by omega)) hw_6_43 (by decide) rfl rfl rfl ⟨by decide, by decide, rfl, rfl, by decide, by decide⟩ rfl (Nat.le_of_ble_eq_true rfl) dX11_digest_75 rfl ?_
      refine r_i2l C (v := (((fcO F a b n (2 ^ n) 0)).toInt64)) dX11_digest_78 rfl ?_
      refine r_callV C X (As := [.long (((fcO F a b n (2 ^ n) 0)).toInt64)]) (rest := []) (st1 := []) (μ' := (sL (sL M 2 (dgI F n a h b)) 2 (mx (dgI F n a h b) (((fcO F a b n (2 ^ n) 0)).toInt64)))) (k := 19) (T := TX11) miX11_mixes mvX11_mixes (c_mixes l g (sL M 2 (dgI F n a h b)) (h := dgI F n a h b) (gL_s _ _ _) (((fcO F a b n (2 ^ n) 0)).toInt64)) hw_6_84 (by decide) rfl rfl rfl ⟨by decide, by decide, rfl, rfl, by decide, by decide⟩ rfl (Nat.le_of_ble_eq_true rfl) dX11_digest_79 rfl ?_
      refine G_mem (μ' := (sL M 2 (mx (dgI F n a h b) (((fcO F a b n (2 ^ n) 0)).toInt64)))) (sL_u _ _ _ _) ?_
      refine r_iinc C (v := (nI (b + 1))) (lv' := [(2, .int (nI (b + 1))), (1, .int (nI a)), (0, .ref (ad g 19))]) 2 0 dX11_digest_82 rfl (inc_N _ 1) (by decide) rfl ?_
      refine r_goto C 66 dX11_digest_85 (by decide) ?_
      refine G_mem (μ' := (sL M 2 (dgI F n a h (b + 1)))) rfl ?_
      exact ih (b + 1) (by omega) (by omega)
set_option maxHeartbeats 1000000 in
set_option maxRecDepth 100000 in
theorem lp_digestM {z : Zt} {A : Nat → Prop} {l : Launch} {g : Gd} (C : Cx z A l (rmk 5 120) cX11_digest 3 "SetFamiliesModel") (X : Kx z g A) {M : Mm} {F : Nat → Bool} {n : Nat} (h6 : gI M 6 = nI n) (hn10 : n ≤ 10) (h5 : gA M 5 = bR F) {h : Int64} (Rr : Rx z g A (some .long) (some (.long (dgO F n h 4))) (sL M 2 (dgO F n h 4))) : ∀ (n_ : Nat) (a : Nat), 4 - a < n_ → a ≤ 4 → G z g.1 A 3 (wd g (sL M 2 (dgO F n h a))) 0 0 59 [(1, .int (nI a)), (0, .ref (ad g 19))] [] := by
  intro n_
  induction n_ with
  | zero => intro a hm_; exact absurd hm_ (Nat.not_lt_zero _)
  | succ n_ ih =>
    intro a hm_ ha
    refine r_iload_n C dX11_digest_59 0 rfl ?_
    refine r_iconst C (v := (nI 4)) dX11_digest_60 rfl ?_
    refine r_icmp_ge C 94 dX11_digest_61 (by decide) (nI_leI (by omega) (by omega)) (fun h61 => ?_) (fun h61 => ?_)
    · have hk2 : a = 4 := by omega
      subst hk2
      refine r_aload_n C dX11_digest_94 1 rfl ?_
      refine r_get C X (k := 19) (R := RX11) (T := TX11) (N := 15) (n := 14) (v := .long (gL (sL M 2 (dgO F n h 4)) 2)) (by decide) rfl rfl inw11 (by decide) rfl hw_5_32 rfl dX11_digest_95 ?_
      refine G_topl (y := (dgO F n h 4)) (gL_s _ _ _) ?_
      exact r_lret C dX11_digest_98 Rr
    · refine r_iconst C (v := (nI 0)) dX11_digest_64 rfl ?_
      refine r_istore_n C (lv' := [(2, .int (nI 0)), (1, .int (nI a)), (0, .ref (ad g 19))]) 2 dX11_digest_65 rfl (by decide) rfl ?_
      refine G_mem (μ' := (sL M 2 (dgI F n a (dgO F n h a) 0))) rfl ?_
      refine lp_digestI C X (M := M) (h := dgO F n h a) h6 hn10 h5 (by omega) ?_ 5 0 (by decide) (by decide)
      refine G_mem (μ' := (sL M 2 (dgO F n h (a + 1)))) rfl ?_
      refine r_iinc C (v := (nI (a + 1))) (lv' := [(1, .int (nI (a + 1))), (0, .ref (ad g 19))]) 1 0 dX11_digest_88 rfl (inc_N _ 1) (by decide) rfl ?_
      refine r_goto C 59 dX11_digest_91 (by decide) ?_
      exact ih (a + 1) (by omega) (by omega)
def dgN (μ : Mm) (F : Nat → Bool) (n ps ty : Nat) : Mm := (dgM F n (sL (sI μ 5 (nI 0)) 2 (mx (mx (mx 18454 (lN ps)) (lN ty)) (lN n))) 4)
set_option maxHeartbeats 1000000 in
set_option maxRecDepth 100000 in
theorem c_digestM (l : Launch) (g : Gd) (μ : Mm) {F : Nat → Bool} {n ps ty : Nat} (h6 : gI μ 6 = nI n) (hn10 : n ≤ 10) (h5 : gA μ 5 = bR F) (h7 : gI μ 7 = nI ps) (hps : ps ≤ 4) (h8 : gI μ 8 = nI ty) (hty : ty ≤ 120) : Ct l yX11_digest cX11_digest 3 (some .long) (rmk 5 120) g [.ref (ad g 19)] μ (some (.long (dgO F n (gL (dgN μ F n ps ty) 2) 4))) (sL (dgN μ F n ps ty) 2 (dgO F n (gL (dgN μ F n ps ty) 2) 4)) := by
  refine Ct.of (by decide) (Nat.le_of_ble_eq_true rfl) (fun z A C X Rr => ?_)
  refine r_aload_n C dX11_digest_0 0 rfl ?_
  refine r_iconst C (v := (nI 0)) dX11_digest_1 rfl ?_
  refine r_put C X (μ' := (sI μ 5 (nI 0))) (k := 19) (R := RX11) (T := TX11) (N := 15) (n := 0) (v := .int (nI 0)) (ty := .int) (by decide) rfl rfl inw11 tyX11_ok nmX11 (by decide) rfl hw_5_18 rfl rfl rfl rfl (Nat.le_of_ble_eq_true rfl) dX11_digest_2 (WF_sI5_at g _ _) (WF_sI5_ne g _ _) ?_
  refine r_aload_n C dX11_digest_5 0 rfl ?_
  refine r_ldc2 C dX11_digest_6 hw_6_83 ?_
  refine r_put C X (μ' := (sL (sI μ 5 (nI 0)) 2 (18454))) (k := 19) (R := RX11) (T := TX11) (N := 15) (n := 14) (v := .long (18454)) (ty := .long) (by decide) rfl rfl inw11 tyX11_ok nmX11 (by decide) rfl hw_5_32 rfl rfl rfl rfl (Nat.le_of_ble_eq_true rfl) dX11_digest_9 (WF_sL2_at g _ _) (WF_sL2_ne g _ _) ?_
  refine G_mem (μ' := (sL (sI μ 5 (nI 0)) 2 18454)) rfl ?_
  refine r_aload_n C dX11_digest_12 0 rfl ?_
  refine r_aload_n C dX11_digest_13 0 rfl ?_
  refine r_get C X (k := 19) (R := RX11) (T := TX11) (N := 15) (n := 5) (v := .int (gI (sL (sI μ 5 (nI 0)) 2 18454) 7)) (by decide) rfl rfl inw11 (by decide) rfl hw_5_23 rfl dX11_digest_14 ?_
  refine G_top (y := (nI ps)) ((gI_L _ _ _ _).trans ((gI_n _ _ (by decide)).trans h7)) ?_
  refine r_i2l C (v := (lN ps)) dX11_digest_17 (nI_l (by omega)) ?_
  refine r_callV C X (As := [.long (lN ps)]) (rest := []) (st1 := []) (μ' := (sL (sL (sI μ 5 (nI 0)) 2 18454) 2 (mx 18454 (lN ps)))) (k := 19) (T := TX11) miX11_mixes mvX11_mixes (c_mixes l g (sL (sI μ 5 (nI 0)) 2 18454) (h := 18454) (gL_s _ _ _) (lN ps)) hw_6_84 (by decide) rfl rfl rfl ⟨by decide, by decide, rfl, rfl, by decide, by decide⟩ rfl (Nat.le_of_ble_eq_true rfl) dX11_digest_18 rfl ?_
  refine G_mem (μ' := (sL (sI μ 5 (nI 0)) 2 (mx 18454 (lN ps)))) (sL_u _ _ _ _) ?_
  refine r_aload_n C dX11_digest_21 0 rfl ?_
  refine r_aload_n C dX11_digest_22 0 rfl ?_
  refine r_get C X (k := 19) (R := RX11) (T := TX11) (N := 15) (n := 7) (v := .int (gI (sL (sI μ 5 (nI 0)) 2 (mx 18454 (lN ps))) 8)) (by decide) rfl rfl inw11 (by decide) rfl hw_5_25 rfl dX11_digest_23 ?_
  refine G_top (y := (nI ty)) ((gI_L _ _ _ _).trans ((gI_n _ _ (by decide)).trans h8)) ?_
  refine r_i2l C (v := (lN ty)) dX11_digest_26 (nI_l (by omega)) ?_
  refine r_callV C X (As := [.long (lN ty)]) (rest := []) (st1 := []) (μ' := (sL (sL (sI μ 5 (nI 0)) 2 (mx 18454 (lN ps))) 2 (mx (mx 18454 (lN ps)) (lN ty)))) (k := 19) (T := TX11) miX11_mixes mvX11_mixes (c_mixes l g (sL (sI μ 5 (nI 0)) 2 (mx 18454 (lN ps))) (h := mx 18454 (lN ps)) (gL_s _ _ _) (lN ty)) hw_6_84 (by decide) rfl rfl rfl ⟨by decide, by decide, rfl, rfl, by decide, by decide⟩ rfl (Nat.le_of_ble_eq_true rfl) dX11_digest_27 rfl ?_
  refine G_mem (μ' := (sL (sI μ 5 (nI 0)) 2 (mx (mx 18454 (lN ps)) (lN ty)))) (sL_u _ _ _ _) ?_
  refine r_aload_n C dX11_digest_30 0 rfl ?_
  refine r_aload_n C dX11_digest_31 0 rfl ?_
  refine r_get C X (k := 19) (R := RX11) (T := TX11) (N := 15) (n := 1) (v := .int (gI (sL (sI μ 5 (nI 0)) 2 (mx (mx 18454 (lN ps)) (lN ty))) 6)) (by decide) rfl rfl inw11 (by decide) rfl hw_5_19 rfl dX11_digest_32 ?_
  refine G_top (y := (nI n)) ((gI_L _ _ _ _).trans ((gI_n _ _ (by decide)).trans h6)) ?_
  refine r_i2l C (v := (lN n)) dX11_digest_35 (nI_l (by omega)) ?_
  refine r_callV C X (As := [.long (lN n)]) (rest := []) (st1 := []) (μ' := (sL (sL (sI μ 5 (nI 0)) 2 (mx (mx 18454 (lN ps)) (lN ty))) 2 (mx (mx (mx 18454 (lN ps)) (lN ty)) (lN n)))) (k := 19) (T := TX11) miX11_mixes mvX11_mixes (c_mixes l g (sL (sI μ 5 (nI 0)) 2 (mx (mx 18454 (lN ps)) (lN ty))) (h := mx (mx 18454 (lN ps)) (lN ty)) (gL_s _ _ _) (lN n)) hw_6_84 (by decide) rfl rfl rfl ⟨by decide, by decide, rfl, rfl, by decide, by decide⟩ rfl (Nat.le_of_ble_eq_true rfl) dX11_digest_36 rfl ?_
  refine G_mem (μ' := (sL (sI μ 5 (nI 0)) 2 (mx (mx (mx 18454 (lN ps)) (lN ty)) (lN n)))) (sL_u _ _ _ _) ?_
  refine r_iconst C (v := (nI 0)) dX11_digest_39 rfl ?_
  refine r_istore_n C (lv' := [(1, .int (nI 0)), (0, .ref (ad g 19))]) 1 dX11_digest_40 rfl (by decide) rfl ?_
  refine G_mem (μ' := (dgM F n (sL (sI μ 5 (nI 0)) 2 (mx (mx (mx 18454 (lN ps)) (lN ty)) (lN n))) 0)) rfl ?_
  refine lp_digestF C X (M := (sL (sI μ 5 (nI 0)) 2 (mx (mx (mx 18454 (lN ps)) (lN ty)) (lN n)))) ((gI_L _ _ _ _).trans ((gI_n _ _ (by decide)).trans h6)) hn10 ((gA_L _ _ _ _).trans ((gA_I _ _ _ _).trans h5)) ?_ 5 0 (by decide) (by decide)
  refine r_iconst C (v := (nI 0)) dX11_digest_57 rfl ?_
  refine r_istore_n C (lv' := [(1, .int (nI 0)), (0, .ref (ad g 19))]) 1 dX11_digest_58 rfl (by decide) rfl ?_
  refine G_mem (μ' := (sL (dgM F n (sL (sI μ 5 (nI 0)) 2 (mx (mx (mx 18454 (lN ps)) (lN ty)) (lN n))) 4) 2 (dgO F n (gL (dgM F n (sL (sI μ 5 (nI 0)) 2 (mx (mx (mx 18454 (lN ps)) (lN ty)) (lN n))) 4) 2) 0))) (sL_i _ 2).symm ?_
  exact lp_digestM C X (M := (dgM F n (sL (sI μ 5 (nI 0)) 2 (mx (mx (mx 18454 (lN ps)) (lN ty)) (lN n))) 4)) (h := gL (dgM F n (sL (sI μ 5 (nI 0)) 2 (mx (mx (mx 18454 (lN ps)) (lN ty)) (lN n))) 4) 2) (((dgM_fr F n _ 4).1 6 (by decide)).trans ((gI_L _ _ _ _).trans ((gI_n _ _ (by decide)).trans h6))) hn10 (((dgM_fr F n _ 4).2 5 (by decide) (by decide)).trans ((gA_L _ _ _ _).trans ((gA_I _ _ _ _).trans h5))) Rr 5 0 (by decide) (by decide)
