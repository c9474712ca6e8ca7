def mSvC (q : Nat) (μ : Mm) : Nat → Mm := itM (fun m f => mCpy m (4 + (q * 4 + f)) (0 + f)) μ
def mSave (μ : Mm) (p d n : Nat) : Mm := sI (mSvC ((p + 1) % 4) (sA (sI μ 3 (nI ((p + 1) % 4))) 0 (upd (gA μ 0) ((p + 1) % 4) (nI n))) 4) 2 (nI (min (d + 1) 4))
theorem gI_mSvC {q : Nat} {μ : Mm} {k j : Nat} : gI (mSvC q μ k) j = gI μ j := gI_it (f := fun m f => mCpy m (4 + (q * 4 + f)) (0 + f)) (fun _ _ _ => rfl) k
theorem min4 {d : Nat} (h : d ≤ 4) : (if nI 4 < nI (d + 1) then nI 4 else nI (d + 1)) = nI (min (d + 1) 4) := by
  by_cases q : 4 < d + 1
  · rw [if_pos ((nI_ltI (by decide) (by omega)).mpr q)]; congr 1; omega
  · rw [if_neg (fun z => q ((nI_ltI (by decide) (by omega)).mp z))]; congr 1; omega
def mRsC (q : Nat) (μ : Mm) : Nat → Mm := itM (fun m f => mCpy m (0 + f) (4 + (q * 4 + f))) μ
theorem gI_mRsC {q : Nat} {μ : Mm} {k j : Nat} : gI (mRsC q μ k) j = gI μ j := gI_it (f := fun m f => mCpy m (0 + f) (4 + (q * 4 + f))) (fun _ _ _ => rfl) k
def mRest (μ : Mm) (p d n : Nat) : Mm := sI (sI (mRsC p (sI (sI μ 0 (nI n)) 1 (nI (wf n))) 4) 3 (nI ((p + 3) % 4))) 2 (nI (d - 1))
set_option maxHeartbeats 1000000 in
set_option maxRecDepth 100000 in
theorem lp_save {z : Zt} {A : Nat → Prop} {l : Launch} {g : Gd} (C : Cx z A l (rmk 2 61) cX5_save 4 "SetFamilies$History") (X : Kx z g A) {M : Mm} {q d : Nat} (hq : q < 4) (h3 : gI M 3 = nI q) (h2 : gI M 2 = nI d) (hd4 : d ≤ 4) (Rr : Rx z g A none none (sI (mSvC q M 4) 2 (nI (min (d + 1) 4)))) : ∀ (n_ : Nat) (k : Nat), 4 - k < n_ → k ≤ 4 → G z g.1 A 4 (wd g (mSvC q M k)) 0 0 27 [(3, .int (nI k)), (0, .ref (ad g 3)), (1, .ref (ad g 1)), (2, .ref (ad g 2))] [] := by
  intro n_
  induction n_ with
  | zero => intro k hm_; exact absurd hm_ (Nat.not_lt_zero _)
  | succ n_ ih =>
    intro k hm_ hk
    refine r_iload_n C dX5_save_27 0 rfl ?_
    refine r_iconst C (v := (nI 4)) dX5_save_28 rfl ?_
    refine r_icmp_ge C 57 dX5_save_29 (by decide) (nI_leI (by omega) (by omega)) (fun h29 => ?_) (fun h29 => ?_)
    · have hk4 : k = 4 := by omega
      subst hk4
      refine r_aload_n C dX5_save_57 1 rfl ?_
      refine r_aload_n C dX5_save_58 1 rfl ?_
      refine r_get C X (k := 3) (R := RX5) (T := TX5) (N := 4) (n := 0) (v := .int (gI (mSvC q M 4) 2)) (by decide) rfl rfl inw5 (by decide) rfl hw_1_78 rfl dX5_save_59 ?_
      refine G_top (y := (nI d)) (gI_mSvC.trans h2) ?_
      refine r_iconst C (v := (nI 1)) dX5_save_62 rfl ?_
      refine r_iadd C (v := (nI (d + 1))) dX5_save_63 (nI_add _ _) ?_
      refine r_iconst C (v := (nI 4)) dX5_save_64 rfl ?_
      refine r_mmin C (v := (nI (min (d + 1) 4))) hw_3_163 ⟨by decide, Nat.le_of_ble_eq_true rfl, by decide, by decide⟩ dX5_save_65 (min4 hd4) ?_
      refine r_put C X (μ' := (sI (mSvC q M 4) 2 (nI (min (d + 1) 4)))) (k := 3) (R := RX5) (T := TX5) (N := 4) (n := 0) (v := .int (nI (min (d + 1) 4))) (ty := .int) (by decide) rfl rfl inw5 tyX5_ok nmX5 (by decide) rfl hw_1_78 rfl rfl rfl rfl (Nat.le_of_ble_eq_true rfl) dX5_save_68 (WF_sI2_at g _ _) (WF_sI2_ne g _ _) ?_
      exact r_vret C dX5_save_71 Rr
    · refine r_aload_n C dX5_save_32 1 rfl ?_
      refine r_get C X (k := 3) (R := RX5) (T := TX5) (N := 4) (n := 3) (v := .ref (ad g 5)) (by decide) rfl rfl inw5 (by decide) rfl hw_1_82 rfl dX5_save_33 ?_
      refine r_aload_n C dX5_save_36 1 rfl ?_
      refine r_get C X (k := 3) (R := RX5) (T := TX5) (N := 4) (n := 1) (v := .int (gI (mSvC q M k) 3)) (by decide) rfl rfl inw5 (by decide) rfl hw_1_80 rfl dX5_save_37 ?_
      refine G_top (y := (nI q)) (gI_mSvC.trans h3) ?_
      refine r_iconst C (v := (nI 4)) dX5_save_40 rfl ?_
      refine r_imul C (v := (nI (q * 4))) dX5_save_41 (pk_mul _ _) ?_
      refine r_iload_n C dX5_save_42 0 rfl ?_
      refine r_iadd C (v := (nI (q * 4 + k))) dX5_save_43 (nI_add _ _) ?_
      refine r_aald C X (k := 5) (n := 16) (b := 4) (by decide) rfl (by omega) (by decide) dX5_save_44 ?_
      refine r_aload_n C dX5_save_45 3 rfl ?_
      refine r_iload_n C dX5_save_46 0 rfl ?_
      refine r_aald C X (k := 2) (n := 4) (b := 0) (by decide) rfl (by omega) (by decide) dX5_save_47 ?_
      refine r_callV C X (As := [.ref (ad g (fo (0 + k)))]) (rest := []) (st1 := []) (μ' := (mCpy (mSvC q M k) (4 + (q * 4 + k)) (0 + k))) (k := (fo (4 + (q * 4 + k)))) (T := TX3) miX3_copy mvX3_copy (c_copy l g (mSvC q M k) (i := (4 + (q * 4 + k))) (j := (0 + k)) (by omega) (by omega)) hw_3_162 (fo_lt (by omega)) (WF_fo g _ (4 + (q * 4 + k))) rfl rfl ⟨by decide, by decide, rfl, rfl, by decide, by decide⟩ rfl (Nat.le_of_ble_eq_true rfl) dX5_save_48 rfl ?_
      refine r_iinc C (v := (nI (k + 1))) (lv' := [(3, .int (nI (k + 1))), (0, .ref (ad g 3)), (1, .ref (ad g 1)), (2, .ref (ad g 2))]) 3 0 dX5_save_51 rfl (inc_N _ 1) (by decide) rfl ?_
      refine r_goto C 27 dX5_save_54 (by decide) ?_
      exact ih (k + 1) (by omega) (by omega)
set_option maxHeartbeats 1000000 in
set_option maxRecDepth 100000 in
theorem c_save (l : Launch) (g : Gd) (μ : Mm) {p d n : Nat} (hn : gI μ 0 = nI n) (h3 : gI μ 3 = nI p) (h2 : gI μ 2 = nI d) (hp4 : p < 4) (hd4 : d ≤ 4) : Ct l yX5_save cX5_save 4 none (rmk 2 61) g [.ref (ad g 3), .ref (ad g 1), .ref (ad g 2)] μ none (mSave μ p d n) := by
  refine Ct.of (by decide) (Nat.le_of_ble_eq_true rfl) (fun z A C X Rr => ?_)
  refine r_aload_n C dX5_save_0 0 rfl ?_
  refine r_aload_n C dX5_save_1 0 rfl ?_
  refine r_get C X (k := 3) (R := RX5) (T := TX5) (N := 4) (n := 1) (v := .int (gI μ 3)) (by decide) rfl rfl inw5 (by decide) rfl hw_1_80 rfl dX5_save_2 ?_
  refine G_top (y := (nI p)) h3 ?_
  refine r_iconst C (v := (nI 1)) dX5_save_5 rfl ?_
  refine r_iadd C (v := (nI (p + 1))) dX5_save_6 (nI_add _ _) ?_
  refine r_iconst C (v := (nI 4)) dX5_save_7 rfl ?_
  refine r_irem C (v := (nI ((p + 1) % 4))) dX5_save_8 (by decide) (pk_rem (by omega) (by decide) (by decide)) ?_
  refine r_put C X (μ' := (sI μ 3 (nI ((p + 1) % 4)))) (k := 3) (R := RX5) (T := TX5) (N := 4) (n := 1) (v := .int (nI ((p + 1) % 4))) (ty := .int) (by decide) rfl rfl inw5 tyX5_ok nmX5 (by decide) rfl hw_1_80 rfl rfl rfl rfl (Nat.le_of_ble_eq_true rfl) dX5_save_9 (WF_sI3_at g _ _) (WF_sI3_ne g _ _) ?_
  refine r_aload_n C dX5_save_12 0 rfl ?_
  refine r_get C X (k := 3) (R := RX5) (T := TX5) (N := 4) (n := 2) (v := .ref (ad g 4)) (by decide) rfl rfl inw5 (by decide) rfl hw_1_81 rfl dX5_save_13 ?_
  refine r_aload_n C dX5_save_16 0 rfl ?_
  refine r_get C X (k := 3) (R := RX5) (T := TX5) (N := 4) (n := 1) (v := .int (gI (sI μ 3 (nI ((p + 1) % 4))) 3)) (by decide) rfl rfl inw5 (by decide) rfl hw_1_80 rfl dX5_save_17 ?_
  refine G_top (y := (nI ((p + 1) % 4))) (gI_s _ _ _) ?_
  refine r_aload_n C dX5_save_20 1 rfl ?_
  refine r_get C X (k := 1) (R := RX4) (T := TX4) (N := 2) (n := 0) (v := .int (gI (sI μ 3 (nI ((p + 1) % 4))) 0)) (by decide) rfl rfl inw4 (by decide) rfl hw_1_43 rfl dX5_save_21 ?_
  refine G_top (y := (nI n)) hn ?_
  refine r_iast C X (k := 4) (f' := upd (gA μ 0) ((p + 1) % 4) (nI n)) (μ' := (sA (sI μ 3 (nI ((p + 1) % 4))) 0 (upd (gA μ 0) ((p + 1) % 4) (nI n)))) (by decide) rfl (by omega) (by decide) (congrArg (fun f => upd f _ _) (gA_I _ _ _ _)) dX5_save_24 (congrArg (iR g 1 4) (gA_s _ _ _)) (WF_sA0_ne g _ _) ?_
  refine r_iconst C (v := (nI 0)) dX5_save_25 rfl ?_
  refine r_istore_n C (lv' := [(3, .int (nI 0)), (0, .ref (ad g 3)), (1, .ref (ad g 1)), (2, .ref (ad g 2))]) 3 dX5_save_26 rfl (by decide) rfl ?_
  exact lp_save C X (M := (sA (sI μ 3 (nI ((p + 1) % 4))) 0 (upd (gA μ 0) ((p + 1) % 4) (nI n)))) (q := (p + 1) % 4) (d := d) (by omega) ((gI_A _ _ _ _).trans (gI_s _ _ _)) ((gI_A _ _ _ _).trans ((gI_n _ _ (by decide)).trans h2)) hd4 Rr 5 0 (by decide) (by decide)
theorem gI_mSave3 {μ : Mm} {p d n : Nat} : gI (mSave μ p d n) 3 = nI ((p + 1) % 4) := (gI_n _ _ (by decide)).trans (gI_mSvC.trans ((gI_A _ _ _ _).trans (gI_s _ _ _)))
theorem gI_mSave2 {μ : Mm} {p d n : Nat} : gI (mSave μ p d n) 2 = nI (min (d + 1) 4) := gI_s _ _ _
theorem gI_mSave {μ : Mm} {p d n q : Nat} (h : q ≠ 2 ∧ q ≠ 3) : gI (mSave μ p d n) q = gI μ q := (gI_n _ _ h.1).trans (gI_mSvC.trans ((gI_A _ _ _ _).trans (gI_n _ _ h.2)))
set_option maxHeartbeats 1000000 in
set_option maxRecDepth 100000 in
theorem lp_restore {z : Zt} {A : Nat → Prop} {l : Launch} {g : Gd} (C : Cx z A l (rmk 2 61) cX5_restore 4 "SetFamilies$History") (X : Kx z g A) {M : Mm} {p d : Nat} (hp4 : p < 4) (h3 : gI M 3 = nI p) (h2 : gI M 2 = nI d) (hd4 : d ≤ 4) (hd0 : 0 < d) (Rr : Rx z g A none none (sI (sI (mRsC p M 4) 3 (nI ((p + 3) % 4))) 2 (nI (d - 1)))) : ∀ (n_ : Nat) (k : Nat), 4 - k < n_ → k ≤ 4 → G z g.1 A 4 (wd g (mRsC p M k)) 0 0 15 [(3, .int (nI k)), (0, .ref (ad g 3)), (1, .ref (ad g 1)), (2, .ref (ad g 2))] [] := by
  intro n_
  induction n_ with
  | zero => intro k hm_; exact absurd hm_ (Nat.not_lt_zero _)
  | succ n_ ih =>
    intro k hm_ hk
    refine r_iload_n C dX5_restore_15 0 rfl ?_
    refine r_iconst C (v := (nI 4)) dX5_restore_16 rfl ?_
    refine r_icmp_ge C 45 dX5_restore_17 (by decide) (nI_leI (by omega) (by omega)) (fun h17 => ?_) (fun h17 => ?_)
    · have hk4 : k = 4 := by omega
      subst hk4
      refine r_aload_n C dX5_restore_45 1 rfl ?_
      refine r_aload_n C dX5_restore_46 1 rfl ?_
      refine r_get C X (k := 3) (R := RX5) (T := TX5) (N := 4) (n := 1) (v := .int (gI (mRsC p M 4) 3)) (by decide) rfl rfl inw5 (by decide) rfl hw_1_80 rfl dX5_restore_47 ?_
      refine G_top (y := (nI p)) (gI_mRsC.trans h3) ?_
      refine r_iconst C (v := (nI 4)) dX5_restore_50 rfl ?_
      refine r_iadd C (v := (nI (p + 4))) dX5_restore_51 (nI_add _ _) ?_
      refine r_iconst C (v := (nI 1)) dX5_restore_52 rfl ?_
      refine r_isub C (v := (nI (p + 3))) dX5_restore_53 (pk_sub (a := p + 4) (b := 1) (by omega)) ?_
      refine r_iconst C (v := (nI 4)) dX5_restore_54 rfl ?_
      refine r_irem C (v := (nI ((p + 3) % 4))) dX5_restore_55 (by decide) (pk_rem (by omega) (by decide) (by decide)) ?_
      refine r_put C X (μ' := (sI (mRsC p M 4) 3 (nI ((p + 3) % 4)))) (k := 3) (R := RX5) (T := TX5) (N := 4) (n := 1) (v := .int (nI ((p + 3) % 4))) (ty := .int) (by decide) rfl rfl inw5 tyX5_ok nmX5 (by decide) rfl hw_1_80 rfl rfl rfl rfl (Nat.le_of_ble_eq_true rfl) dX5_restore_56 (WF_sI3_at g _ _) (WF_sI3_ne g _ _) ?_
      refine r_aload_n C dX5_restore_59 1 rfl ?_
      refine r_dup C dX5_restore_60 rfl ?_
      refine r_get C X (k := 3) (R := RX5) (T := TX5) (N := 4) (n := 0) (v := .int (gI (sI (mRsC p M 4) 3 (nI ((p + 3) % 4))) 2)) (by decide) rfl rfl inw5 (by decide) rfl hw_1_78 rfl dX5_restore_61 ?_
      refine G_top (y := (nI d)) ((gI_n _ _ (by decide)).trans (gI_mRsC.trans h2)) ?_
      refine r_iconst C (v := (nI 1)) dX5_restore_64 rfl ?_
      refine r_isub C (v := (nI (d - 1))) dX5_restore_65 (pk_sub (by omega)) ?_
      refine r_put C X (μ' := (sI (sI (mRsC p M 4) 3 (nI ((p + 3) % 4))) 2 (nI (d - 1)))) (k := 3) (R := RX5) (T := TX5) (N := 4) (n := 0) (v := .int (nI (d - 1))) (ty := .int) (by decide) rfl rfl inw5 tyX5_ok nmX5 (by decide) rfl hw_1_78 rfl rfl rfl rfl (Nat.le_of_ble_eq_true rfl) dX5_restore_66 (WF_sI2_at g _ _) (WF_sI2_ne g _ _) ?_
      exact r_vret C dX5_restore_69 Rr
    · refine r_aload_n C dX5_restore_20 3 rfl ?_
      refine r_iload_n C dX5_restore_21 0 rfl ?_
      refine r_aald C X (k := 2) (n := 4) (b := 0) (by decide) rfl (by omega) (by decide) dX5_restore_22 ?_
      refine r_aload_n C dX5_restore_23 1 rfl ?_
      refine r_get C X (k := 3) (R := RX5) (T := TX5) (N := 4) (n := 3) (v := .ref (ad g 5)) (by decide) rfl rfl inw5 (by decide) rfl hw_1_82 rfl dX5_restore_24 ?_
      refine r_aload_n C dX5_restore_27 1 rfl ?_
      refine r_get C X (k := 3) (R := RX5) (T := TX5) (N := 4) (n := 1) (v := .int (gI (mRsC p M k) 3)) (by decide) rfl rfl inw5 (by decide) rfl hw_1_80 rfl dX5_restore_28 ?_
      refine G_top (y := (nI p)) (gI_mRsC.trans h3) ?_
      refine r_iconst C (v := (nI 4)) dX5_restore_31 rfl ?_
      refine r_imul C (v := (nI (p * 4))) dX5_restore_32 (pk_mul _ _) ?_
      refine r_iload_n C dX5_restore_33 0 rfl ?_
      refine r_iadd C (v := (nI (p * 4 + k))) dX5_restore_34 (nI_add _ _) ?_
      refine r_aald C X (k := 5) (n := 16) (b := 4) (by decide) rfl (by omega) (by decide) dX5_restore_35 ?_
      refine r_callV C X (As := [.ref (ad g (fo (4 + (p * 4 + k))))]) (rest := []) (st1 := []) (μ' := (mCpy (mRsC p M k) (0 + k) (4 + (p * 4 + k)))) (k := (fo (0 + k))) (T := TX3) miX3_copy mvX3_copy (c_copy l g (mRsC p M k) (i := (0 + k)) (j := (4 + (p * 4 + k))) (by omega) (by omega)) hw_3_162 (fo_lt (by omega)) (WF_fo g _ (0 + k)) rfl rfl ⟨by decide, by decide, rfl, rfl, by decide, by decide⟩ rfl (Nat.le_of_ble_eq_true rfl) dX5_restore_36 rfl ?_
      refine r_iinc C (v := (nI (k + 1))) (lv' := [(3, .int (nI (k + 1))), (0, .ref (ad g 3)), (1, .ref (ad g 1)), (2, .ref (ad g 2))]) 3 0 dX5_restore_39 rfl (inc_N _ 1) (by decide) rfl ?_
      refine r_goto C 15 dX5_restore_42 (by decide) ?_
      exact ih (k + 1) (by omega) (by omega)
set_option maxHeartbeats 1000000 in
set_option maxRecDepth 100000 in
theorem c_restore (l : Launch) (g : Gd) (μ : Mm) {p d n : Nat} (h3 : gI μ 3 = nI p) (h2 : gI μ 2 = nI d) (hp4 : p < 4) (hd4 : d ≤ 4) (hd0 : 0 < d) (hE : gA μ 0 p = nI n) (hn10 : n ≤ 10) : Ct l yX5_restore cX5_restore 4 none (rmk 2 61) g [.ref (ad g 3), .ref (ad g 1), .ref (ad g 2)] μ none (mRest μ p d n) := by
  refine Ct.of (by decide) (Nat.le_of_ble_eq_true rfl) (fun z A C X Rr => ?_)
  refine r_aload_n C dX5_restore_0 1 rfl ?_
  refine r_aload_n C dX5_restore_1 0 rfl ?_
  refine r_get C X (k := 3) (R := RX5) (T := TX5) (N := 4) (n := 2) (v := .ref (ad g 4)) (by decide) rfl rfl inw5 (by decide) rfl hw_1_81 rfl dX5_restore_2 ?_
  refine r_aload_n C dX5_restore_5 0 rfl ?_
  refine r_get C X (k := 3) (R := RX5) (T := TX5) (N := 4) (n := 1) (v := .int (gI μ 3)) (by decide) rfl rfl inw5 (by decide) rfl hw_1_80 rfl dX5_restore_6 ?_
  refine G_top (y := (nI p)) h3 ?_
  refine r_iald C X (k := 4) (v := (nI n)) (by decide) rfl (by omega) (by decide) hE dX5_restore_9 ?_
  refine r_callV C X (As := [.int (nI n)]) (rest := []) (st1 := []) (μ' := (sI (sI μ 0 (nI n)) 1 (nI (wf n)))) (k := 1) (T := TX4) miX4_become mvX4_become (c_become l g μ (n := n) (by omega)) hw_5_11 (by decide) rfl rfl rfl ⟨by decide, by decide, rfl, rfl, by decide, by decide⟩ rfl (Nat.le_of_ble_eq_true rfl) dX5_restore_10 rfl ?_
  refine r_iconst C (v := (nI 0)) dX5_restore_13 rfl ?_
  refine r_istore_n C (lv' := [(3, .int (nI 0)), (0, .ref (ad g 3)), (1, .ref (ad g 1)), (2, .ref (ad g 2))]) 3 dX5_restore_14 rfl (by decide) rfl ?_
  exact lp_restore C X (M := sI (sI μ 0 (nI n)) 1 (nI (wf n))) (p := p) (d := d) hp4 ((gI_n _ _ (by decide)).trans ((gI_n _ _ (by decide)).trans h3)) ((gI_n _ _ (by decide)).trans ((gI_n _ _ (by decide)).trans h2)) hd4 hd0 Rr 5 0 (by decide) (by decide)
