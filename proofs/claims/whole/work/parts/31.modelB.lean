def cpB (F P : Nat → Bool) (q k : Nat) : Nat → Bool := fun c => if 4096 * q ≤ c ∧ c < 4096 * q + k then F (c - 4096 * q) else P c
theorem cpB_0 (F P : Nat → Bool) (q : Nat) : cpB F P q 0 = P := by funext c; unfold cpB; rw [if_neg (by omega)]
theorem cpB_s (F P : Nat → Bool) (q k : Nat) : upd (bR (cpB F P q k)) (4096 * q + k) (vp_nar .boolean (bI (F k))) = bR (cpB F P q (k + 1)) := by
  rw [nar_z]; funext w; unfold upd bR cpB
  by_cases h : w = 4096 * q + k
  · subst h; rw [if_pos rfl, if_pos (by omega), show 4096 * q + k - 4096 * q = k by omega]
  · rw [if_neg h]
    by_cases h2 : 4096 * q ≤ w ∧ w < 4096 * q + k
    · rw [if_pos h2, if_pos (by omega)]
    · rw [if_neg h2, if_neg (by omega)]
def ntQ (P : Nat → Bool) (ps : Nat) : Nat → Bool := if ps = 4 then rowU 12288 (fun c => P (c + 4096)) P else P
def ntP (F P : Nat → Bool) (ps : Nat) : Nat → Bool := cpB F (ntQ P ps) (min ps 3) 4096
def ntN (r : Nat → Int32) (n ps : Nat) : Nat → Int32 := upd (if ps = 4 then rowU 3 (fun k => r (k + 1)) r else r) (min ps 3) (nI n)
def mNote (μ : Mm) (F P : Nat → Bool) (n ps : Nat) : Mm := sI (sA (sA μ 6 (bR (ntP F P ps))) 7 (ntN (gA μ 7) n ps)) 7 (nI (min ps 3 + 1))
set_option maxHeartbeats 1000000 in
set_option maxRecDepth 100000 in
theorem lp_note1 {z : Zt} {A : Nat → Prop} {l : Launch} {g : Gd} {μ : Mm} (C : Cx z A l (rmk 0 0) cX11_note 2 "SetFamiliesModel") (X : Kx z g A) {P : Nat → Bool} (KK : G z g.1 A 2 (wd g (sA μ 6 (bR (rowU 12288 (fun c => P (c + 4096)) P)))) 0 0 39 [(0, .ref (ad g 19))] []) : ∀ (n_ : Nat) (k : Nat), 12288 - k < n_ → k ≤ 12288 → G z g.1 A 2 (wd g (sA μ 6 (bR (rowU k (fun c => P (c + 4096)) P)))) 0 0 10 [(1, .int (nI k)), (0, .ref (ad g 19))] [] := by
  intro n_
  induction n_ with
  | zero => intro k hm_; exact absurd hm_ (Nat.not_lt_zero _)
  | succ n_ ih =>
    intro k hm_ hk
    refine r_iload_n C dX11_note_10 0 rfl ?_
    refine r_sipush C (v := (nI 12288)) dX11_note_11 (by decide) ?_
    refine r_icmp_ge C 39 dX11_note_14 (by decide) (nI_leI (by omega) (by omega)) (fun h14 => ?_) (fun h14 => ?_)
    · have hk : k = 12288 := by omega
      subst hk
      refine G_sub (lv' := [(0, .ref (ad g 19))]) [1] rfl ?_
      exact KK
    · refine r_aload_n C dX11_note_17 1 rfl ?_
      refine r_get C X (k := 19) (R := RX11) (T := TX11) (N := 15) (n := 3) (v := .ref (ad g 21)) (by decide) rfl rfl inw11 (by decide) rfl hw_5_21 rfl dX11_note_18 ?_
      refine r_iload_n C dX11_note_21 0 rfl ?_
      refine r_aload_n C dX11_note_22 1 rfl ?_
      refine r_get C X (k := 19) (R := RX11) (T := TX11) (N := 15) (n := 3) (v := .ref (ad g 21)) (by decide) rfl rfl inw11 (by decide) rfl hw_5_21 rfl dX11_note_23 ?_
      refine r_iload_n C dX11_note_26 0 rfl ?_
      refine r_sipush C (v := (nI 4096)) dX11_note_27 (by decide) ?_
      refine r_iadd C (v := (nI (k + 4096))) dX11_note_30 (nI_add _ _) ?_
      refine r_zald C X (k := 21) (v := (bI (P (k + 4096)))) (by decide) rfl (by omega) (by decide) (by rw [gA_s]; show bI _ = bI _; rw [rowU_ge _ _ (by omega)]) dX11_note_31 ?_
      refine r_zast C X (k := 21) (f' := bR (rowU (k + 1) (fun c => P (c + 4096)) P)) (μ' := (sA (sA μ 6 (bR (rowU k (fun c => P (c + 4096)) P))) 6 (bR (rowU (k + 1) (fun c => P (c + 4096)) P)))) (by decide) rfl (by omega) (by decide) (by rw [gA_s]; exact bR_s _ _ _ rfl) dX11_note_32 (congrArg (iR g 3 16384) (gA_s _ _ _)) (WF_sA6_ne g _ _) ?_
      refine G_mem (μ' := (sA μ 6 (bR (rowU (k + 1) (fun c => P (c + 4096)) P)))) (sA_u _ _ _ _) ?_
      refine r_iinc C (v := (nI (k + 1))) (lv' := [(1, .int (nI (k + 1))), (0, .ref (ad g 19))]) 1 0 dX11_note_33 rfl (inc_N _ 1) (by decide) rfl ?_
      refine r_goto C 10 dX11_note_36 (by decide) ?_
      exact ih (k + 1) (by omega) (by omega)
set_option maxHeartbeats 1000000 in
set_option maxRecDepth 100000 in
theorem lp_note2 {z : Zt} {A : Nat → Prop} {l : Launch} {g : Gd} (C : Cx z A l (rmk 0 0) cX11_note 2 "SetFamiliesModel") (X : Kx z g A) {M : Mm} {r : Nat → Int32} (KK : G z g.1 A 2 (wd g (sA M 7 (rowU 3 (fun c => r (c + 1)) r))) 0 0 68 [(0, .ref (ad g 19))] []) : ∀ (n_ : Nat) (k : Nat), 3 - k < n_ → k ≤ 3 → G z g.1 A 2 (wd g (sA M 7 (rowU k (fun c => r (c + 1)) r))) 0 0 41 [(1, .int (nI k)), (0, .ref (ad g 19))] [] := by
  intro n_
  induction n_ with
  | zero => intro k hm_; exact absurd hm_ (Nat.not_lt_zero _)
  | succ n_ ih =>
    intro k hm_ hk
    refine r_iload_n C dX11_note_41 0 rfl ?_
    refine r_iconst C (v := (nI 1)) dX11_note_42 rfl ?_
    refine r_iadd C (v := (nI (k + 1))) dX11_note_43 (nI_add _ _) ?_
    refine r_iconst C (v := (nI 4)) dX11_note_44 rfl ?_
    refine r_icmp_ge C 68 dX11_note_45 (by decide) (nI_leI (by omega) (by omega)) (fun h45 => ?_) (fun h45 => ?_)
    · have hk : k = 3 := by omega
      subst hk
      refine G_sub (lv' := [(0, .ref (ad g 19))]) [1] rfl ?_
      exact KK
    · refine r_aload_n C dX11_note_48 1 rfl ?_
      refine r_get C X (k := 19) (R := RX11) (T := TX11) (N := 15) (n := 4) (v := .ref (ad g 22)) (by decide) rfl rfl inw11 (by decide) rfl hw_5_22 rfl dX11_note_49 ?_
      refine r_iload_n C dX11_note_52 0 rfl ?_
      refine r_aload_n C dX11_note_53 1 rfl ?_
      refine r_get C X (k := 19) (R := RX11) (T := TX11) (N := 15) (n := 4) (v := .ref (ad g 22)) (by decide) rfl rfl inw11 (by decide) rfl hw_5_22 rfl dX11_note_54 ?_
      refine r_iload_n C dX11_note_57 0 rfl ?_
      refine r_iconst C (v := (nI 1)) dX11_note_58 rfl ?_
      refine r_iadd C (v := (nI (k + 1))) dX11_note_59 (nI_add _ _) ?_
      refine r_iald C X (k := 22) (v := (r (k + 1))) (by decide) rfl (by omega) (by decide) (by rw [gA_s, rowU_ge _ _ (by omega)]) dX11_note_60 ?_
      refine r_iast C X (k := 22) (f' := rowU (k + 1) (fun c => r (c + 1)) r) (μ' := (sA (sA M 7 (rowU k (fun c => r (c + 1)) r)) 7 (rowU (k + 1) (fun c => r (c + 1)) r))) (by decide) rfl (by omega) (by decide) (by rw [gA_s]; exact rowU_si _ _ _ rfl) dX11_note_61 (congrArg (iR g 1 4) (gA_s _ _ _)) (WF_sA7_ne g _ _) ?_
      refine G_mem (μ' := (sA M 7 (rowU (k + 1) (fun c => r (c + 1)) r))) (sA_u _ _ _ _) ?_
      refine r_iinc C (v := (nI (k + 1))) (lv' := [(1, .int (nI (k + 1))), (0, .ref (ad g 19))]) 1 0 dX11_note_62 rfl (inc_N _ 1) (by decide) rfl ?_
      refine r_goto C 41 dX11_note_65 (by decide) ?_
      exact ih (k + 1) (by omega) (by omega)
set_option maxHeartbeats 1000000 in
set_option maxRecDepth 100000 in
theorem lp_note3 {z : Zt} {A : Nat → Prop} {l : Launch} {g : Gd} (C : Cx z A l (rmk 0 0) cX11_note 2 "SetFamiliesModel") (X : Kx z g A) {M : Mm} {F P : Nat → Bool} {q : Nat} (h5 : gA M 5 = bR F) (h7 : gI M 7 = nI q) (hq : q < 4) (KK : G z g.1 A 2 (wd g (sA M 6 (bR (cpB F P q 4096)))) 0 0 114 [(0, .ref (ad g 19))] []) : ∀ (n_ : Nat) (k : Nat), 4096 - k < n_ → k ≤ 4096 → G z g.1 A 2 (wd g (sA M 6 (bR (cpB F P q k)))) 0 0 80 [(1, .int (nI k)), (0, .ref (ad g 19))] [] := by
  intro n_
  induction n_ with
  | zero => intro k hm_; exact absurd hm_ (Nat.not_lt_zero _)
  | succ n_ ih =>
    intro k hm_ hk
    refine r_iload_n C dX11_note_80 0 rfl ?_
    refine r_sipush C (v := (nI 4096)) dX11_note_81 (by decide) ?_
    refine r_icmp_ge C 114 dX11_note_84 (by decide) (nI_leI (by omega) (by omega)) (fun h84 => ?_) (fun h84 => ?_)
    · have hk : k = 4096 := by omega
      subst hk
      refine G_sub (lv' := [(0, .ref (ad g 19))]) [1] rfl ?_
      exact KK
    · refine r_aload_n C dX11_note_87 1 rfl ?_
      refine r_get C X (k := 19) (R := RX11) (T := TX11) (N := 15) (n := 3) (v := .ref (ad g 21)) (by decide) rfl rfl inw11 (by decide) rfl hw_5_21 rfl dX11_note_88 ?_
      refine r_sipush C (v := (nI 4096)) dX11_note_91 (by decide) ?_
      refine r_aload_n C dX11_note_94 1 rfl ?_
      refine r_get C X (k := 19) (R := RX11) (T := TX11) (N := 15) (n := 5) (v := .int (gI (sA M 6 (bR (cpB F P q k))) 7)) (by decide) rfl rfl inw11 (by decide) rfl hw_5_23 rfl dX11_note_95 ?_
      refine G_top (y := (nI q)) ((gI_A _ _ _ _).trans h7) ?_
      refine r_imul C (v := (nI (4096 * q))) dX11_note_98 (pk_mul _ _) ?_
      refine r_iload_n C dX11_note_99 0 rfl ?_
      refine r_iadd C (v := (nI (4096 * q + k))) dX11_note_100 (nI_add _ _) ?_
      refine r_aload_n C dX11_note_101 1 rfl ?_
      refine r_get C X (k := 19) (R := RX11) (T := TX11) (N := 15) (n := 2) (v := .ref (ad g 20)) (by decide) rfl rfl inw11 (by decide) rfl hw_5_20 rfl dX11_note_102 ?_
      refine r_iload_n C dX11_note_105 0 rfl ?_
      refine r_zald C X (k := 20) (v := (bI (F k))) (by decide) rfl (by omega) (by decide) (by rw [gA_n _ _ (by decide)]; exact bR_at h5 k) dX11_note_106 ?_
      refine r_zast C X (k := 21) (f' := bR (cpB F P q (k + 1))) (μ' := (sA (sA M 6 (bR (cpB F P q k))) 6 (bR (cpB F P q (k + 1))))) (by decide) rfl (by omega) (by decide) (by rw [gA_s]; exact cpB_s _ _ _ _) dX11_note_107 (congrArg (iR g 3 16384) (gA_s _ _ _)) (WF_sA6_ne g _ _) ?_
      refine G_mem (μ' := (sA M 6 (bR (cpB F P q (k + 1))))) (sA_u _ _ _ _) ?_
      refine r_iinc C (v := (nI (k + 1))) (lv' := [(1, .int (nI (k + 1))), (0, .ref (ad g 19))]) 1 0 dX11_note_108 rfl (inc_N _ 1) (by decide) rfl ?_
      refine r_goto C 80 dX11_note_111 (by decide) ?_
      exact ih (k + 1) (by omega) (by omega)
set_option maxHeartbeats 1000000 in
set_option maxRecDepth 100000 in
theorem c_note (l : Launch) (g : Gd) (μ : Mm) {F P : Nat → Bool} {n ps : Nat} (h6 : gI μ 6 = nI n) (h7 : gI μ 7 = nI ps) (hps : ps ≤ 4) (h5f : gA μ 5 = bR F) (hP : gA μ 6 = bR P) : Ct l yX11_note cX11_note 2 none (rmk 0 0) g [.ref (ad g 19)] μ none (mNote μ F P n ps) := by
  refine Ct.of (by decide) (Nat.le_of_ble_eq_true rfl) (fun z A C X Rr => ?_)
  refine r_aload_n C dX11_note_0 0 rfl ?_
  refine r_get C X (k := 19) (R := RX11) (T := TX11) (N := 15) (n := 5) (v := .int (gI μ 7)) (by decide) rfl rfl inw11 (by decide) rfl hw_5_23 rfl dX11_note_1 ?_
  refine G_top (y := (nI ps)) h7 ?_
  refine r_iconst C (v := (nI 4)) dX11_note_4 rfl ?_
  refine r_icmp_ne C 78 dX11_note_5 (by decide) (not_congr (nI_eq (by omega) (by omega))) (fun h5 => ?_) (fun h5 => ?_)
  · refine r_iconst C (v := (nI 0)) dX11_note_78 rfl ?_
    refine r_istore_n C (lv' := [(1, .int (nI 0)), (0, .ref (ad g 19))]) 1 dX11_note_79 rfl (by decide) rfl ?_
    refine G_mem (show μ = sA μ 6 (bR (cpB F P ps 0)) by rw [cpB_0]; exact (sA_i μ 6).symm.trans (congrArg (sA μ 6) (show gA μ 6 = bR P from hP))) ?_
    refine lp_note3 C X (M := μ) (F := F) (P := P) (q := ps) h5f h7 (by omega) ?_ 4097 0 (by decide) (by decide)
    refine r_aload_n C dX11_note_114 0 rfl ?_
    refine r_get C X (k := 19) (R := RX11) (T := TX11) (N := 15) (n := 4) (v := .ref (ad g 22)) (by decide) rfl rfl inw11 (by decide) rfl hw_5_22 rfl dX11_note_115 ?_
    refine r_aload_n C dX11_note_118 0 rfl ?_
    refine r_get C X (k := 19) (R := RX11) (T := TX11) (N := 15) (n := 5) (v := .int (gI (sA μ 6 (bR (cpB F P ps 4096))) 7)) (by decide) rfl rfl inw11 (by decide) rfl hw_5_23 rfl dX11_note_119 ?_
    refine G_top (y := (nI ps)) ((gI_A _ _ _ _).trans h7) ?_
    refine r_aload_n C dX11_note_122 0 rfl ?_
    refine r_get C X (k := 19) (R := RX11) (T := TX11) (N := 15) (n := 1) (v := .int (gI (sA μ 6 (bR (cpB F P ps 4096))) 6)) (by decide) rfl rfl inw11 (by decide) rfl hw_5_19 rfl dX11_note_123 ?_
    refine G_top (y := (nI n)) ((gI_A _ _ _ _).trans h6) ?_
    refine r_iast C X (k := 22) (f' := upd (gA μ 7) ps (nI n)) (μ' := (sA (sA μ 6 (bR (cpB F P ps 4096))) 7 (upd (gA μ 7) ps (nI n)))) (by decide) rfl (by omega) (by decide) (by rw [gA_n _ _ (by decide)]) dX11_note_126 (congrArg (iR g 1 4) (gA_s _ _ _)) (WF_sA7_ne g _ _) ?_
    refine r_aload_n C dX11_note_127 0 rfl ?_
    refine r_dup C dX11_note_128 rfl ?_
    refine r_get C X (k := 19) (R := RX11) (T := TX11) (N := 15) (n := 5) (v := .int (gI (sA (sA μ 6 (bR (cpB F P ps 4096))) 7 (upd (gA μ 7) ps (nI n))) 7)) (by decide) rfl rfl inw11 (by decide) rfl hw_5_23 rfl dX11_note_129 ?_
    refine G_top (y := (nI ps)) ((gI_A _ _ _ _).trans ((gI_A _ _ _ _).trans h7)) ?_
    refine r_iconst C (v := (nI 1)) dX11_note_132 rfl ?_
    refine r_iadd C (v := (nI (ps + 1))) dX11_note_133 (nI_add _ _) ?_
    refine r_put C X (μ' := (sI (sA (sA μ 6 (bR (cpB F P ps 4096))) 7 (upd (gA μ 7) ps (nI n))) 7 (nI (ps + 1)))) (k := 19) (R := RX11) (T := TX11) (N := 15) (n := 5) (v := .int (nI (ps + 1))) (ty := .int) (by decide) rfl rfl inw11 tyX11_ok nmX11 (by decide) rfl hw_5_23 rfl rfl rfl rfl (Nat.le_of_ble_eq_true rfl) dX11_note_134 (WF_sI7_at g _ _) (WF_sI7_ne g _ _) ?_
    refine G_mem (μ' := mNote μ F P n ps) (by unfold mNote ntP ntN ntQ; rw [if_neg h5, if_neg h5, show min ps 3 = ps by omega]) ?_
    exact r_vret C dX11_note_137 Rr
  · have hps : ps = 4 := Decidable.not_not.mp h5
    subst hps
    refine r_iconst C (v := (nI 0)) dX11_note_8 rfl ?_
    refine r_istore_n C (lv' := [(1, .int (nI 0)), (0, .ref (ad g 19))]) 1 dX11_note_9 rfl (by decide) rfl ?_
    refine G_mem (show μ = (sA μ 6 (bR (rowU 0 (fun c => P (c + 4096)) P))) by rw [rowU_0, ← hP, sA_i]) ?_
    refine lp_note1 C X ?_ 12289 0 (by decide) (by decide)
    refine r_iconst C (v := (nI 0)) dX11_note_39 rfl ?_
    refine r_istore_n C (lv' := [(1, .int (nI 0)), (0, .ref (ad g 19))]) 1 dX11_note_40 rfl (by decide) rfl ?_
    refine G_mem (show (sA μ 6 (bR (rowU 12288 (fun c => P (c + 4096)) P))) = sA (sA μ 6 (bR (rowU 12288 (fun c => P (c + 4096)) P))) 7 (rowU 0 (fun c => gA μ 7 (c + 1)) (gA μ 7)) by rw [rowU_0, ← gA_n μ (k := 6) (j := 7) (bR (rowU 12288 (fun c => P (c + 4096)) P)) (by decide), sA_i]) ?_
    refine lp_note2 C X (M := (sA μ 6 (bR (rowU 12288 (fun c => P (c + 4096)) P)))) (r := gA μ 7) ?_ 4 0 (by decide) (by decide)
    refine r_aload_n C dX11_note_68 0 rfl ?_
    refine r_dup C dX11_note_69 rfl ?_
    refine r_get C X (k := 19) (R := RX11) (T := TX11) (N := 15) (n := 5) (v := .int (gI (sA (sA μ 6 (bR (rowU 12288 (fun c => P (c + 4096)) P))) 7 (rowU 3 (fun c => gA μ 7 (c + 1)) (gA μ 7))) 7)) (by decide) rfl rfl inw11 (by decide) rfl hw_5_23 rfl dX11_note_70 ?_
    refine G_top (y := (nI 4)) ((gI_A _ _ _ _).trans ((gI_A _ _ _ _).trans h7)) ?_
    refine r_iconst C (v := (nI 1)) dX11_note_73 rfl ?_
    refine r_isub C (v := (nI 3)) dX11_note_74 (pk_sub (a := 4) (b := 1) (by decide)) ?_
    refine r_put C X (μ' := (sI (sA (sA μ 6 (bR (rowU 12288 (fun c => P (c + 4096)) P))) 7 (rowU 3 (fun c => gA μ 7 (c + 1)) (gA μ 7))) 7 (nI 3))) (k := 19) (R := RX11) (T := TX11) (N := 15) (n := 5) (v := .int (nI 3)) (ty := .int) (by decide) rfl rfl inw11 tyX11_ok nmX11 (by decide) rfl hw_5_23 rfl rfl rfl rfl (Nat.le_of_ble_eq_true rfl) dX11_note_75 (WF_sI7_at g _ _) (WF_sI7_ne g _ _) ?_
    refine r_iconst C (v := (nI 0)) dX11_note_78 rfl ?_
    refine r_istore_n C (lv' := [(1, .int (nI 0)), (0, .ref (ad g 19))]) 1 dX11_note_79 rfl (by decide) rfl ?_
    refine G_mem (μ' := (sI (sA (sA μ 6 (bR (rowU 12288 (fun c => P (c + 4096)) P))) 7 (rowU 3 (fun c => gA μ 7 (c + 1)) (gA μ 7))) 7 (nI 3))) rfl ?_
    refine G_mem (show (sI (sA (sA μ 6 (bR (rowU 12288 (fun c => P (c + 4096)) P))) 7 (rowU 3 (fun c => gA μ 7 (c + 1)) (gA μ 7))) 7 (nI 3)) = sA (sI (sA (sA μ 6 (bR (rowU 12288 (fun c => P (c + 4096)) P))) 7 (rowU 3 (fun c => gA μ 7 (c + 1)) (gA μ 7))) 7 (nI 3)) 6 (bR (cpB F (rowU 12288 (fun c => P (c + 4096)) P) 3 0)) by rw [cpB_0]; exact (sA_i (sI (sA (sA μ 6 (bR (rowU 12288 (fun c => P (c + 4096)) P))) 7 (rowU 3 (fun c => gA μ 7 (c + 1)) (gA μ 7))) 7 (nI 3)) 6).symm.trans (congrArg (sA (sI (sA (sA μ 6 (bR (rowU 12288 (fun c => P (c + 4096)) P))) 7 (rowU 3 (fun c => gA μ 7 (c + 1)) (gA μ 7))) 7 (nI 3)) 6) (show gA (sI (sA (sA μ 6 (bR (rowU 12288 (fun c => P (c + 4096)) P))) 7 (rowU 3 (fun c => gA μ 7 (c + 1)) (gA μ 7))) 7 (nI 3)) 6 = bR (rowU 12288 (fun c => P (c + 4096)) P) from (by rw [gA_I, gA_n _ _ (by decide), gA_s])))) ?_
    refine lp_note3 C X (M := (sI (sA (sA μ 6 (bR (rowU 12288 (fun c => P (c + 4096)) P))) 7 (rowU 3 (fun c => gA μ 7 (c + 1)) (gA μ 7))) 7 (nI 3))) (F := F) (P := (rowU 12288 (fun c => P (c + 4096)) P)) (q := 3) (by rw [gA_I, gA_n _ _ (by decide), gA_n _ _ (by decide)]; exact h5f) (gI_s _ _ _) (by omega) ?_ 4097 0 (by decide) (by decide)
    refine r_aload_n C dX11_note_114 0 rfl ?_
    refine r_get C X (k := 19) (R := RX11) (T := TX11) (N := 15) (n := 4) (v := .ref (ad g 22)) (by decide) rfl rfl inw11 (by decide) rfl hw_5_22 rfl dX11_note_115 ?_
    refine r_aload_n C dX11_note_118 0 rfl ?_
    refine r_get C X (k := 19) (R := RX11) (T := TX11) (N := 15) (n := 5) (v := .int (gI (sA (sI (sA (sA μ 6 (bR (rowU 12288 (fun c => P (c + 4096)) P))) 7 (rowU 3 (fun c => gA μ 7 (c + 1)) (gA μ 7))) 7 (nI 3)) 6 (bR (cpB F (rowU 12288 (fun c => P (c + 4096)) P) 3 4096))) 7)) (by decide) rfl rfl inw11 (by decide) rfl hw_5_23 rfl dX11_note_119 ?_
    refine G_top (y := (nI 3)) ((gI_A _ _ _ _).trans (gI_s _ _ _)) ?_
    refine r_aload_n C dX11_note_122 0 rfl ?_
    refine r_get C X (k := 19) (R := RX11) (T := TX11) (N := 15) (n := 1) (v := .int (gI (sA (sI (sA (sA μ 6 (bR (rowU 12288 (fun c => P (c + 4096)) P))) 7 (rowU 3 (fun c => gA μ 7 (c + 1)) (gA μ 7))) 7 (nI 3)) 6 (bR (cpB F (rowU 12288 (fun c => P (c + 4096)) P) 3 4096))) 6)) (by decide) rfl rfl inw11 (by decide) rfl hw_5_19 rfl dX11_note_123 ?_
    refine G_top (y := (nI n)) ((gI_A _ _ _ _).trans ((gI_n _ _ (by decide)).trans ((gI_A _ _ _ _).trans ((gI_A _ _ _ _).trans h6)))) ?_
    refine r_iast C X (k := 22) (f' := upd (rowU 3 (fun c => gA μ 7 (c + 1)) (gA μ 7)) 3 (nI n)) (μ' := (sA (sA (sI (sA (sA μ 6 (bR (rowU 12288 (fun c => P (c + 4096)) P))) 7 (rowU 3 (fun c => gA μ 7 (c + 1)) (gA μ 7))) 7 (nI 3)) 6 (bR (cpB F (rowU 12288 (fun c => P (c + 4096)) P) 3 4096))) 7 (upd (rowU 3 (fun c => gA μ 7 (c + 1)) (gA μ 7)) 3 (nI n)))) (by decide) rfl (by omega) (by decide) (by rw [gA_n _ _ (by decide), gA_I, gA_s]) dX11_note_126 (congrArg (iR g 1 4) (gA_s _ _ _)) (WF_sA7_ne g _ _) ?_
    refine r_aload_n C dX11_note_127 0 rfl ?_
    refine r_dup C dX11_note_128 rfl ?_
    refine r_get C X (k := 19) (R := RX11) (T := TX11) (N := 15) (n := 5) (v := .int (gI (sA (sA (sI (sA (sA μ 6 (bR (rowU 12288 (fun c => P (c + 4096)) P))) 7 (rowU 3 (fun c => gA μ 7 (c + 1)) (gA μ 7))) 7 (nI 3)) 6 (bR (cpB F (rowU 12288 (fun c => P (c + 4096)) P) 3 4096))) 7 (upd (rowU 3 (fun c => gA μ 7 (c + 1)) (gA μ 7)) 3 (nI n))) 7)) (by decide) rfl rfl inw11 (by decide) rfl hw_5_23 rfl dX11_note_129 ?_
    refine G_top (y := (nI 3)) ((gI_A _ _ _ _).trans ((gI_A _ _ _ _).trans (gI_s _ _ _))) ?_
    refine r_iconst C (v := (nI 1)) dX11_note_132 rfl ?_
    refine r_iadd C (v := (nI (3 + 1))) dX11_note_133 (nI_add _ _) ?_
    refine r_put C X (μ' := (sI (sA (sA (sI (sA (sA μ 6 (bR (rowU 12288 (fun c => P (c + 4096)) P))) 7 (rowU 3 (fun c => gA μ 7 (c + 1)) (gA μ 7))) 7 (nI 3)) 6 (bR (cpB F (rowU 12288 (fun c => P (c + 4096)) P) 3 4096))) 7 (upd (rowU 3 (fun c => gA μ 7 (c + 1)) (gA μ 7)) 3 (nI n))) 7 (nI (3 + 1)))) (k := 19) (R := RX11) (T := TX11) (N := 15) (n := 5) (v := .int (nI (3 + 1))) (ty := .int) (by decide) rfl rfl inw11 tyX11_ok nmX11 (by decide) rfl hw_5_23 rfl rfl rfl rfl (Nat.le_of_ble_eq_true rfl) dX11_note_134 (WF_sI7_at g _ _) (WF_sI7_ne g _ _) ?_
    refine G_mem (μ' := mNote μ F P n 4) (by unfold mNote ntP ntN ntQ; rw [if_pos rfl, if_pos rfl, show min 4 3 = 3 from rfl, sA_I, sA_I, sI_u, sA_c _ _ _ (show (7 : Nat) ≠ 6 by decide), sA_u, sA_u]) ?_
    exact r_vret C dX11_note_137 Rr
