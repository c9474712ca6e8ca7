set_option maxHeartbeats 1000000 in
set_option maxRecDepth 100000 in
theorem lp_undoM {z : Zt} {A : Nat → Prop} {l : Launch} {g : Gd} (C : Cx z A l (rmk 0 0) cX11_undo 2 "SetFamiliesModel") (X : Kx z g A) {M : Mm} {F P : Nat → Bool} {q : Nat} (h7 : gI M 7 = nI q) (hq : q < 4) (hP : gA M 6 = bR P) (Rr : Rx z g A (some .int) (some (.int (nI q))) (sI (sA M 5 (bR (rowU 4096 (fun c => P (4096 * q + c)) F))) 6 (gA M 7 q))) : ∀ (n_ : Nat) (k : Nat), 4096 - k < n_ → k ≤ 4096 → G z g.1 A 2 (wd g (sA M 5 (bR (rowU k (fun c => P (4096 * q + c)) F)))) 0 0 37 [(1, .int (nI k)), (0, .ref (ad g 19))] [] := by
  intro n_
  induction n_ with
  | zero => intro k hm_; exact absurd hm_ (Nat.not_lt_zero _)
  | succ n_ ih =>
    intro k hm_ hk
    refine r_iload_n C dX11_undo_37 0 rfl ?_
    refine r_sipush C (v := (nI 4096)) dX11_undo_38 (by decide) ?_
    refine r_icmp_ge C 71 dX11_undo_41 (by decide) (nI_leI (by omega) (by omega)) (fun h41 => ?_) (fun h41 => ?_)
    · have hk2 : k = 4096 := by omega
      subst hk2
      refine r_aload_n C dX11_undo_71 1 rfl ?_
      refine r_aload_n C dX11_undo_72 1 rfl ?_
      refine r_get C X (k := 19) (R := RX11) (T := TX11) (N := 15) (n := 4) (v := .ref (ad g 22)) (by decide) rfl rfl inw11 (by decide) rfl hw_5_22 rfl dX11_undo_73 ?_
      refine r_aload_n C dX11_undo_76 1 rfl ?_
      refine r_get C X (k := 19) (R := RX11) (T := TX11) (N := 15) (n := 5) (v := .int (gI (sA M 5 (bR (rowU 4096 (fun c => P (4096 * q + c)) F))) 7)) (by decide) rfl rfl inw11 (by decide) rfl hw_5_23 rfl dX11_undo_77 ?_
      refine G_top (y := (nI q)) ((gI_A _ _ _ _).trans h7) ?_
      refine r_iald C X (k := 22) (v := (gA M 7 q)) (by decide) rfl (by omega) (by decide) (congrFun (gA_n _ _ (by decide)) _) dX11_undo_80 ?_
      refine r_put C X (μ' := (sI (sA M 5 (bR (rowU 4096 (fun c => P (4096 * q + c)) F))) 6 (gA M 7 q))) (k := 19) (R := RX11) (T := TX11) (N := 15) (n := 1) (v := .int (gA M 7 q)) (ty := .int) (by decide) rfl rfl inw11 tyX11_ok nmX11 (by decide) rfl hw_5_19 rfl rfl rfl rfl (Nat.le_of_ble_eq_true rfl) dX11_undo_81 (WF_sI6_at g _ _) (WF_sI6_ne g _ _) ?_
      refine r_aload_n C dX11_undo_84 1 rfl ?_
      refine r_get C X (k := 19) (R := RX11) (T := TX11) (N := 15) (n := 5) (v := .int (gI (sI (sA M 5 (bR (rowU 4096 (fun c => P (4096 * q + c)) F))) 6 (gA M 7 q)) 7)) (by decide) rfl rfl inw11 (by decide) rfl hw_5_23 rfl dX11_undo_85 ?_
      refine G_top (y := (nI q)) ((gI_n _ _ (by decide)).trans ((gI_A _ _ _ _).trans h7)) ?_
      exact r_iret C dX11_undo_88 Rr
    · refine r_aload_n C dX11_undo_44 1 rfl ?_
      refine r_get C X (k := 19) (R := RX11) (T := TX11) (N := 15) (n := 2) (v := .ref (ad g 20)) (by decide) rfl rfl inw11 (by decide) rfl hw_5_20 rfl dX11_undo_45 ?_
      refine r_iload_n C dX11_undo_48 0 rfl ?_
      refine r_aload_n C dX11_undo_49 1 rfl ?_
      refine r_get C X (k := 19) (R := RX11) (T := TX11) (N := 15) (n := 3) (v := .ref (ad g 21)) (by decide) rfl rfl inw11 (by decide) rfl hw_5_21 rfl dX11_undo_50 ?_
      refine r_sipush C (v := (nI 4096)) dX11_undo_53 (by decide) ?_
      refine r_aload_n C dX11_undo_56 1 rfl ?_
      refine r_get C X (k := 19) (R := RX11) (T := TX11) (N := 15) (n := 5) (v := .int (gI (sA M 5 (bR (rowU k (fun c => P (4096 * q + c)) F))) 7)) (by decide) rfl rfl inw11 (by decide) rfl hw_5_23 rfl dX11_undo_57 ?_
      refine G_top (y := (nI q)) ((gI_A _ _ _ _).trans h7) ?_
      refine r_imul C (v := (nI (4096 * q))) dX11_undo_60 (pk_mul _ _) ?_
      refine r_iload_n C dX11_undo_61 0 rfl ?_
      refine r_iadd C (v := (nI (4096 * q + k))) dX11_undo_62 (nI_add _ _) ?_
      refine r_zald C X (k := 21) (v := (bI (P (4096 * q + k)))) (by decide) rfl (by omega) (by decide) (bR_at ((gA_n _ _ (by decide)).trans hP) _) dX11_undo_63 ?_
      refine r_zast C X (k := 20) (f' := bR (rowU (k + 1) (fun c => P (4096 * q + c)) F)) (μ' := (sA (sA M 5 (bR (rowU k (fun c => P (4096 * q + c)) F))) 5 (bR (rowU (k + 1) (fun c => P (4096 * q + c)) F)))) (by decide) rfl (by omega) (by decide) (by rw [gA_s]; exact bR_s _ _ _ rfl) dX11_undo_64 (congrArg (iR g 3 4096) (gA_s _ _ _)) (WF_sA5_ne g _ _) ?_
      refine G_mem (μ' := (sA M 5 (bR (rowU (k + 1) (fun c => P (4096 * q + c)) F)))) (sA_u _ _ _ _) ?_
      refine r_iinc C (v := (nI (k + 1))) (lv' := [(1, .int (nI (k + 1))), (0, .ref (ad g 19))]) 1 0 dX11_undo_65 rfl (inc_N _ 1) (by decide) rfl ?_
      refine r_goto C 37 dX11_undo_68 (by decide) ?_
      exact ih (k + 1) (by omega) (by omega)
set_option maxHeartbeats 1000000 in
set_option maxRecDepth 100000 in
theorem y_undo (l : Launch) (g : Gd) (μ : Mm) {F P : Nat → Bool} {q : Nat} (h7 : gI μ 7 = nI (q + 1)) (hq : q < 4) (hF : gA μ 5 = bR F) (hP : gA μ 6 = bR P) : Ct l yX11_undo cX11_undo 2 (some .int) (rmk 0 0) g [.ref (ad g 19)] μ (some (.int (nI q))) (sI (sA (sI (sI μ 5 (nI 0)) 7 (nI q)) 5 (bR (rowU 4096 (fun c => P (4096 * q + c)) F))) 6 (gA μ 7 q)) := by
  refine Ct.of (by decide) (Nat.le_of_ble_eq_true rfl) (fun z A C X Rr => ?_)
  refine r_aload_n C dX11_undo_0 0 rfl ?_
  refine r_aload_n C dX11_undo_1 0 rfl ?_
  refine r_get C X (k := 19) (R := RX11) (T := TX11) (N := 15) (n := 5) (v := .int (gI μ 7)) (by decide) rfl rfl inw11 (by decide) rfl hw_5_23 rfl dX11_undo_2 ?_
  refine G_top (y := (nI (q + 1))) h7 ?_
  refine r_if_ne C 12 dX11_undo_5 (by decide) (zI_ne (by omega)) (fun h5 => ?_) (fun h5 => ?_)
  · refine r_iconst C (v := (nI 0)) dX11_undo_12 rfl ?_
    refine r_put C X (μ' := (sI μ 5 (nI 0))) (k := 19) (R := RX11) (T := TX11) (N := 15) (n := 0) (v := .int (nI 0)) (ty := .int) (by decide) rfl rfl inw11 tyX11_ok nmX11 (by decide) rfl hw_5_18 rfl rfl rfl rfl (Nat.le_of_ble_eq_true rfl) dX11_undo_13 (WF_sI5_at g _ _) (WF_sI5_ne g _ _) ?_
    refine r_aload_n C dX11_undo_16 0 rfl ?_
    refine r_get C X (k := 19) (R := RX11) (T := TX11) (N := 15) (n := 0) (v := .int (gI (sI μ 5 (nI 0)) 5)) (by decide) rfl rfl inw11 (by decide) rfl hw_5_18 rfl dX11_undo_17 ?_
    refine G_top (y := (nI 0)) (gI_s _ _ _) ?_
    refine r_if_le C 25 dX11_undo_20 (by decide) (zI_le (by omega)) (fun h20 => ?_) (fun h20 => ?_)
    · refine r_aload_n C dX11_undo_25 0 rfl ?_
      refine r_dup C dX11_undo_26 rfl ?_
      refine r_get C X (k := 19) (R := RX11) (T := TX11) (N := 15) (n := 5) (v := .int (gI (sI μ 5 (nI 0)) 7)) (by decide) rfl rfl inw11 (by decide) rfl hw_5_23 rfl dX11_undo_27 ?_
      refine G_top (y := (nI (q + 1))) ((gI_n _ _ (by decide)).trans h7) ?_
      refine r_iconst C (v := (nI 1)) dX11_undo_30 rfl ?_
      refine r_isub C (v := (nI q)) dX11_undo_31 (pk_sub (a := q + 1) (b := 1) (by omega)) ?_
      refine r_put C X (μ' := (sI (sI μ 5 (nI 0)) 7 (nI q))) (k := 19) (R := RX11) (T := TX11) (N := 15) (n := 5) (v := .int (nI q)) (ty := .int) (by decide) rfl rfl inw11 tyX11_ok nmX11 (by decide) rfl hw_5_23 rfl rfl rfl rfl (Nat.le_of_ble_eq_true rfl) dX11_undo_32 (WF_sI7_at g _ _) (WF_sI7_ne g _ _) ?_
      refine r_iconst C (v := (nI 0)) dX11_undo_35 rfl ?_
      refine r_istore_n C (lv' := [(1, .int (nI 0)), (0, .ref (ad g 19))]) 1 dX11_undo_36 rfl (by decide) rfl ?_
      refine G_mem (show (sI (sI μ 5 (nI 0)) 7 (nI q)) = sA (sI (sI μ 5 (nI 0)) 7 (nI q)) 5 (bR (rowU 0 (fun c => P (4096 * q + c)) F)) by rw [rowU_0]; exact (sA_i _ 5).symm.trans (congrArg (sA _ 5) ((gA_I _ _ _ _).trans ((gA_I _ _ _ _).trans hF)))) ?_
      exact lp_undoM C X (M := (sI (sI μ 5 (nI 0)) 7 (nI q))) (F := F) (gI_s _ _ _) hq ((gA_I _ _ _ _).trans ((gA_I _ _ _ _).trans hP)) Rr 4097 0 (by decide) (by decide)
    · exact absurd rfl h20
  · exact absurd (Decidable.not_not.mp h5) (by omega)
set_option maxHeartbeats 1000000 in
set_option maxRecDepth 100000 in
theorem n_undo (l : Launch) (g : Gd) (μ : Mm) (h7 : gI μ 7 = nI 0) : Ct l yX11_undo cX11_undo 2 (some .int) (rmk 0 0) g [.ref (ad g 19)] μ (some (.int (nI 0))) (sI μ 5 (nI 1)) := by
  refine Ct.of (by decide) (Nat.le_of_ble_eq_true rfl) (fun z A C X Rr => ?_)
  refine r_aload_n C dX11_undo_0 0 rfl ?_
  refine r_aload_n C dX11_undo_1 0 rfl ?_
  refine r_get C X (k := 19) (R := RX11) (T := TX11) (N := 15) (n := 5) (v := .int (gI μ 7)) (by decide) rfl rfl inw11 (by decide) rfl hw_5_23 rfl dX11_undo_2 ?_
  refine G_top (y := (nI 0)) h7 ?_
  refine r_if_ne C 12 dX11_undo_5 (by decide) (zI_ne (by omega)) (fun h5 => ?_) (fun h5 => ?_)
  · exact absurd rfl h5
  · refine r_iconst C (v := (nI 1)) dX11_undo_8 rfl ?_
    refine r_goto C 13 dX11_undo_9 (by decide) ?_
    refine r_put C X (μ' := (sI μ 5 (nI 1))) (k := 19) (R := RX11) (T := TX11) (N := 15) (n := 0) (v := .int (nI 1)) (ty := .int) (by decide) rfl rfl inw11 tyX11_ok nmX11 (by decide) rfl hw_5_18 rfl rfl rfl rfl (Nat.le_of_ble_eq_true rfl) dX11_undo_13 (WF_sI5_at g _ _) (WF_sI5_ne g _ _) ?_
    refine r_aload_n C dX11_undo_16 0 rfl ?_
    refine r_get C X (k := 19) (R := RX11) (T := TX11) (N := 15) (n := 0) (v := .int (gI (sI μ 5 (nI 1)) 5)) (by decide) rfl rfl inw11 (by decide) rfl hw_5_18 rfl dX11_undo_17 ?_
    refine G_top (y := (nI 1)) (gI_s _ _ _) ?_
    refine r_if_le C 25 dX11_undo_20 (by decide) (zI_le (by omega)) (fun h20 => ?_) (fun h20 => ?_)
    · exact absurd h20 (by decide)
    · refine r_iconst C (v := (nI 0)) dX11_undo_23 rfl ?_
      exact r_iret C dX11_undo_24 Rr
set_option maxHeartbeats 1000000 in
set_option maxRecDepth 100000 in
theorem y_type (l : Launch) (g : Gd) (μ : Mm) {v ty : Nat} (hty : gI μ 8 = nI ty) (ht : ty < 120) (hv : v < 128) : Ct l yX11_type cX11_type 2 (some .int) (rmk 1 22) g [.ref (ad g 19), .int (nI v)] μ (some (.int (nI (ty + 1)))) (sI (sA (sI μ 5 (nI 0)) 8 (upd (gA μ 8) ty (nI v))) 8 (nI (ty + 1))) := by
  refine Ct.of (by decide) (Nat.le_of_ble_eq_true rfl) (fun z A C X Rr => ?_)
  refine r_aload_n C dX11_type_0 0 rfl ?_
  refine r_iload_n C dX11_type_1 1 rfl ?_
  refine r_iconst C (v := (nI 0)) dX11_type_2 rfl ?_
  refine r_bipush C (v := (nI 127)) dX11_type_3 (by decide) ?_
  refine r_callP C (As := [.int (nI v), .int (nI 0), .int (nI 127)]) (rest := [.ref (ad g 19)]) (st1 := [.int (bI (inI (nI v) (nI 0) (nI 127))), .ref (ad g 19)]) miX11_in msX11_in (c_in l (nI v) (nI 0) (nI 127)) hw_5_77 rfl ⟨by decide, by decide, rfl, rfl, by decide, by decide⟩ rfl (Nat.le_of_ble_eq_true rfl) dX11_type_5 rfl ?_
  refine G_top (y := (bI true)) (congrArg bI (inN (v := v) (Nat.zero_le _) (by omega) (by decide))) ?_
  refine r_if_ne C 15 dX11_type_8 (by decide) (bI_ne _) (fun h8 => ?_) (fun h8 => ?_)
  · refine r_aload_n C dX11_type_15 0 rfl ?_
    refine r_get C X (k := 19) (R := RX11) (T := TX11) (N := 15) (n := 7) (v := .int (gI μ 8)) (by decide) rfl rfl inw11 (by decide) rfl hw_5_25 rfl dX11_type_16 ?_
    refine G_top (y := (nI ty)) hty ?_
    refine r_bipush C (v := (nI 120)) dX11_type_19 (by decide) ?_
    refine r_icmp_ne C 28 dX11_type_21 (by decide) (not_congr (nI_eq (by omega) (by omega))) (fun h21 => ?_) (fun h21 => ?_)
    · refine r_iconst C (v := (nI 0)) dX11_type_28 rfl ?_
      refine r_put C X (μ' := (sI μ 5 (nI 0))) (k := 19) (R := RX11) (T := TX11) (N := 15) (n := 0) (v := .int (nI 0)) (ty := .int) (by decide) rfl rfl inw11 tyX11_ok nmX11 (by decide) rfl hw_5_18 rfl rfl rfl rfl (Nat.le_of_ble_eq_true rfl) dX11_type_29 (WF_sI5_at g _ _) (WF_sI5_ne g _ _) ?_
      refine r_aload_n C dX11_type_32 0 rfl ?_
      refine r_get C X (k := 19) (R := RX11) (T := TX11) (N := 15) (n := 0) (v := .int (gI (sI μ 5 (nI 0)) 5)) (by decide) rfl rfl inw11 (by decide) rfl hw_5_18 rfl dX11_type_33 ?_
      refine G_top (y := (nI 0)) (gI_s _ _ _) ?_
      refine r_if_le C 41 dX11_type_36 (by decide) (zI_le (by omega)) (fun h36 => ?_) (fun h36 => ?_)
      · refine r_aload_n C dX11_type_41 0 rfl ?_
        refine r_get C X (k := 19) (R := RX11) (T := TX11) (N := 15) (n := 6) (v := .ref (ad g 23)) (by decide) rfl rfl inw11 (by decide) rfl hw_5_24 rfl dX11_type_42 ?_
        refine r_aload_n C dX11_type_45 0 rfl ?_
        refine r_get C X (k := 19) (R := RX11) (T := TX11) (N := 15) (n := 7) (v := .int (gI (sI μ 5 (nI 0)) 8)) (by decide) rfl rfl inw11 (by decide) rfl hw_5_25 rfl dX11_type_46 ?_
        refine G_top (y := (nI ty)) ((gI_n _ _ (by decide)).trans hty) ?_
        refine r_iload_n C dX11_type_49 1 rfl ?_
        refine r_i2b C (v := (nI v)) dX11_type_50 (b8 v hv) ?_
        refine r_bast C X (k := 23) (f' := upd (gA μ 8) ty (nI v)) (μ' := (sA (sI μ 5 (nI 0)) 8 (upd (gA μ 8) ty (nI v)))) (by decide) rfl (by omega) (by decide) (by rw [nar8 v hv]; rfl) dX11_type_51 (congrArg (iR g 0 120) (gA_s _ _ _)) (WF_sA8_ne g _ _) ?_
        refine r_aload_n C dX11_type_52 0 rfl ?_
        refine r_dup C dX11_type_53 rfl ?_
        refine r_get C X (k := 19) (R := RX11) (T := TX11) (N := 15) (n := 7) (v := .int (gI (sA (sI μ 5 (nI 0)) 8 (upd (gA μ 8) ty (nI v))) 8)) (by decide) rfl rfl inw11 (by decide) rfl hw_5_25 rfl dX11_type_54 ?_
        refine G_top (y := (nI ty)) ((gI_A _ _ _ _).trans ((gI_n _ _ (by decide)).trans hty)) ?_
        refine r_iconst C (v := (nI 1)) dX11_type_57 rfl ?_
        refine r_iadd C (v := (nI (ty + 1))) dX11_type_58 (nI_add _ _) ?_
        refine r_put C X (μ' := (sI (sA (sI μ 5 (nI 0)) 8 (upd (gA μ 8) ty (nI v))) 8 (nI (ty + 1)))) (k := 19) (R := RX11) (T := TX11) (N := 15) (n := 7) (v := .int (nI (ty + 1))) (ty := .int) (by decide) rfl rfl inw11 tyX11_ok nmX11 (by decide) rfl hw_5_25 rfl rfl rfl rfl (Nat.le_of_ble_eq_true rfl) dX11_type_59 (WF_sI8_at g _ _) (WF_sI8_ne g _ _) ?_
        refine r_aload_n C dX11_type_62 0 rfl ?_
        refine r_get C X (k := 19) (R := RX11) (T := TX11) (N := 15) (n := 7) (v := .int (gI (sI (sA (sI μ 5 (nI 0)) 8 (upd (gA μ 8) ty (nI v))) 8 (nI (ty + 1))) 8)) (by decide) rfl rfl inw11 (by decide) rfl hw_5_25 rfl dX11_type_63 ?_
        refine G_top (y := (nI (ty + 1))) (gI_s _ _ _) ?_
        exact r_iret C dX11_type_66 Rr
      · exact absurd rfl h36
    · exact absurd (Decidable.not_not.mp h21) (by omega)
  · exact absurd rfl h8
set_option maxHeartbeats 1000000 in
set_option maxRecDepth 100000 in
theorem n_type1 (l : Launch) (g : Gd) (μ : Mm) {v : Int32} (hv : inI v (nI 0) (nI 127) = false) : Ct l yX11_type cX11_type 2 (some .int) (rmk 1 22) g [.ref (ad g 19), .int v] μ (some (.int (nI 0))) (sI μ 5 (nI 1)) := by
  refine Ct.of (by decide) (Nat.le_of_ble_eq_true rfl) (fun z A C X Rr => ?_)
  refine r_aload_n C dX11_type_0 0 rfl ?_
  refine r_iload_n C dX11_type_1 1 rfl ?_
  refine r_iconst C (v := (nI 0)) dX11_type_2 rfl ?_
  refine r_bipush C (v := (nI 127)) dX11_type_3 (by decide) ?_
  refine r_callP C (As := [.int v, .int (nI 0), .int (nI 127)]) (rest := [.ref (ad g 19)]) (st1 := [.int (bI (inI v (nI 0) (nI 127))), .ref (ad g 19)]) miX11_in msX11_in (c_in l v (nI 0) (nI 127)) hw_5_77 rfl ⟨by decide, by decide, rfl, rfl, by decide, by decide⟩ rfl (Nat.le_of_ble_eq_true rfl) dX11_type_5 rfl ?_
  refine r_if_ne C 15 dX11_type_8 (by decide) (bI_ne _) (fun h8 => ?_) (fun h8 => ?_)
  · exact absurd h8 (ts_f hv)
  · refine r_iconst C (v := (nI 1)) dX11_type_11 rfl ?_
    refine r_goto C 29 dX11_type_12 (by decide) ?_
    refine r_put C X (μ' := (sI μ 5 (nI 1))) (k := 19) (R := RX11) (T := TX11) (N := 15) (n := 0) (v := .int (nI 1)) (ty := .int) (by decide) rfl rfl inw11 tyX11_ok nmX11 (by decide) rfl hw_5_18 rfl rfl rfl rfl (Nat.le_of_ble_eq_true rfl) dX11_type_29 (WF_sI5_at g _ _) (WF_sI5_ne g _ _) ?_
    refine r_aload_n C dX11_type_32 0 rfl ?_
    refine r_get C X (k := 19) (R := RX11) (T := TX11) (N := 15) (n := 0) (v := .int (gI (sI μ 5 (nI 1)) 5)) (by decide) rfl rfl inw11 (by decide) rfl hw_5_18 rfl dX11_type_33 ?_
    refine G_top (y := (nI 1)) (gI_s _ _ _) ?_
    refine r_if_le C 41 dX11_type_36 (by decide) (zI_le (by omega)) (fun h36 => ?_) (fun h36 => ?_)
    · exact absurd h36 (by decide)
    · refine r_iconst C (v := (nI 0)) dX11_type_39 rfl ?_
      exact r_iret C dX11_type_40 Rr
set_option maxHeartbeats 1000000 in
set_option maxRecDepth 100000 in
theorem n_type2 (l : Launch) (g : Gd) (μ : Mm) {v : Int32} (hty : gI μ 8 = nI 120) (hv : inI v (nI 0) (nI 127) = true) : Ct l yX11_type cX11_type 2 (some .int) (rmk 1 22) g [.ref (ad g 19), .int v] μ (some (.int (nI 0))) (sI μ 5 (nI 2)) := by
  refine Ct.of (by decide) (Nat.le_of_ble_eq_true rfl) (fun z A C X Rr => ?_)
  refine r_aload_n C dX11_type_0 0 rfl ?_
  refine r_iload_n C dX11_type_1 1 rfl ?_
  refine r_iconst C (v := (nI 0)) dX11_type_2 rfl ?_
  refine r_bipush C (v := (nI 127)) dX11_type_3 (by decide) ?_
  refine r_callP C (As := [.int v, .int (nI 0), .int (nI 127)]) (rest := [.ref (ad g 19)]) (st1 := [.int (bI (inI v (nI 0) (nI 127))), .ref (ad g 19)]) miX11_in msX11_in (c_in l v (nI 0) (nI 127)) hw_5_77 rfl ⟨by decide, by decide, rfl, rfl, by decide, by decide⟩ rfl (Nat.le_of_ble_eq_true rfl) dX11_type_5 rfl ?_
  refine r_if_ne C 15 dX11_type_8 (by decide) (bI_ne _) (fun h8 => ?_) (fun h8 => ?_)
  · refine r_aload_n C dX11_type_15 0 rfl ?_
    refine r_get C X (k := 19) (R := RX11) (T := TX11) (N := 15) (n := 7) (v := .int (gI μ 8)) (by decide) rfl rfl inw11 (by decide) rfl hw_5_25 rfl dX11_type_16 ?_
    refine G_top (y := (nI 120)) hty ?_
    refine r_bipush C (v := (nI 120)) dX11_type_19 (by decide) ?_
    refine r_icmp_ne C 28 dX11_type_21 (by decide) (not_congr (nI_eq (by omega) (by omega))) (fun h21 => ?_) (fun h21 => ?_)
    · exact absurd rfl h21
    · refine r_iconst C (v := (nI 2)) dX11_type_24 rfl ?_
      refine r_goto C 29 dX11_type_25 (by decide) ?_
      refine r_put C X (μ' := (sI μ 5 (nI 2))) (k := 19) (R := RX11) (T := TX11) (N := 15) (n := 0) (v := .int (nI 2)) (ty := .int) (by decide) rfl rfl inw11 tyX11_ok nmX11 (by decide) rfl hw_5_18 rfl rfl rfl rfl (Nat.le_of_ble_eq_true rfl) dX11_type_29 (WF_sI5_at g _ _) (WF_sI5_ne g _ _) ?_
      refine r_aload_n C dX11_type_32 0 rfl ?_
      refine r_get C X (k := 19) (R := RX11) (T := TX11) (N := 15) (n := 0) (v := .int (gI (sI μ 5 (nI 2)) 5)) (by decide) rfl rfl inw11 (by decide) rfl hw_5_18 rfl dX11_type_33 ?_
      refine G_top (y := (nI 2)) (gI_s _ _ _) ?_
      refine r_if_le C 41 dX11_type_36 (by decide) (zI_le (by omega)) (fun h36 => ?_) (fun h36 => ?_)
      · exact absurd h36 (by decide)
      · refine r_iconst C (v := (nI 0)) dX11_type_39 rfl ?_
        exact r_iret C dX11_type_40 Rr
  · exact absurd hv h8
theorem mCP_fr (μ : Mm) (F : Nat → Bool) (n f : Nat) : (∀ q, gI (mCP μ F n f) q = gI μ q) ∧ (∀ q, q ≠ 11 → gA (mCP μ F n f) q = gA μ q) := ⟨fun q => gI_A _ _ _ _, fun q h => gA_n _ _ h⟩
theorem mfM_fr (μ : Mm) (F : Nat → Bool) (n f : Nat) (h : Int64) : (∀ q, q ≠ 9 → gI (mfM μ F n f h) q = gI μ q) ∧ (∀ q, q ≠ 10 → q ≠ 11 → gA (mfM μ F n f h) q = gA μ q) :=
  ⟨fun q hq => ((fsF_fr F n f _ _ _ (mfW μ F n f h)).1 q hq), fun q h1 h2 => by
    refine (show gA (mfM μ F n f h) q = gA (fsF F n f (2 ^ n) 0 none (mfW μ F n f h)).1 q from gA_n _ _ h2).trans ?_
    exact (fsF_fr F n f _ _ _ (mfW μ F n f h)).2.1 q h1⟩
theorem mfM_X (μ : Mm) (F : Nat → Bool) (n f : Nat) (h : Int64) : mfM μ F n f h = sL (mfM μ F n f h) 2 (gL (mfM μ F n f h) 2) := (sL_i _ 2).symm
def dgM (F : Nat → Bool) (n : Nat) (μ : Mm) : Nat → Mm
  | 0 => μ
  | k + 1 => mfM (dgM F n μ k) F n k (gL (dgM F n μ k) 2)
theorem dgM_fr (F : Nat → Bool) (n : Nat) (μ : Mm) : ∀ k, (∀ q, q ≠ 9 → gI (dgM F n μ k) q = gI μ q) ∧ (∀ q, q ≠ 10 → q ≠ 11 → gA (dgM F n μ k) q = gA μ q)
  | 0 => ⟨fun _ _ => rfl, fun _ _ _ => rfl⟩
  | k + 1 => ⟨fun q h => ((mfM_fr _ F n k _).1 q h).trans ((dgM_fr F n μ k).1 q h), fun q h1 h2 => ((mfM_fr _ F n k _).2 q h1 h2).trans ((dgM_fr F n μ k).2 q h1 h2)⟩
def dgI (F : Nat → Bool) (n a : Nat) (h : Int64) : Nat → Int64
  | 0 => h
  | b + 1 => mx (dgI F n a h b) (fcO F a b n (2 ^ n) 0).toInt64
def dgO (F : Nat → Bool) (n : Nat) (h : Int64) : Nat → Int64
  | 0 => h
  | a + 1 => dgI F n a (dgO F n h a) 4
