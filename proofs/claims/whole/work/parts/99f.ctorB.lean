abbrev rmc (f c s lo : Nat) : Room := { frames := f, cells := c, slots := s, locals := lo }
theorem G_ce {z : Zt} {D : va_G} {A : Nat → Prop} {nL : Nat} {ws : va_W} {ce sl ce' sl' pc : Nat} {lv : List (Nat × Value)} {st : List Value} (h1 : ce = ce') (h2 : sl = sl') (K : G z D A nL ws ce' sl' pc lv st) : G z D A nL ws ce sl pc lv st := h1 ▸ h2 ▸ K
set_option maxHeartbeats 1000000 in
set_option maxRecDepth 100000 in
theorem k_X3_init (l : Launch) (g : Gd) (w0 : va_W) (a : Nat) (gr : Nat) : Cn l yX3_init cX3_init 2 (rmc 1 1 16 20) g w0 (a, .inr (2, [.null, .null])) [.ref a, .ref gr] (fun c => ∃ q, c = [(a, .inr (2, [.ref gr, .ref q])), (q, jR g 16 (fun _ => lN 0))]) := by
  refine Cn.of (by decide) rfl (Nat.le_of_ble_eq_true rfl) (fun z A C X Rr => ?_)
  refine r_aload_n C dX3_init_0 0 rfl ?_
  refine n_obj C hw_1_61 hw_1_30 hw_1_31 dX3_init_1 ⟨by decide, by decide⟩ (Nat.le_of_ble_eq_true rfl) ?_
  refine r_aload_n C dX3_init_4 0 rfl ?_
  refine r_aload_n C dX3_init_5 1 rfl ?_
  refine n_putF C X 0 (c' := [(a, .inr (2, [.ref gr, .null]))]) (n := 0) (T := TX3) (N := 2) (R := RX3) rfl rfl inw3 tyX3_ok nmX3 (by decide) rfl hw_1_62 rfl rfl Rr.2.2.2 (tyX3_ok 0 (by decide)) rfl rfl (Nat.le_of_ble_eq_true rfl) dX3_init_6 rfl ?_
  refine r_aload_n C dX3_init_9 0 rfl ?_
  refine r_bipush C (v := (nI 16)) dX3_init_10 (by decide) ?_
  refine n_newa C X (atype := .long) (ty := .long) (t := 2) (x := (16, .inr (.inl (fun _ => lN 0)))) hw_1_69 rfl rfl (fun _ => rfl) (by decide) (Nat.le_of_ble_eq_true rfl) (by decide) (by decide) dX3_init_12 (fun q12_1 => ?_)
  refine G_ce (ce' := 1) (sl' := 16) (show 0 + 1 = 1 from rfl) (show 0 + 16 = 16 from rfl) ?_
  refine G_ws (ws' := w0 ++ [(a, .inr (2, [.ref gr, .null])), (q12_1, .inl (cy g 2, 16, .inr (.inl (fun _ => lN 0))))]) rfl ?_
  refine n_putF C X 0 (c' := [(a, .inr (2, [.ref gr, .ref q12_1])), (q12_1, .inl (cy g 2, 16, .inr (.inl (fun _ => lN 0))))]) (n := 1) (T := TX3) (N := 2) (R := RX3) rfl rfl inw3 tyX3_ok nmX3 (by decide) rfl hw_1_63 rfl rfl Rr.2.2.2 (tyX3_ok 1 (by decide)) rfl rfl (Nat.le_of_ble_eq_true rfl) dX3_init_14 rfl ?_
  exact n_vret C dX3_init_17 ⟨_, rfl⟩ (by decide) (by decide) Rr
set_option maxHeartbeats 1000000 in
set_option maxRecDepth 100000 in
theorem k_X9_init (l : Launch) (g : Gd) (w0 : va_W) (a : Nat)  : Cn l yX9_init cX9_init 1 (rmc 1 1 120 20) g w0 (a, .inr (8, [.int (nI 0), .null])) [.ref a] (fun c => ∃ q, c = [(a, .inr (8, [.int (nI 0), .ref q])), (q, iR g 0 120 (fun _ => nI 0))]) := by
  refine Cn.of (by decide) rfl (Nat.le_of_ble_eq_true rfl) (fun z A C X Rr => ?_)
  refine r_aload_n C dX9_init_0 0 rfl ?_
  refine n_obj C hw_1_98 hw_1_30 hw_1_31 dX9_init_1 ⟨by decide, by decide⟩ (Nat.le_of_ble_eq_true rfl) ?_
  refine r_aload_n C dX9_init_4 0 rfl ?_
  refine r_bipush C (v := (nI 120)) dX9_init_5 (by decide) ?_
  refine n_newa C X (atype := .byte) (ty := .byte) (t := 0) (x := (120, .inl (fun _ => nI 0))) hw_1_107 rfl rfl (fun _ => rfl) (by decide) (Nat.le_of_ble_eq_true rfl) (by decide) (by decide) dX9_init_7 (fun q7_1 => ?_)
  refine G_ce (ce' := 1) (sl' := 120) (show 0 + 1 = 1 from rfl) (show 0 + 120 = 120 from rfl) ?_
  refine G_ws (ws' := w0 ++ [(a, .inr (8, [.int (nI 0), .null])), (q7_1, .inl (cy g 0, 120, .inl (fun _ => nI 0)))]) rfl ?_
  refine n_putF C X 0 (c' := [(a, .inr (8, [.int (nI 0), .ref q7_1])), (q7_1, .inl (cy g 0, 120, .inl (fun _ => nI 0)))]) (n := 1) (T := TX9) (N := 2) (R := RX9) rfl rfl inw9 tyX9_ok nmX9 (by decide) rfl hw_1_101 rfl rfl Rr.2.2.2 (tyX9_ok 1 (by decide)) rfl rfl (Nat.le_of_ble_eq_true rfl) dX9_init_9 rfl ?_
  exact n_vret C dX9_init_12 ⟨_, rfl⟩ (by decide) (by decide) Rr
set_option maxHeartbeats 1000000 in
set_option maxRecDepth 100000 in
theorem k_X6_init (l : Launch) (g : Gd) (w0 : va_W) (a : Nat) (gr : Nat) : Cn l yX6_init cX6_init 2 (rmc 1 2 1035 20) g w0 (a, .inr (5, [.null, .null, .null])) [.ref a, .ref gr] (fun c => ∃ q r, c = [(a, .inr (5, [.ref gr, .ref q, .ref r])), (q, iR g 1 1024 (fun _ => nI 0)), (r, jR g 11 (fun _ => lN 0))]) := by
  refine Cn.of (by decide) rfl (Nat.le_of_ble_eq_true rfl) (fun z A C X Rr => ?_)
  refine r_aload_n C dX6_init_0 0 rfl ?_
  refine n_obj C hw_1_197 hw_1_30 hw_1_31 dX6_init_1 ⟨by decide, by decide⟩ (Nat.le_of_ble_eq_true rfl) ?_
  refine r_aload_n C dX6_init_4 0 rfl ?_
  refine r_aload_n C dX6_init_5 1 rfl ?_
  refine n_putF C X 0 (c' := [(a, .inr (5, [.ref gr, .null, .null]))]) (n := 0) (T := TX6) (N := 3) (R := RX6) rfl rfl inw6 tyX6_ok nmX6 (by decide) rfl hw_1_198 rfl rfl Rr.2.2.2 (tyX6_ok 0 (by decide)) rfl rfl (Nat.le_of_ble_eq_true rfl) dX6_init_6 rfl ?_
  refine r_aload_n C dX6_init_9 0 rfl ?_
  refine r_sipush C (v := (nI 1024)) dX6_init_10 (by decide) ?_
  refine n_newa C X (atype := .int) (ty := .int) (t := 1) (x := (1024, .inl (fun _ => nI 0))) hw_1_92 rfl rfl (fun _ => rfl) (by decide) (Nat.le_of_ble_eq_true rfl) (by decide) (by decide) dX6_init_13 (fun q13_1 => ?_)
  refine G_ce (ce' := 1) (sl' := 1024) (show 0 + 1 = 1 from rfl) (show 0 + 1024 = 1024 from rfl) ?_
  refine G_ws (ws' := w0 ++ [(a, .inr (5, [.ref gr, .null, .null])), (q13_1, .inl (cy g 1, 1024, .inl (fun _ => nI 0)))]) rfl ?_
  refine n_putF C X 0 (c' := [(a, .inr (5, [.ref gr, .ref q13_1, .null])), (q13_1, .inl (cy g 1, 1024, .inl (fun _ => nI 0)))]) (n := 1) (T := TX6) (N := 3) (R := RX6) rfl rfl inw6 tyX6_ok nmX6 (by decide) rfl hw_1_199 rfl rfl Rr.2.2.2 (tyX6_ok 1 (by decide)) rfl rfl (Nat.le_of_ble_eq_true rfl) dX6_init_15 rfl ?_
  refine r_aload_n C dX6_init_18 0 rfl ?_
  refine r_bipush C (v := (nI 11)) dX6_init_19 (by decide) ?_
  refine n_newa C X (atype := .long) (ty := .long) (t := 2) (x := (11, .inr (.inl (fun _ => lN 0)))) hw_1_69 rfl rfl (fun _ => rfl) (by decide) (Nat.le_of_ble_eq_true rfl) (by decide) (by decide) dX6_init_21 (fun q21_2 => ?_)
  refine G_ce (ce' := 2) (sl' := 1035) (show 1 + 1 = 2 from rfl) (show 1024 + 11 = 1035 from rfl) ?_
  refine G_ws (ws' := w0 ++ [(a, .inr (5, [.ref gr, .ref q13_1, .null])), (q13_1, .inl (cy g 1, 1024, .inl (fun _ => nI 0))), (q21_2, .inl (cy g 2, 11, .inr (.inl (fun _ => lN 0))))]) rfl ?_
  refine n_putF C X 0 (c' := [(a, .inr (5, [.ref gr, .ref q13_1, .ref q21_2])), (q13_1, .inl (cy g 1, 1024, .inl (fun _ => nI 0))), (q21_2, .inl (cy g 2, 11, .inr (.inl (fun _ => lN 0))))]) (n := 2) (T := TX6) (N := 3) (R := RX6) rfl rfl inw6 tyX6_ok nmX6 (by decide) rfl hw_1_200 rfl rfl Rr.2.2.2 (tyX6_ok 2 (by decide)) rfl rfl (Nat.le_of_ble_eq_true rfl) dX6_init_23 rfl ?_
  exact n_vret C dX6_init_26 ⟨_, _, rfl⟩ (by decide) (by decide) Rr
set_option maxHeartbeats 1000000 in
set_option maxRecDepth 100000 in
theorem k_X2_init (l : Launch) (g : Gd) (w0 : va_W) (a : Nat) (gr : Nat) : Cn l yX2_init cX2_init 2 (rmc 2 6 54 41) g w0 (a, .inr (1, [.null, .null, .null, .null])) [.ref a, .ref gr] (fun c => ∃ q1 w1 q2 w2 q3 w3, c = [(a, .inr (1, [.ref gr, .ref q1, .ref q2, .ref q3])), (q1, .inr (2, [.ref gr, .ref w1])), (w1, jR g 16 (fun _ => lN 0)), (q2, .inr (2, [.ref gr, .ref w2])), (w2, jR g 16 (fun _ => lN 0)), (q3, .inr (2, [.ref gr, .ref w3])), (w3, jR g 16 (fun _ => lN 0))]) := by
  refine Cn.of (by decide) rfl (Nat.le_of_ble_eq_true rfl) (fun z A C X Rr => ?_)
  refine r_aload_n C dX2_init_0 0 rfl ?_
  refine n_obj C hw_1_113 hw_1_30 hw_1_31 dX2_init_1 ⟨by decide, by decide⟩ (Nat.le_of_ble_eq_true rfl) ?_
  refine r_aload_n C dX2_init_4 0 rfl ?_
  refine r_aload_n C dX2_init_5 1 rfl ?_
  refine n_putF C X 0 (c' := [(a, .inr (1, [.ref gr, .null, .null, .null]))]) (n := 0) (T := TX2) (N := 4) (R := RX2) rfl rfl inw2 tyX2_ok nmX2 (by decide) rfl hw_1_116 rfl rfl Rr.2.2.2 (tyX2_ok 0 (by decide)) rfl rfl (Nat.le_of_ble_eq_true rfl) dX2_init_6 rfl ?_
  refine r_aload_n C dX2_init_9 0 rfl ?_
  refine n_new C X (R := RX3) (T := TX3) (N := 2) (ci := 2) (fs := [.null, .null]) inw3 tyX3_ok hw_1_114 hw_1_57 hw_1_3 rfl (fun j hj => by rcases (show j = 0 ∨ j = 1 by omega) with rfl | rfl <;> rfl) (by decide) (by decide) dX2_init_10 (fun q10_1 => ?_)
  refine G_ce (ce' := 1) (sl' := 2) (show 0 + 1 = 1 from rfl) (show 0 + 2 = 2 from rfl) ?_
  refine G_ws (ws' := w0 ++ [(a, .inr (1, [.ref gr, .null, .null, .null])), (q10_1, .inr (2, [.null, .null]))]) rfl ?_
  refine r_dup C dX2_init_13 rfl ?_
  refine r_aload_n C dX2_init_14 1 rfl ?_
  refine n_callI C X (ce := 1) (sl := 2) (c := [(a, .inr (1, [.ref gr, .null, .null, .null]))]) (As := [.ref gr]) (rest := [.ref q10_1, .ref a]) miX3_init rfl hw_1_59 (k_X3_init l g (w0 ++ [(a, .inr (1, [.ref gr, .null, .null, .null]))]) q10_1 gr) hw_1_115 rfl ⟨by decide, by decide, (by decide), (by decide)⟩ rfl (Nat.le_of_ble_eq_true rfl) dX2_init_15 (fun c_ hp_ => ?_)
  refine G_ce (ce' := 2) (sl' := 18) (show 1 + 1 = 2 from rfl) (show 2 + 16 = 18 from rfl) ?_
  obtain ⟨q15_2, rfl⟩ := hp_
  refine G_ws (ws' := w0 ++ [(a, .inr (1, [.ref gr, .null, .null, .null])), (q10_1, .inr (2, [.ref gr, .ref q15_2])), (q15_2, .inl (cy g 2, 16, .inr (.inl (fun _ => lN 0))))]) rfl ?_
  refine n_putF C X 0 (c' := [(a, .inr (1, [.ref gr, .ref q10_1, .null, .null])), (q10_1, .inr (2, [.ref gr, .ref q15_2])), (q15_2, .inl (cy g 2, 16, .inr (.inl (fun _ => lN 0))))]) (n := 1) (T := TX2) (N := 4) (R := RX2) rfl rfl inw2 tyX2_ok nmX2 (by decide) rfl hw_1_117 rfl rfl Rr.2.2.2 (tyX2_ok 1 (by decide)) rfl rfl (Nat.le_of_ble_eq_true rfl) dX2_init_18 rfl ?_
  refine r_aload_n C dX2_init_21 0 rfl ?_
  refine n_new C X (R := RX3) (T := TX3) (N := 2) (ci := 2) (fs := [.null, .null]) inw3 tyX3_ok hw_1_114 hw_1_57 hw_1_3 rfl (fun j hj => by rcases (show j = 0 ∨ j = 1 by omega) with rfl | rfl <;> rfl) (by decide) (by decide) dX2_init_22 (fun q22_3 => ?_)
  refine G_ce (ce' := 3) (sl' := 20) (show 2 + 1 = 3 from rfl) (show 18 + 2 = 20 from rfl) ?_
  refine G_ws (ws' := w0 ++ [(a, .inr (1, [.ref gr, .ref q10_1, .null, .null])), (q10_1, .inr (2, [.ref gr, .ref q15_2])), (q15_2, .inl (cy g 2, 16, .inr (.inl (fun _ => lN 0)))), (q22_3, .inr (2, [.null, .null]))]) rfl ?_
  refine r_dup C dX2_init_25 rfl ?_
  refine r_aload_n C dX2_init_26 1 rfl ?_
  refine n_callI C X (ce := 3) (sl := 20) (c := [(a, .inr (1, [.ref gr, .ref q10_1, .null, .null])), (q10_1, .inr (2, [.ref gr, .ref q15_2])), (q15_2, .inl (cy g 2, 16, .inr (.inl (fun _ => lN 0))))]) (As := [.ref gr]) (rest := [.ref q22_3, .ref a]) miX3_init rfl hw_1_59 (k_X3_init l g (w0 ++ [(a, .inr (1, [.ref gr, .ref q10_1, .null, .null])), (q10_1, .inr (2, [.ref gr, .ref q15_2])), (q15_2, .inl (cy g 2, 16, .inr (.inl (fun _ => lN 0))))]) q22_3 gr) hw_1_115 rfl ⟨by decide, by decide, (by decide), (by decide)⟩ rfl (Nat.le_of_ble_eq_true rfl) dX2_init_27 (fun c_ hp_ => ?_)
  refine G_ce (ce' := 4) (sl' := 36) (show 3 + 1 = 4 from rfl) (show 20 + 16 = 36 from rfl) ?_
  obtain ⟨q27_4, rfl⟩ := hp_
  refine G_ws (ws' := w0 ++ [(a, .inr (1, [.ref gr, .ref q10_1, .null, .null])), (q10_1, .inr (2, [.ref gr, .ref q15_2])), (q15_2, .inl (cy g 2, 16, .inr (.inl (fun _ => lN 0)))), (q22_3, .inr (2, [.ref gr, .ref q27_4])), (q27_4, .inl (cy g 2, 16, .inr (.inl (fun _ => lN 0))))]) rfl ?_
  refine n_putF C X 0 (c' := [(a, .inr (1, [.ref gr, .ref q10_1, .ref q22_3, .null])), (q10_1, .inr (2, [.ref gr, .ref q15_2])), (q15_2, .inl (cy g 2, 16, .inr (.inl (fun _ => lN 0)))), (q22_3, .inr (2, [.ref gr, .ref q27_4])), (q27_4, .inl (cy g 2, 16, .inr (.inl (fun _ => lN 0))))]) (n := 2) (T := TX2) (N := 4) (R := RX2) rfl rfl inw2 tyX2_ok nmX2 (by decide) rfl hw_1_118 rfl rfl Rr.2.2.2 (tyX2_ok 2 (by decide)) rfl rfl (Nat.le_of_ble_eq_true rfl) dX2_init_30 rfl ?_
  refine r_aload_n C dX2_init_33 0 rfl ?_
  refine n_new C X (R := RX3) (T := TX3) (N := 2) (ci := 2) (fs := [.null, .null]) inw3 tyX3_ok hw_1_114 hw_1_57 hw_1_3 rfl (fun j hj => by rcases (show j = 0 ∨ j = 1 by omega) with rfl | rfl <;> rfl) (by decide) (by decide) dX2_init_34 (fun q34_5 => ?_)
  refine G_ce (ce' := 5) (sl' := 38) (show 4 + 1 = 5 from rfl) (show 36 + 2 = 38 from rfl) ?_
  refine G_ws (ws' := w0 ++ [(a, .inr (1, [.ref gr, .ref q10_1, .ref q22_3, .null])), (q10_1, .inr (2, [.ref gr, .ref q15_2])), (q15_2, .inl (cy g 2, 16, .inr (.inl (fun _ => lN 0)))), (q22_3, .inr (2, [.ref gr, .ref q27_4])), (q27_4, .inl (cy g 2, 16, .inr (.inl (fun _ => lN 0)))), (q34_5, .inr (2, [.null, .null]))]) rfl ?_
  refine r_dup C dX2_init_37 rfl ?_
  refine r_aload_n C dX2_init_38 1 rfl ?_
  refine n_callI C X (ce := 5) (sl := 38) (c := [(a, .inr (1, [.ref gr, .ref q10_1, .ref q22_3, .null])), (q10_1, .inr (2, [.ref gr, .ref q15_2])), (q15_2, .inl (cy g 2, 16, .inr (.inl (fun _ => lN 0)))), (q22_3, .inr (2, [.ref gr, .ref q27_4])), (q27_4, .inl (cy g 2, 16, .inr (.inl (fun _ => lN 0))))]) (As := [.ref gr]) (rest := [.ref q34_5, .ref a]) miX3_init rfl hw_1_59 (k_X3_init l g (w0 ++ [(a, .inr (1, [.ref gr, .ref q10_1, .ref q22_3, .null])), (q10_1, .inr (2, [.ref gr, .ref q15_2])), (q15_2, .inl (cy g 2, 16, .inr (.inl (fun _ => lN 0)))), (q22_3, .inr (2, [.ref gr, .ref q27_4])), (q27_4, .inl (cy g 2, 16, .inr (.inl (fun _ => lN 0))))]) q34_5 gr) hw_1_115 rfl ⟨by decide, by decide, (by decide), (by decide)⟩ rfl (Nat.le_of_ble_eq_true rfl) dX2_init_39 (fun c_ hp_ => ?_)
  refine G_ce (ce' := 6) (sl' := 54) (show 5 + 1 = 6 from rfl) (show 38 + 16 = 54 from rfl) ?_
  obtain ⟨q39_6, rfl⟩ := hp_
  refine G_ws (ws' := w0 ++ [(a, .inr (1, [.ref gr, .ref q10_1, .ref q22_3, .null])), (q10_1, .inr (2, [.ref gr, .ref q15_2])), (q15_2, .inl (cy g 2, 16, .inr (.inl (fun _ => lN 0)))), (q22_3, .inr (2, [.ref gr, .ref q27_4])), (q27_4, .inl (cy g 2, 16, .inr (.inl (fun _ => lN 0)))), (q34_5, .inr (2, [.ref gr, .ref q39_6])), (q39_6, .inl (cy g 2, 16, .inr (.inl (fun _ => lN 0))))]) rfl ?_
  refine n_putF C X 0 (c' := [(a, .inr (1, [.ref gr, .ref q10_1, .ref q22_3, .ref q34_5])), (q10_1, .inr (2, [.ref gr, .ref q15_2])), (q15_2, .inl (cy g 2, 16, .inr (.inl (fun _ => lN 0)))), (q22_3, .inr (2, [.ref gr, .ref q27_4])), (q27_4, .inl (cy g 2, 16, .inr (.inl (fun _ => lN 0)))), (q34_5, .inr (2, [.ref gr, .ref q39_6])), (q39_6, .inl (cy g 2, 16, .inr (.inl (fun _ => lN 0))))]) (n := 3) (T := TX2) (N := 4) (R := RX2) rfl rfl inw2 tyX2_ok nmX2 (by decide) rfl hw_1_119 rfl rfl Rr.2.2.2 (tyX2_ok 3 (by decide)) rfl rfl (Nat.le_of_ble_eq_true rfl) dX2_init_42 rfl ?_
  exact n_vret C dX2_init_45 ⟨_, _, _, _, _, _, rfl⟩ (by decide) (by decide) Rr
set_option maxHeartbeats 1000000 in
set_option maxRecDepth 100000 in
theorem k_X1_init (l : Launch) (g : Gd) (w0 : va_W) (a : Nat) (gr : Nat) : Cn l yX1_init cX1_init 2 (rmc 2 6 54 41) g w0 (a, .inr (0, [.null, .null, .null, .null])) [.ref a, .ref gr] (fun c => ∃ q1 w1 q2 w2 q3 w3, c = [(a, .inr (0, [.ref gr, .ref q1, .ref q2, .ref q3])), (q1, .inr (2, [.ref gr, .ref w1])), (w1, jR g 16 (fun _ => lN 0)), (q2, .inr (2, [.ref gr, .ref w2])), (w2, jR g 16 (fun _ => lN 0)), (q3, .inr (2, [.ref gr, .ref w3])), (w3, jR g 16 (fun _ => lN 0))]) := by
  refine Cn.of (by decide) rfl (Nat.le_of_ble_eq_true rfl) (fun z A C X Rr => ?_)
  refine r_aload_n C dX1_init_0 0 rfl ?_
  refine n_obj C hw_1_134 hw_1_30 hw_1_31 dX1_init_1 ⟨by decide, by decide⟩ (Nat.le_of_ble_eq_true rfl) ?_
  refine r_aload_n C dX1_init_4 0 rfl ?_
  refine r_aload_n C dX1_init_5 1 rfl ?_
  refine n_putF C X 0 (c' := [(a, .inr (0, [.ref gr, .null, .null, .null]))]) (n := 0) (T := TX1) (N := 4) (R := RX1) rfl rfl inw1 tyX1_ok nmX1 (by decide) rfl hw_1_137 rfl rfl Rr.2.2.2 (tyX1_ok 0 (by decide)) rfl rfl (Nat.le_of_ble_eq_true rfl) dX1_init_6 rfl ?_
  refine r_aload_n C dX1_init_9 0 rfl ?_
  refine n_new C X (R := RX3) (T := TX3) (N := 2) (ci := 2) (fs := [.null, .null]) inw3 tyX3_ok hw_1_135 hw_1_57 hw_1_3 rfl (fun j hj => by rcases (show j = 0 ∨ j = 1 by omega) with rfl | rfl <;> rfl) (by decide) (by decide) dX1_init_10 (fun q10_1 => ?_)
  refine G_ce (ce' := 1) (sl' := 2) (show 0 + 1 = 1 from rfl) (show 0 + 2 = 2 from rfl) ?_
  refine G_ws (ws' := w0 ++ [(a, .inr (0, [.ref gr, .null, .null, .null])), (q10_1, .inr (2, [.null, .null]))]) rfl ?_
  refine r_dup C dX1_init_13 rfl ?_
  refine r_aload_n C dX1_init_14 1 rfl ?_
  refine n_callI C X (ce := 1) (sl := 2) (c := [(a, .inr (0, [.ref gr, .null, .null, .null]))]) (As := [.ref gr]) (rest := [.ref q10_1, .ref a]) miX3_init rfl hw_1_59 (k_X3_init l g (w0 ++ [(a, .inr (0, [.ref gr, .null, .null, .null]))]) q10_1 gr) hw_1_136 rfl ⟨by decide, by decide, (by decide), (by decide)⟩ rfl (Nat.le_of_ble_eq_true rfl) dX1_init_15 (fun c_ hp_ => ?_)
  refine G_ce (ce' := 2) (sl' := 18) (show 1 + 1 = 2 from rfl) (show 2 + 16 = 18 from rfl) ?_
  obtain ⟨q15_2, rfl⟩ := hp_
  refine G_ws (ws' := w0 ++ [(a, .inr (0, [.ref gr, .null, .null, .null])), (q10_1, .inr (2, [.ref gr, .ref q15_2])), (q15_2, .inl (cy g 2, 16, .inr (.inl (fun _ => lN 0))))]) rfl ?_
  refine n_putF C X 0 (c' := [(a, .inr (0, [.ref gr, .ref q10_1, .null, .null])), (q10_1, .inr (2, [.ref gr, .ref q15_2])), (q15_2, .inl (cy g 2, 16, .inr (.inl (fun _ => lN 0))))]) (n := 1) (T := TX1) (N := 4) (R := RX1) rfl rfl inw1 tyX1_ok nmX1 (by decide) rfl hw_1_138 rfl rfl Rr.2.2.2 (tyX1_ok 1 (by decide)) rfl rfl (Nat.le_of_ble_eq_true rfl) dX1_init_18 rfl ?_
  refine r_aload_n C dX1_init_21 0 rfl ?_
  refine n_new C X (R := RX3) (T := TX3) (N := 2) (ci := 2) (fs := [.null, .null]) inw3 tyX3_ok hw_1_135 hw_1_57 hw_1_3 rfl (fun j hj => by rcases (show j = 0 ∨ j = 1 by omega) with rfl | rfl <;> rfl) (by decide) (by decide) dX1_init_22 (fun q22_3 => ?_)
  refine G_ce (ce' := 3) (sl' := 20) (show 2 + 1 = 3 from rfl) (show 18 + 2 = 20 from rfl) ?_
  refine G_ws (ws' := w0 ++ [(a, .inr (0, [.ref gr, .ref q10_1, .null, .null])), (q10_1, .inr (2, [.ref gr, .ref q15_2])), (q15_2, .inl (cy g 2, 16, .inr (.inl (fun _ => lN 0)))), (q22_3, .inr (2, [.null, .null]))]) rfl ?_
  refine r_dup C dX1_init_25 rfl ?_
  refine r_aload_n C dX1_init_26 1 rfl ?_
  refine n_callI C X (ce := 3) (sl := 20) (c := [(a, .inr (0, [.ref gr, .ref q10_1, .null, .null])), (q10_1, .inr (2, [.ref gr, .ref q15_2])), (q15_2, .inl (cy g 2, 16, .inr (.inl (fun _ => lN 0))))]) (As := [.ref gr]) (rest := [.ref q22_3, .ref a]) miX3_init rfl hw_1_59 (k_X3_init l g (w0 ++ [(a, .inr (0, [.ref gr, .ref q10_1, .null, .null])), (q10_1, .inr (2, [.ref gr, .ref q15_2])), (q15_2, .inl (cy g 2, 16, .inr (.inl (fun _ => lN 0))))]) q22_3 gr) hw_1_136 rfl ⟨by decide, by decide, (by decide), (by decide)⟩ rfl (Nat.le_of_ble_eq_true rfl) dX1_init_27 (fun c_ hp_ => ?_)
  refine G_ce (ce' := 4) (sl' := 36) (show 3 + 1 = 4 from rfl) (show 20 + 16 = 36 from rfl) ?_
  obtain ⟨q27_4, rfl⟩ := hp_
  refine G_ws (ws' := w0 ++ [(a, .inr (0, [.ref gr, .ref q10_1, .null, .null])), (q10_1, .inr (2, [.ref gr, .ref q15_2])), (q15_2, .inl (cy g 2, 16, .inr (.inl (fun _ => lN 0)))), (q22_3, .inr (2, [.ref gr, .ref q27_4])), (q27_4, .inl (cy g 2, 16, .inr (.inl (fun _ => lN 0))))]) rfl ?_
  refine n_putF C X 0 (c' := [(a, .inr (0, [.ref gr, .ref q10_1, .ref q22_3, .null])), (q10_1, .inr (2, [.ref gr, .ref q15_2])), (q15_2, .inl (cy g 2, 16, .inr (.inl (fun _ => lN 0)))), (q22_3, .inr (2, [.ref gr, .ref q27_4])), (q27_4, .inl (cy g 2, 16, .inr (.inl (fun _ => lN 0))))]) (n := 2) (T := TX1) (N := 4) (R := RX1) rfl rfl inw1 tyX1_ok nmX1 (by decide) rfl hw_1_139 rfl rfl Rr.2.2.2 (tyX1_ok 2 (by decide)) rfl rfl (Nat.le_of_ble_eq_true rfl) dX1_init_30 rfl ?_
  refine r_aload_n C dX1_init_33 0 rfl ?_
  refine n_new C X (R := RX3) (T := TX3) (N := 2) (ci := 2) (fs := [.null, .null]) inw3 tyX3_ok hw_1_135 hw_1_57 hw_1_3 rfl (fun j hj => by rcases (show j = 0 ∨ j = 1 by omega) with rfl | rfl <;> rfl) (by decide) (by decide) dX1_init_34 (fun q34_5 => ?_)
  refine G_ce (ce' := 5) (sl' := 38) (show 4 + 1 = 5 from rfl) (show 36 + 2 = 38 from rfl) ?_
  refine G_ws (ws' := w0 ++ [(a, .inr (0, [.ref gr, .ref q10_1, .ref q22_3, .null])), (q10_1, .inr (2, [.ref gr, .ref q15_2])), (q15_2, .inl (cy g 2, 16, .inr (.inl (fun _ => lN 0)))), (q22_3, .inr (2, [.ref gr, .ref q27_4])), (q27_4, .inl (cy g 2, 16, .inr (.inl (fun _ => lN 0)))), (q34_5, .inr (2, [.null, .null]))]) rfl ?_
  refine r_dup C dX1_init_37 rfl ?_
  refine r_aload_n C dX1_init_38 1 rfl ?_
  refine n_callI C X (ce := 5) (sl := 38) (c := [(a, .inr (0, [.ref gr, .ref q10_1, .ref q22_3, .null])), (q10_1, .inr (2, [.ref gr, .ref q15_2])), (q15_2, .inl (cy g 2, 16, .inr (.inl (fun _ => lN 0)))), (q22_3, .inr (2, [.ref gr, .ref q27_4])), (q27_4, .inl (cy g 2, 16, .inr (.inl (fun _ => lN 0))))]) (As := [.ref gr]) (rest := [.ref q34_5, .ref a]) miX3_init rfl hw_1_59 (k_X3_init l g (w0 ++ [(a, .inr (0, [.ref gr, .ref q10_1, .ref q22_3, .null])), (q10_1, .inr (2, [.ref gr, .ref q15_2])), (q15_2, .inl (cy g 2, 16, .inr (.inl (fun _ => lN 0)))), (q22_3, .inr (2, [.ref gr, .ref q27_4])), (q27_4, .inl (cy g 2, 16, .inr (.inl (fun _ => lN 0))))]) q34_5 gr) hw_1_136 rfl ⟨by decide, by decide, (by decide), (by decide)⟩ rfl (Nat.le_of_ble_eq_true rfl) dX1_init_39 (fun c_ hp_ => ?_)
  refine G_ce (ce' := 6) (sl' := 54) (show 5 + 1 = 6 from rfl) (show 38 + 16 = 54 from rfl) ?_
  obtain ⟨q39_6, rfl⟩ := hp_
  refine G_ws (ws' := w0 ++ [(a, .inr (0, [.ref gr, .ref q10_1, .ref q22_3, .null])), (q10_1, .inr (2, [.ref gr, .ref q15_2])), (q15_2, .inl (cy g 2, 16, .inr (.inl (fun _ => lN 0)))), (q22_3, .inr (2, [.ref gr, .ref q27_4])), (q27_4, .inl (cy g 2, 16, .inr (.inl (fun _ => lN 0)))), (q34_5, .inr (2, [.ref gr, .ref q39_6])), (q39_6, .inl (cy g 2, 16, .inr (.inl (fun _ => lN 0))))]) rfl ?_
  refine n_putF C X 0 (c' := [(a, .inr (0, [.ref gr, .ref q10_1, .ref q22_3, .ref q34_5])), (q10_1, .inr (2, [.ref gr, .ref q15_2])), (q15_2, .inl (cy g 2, 16, .inr (.inl (fun _ => lN 0)))), (q22_3, .inr (2, [.ref gr, .ref q27_4])), (q27_4, .inl (cy g 2, 16, .inr (.inl (fun _ => lN 0)))), (q34_5, .inr (2, [.ref gr, .ref q39_6])), (q39_6, .inl (cy g 2, 16, .inr (.inl (fun _ => lN 0))))]) (n := 3) (T := TX1) (N := 4) (R := RX1) rfl rfl inw1 tyX1_ok nmX1 (by decide) rfl hw_1_140 rfl rfl Rr.2.2.2 (tyX1_ok 3 (by decide)) rfl rfl (Nat.le_of_ble_eq_true rfl) dX1_init_42 rfl ?_
  exact n_vret C dX1_init_45 ⟨_, _, _, _, _, _, rfl⟩ (by decide) (by decide) Rr
set_option maxHeartbeats 1000000 in
set_option maxRecDepth 100000 in
theorem k_X11_init (l : Launch) (g : Gd) (w0 : va_W) (a : Nat)  : Cn l yX11_init cX11_init 1 (rmc 1 7 22663 20) g w0 (a, .inr (10, [.int (nI 0), .int (nI 0), .null, .null, .null, .int (nI 0), .null, .int (nI 0), .null, .long (lN 0), .long (lN 0), .null, .int (nI 0), .null, .long (lN 0)])) [.ref a] (fun c => ∃ q1 q2 q3 q4 q5 q6 q7, c = [(a, .inr (10, [.int (nI 0), .int (nI 6), .ref q1, .ref q2, .ref q3, .int (nI 0), .ref q4, .int (nI 0), .ref q5, .long (lN 0), .long (lN 0), .ref q6, .int (nI 0), .ref q7, .long (lN 0)])), (q1, iR g 3 4096 (fun _ => nI 0)), (q2, iR g 3 16384 (fun _ => nI 0)), (q3, iR g 1 4 (fun _ => nI 0)), (q4, iR g 0 120 (fun _ => nI 0)), (q5, iR g 3 1024 (fun _ => nI 0)), (q6, iR g 1 1024 (fun _ => nI 0)), (q7, iR g 1 11 (fun _ => nI 0))]) := by
  refine Cn.of (by decide) rfl (Nat.le_of_ble_eq_true rfl) (fun z A C X Rr => ?_)
  refine r_aload_n C dX11_init_0 0 rfl ?_
  refine n_obj C hw_5_17 hw_1_30 hw_1_31 dX11_init_1 ⟨by decide, by decide⟩ (Nat.le_of_ble_eq_true rfl) ?_
  refine r_aload_n C dX11_init_4 0 rfl ?_
  refine r_bipush C (v := (nI 6)) dX11_init_5 (by decide) ?_
  refine n_put C X 0 (c' := [(a, .inr (10, [.int (nI 0), .int (nI 6), .null, .null, .null, .int (nI 0), .null, .int (nI 0), .null, .long (lN 0), .long (lN 0), .null, .int (nI 0), .null, .long (lN 0)]))]) (n := 1) (T := TX11) (N := 15) (R := RX11) rfl rfl inw11 tyX11_ok nmX11 (by decide) rfl hw_5_19 rfl (tyX11_ok 1 (by decide)) rfl rfl (Nat.le_of_ble_eq_true rfl) dX11_init_7 rfl ?_
  refine r_aload_n C dX11_init_10 0 rfl ?_
  refine r_sipush C (v := (nI 4096)) dX11_init_11 (by decide) ?_
  refine n_newa C X (atype := .boolean) (ty := .boolean) (t := 3) (x := (4096, .inl (fun _ => nI 0))) hw_5_64 rfl rfl (fun _ => rfl) (by decide) (Nat.le_of_ble_eq_true rfl) (by decide) (by decide) dX11_init_14 (fun q14_1 => ?_)
  refine G_ce (ce' := 1) (sl' := 4096) (show 0 + 1 = 1 from rfl) (show 0 + 4096 = 4096 from rfl) ?_
  refine G_ws (ws' := w0 ++ [(a, .inr (10, [.int (nI 0), .int (nI 6), .null, .null, .null, .int (nI 0), .null, .int (nI 0), .null, .long (lN 0), .long (lN 0), .null, .int (nI 0), .null, .long (lN 0)])), (q14_1, .inl (cy g 3, 4096, .inl (fun _ => nI 0)))]) rfl ?_
  refine n_putF C X 0 (c' := [(a, .inr (10, [.int (nI 0), .int (nI 6), .ref q14_1, .null, .null, .int (nI 0), .null, .int (nI 0), .null, .long (lN 0), .long (lN 0), .null, .int (nI 0), .null, .long (lN 0)])), (q14_1, .inl (cy g 3, 4096, .inl (fun _ => nI 0)))]) (n := 2) (T := TX11) (N := 15) (R := RX11) rfl rfl inw11 tyX11_ok nmX11 (by decide) rfl hw_5_20 rfl rfl Rr.2.2.2 (tyX11_ok 2 (by decide)) rfl rfl (Nat.le_of_ble_eq_true rfl) dX11_init_16 rfl ?_
  refine r_aload_n C dX11_init_19 0 rfl ?_
  refine r_sipush C (v := (nI 16384)) dX11_init_20 (by decide) ?_
  refine n_newa C X (atype := .boolean) (ty := .boolean) (t := 3) (x := (16384, .inl (fun _ => nI 0))) hw_5_64 rfl rfl (fun _ => rfl) (by decide) (Nat.le_of_ble_eq_true rfl) (by decide) (by decide) dX11_init_23 (fun q23_2 => ?_)
  refine G_ce (ce' := 2) (sl' := 20480) (show 1 + 1 = 2 from rfl) (show 4096 + 16384 = 20480 from rfl) ?_
  refine G_ws (ws' := w0 ++ [(a, .inr (10, [.int (nI 0), .int (nI 6), .ref q14_1, .null, .null, .int (nI 0), .null, .int (nI 0), .null, .long (lN 0), .long (lN 0), .null, .int (nI 0), .null, .long (lN 0)])), (q14_1, .inl (cy g 3, 4096, .inl (fun _ => nI 0))), (q23_2, .inl (cy g 3, 16384, .inl (fun _ => nI 0)))]) rfl ?_
  refine n_putF C X 0 (c' := [(a, .inr (10, [.int (nI 0), .int (nI 6), .ref q14_1, .ref q23_2, .null, .int (nI 0), .null, .int (nI 0), .null, .long (lN 0), .long (lN 0), .null, .int (nI 0), .null, .long (lN 0)])), (q14_1, .inl (cy g 3, 4096, .inl (fun _ => nI 0))), (q23_2, .inl (cy g 3, 16384, .inl (fun _ => nI 0)))]) (n := 3) (T := TX11) (N := 15) (R := RX11) rfl rfl inw11 tyX11_ok nmX11 (by decide) rfl hw_5_21 rfl rfl Rr.2.2.2 (tyX11_ok 3 (by decide)) rfl rfl (Nat.le_of_ble_eq_true rfl) dX11_init_25 rfl ?_
  refine r_aload_n C dX11_init_28 0 rfl ?_
  refine r_iconst C (v := (nI 4)) dX11_init_29 rfl ?_
  refine n_newa C X (atype := .int) (ty := .int) (t := 1) (x := (4, .inl (fun _ => nI 0))) hw_1_92 rfl rfl (fun _ => rfl) (by decide) (Nat.le_of_ble_eq_true rfl) (by decide) (by decide) dX11_init_30 (fun q30_3 => ?_)
  refine G_ce (ce' := 3) (sl' := 20484) (show 2 + 1 = 3 from rfl) (show 20480 + 4 = 20484 from rfl) ?_
  refine G_ws (ws' := w0 ++ [(a, .inr (10, [.int (nI 0), .int (nI 6), .ref q14_1, .ref q23_2, .null, .int (nI 0), .null, .int (nI 0), .null, .long (lN 0), .long (lN 0), .null, .int (nI 0), .null, .long (lN 0)])), (q14_1, .inl (cy g 3, 4096, .inl (fun _ => nI 0))), (q23_2, .inl (cy g 3, 16384, .inl (fun _ => nI 0))), (q30_3, .inl (cy g 1, 4, .inl (fun _ => nI 0)))]) rfl ?_
  refine n_putF C X 0 (c' := [(a, .inr (10, [.int (nI 0), .int (nI 6), .ref q14_1, .ref q23_2, .ref q30_3, .int (nI 0), .null, .int (nI 0), .null, .long (lN 0), .long (lN 0), .null, .int (nI 0), .null, .long (lN 0)])), (q14_1, .inl (cy g 3, 4096, .inl (fun _ => nI 0))), (q23_2, .inl (cy g 3, 16384, .inl (fun _ => nI 0))), (q30_3, .inl (cy g 1, 4, .inl (fun _ => nI 0)))]) (n := 4) (T := TX11) (N := 15) (R := RX11) rfl rfl inw11 tyX11_ok nmX11 (by decide) rfl hw_5_22 rfl rfl Rr.2.2.2 (tyX11_ok 4 (by decide)) rfl rfl (Nat.le_of_ble_eq_true rfl) dX11_init_32 rfl ?_
  refine r_aload_n C dX11_init_35 0 rfl ?_
  refine r_bipush C (v := (nI 120)) dX11_init_36 (by decide) ?_
  refine n_newa C X (atype := .byte) (ty := .byte) (t := 0) (x := (120, .inl (fun _ => nI 0))) hw_1_107 rfl rfl (fun _ => rfl) (by decide) (Nat.le_of_ble_eq_true rfl) (by decide) (by decide) dX11_init_38 (fun q38_4 => ?_)
  refine G_ce (ce' := 4) (sl' := 20604) (show 3 + 1 = 4 from rfl) (show 20484 + 120 = 20604 from rfl) ?_
  refine G_ws (ws' := w0 ++ [(a, .inr (10, [.int (nI 0), .int (nI 6), .ref q14_1, .ref q23_2, .ref q30_3, .int (nI 0), .null, .int (nI 0), .null, .long (lN 0), .long (lN 0), .null, .int (nI 0), .null, .long (lN 0)])), (q14_1, .inl (cy g 3, 4096, .inl (fun _ => nI 0))), (q23_2, .inl (cy g 3, 16384, .inl (fun _ => nI 0))), (q30_3, .inl (cy g 1, 4, .inl (fun _ => nI 0))), (q38_4, .inl (cy g 0, 120, .inl (fun _ => nI 0)))]) rfl ?_
  refine n_putF C X 0 (c' := [(a, .inr (10, [.int (nI 0), .int (nI 6), .ref q14_1, .ref q23_2, .ref q30_3, .int (nI 0), .ref q38_4, .int (nI 0), .null, .long (lN 0), .long (lN 0), .null, .int (nI 0), .null, .long (lN 0)])), (q14_1, .inl (cy g 3, 4096, .inl (fun _ => nI 0))), (q23_2, .inl (cy g 3, 16384, .inl (fun _ => nI 0))), (q30_3, .inl (cy g 1, 4, .inl (fun _ => nI 0))), (q38_4, .inl (cy g 0, 120, .inl (fun _ => nI 0)))]) (n := 6) (T := TX11) (N := 15) (R := RX11) rfl rfl inw11 tyX11_ok nmX11 (by decide) rfl hw_5_24 rfl rfl Rr.2.2.2 (tyX11_ok 6 (by decide)) rfl rfl (Nat.le_of_ble_eq_true rfl) dX11_init_40 rfl ?_
  refine r_aload_n C dX11_init_43 0 rfl ?_
  refine r_sipush C (v := (nI 1024)) dX11_init_44 (by decide) ?_
  refine n_newa C X (atype := .boolean) (ty := .boolean) (t := 3) (x := (1024, .inl (fun _ => nI 0))) hw_5_64 rfl rfl (fun _ => rfl) (by decide) (Nat.le_of_ble_eq_true rfl) (by decide) (by decide) dX11_init_47 (fun q47_5 => ?_)
  refine G_ce (ce' := 5) (sl' := 21628) (show 4 + 1 = 5 from rfl) (show 20604 + 1024 = 21628 from rfl) ?_
  refine G_ws (ws' := w0 ++ [(a, .inr (10, [.int (nI 0), .int (nI 6), .ref q14_1, .ref q23_2, .ref q30_3, .int (nI 0), .ref q38_4, .int (nI 0), .null, .long (lN 0), .long (lN 0), .null, .int (nI 0), .null, .long (lN 0)])), (q14_1, .inl (cy g 3, 4096, .inl (fun _ => nI 0))), (q23_2, .inl (cy g 3, 16384, .inl (fun _ => nI 0))), (q30_3, .inl (cy g 1, 4, .inl (fun _ => nI 0))), (q38_4, .inl (cy g 0, 120, .inl (fun _ => nI 0))), (q47_5, .inl (cy g 3, 1024, .inl (fun _ => nI 0)))]) rfl ?_
  refine n_putF C X 0 (c' := [(a, .inr (10, [.int (nI 0), .int (nI 6), .ref q14_1, .ref q23_2, .ref q30_3, .int (nI 0), .ref q38_4, .int (nI 0), .ref q47_5, .long (lN 0), .long (lN 0), .null, .int (nI 0), .null, .long (lN 0)])), (q14_1, .inl (cy g 3, 4096, .inl (fun _ => nI 0))), (q23_2, .inl (cy g 3, 16384, .inl (fun _ => nI 0))), (q30_3, .inl (cy g 1, 4, .inl (fun _ => nI 0))), (q38_4, .inl (cy g 0, 120, .inl (fun _ => nI 0))), (q47_5, .inl (cy g 3, 1024, .inl (fun _ => nI 0)))]) (n := 8) (T := TX11) (N := 15) (R := RX11) rfl rfl inw11 tyX11_ok nmX11 (by decide) rfl hw_5_26 rfl rfl Rr.2.2.2 (tyX11_ok 8 (by decide)) rfl rfl (Nat.le_of_ble_eq_true rfl) dX11_init_49 rfl ?_
  refine r_aload_n C dX11_init_52 0 rfl ?_
  refine r_sipush C (v := (nI 1024)) dX11_init_53 (by decide) ?_
  refine n_newa C X (atype := .int) (ty := .int) (t := 1) (x := (1024, .inl (fun _ => nI 0))) hw_1_92 rfl rfl (fun _ => rfl) (by decide) (Nat.le_of_ble_eq_true rfl) (by decide) (by decide) dX11_init_56 (fun q56_6 => ?_)
  refine G_ce (ce' := 6) (sl' := 22652) (show 5 + 1 = 6 from rfl) (show 21628 + 1024 = 22652 from rfl) ?_
  refine G_ws (ws' := w0 ++ [(a, .inr (10, [.int (nI 0), .int (nI 6), .ref q14_1, .ref q23_2, .ref q30_3, .int (nI 0), .ref q38_4, .int (nI 0), .ref q47_5, .long (lN 0), .long (lN 0), .null, .int (nI 0), .null, .long (lN 0)])), (q14_1, .inl (cy g 3, 4096, .inl (fun _ => nI 0))), (q23_2, .inl (cy g 3, 16384, .inl (fun _ => nI 0))), (q30_3, .inl (cy g 1, 4, .inl (fun _ => nI 0))), (q38_4, .inl (cy g 0, 120, .inl (fun _ => nI 0))), (q47_5, .inl (cy g 3, 1024, .inl (fun _ => nI 0))), (q56_6, .inl (cy g 1, 1024, .inl (fun _ => nI 0)))]) rfl ?_
  refine n_putF C X 0 (c' := [(a, .inr (10, [.int (nI 0), .int (nI 6), .ref q14_1, .ref q23_2, .ref q30_3, .int (nI 0), .ref q38_4, .int (nI 0), .ref q47_5, .long (lN 0), .long (lN 0), .ref q56_6, .int (nI 0), .null, .long (lN 0)])), (q14_1, .inl (cy g 3, 4096, .inl (fun _ => nI 0))), (q23_2, .inl (cy g 3, 16384, .inl (fun _ => nI 0))), (q30_3, .inl (cy g 1, 4, .inl (fun _ => nI 0))), (q38_4, .inl (cy g 0, 120, .inl (fun _ => nI 0))), (q47_5, .inl (cy g 3, 1024, .inl (fun _ => nI 0))), (q56_6, .inl (cy g 1, 1024, .inl (fun _ => nI 0)))]) (n := 11) (T := TX11) (N := 15) (R := RX11) rfl rfl inw11 tyX11_ok nmX11 (by decide) rfl hw_5_29 rfl rfl Rr.2.2.2 (tyX11_ok 11 (by decide)) rfl rfl (Nat.le_of_ble_eq_true rfl) dX11_init_58 rfl ?_
  refine r_aload_n C dX11_init_61 0 rfl ?_
  refine r_bipush C (v := (nI 11)) dX11_init_62 (by decide) ?_
  refine n_newa C X (atype := .int) (ty := .int) (t := 1) (x := (11, .inl (fun _ => nI 0))) hw_1_92 rfl rfl (fun _ => rfl) (by decide) (Nat.le_of_ble_eq_true rfl) (by decide) (by decide) dX11_init_64 (fun q64_7 => ?_)
  refine G_ce (ce' := 7) (sl' := 22663) (show 6 + 1 = 7 from rfl) (show 22652 + 11 = 22663 from rfl) ?_
  refine G_ws (ws' := w0 ++ [(a, .inr (10, [.int (nI 0), .int (nI 6), .ref q14_1, .ref q23_2, .ref q30_3, .int (nI 0), .ref q38_4, .int (nI 0), .ref q47_5, .long (lN 0), .long (lN 0), .ref q56_6, .int (nI 0), .null, .long (lN 0)])), (q14_1, .inl (cy g 3, 4096, .inl (fun _ => nI 0))), (q23_2, .inl (cy g 3, 16384, .inl (fun _ => nI 0))), (q30_3, .inl (cy g 1, 4, .inl (fun _ => nI 0))), (q38_4, .inl (cy g 0, 120, .inl (fun _ => nI 0))), (q47_5, .inl (cy g 3, 1024, .inl (fun _ => nI 0))), (q56_6, .inl (cy g 1, 1024, .inl (fun _ => nI 0))), (q64_7, .inl (cy g 1, 11, .inl (fun _ => nI 0)))]) rfl ?_
  refine n_putF C X 0 (c' := [(a, .inr (10, [.int (nI 0), .int (nI 6), .ref q14_1, .ref q23_2, .ref q30_3, .int (nI 0), .ref q38_4, .int (nI 0), .ref q47_5, .long (lN 0), .long (lN 0), .ref q56_6, .int (nI 0), .ref q64_7, .long (lN 0)])), (q14_1, .inl (cy g 3, 4096, .inl (fun _ => nI 0))), (q23_2, .inl (cy g 3, 16384, .inl (fun _ => nI 0))), (q30_3, .inl (cy g 1, 4, .inl (fun _ => nI 0))), (q38_4, .inl (cy g 0, 120, .inl (fun _ => nI 0))), (q47_5, .inl (cy g 3, 1024, .inl (fun _ => nI 0))), (q56_6, .inl (cy g 1, 1024, .inl (fun _ => nI 0))), (q64_7, .inl (cy g 1, 11, .inl (fun _ => nI 0)))]) (n := 13) (T := TX11) (N := 15) (R := RX11) rfl rfl inw11 tyX11_ok nmX11 (by decide) rfl hw_5_31 rfl rfl Rr.2.2.2 (tyX11_ok 13 (by decide)) rfl rfl (Nat.le_of_ble_eq_true rfl) dX11_init_66 rfl ?_
  refine r_aload_n C dX11_init_69 0 rfl ?_
  refine r_iconst C (v := (nI 0)) dX11_init_70 rfl ?_
  refine n_put C X 0 (c' := [(a, .inr (10, [.int (nI 0), .int (nI 6), .ref q14_1, .ref q23_2, .ref q30_3, .int (nI 0), .ref q38_4, .int (nI 0), .ref q47_5, .long (lN 0), .long (lN 0), .ref q56_6, .int (nI 0), .ref q64_7, .long (lN 0)])), (q14_1, .inl (cy g 3, 4096, .inl (fun _ => nI 0))), (q23_2, .inl (cy g 3, 16384, .inl (fun _ => nI 0))), (q30_3, .inl (cy g 1, 4, .inl (fun _ => nI 0))), (q38_4, .inl (cy g 0, 120, .inl (fun _ => nI 0))), (q47_5, .inl (cy g 3, 1024, .inl (fun _ => nI 0))), (q56_6, .inl (cy g 1, 1024, .inl (fun _ => nI 0))), (q64_7, .inl (cy g 1, 11, .inl (fun _ => nI 0)))]) (n := 0) (T := TX11) (N := 15) (R := RX11) rfl rfl inw11 tyX11_ok nmX11 (by decide) rfl hw_5_18 rfl (tyX11_ok 0 (by decide)) rfl rfl (Nat.le_of_ble_eq_true rfl) dX11_init_71 rfl ?_
  exact n_vret C dX11_init_74 ⟨_, _, _, _, _, _, _, rfl⟩ (by decide) (by decide) Rr
