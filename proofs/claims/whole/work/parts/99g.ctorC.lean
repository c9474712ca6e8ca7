def arrF (F : Nat → Nat) (i : Nat) : Nat → Option Nat := fun k => if k < i then some (F k) else none
theorem arrF_0 (F : Nat → Nat) : (fun _ => none) = arrF F 0 := by funext k; simp [arrF]
theorem arrF_s (F : Nat → Nat) (i q : Nat) : va_up (arrF F i) i (some q) = arrF (va_up F i q) (i + 1) := by
  funext k
  unfold va_up arrF
  by_cases h : k = i
  · subst h; simp
  · by_cases h2 : k < i
    · rw [if_neg h, if_pos h2, if_pos (by omega)]; show some (F k) = some (if k = i then q else F k); rw [if_neg h]
    · rw [if_neg h, if_neg h2, if_neg (by omega)]
def fl (g : Gd) (gr : Nat) (F W : Nat → Nat) : Nat → va_W
  | 0 => []
  | i + 1 => fl g gr F W i ++ [(F i, .inr (2, [.ref gr, .ref (W i)])), (W i, jR g 16 (fun _ => lN 0))]
theorem fl_c (g : Gd) (gr : Nat) {F W F' W' : Nat → Nat} : ∀ i, (∀ k, k < i → F' k = F k) → (∀ k, k < i → W' k = W k) → fl g gr F' W' i = fl g gr F W i
  | 0, _, _ => rfl
  | i + 1, h1, h2 => by
    show fl g gr F' W' i ++ _ = fl g gr F W i ++ _
    rw [fl_c g gr i (fun k h => h1 k (by omega)) (fun k h => h2 k (by omega)), h1 i (by omega), h2 i (by omega)]
theorem fl_s (g : Gd) (gr : Nat) (F W : Nat → Nat) (i q w : Nat) : fl g gr F W i ++ [(q, .inr (2, [.ref gr, .ref w])), (w, jR g 16 (fun _ => lN 0))] = fl g gr (va_up F i q) (va_up W i w) (i + 1) := by
  show _ = fl g gr (va_up F i q) (va_up W i w) i ++ [((va_up F i q) i, _), ((va_up W i w) i, _)]
  rw [fl_c g gr i (fun k h => up_n F q (by omega)) (fun k h => up_n W w (by omega)), up_s, up_s]
theorem ap3 (u v : va_W) (x y : Nat × va_E) : (u ++ (v ++ [x, y]))[u.length + v.length]? = some x := by
  rw [ap_get, ← Nat.add_zero v.length, ap_get]; rfl
set_option maxHeartbeats 1000000 in
set_option maxRecDepth 100000 in
theorem kl_X5_init {z : Zt} {A : Nat → Prop} {l : Launch} {g : Gd} {w0 : va_W} (C : Cx z A l (rmc 2 34 308 41) cX5_init 3 "SetFamilies$History") (X : Kn z g) {a gr : Nat} {q6_1 q14_2 : Nat} (KK : ∀ F W : Nat → Nat, G z g.1 A 3 (w0 ++ ((a, .inr (4, [.int (nI 0), .int (nI 0), .ref q6_1, .ref q14_2])) :: (q6_1, .inl (cy g 1, 4, .inl (fun _ => nI 0))) :: (q14_2, .inl (cy g 4, 16, .inr (.inr (.inr (.inr (arrF F 16)))))) :: fl g gr F W 16)) (2 + 2 * 16) (20 + 18 * 16) 51 [(2, .int (nI 16)), (0, .ref a), (1, .ref gr)] []) : ∀ (n_ i : Nat) (F W : Nat → Nat), 16 - i < n_ → i ≤ 16 → G z g.1 A 3 (w0 ++ ((a, .inr (4, [.int (nI 0), .int (nI 0), .ref q6_1, .ref q14_2])) :: (q6_1, .inl (cy g 1, 4, .inl (fun _ => nI 0))) :: (q14_2, .inl (cy g 4, 16, .inr (.inr (.inr (.inr (arrF F i)))))) :: fl g gr F W i)) (2 + 2 * i) (20 + 18 * i) 22 [(2, .int (nI i)), (0, .ref a), (1, .ref gr)] [] := by
  intro n_
  induction n_ with
  | zero => intro i F W hm_; exact absurd hm_ (Nat.not_lt_zero _)
  | succ n_ ih =>
    intro i F W hm_ hi
    refine r_iload_n C dX5_init_22 0 rfl ?_
    refine r_aload_n C dX5_init_23 1 rfl ?_
    refine n_getf C X 0 (n := 3) (T := TX5) (N := 4) (R := RX5) rfl rfl inw5 (by decide) rfl hw_1_82 rfl dX5_init_24 ?_
    refine n_alen C X 2 4 rfl rfl rfl dX5_init_27 ?_
    refine r_icmp_ge C 51 dX5_init_28 (by decide) (nI_leI (by omega) (by omega)) (fun h_ => ?_) (fun h_ => ?_)
    · have hi_ : i = 16 := by omega
      subst hi_
      exact KK F W
    refine r_aload_n C dX5_init_31 1 rfl ?_
    refine n_getf C X 0 (n := 3) (T := TX5) (N := 4) (R := RX5) rfl rfl inw5 (by decide) rfl hw_1_82 rfl dX5_init_32 ?_
    refine r_iload_n C dX5_init_35 0 rfl ?_
    refine n_new C X (R := RX3) (T := TX3) (N := 2) (ci := 2) (fs := [.null, .null]) inw3 tyX3_ok hw_1_76 hw_1_57 hw_1_3 rfl (fun j hj => by rcases (show j = 0 ∨ j = 1 by omega) with rfl | rfl <;> rfl) (show _ ≤ 34 from by omega) (show _ ≤ 308 from by omega) dX5_init_36 (fun q36_1 => ?_)
    refine G_ws (ws' := w0 ++ ((a, .inr (4, [.int (nI 0), .int (nI 0), .ref q6_1, .ref q14_2])) :: (q6_1, .inl (cy g 1, 4, .inl (fun _ => nI 0))) :: (q14_2, .inl (cy g 4, 16, .inr (.inr (.inr (.inr (arrF F i)))))) :: (fl g gr F W i ++ [(q36_1, .inr (2, [.null, .null]))]))) rfl ?_
    refine r_dup C dX5_init_39 rfl ?_
    refine r_aload_n C dX5_init_40 2 rfl ?_
    refine n_callI C X (c := ((a, .inr (4, [.int (nI 0), .int (nI 0), .ref q6_1, .ref q14_2])) :: (q6_1, .inl (cy g 1, 4, .inl (fun _ => nI 0))) :: (q14_2, .inl (cy g 4, 16, .inr (.inr (.inr (.inr (arrF F i)))))) :: fl g gr F W i)) (As := [.ref gr]) (rest := [.ref q36_1, .int (nI i), .ref q14_2]) miX3_init rfl hw_1_59 (k_X3_init l g (w0 ++ ((a, .inr (4, [.int (nI 0), .int (nI 0), .ref q6_1, .ref q14_2])) :: (q6_1, .inl (cy g 1, 4, .inl (fun _ => nI 0))) :: (q14_2, .inl (cy g 4, 16, .inr (.inr (.inr (.inr (arrF F i)))))) :: fl g gr F W i)) q36_1 gr) hw_1_77 rfl ⟨by decide, by decide, (show 2 + 2 * i + 1 + 1 ≤ 34 from by omega), (show 20 + 18 * i + 2 + 16 ≤ 308 from by omega)⟩ rfl (Nat.le_of_ble_eq_true rfl) dX5_init_41 (fun c_ hp_ => ?_)
    obtain ⟨q41_2, rfl⟩ := hp_
    refine G_ws (ws' := w0 ++ ((a, .inr (4, [.int (nI 0), .int (nI 0), .ref q6_1, .ref q14_2])) :: (q6_1, .inl (cy g 1, 4, .inl (fun _ => nI 0))) :: (q14_2, .inl (cy g 4, 16, .inr (.inr (.inr (.inr (arrF F i)))))) :: (fl g gr F W i ++ [(q36_1, .inr (2, [.ref gr, .ref q41_2])), (q41_2, .inl (cy g 2, 16, .inr (.inl (fun _ => lN 0))))]))) rfl ?_
    refine n_astq C X 2 (3 + (fl g gr F W i).length) (c' := ((a, .inr (4, [.int (nI 0), .int (nI 0), .ref q6_1, .ref q14_2])) :: (q6_1, .inl (cy g 1, 4, .inl (fun _ => nI 0))) :: (q14_2, .inl (cy g 4, 16, .inr (.inr (.inr (.inr (va_up (arrF F i) i (some q36_1))))))) :: (fl g gr F W i ++ [(q36_1, .inr (2, [.ref gr, .ref q41_2])), (q41_2, .inl (cy g 2, 16, .inr (.inl (fun _ => lN 0))))]))) rfl (ap3 [(a, .inr (4, [.int (nI 0), .int (nI 0), .ref q6_1, .ref q14_2])), (q6_1, .inl (cy g 1, 4, .inl (fun _ => nI 0))), (q14_2, .inl (cy g 4, 16, .inr (.inr (.inr (.inr (arrF F i))))))] (fl g gr F W i) _ _) rfl (by omega) (by decide) dX5_init_44 rfl ?_
    refine G_ws (ws' := w0 ++ ((a, .inr (4, [.int (nI 0), .int (nI 0), .ref q6_1, .ref q14_2])) :: (q6_1, .inl (cy g 1, 4, .inl (fun _ => nI 0))) :: (q14_2, .inl (cy g 4, 16, .inr (.inr (.inr (.inr (arrF (va_up F i q36_1) (i + 1))))))) :: fl g gr (va_up F i q36_1) (va_up W i q41_2) (i + 1))) (by rw [← arrF_s, ← fl_s]) ?_
    refine r_iinc C (v := (nI (i + 1))) (lv' := [(2, .int (nI (i + 1))), (0, .ref a), (1, .ref gr)]) 2 0 dX5_init_45 rfl (inc_N _ 1) (by decide) rfl ?_
    refine r_goto C 22 dX5_init_48 (by decide) ?_
    refine G_sub (lv' := [(2, .int (nI (i + 1))), (0, .ref a), (1, .ref gr)]) [0, 1, 2] rfl ?_
    exact G_ce (by show 2 + 2 * i + 1 + 1 = 2 + 2 * (i + 1); omega) (by show 20 + 18 * i + 2 + 16 = 20 + 18 * (i + 1); omega) (ih (i + 1) (va_up F i q36_1) (va_up W i q41_2) (by omega) (by omega))
set_option maxHeartbeats 1000000 in
set_option maxRecDepth 100000 in
theorem k_X5_init (l : Launch) (g : Gd) (w0 : va_W) (a : Nat) (gr : Nat) : Cn l yX5_init cX5_init 3 (rmc 2 34 308 41) g w0 (a, .inr (4, [.int (nI 0), .int (nI 0), .null, .null])) [.ref a, .ref gr] (fun c => ∃ e sv F W, c = (a, .inr (4, [.int (nI 0), .int (nI 0), .ref e, .ref sv])) :: (e, iR g 1 4 (fun _ => nI 0)) :: (sv, .inl (cy g 4, 16, .inr (.inr (.inr (.inr (arrF F 16)))))) :: fl g gr F W 16) := by
  refine Cn.of (by decide) rfl (Nat.le_of_ble_eq_true rfl) (fun z A C X Rr => ?_)
  refine r_aload_n C dX5_init_0 0 rfl ?_
  refine n_obj C hw_1_75 hw_1_30 hw_1_31 dX5_init_1 ⟨by decide, by decide⟩ (Nat.le_of_ble_eq_true rfl) ?_
  refine r_aload_n C dX5_init_4 0 rfl ?_
  refine r_iconst C (v := (nI 4)) dX5_init_5 rfl ?_
  refine n_newa C X (atype := .int) (ty := .int) (t := 1) (x := (4, .inl (fun _ => nI 0))) hw_1_92 rfl rfl (fun _ => rfl) (by decide) (Nat.le_of_ble_eq_true rfl) (by decide) (by decide) dX5_init_6 (fun q6_1 => ?_)
  refine G_ce (ce' := 1) (sl' := 4) (show 0 + 1 = 1 from rfl) (show 0 + 4 = 4 from rfl) ?_
  refine G_ws (ws' := w0 ++ [(a, .inr (4, [.int (nI 0), .int (nI 0), .null, .null])), (q6_1, .inl (cy g 1, 4, .inl (fun _ => nI 0)))]) rfl ?_
  refine n_putF C X 0 (c' := [(a, .inr (4, [.int (nI 0), .int (nI 0), .ref q6_1, .null])), (q6_1, .inl (cy g 1, 4, .inl (fun _ => nI 0)))]) (n := 2) (T := TX5) (N := 4) (R := RX5) rfl rfl inw5 tyX5_ok nmX5 (by decide) rfl hw_1_81 rfl rfl Rr.2.2.2 (tyX5_ok 2 (by decide)) rfl rfl (Nat.le_of_ble_eq_true rfl) dX5_init_8 rfl ?_
  refine r_aload_n C dX5_init_11 0 rfl ?_
  refine r_bipush C (v := (nI 16)) dX5_init_12 (by decide) ?_
  refine n_newq C X hw_1_76 (by decide) (by decide) (by decide) dX5_init_14 (fun q14_2 => ?_)
  refine G_ce (ce' := 2) (sl' := 20) (show 1 + 1 = 2 from rfl) (show 4 + 16 = 20 from rfl) ?_
  refine G_ws (ws' := w0 ++ [(a, .inr (4, [.int (nI 0), .int (nI 0), .ref q6_1, .null])), (q6_1, .inl (cy g 1, 4, .inl (fun _ => nI 0))), (q14_2, .inl (cy g 4, 16, .inr (.inr (.inr (.inr (fun _ => none))))))]) rfl ?_
  refine n_putF C X 0 (c' := [(a, .inr (4, [.int (nI 0), .int (nI 0), .ref q6_1, .ref q14_2])), (q6_1, .inl (cy g 1, 4, .inl (fun _ => nI 0))), (q14_2, .inl (cy g 4, 16, .inr (.inr (.inr (.inr (fun _ => none))))))]) (n := 3) (T := TX5) (N := 4) (R := RX5) rfl rfl inw5 tyX5_ok nmX5 (by decide) rfl hw_1_82 rfl rfl Rr.2.2.2 (tyX5_ok 3 (by decide)) rfl rfl (Nat.le_of_ble_eq_true rfl) dX5_init_17 rfl ?_
  refine r_iconst C (v := (nI 0)) dX5_init_20 rfl ?_
  refine r_istore_n C (lv' := [(2, .int (nI 0)), (0, .ref a), (1, .ref gr)]) 2 dX5_init_21 rfl (by decide) rfl ?_
  refine G_ws (ws' := w0 ++ ((a, .inr (4, [.int (nI 0), .int (nI 0), .ref q6_1, .ref q14_2])) :: (q6_1, .inl (cy g 1, 4, .inl (fun _ => nI 0))) :: (q14_2, .inl (cy g 4, 16, .inr (.inr (.inr (.inr (arrF (fun _ => 0) 0)))))) :: fl g gr (fun _ => 0) (fun _ => 0) 0)) (by rw [← arrF_0]; rfl) ?_
  refine G_sub (lv' := [(2, .int (nI 0)), (0, .ref a), (1, .ref gr)]) [0, 1, 2] rfl ?_
  refine kl_X5_init C X (fun F W => ?_) 17 0 (fun _ => 0) (fun _ => 0) (by decide) (by decide)
  generalize hfl : fl g gr F W 16 = Tf
  refine G_ce (ce' := 34) (sl' := 308) (show 2 + 2 * 16 = 34 from rfl) (show 20 + 18 * 16 = 308 from rfl) ?_
  exact n_vret C dX5_init_51 ⟨q6_1, q14_2, F, W, by rw [hfl]⟩ (by decide) (by decide) Rr
set_option maxHeartbeats 1000000 in
set_option maxRecDepth 100000 in
theorem kl_X7_init {z : Zt} {A : Nat → Prop} {l : Launch} {g : Gd} {w0 : va_W} (C : Cx z A l (rmc 2 23 209 41) cX7_init 3 "SetFamilies$Shattering") (X : Kn z g) {a gr : Nat} {q12_1 : Nat} (KK : ∀ F W : Nat → Nat, G z g.1 A 3 (w0 ++ ((a, .inr (6, [.ref gr, .ref q12_1])) :: (q12_1, .inl (cy g 4, 11, .inr (.inr (.inr (.inr (arrF F 11)))))) :: fl g gr F W 11)) (1 + 2 * 11) (11 + 18 * 11) 49 [(2, .int (nI 11)), (0, .ref a), (1, .ref gr)] []) : ∀ (n_ i : Nat) (F W : Nat → Nat), 11 - i < n_ → i ≤ 11 → G z g.1 A 3 (w0 ++ ((a, .inr (6, [.ref gr, .ref q12_1])) :: (q12_1, .inl (cy g 4, 11, .inr (.inr (.inr (.inr (arrF F i)))))) :: fl g gr F W i)) (1 + 2 * i) (11 + 18 * i) 20 [(2, .int (nI i)), (0, .ref a), (1, .ref gr)] [] := by
  intro n_
  induction n_ with
  | zero => intro i F W hm_; exact absurd hm_ (Nat.not_lt_zero _)
  | succ n_ ih =>
    intro i F W hm_ hi
    refine r_iload_n C dX7_init_20 0 rfl ?_
    refine r_aload_n C dX7_init_21 1 rfl ?_
    refine n_getf C X 0 (n := 1) (T := TX7) (N := 2) (R := RX7) rfl rfl inw7 (by decide) rfl hw_1_159 rfl dX7_init_22 ?_
    refine n_alen C X 1 4 rfl rfl rfl dX7_init_25 ?_
    refine r_icmp_ge C 49 dX7_init_26 (by decide) (nI_leI (by omega) (by omega)) (fun h_ => ?_) (fun h_ => ?_)
    · have hi_ : i = 11 := by omega
      subst hi_
      exact KK F W
    refine r_aload_n C dX7_init_29 1 rfl ?_
    refine n_getf C X 0 (n := 1) (T := TX7) (N := 2) (R := RX7) rfl rfl inw7 (by decide) rfl hw_1_159 rfl dX7_init_30 ?_
    refine r_iload_n C dX7_init_33 0 rfl ?_
    refine n_new C X (R := RX3) (T := TX3) (N := 2) (ci := 2) (fs := [.null, .null]) inw3 tyX3_ok hw_1_156 hw_1_57 hw_1_3 rfl (fun j hj => by rcases (show j = 0 ∨ j = 1 by omega) with rfl | rfl <;> rfl) (show _ ≤ 23 from by omega) (show _ ≤ 209 from by omega) dX7_init_34 (fun q34_1 => ?_)
    refine G_ws (ws' := w0 ++ ((a, .inr (6, [.ref gr, .ref q12_1])) :: (q12_1, .inl (cy g 4, 11, .inr (.inr (.inr (.inr (arrF F i)))))) :: (fl g gr F W i ++ [(q34_1, .inr (2, [.null, .null]))]))) rfl ?_
    refine r_dup C dX7_init_37 rfl ?_
    refine r_aload_n C dX7_init_38 2 rfl ?_
    refine n_callI C X (c := ((a, .inr (6, [.ref gr, .ref q12_1])) :: (q12_1, .inl (cy g 4, 11, .inr (.inr (.inr (.inr (arrF F i)))))) :: fl g gr F W i)) (As := [.ref gr]) (rest := [.ref q34_1, .int (nI i), .ref q12_1]) miX3_init rfl hw_1_59 (k_X3_init l g (w0 ++ ((a, .inr (6, [.ref gr, .ref q12_1])) :: (q12_1, .inl (cy g 4, 11, .inr (.inr (.inr (.inr (arrF F i)))))) :: fl g gr F W i)) q34_1 gr) hw_1_157 rfl ⟨by decide, by decide, (show 1 + 2 * i + 1 + 1 ≤ 23 from by omega), (show 11 + 18 * i + 2 + 16 ≤ 209 from by omega)⟩ rfl (Nat.le_of_ble_eq_true rfl) dX7_init_39 (fun c_ hp_ => ?_)
    obtain ⟨q39_2, rfl⟩ := hp_
    refine G_ws (ws' := w0 ++ ((a, .inr (6, [.ref gr, .ref q12_1])) :: (q12_1, .inl (cy g 4, 11, .inr (.inr (.inr (.inr (arrF F i)))))) :: (fl g gr F W i ++ [(q34_1, .inr (2, [.ref gr, .ref q39_2])), (q39_2, .inl (cy g 2, 16, .inr (.inl (fun _ => lN 0))))]))) rfl ?_
    refine n_astq C X 1 (2 + (fl g gr F W i).length) (c' := ((a, .inr (6, [.ref gr, .ref q12_1])) :: (q12_1, .inl (cy g 4, 11, .inr (.inr (.inr (.inr (va_up (arrF F i) i (some q34_1))))))) :: (fl g gr F W i ++ [(q34_1, .inr (2, [.ref gr, .ref q39_2])), (q39_2, .inl (cy g 2, 16, .inr (.inl (fun _ => lN 0))))]))) rfl (ap3 [(a, .inr (6, [.ref gr, .ref q12_1])), (q12_1, .inl (cy g 4, 11, .inr (.inr (.inr (.inr (arrF F i))))))] (fl g gr F W i) _ _) rfl (by omega) (by decide) dX7_init_42 rfl ?_
    refine G_ws (ws' := w0 ++ ((a, .inr (6, [.ref gr, .ref q12_1])) :: (q12_1, .inl (cy g 4, 11, .inr (.inr (.inr (.inr (arrF (va_up F i q34_1) (i + 1))))))) :: fl g gr (va_up F i q34_1) (va_up W i q39_2) (i + 1))) (by rw [← arrF_s, ← fl_s]) ?_
    refine r_iinc C (v := (nI (i + 1))) (lv' := [(2, .int (nI (i + 1))), (0, .ref a), (1, .ref gr)]) 2 0 dX7_init_43 rfl (inc_N _ 1) (by decide) rfl ?_
    refine r_goto C 20 dX7_init_46 (by decide) ?_
    refine G_sub (lv' := [(2, .int (nI (i + 1))), (0, .ref a), (1, .ref gr)]) [0, 1, 2] rfl ?_
    exact G_ce (by show 1 + 2 * i + 1 + 1 = 1 + 2 * (i + 1); omega) (by show 11 + 18 * i + 2 + 16 = 11 + 18 * (i + 1); omega) (ih (i + 1) (va_up F i q34_1) (va_up W i q39_2) (by omega) (by omega))
set_option maxHeartbeats 1000000 in
set_option maxRecDepth 100000 in
theorem k_X7_init (l : Launch) (g : Gd) (w0 : va_W) (a : Nat) (gr : Nat) : Cn l yX7_init cX7_init 3 (rmc 2 23 209 41) g w0 (a, .inr (6, [.null, .null])) [.ref a, .ref gr] (fun c => ∃ tr F W, c = (a, .inr (6, [.ref gr, .ref tr])) :: (tr, .inl (cy g 4, 11, .inr (.inr (.inr (.inr (arrF F 11)))))) :: fl g gr F W 11) := by
  refine Cn.of (by decide) rfl (Nat.le_of_ble_eq_true rfl) (fun z A C X Rr => ?_)
  refine r_aload_n C dX7_init_0 0 rfl ?_
  refine n_obj C hw_1_155 hw_1_30 hw_1_31 dX7_init_1 ⟨by decide, by decide⟩ (Nat.le_of_ble_eq_true rfl) ?_
  refine r_aload_n C dX7_init_4 0 rfl ?_
  refine r_aload_n C dX7_init_5 1 rfl ?_
  refine n_putF C X 0 (c' := [(a, .inr (6, [.ref gr, .null]))]) (n := 0) (T := TX7) (N := 2) (R := RX7) rfl rfl inw7 tyX7_ok nmX7 (by decide) rfl hw_1_158 rfl rfl Rr.2.2.2 (tyX7_ok 0 (by decide)) rfl rfl (Nat.le_of_ble_eq_true rfl) dX7_init_6 rfl ?_
  refine r_aload_n C dX7_init_9 0 rfl ?_
  refine r_bipush C (v := (nI 11)) dX7_init_10 (by decide) ?_
  refine n_newq C X hw_1_156 (by decide) (by decide) (by decide) dX7_init_12 (fun q12_1 => ?_)
  refine G_ce (ce' := 1) (sl' := 11) (show 0 + 1 = 1 from rfl) (show 0 + 11 = 11 from rfl) ?_
  refine G_ws (ws' := w0 ++ [(a, .inr (6, [.ref gr, .null])), (q12_1, .inl (cy g 4, 11, .inr (.inr (.inr (.inr (fun _ => none))))))]) rfl ?_
  refine n_putF C X 0 (c' := [(a, .inr (6, [.ref gr, .ref q12_1])), (q12_1, .inl (cy g 4, 11, .inr (.inr (.inr (.inr (fun _ => none))))))]) (n := 1) (T := TX7) (N := 2) (R := RX7) rfl rfl inw7 tyX7_ok nmX7 (by decide) rfl hw_1_159 rfl rfl Rr.2.2.2 (tyX7_ok 1 (by decide)) rfl rfl (Nat.le_of_ble_eq_true rfl) dX7_init_15 rfl ?_
  refine r_iconst C (v := (nI 0)) dX7_init_18 rfl ?_
  refine r_istore_n C (lv' := [(2, .int (nI 0)), (0, .ref a), (1, .ref gr)]) 2 dX7_init_19 rfl (by decide) rfl ?_
  refine G_ws (ws' := w0 ++ ((a, .inr (6, [.ref gr, .ref q12_1])) :: (q12_1, .inl (cy g 4, 11, .inr (.inr (.inr (.inr (arrF (fun _ => 0) 0)))))) :: fl g gr (fun _ => 0) (fun _ => 0) 0)) (by rw [← arrF_0]; rfl) ?_
  refine G_sub (lv' := [(2, .int (nI 0)), (0, .ref a), (1, .ref gr)]) [0, 1, 2] rfl ?_
  refine kl_X7_init C X (fun F W => ?_) 12 0 (fun _ => 0) (fun _ => 0) (by decide) (by decide)
  generalize hfl : fl g gr F W 11 = Tf
  refine G_ce (ce' := 23) (sl' := 209) (show 1 + 2 * 11 = 23 from rfl) (show 11 + 18 * 11 = 209 from rfl) ?_
  exact n_vret C dX7_init_49 ⟨q12_1, F, W, by rw [hfl]⟩ (by decide) (by decide) Rr
set_option maxHeartbeats 1000000 in
set_option maxRecDepth 100000 in
theorem kl_X8_init {z : Zt} {A : Nat → Prop} {l : Launch} {g : Gd} {w0 : va_W} (C : Cx z A l (rmc 2 28 1269 41) cX8_init 4 "SetFamilies$SunflowerSearch") (X : Kn z g) {a gr : Nat} {q17_1 de : Nat} (KK : ∀ F W : Nat → Nat, G z g.1 A 4 (w0 ++ ((a, .inr (7, [.ref gr, .ref de, .ref q17_1, .null, .null, .null])) :: (q17_1, .inl (cy g 4, 11, .inr (.inr (.inr (.inr (arrF F 11)))))) :: fl g gr F W 11)) (1 + 2 * 11) (11 + 18 * 11) 54 [(3, .int (nI 11)), (0, .ref a), (1, .ref gr), (2, .ref de)] []) : ∀ (n_ i : Nat) (F W : Nat → Nat), 11 - i < n_ → i ≤ 11 → G z g.1 A 4 (w0 ++ ((a, .inr (7, [.ref gr, .ref de, .ref q17_1, .null, .null, .null])) :: (q17_1, .inl (cy g 4, 11, .inr (.inr (.inr (.inr (arrF F i)))))) :: fl g gr F W i)) (1 + 2 * i) (11 + 18 * i) 25 [(3, .int (nI i)), (0, .ref a), (1, .ref gr), (2, .ref de)] [] := by
  intro n_
  induction n_ with
  | zero => intro i F W hm_; exact absurd hm_ (Nat.not_lt_zero _)
  | succ n_ ih =>
    intro i F W hm_ hi
    refine r_iload_n C dX8_init_25 0 rfl ?_
    refine r_aload_n C dX8_init_26 1 rfl ?_
    refine n_getf C X 0 (n := 2) (T := TX8) (N := 6) (R := RX8) rfl rfl inw8 (by decide) rfl hw_1_175 rfl dX8_init_27 ?_
    refine n_alen C X 1 4 rfl rfl rfl dX8_init_30 ?_
    refine r_icmp_ge C 54 dX8_init_31 (by decide) (nI_leI (by omega) (by omega)) (fun h_ => ?_) (fun h_ => ?_)
    · have hi_ : i = 11 := by omega
      subst hi_
      exact KK F W
    refine r_aload_n C dX8_init_34 1 rfl ?_
    refine n_getf C X 0 (n := 2) (T := TX8) (N := 6) (R := RX8) rfl rfl inw8 (by decide) rfl hw_1_175 rfl dX8_init_35 ?_
    refine r_iload_n C dX8_init_38 0 rfl ?_
    refine n_new C X (R := RX3) (T := TX3) (N := 2) (ci := 2) (fs := [.null, .null]) inw3 tyX3_ok hw_1_171 hw_1_57 hw_1_3 rfl (fun j hj => by rcases (show j = 0 ∨ j = 1 by omega) with rfl | rfl <;> rfl) (show _ ≤ 28 from by omega) (show _ ≤ 1269 from by omega) dX8_init_39 (fun q39_1 => ?_)
    refine G_ws (ws' := w0 ++ ((a, .inr (7, [.ref gr, .ref de, .ref q17_1, .null, .null, .null])) :: (q17_1, .inl (cy g 4, 11, .inr (.inr (.inr (.inr (arrF F i)))))) :: (fl g gr F W i ++ [(q39_1, .inr (2, [.null, .null]))]))) rfl ?_
    refine r_dup C dX8_init_42 rfl ?_
    refine r_aload_n C dX8_init_43 2 rfl ?_
    refine n_callI C X (c := ((a, .inr (7, [.ref gr, .ref de, .ref q17_1, .null, .null, .null])) :: (q17_1, .inl (cy g 4, 11, .inr (.inr (.inr (.inr (arrF F i)))))) :: fl g gr F W i)) (As := [.ref gr]) (rest := [.ref q39_1, .int (nI i), .ref q17_1]) miX3_init rfl hw_1_59 (k_X3_init l g (w0 ++ ((a, .inr (7, [.ref gr, .ref de, .ref q17_1, .null, .null, .null])) :: (q17_1, .inl (cy g 4, 11, .inr (.inr (.inr (.inr (arrF F i)))))) :: fl g gr F W i)) q39_1 gr) hw_1_172 rfl ⟨by decide, by decide, (show 1 + 2 * i + 1 + 1 ≤ 28 from by omega), (show 11 + 18 * i + 2 + 16 ≤ 1269 from by omega)⟩ rfl (Nat.le_of_ble_eq_true rfl) dX8_init_44 (fun c_ hp_ => ?_)
    obtain ⟨q44_2, rfl⟩ := hp_
    refine G_ws (ws' := w0 ++ ((a, .inr (7, [.ref gr, .ref de, .ref q17_1, .null, .null, .null])) :: (q17_1, .inl (cy g 4, 11, .inr (.inr (.inr (.inr (arrF F i)))))) :: (fl g gr F W i ++ [(q39_1, .inr (2, [.ref gr, .ref q44_2])), (q44_2, .inl (cy g 2, 16, .inr (.inl (fun _ => lN 0))))]))) rfl ?_
    refine n_astq C X 1 (2 + (fl g gr F W i).length) (c' := ((a, .inr (7, [.ref gr, .ref de, .ref q17_1, .null, .null, .null])) :: (q17_1, .inl (cy g 4, 11, .inr (.inr (.inr (.inr (va_up (arrF F i) i (some q39_1))))))) :: (fl g gr F W i ++ [(q39_1, .inr (2, [.ref gr, .ref q44_2])), (q44_2, .inl (cy g 2, 16, .inr (.inl (fun _ => lN 0))))]))) rfl (ap3 [(a, .inr (7, [.ref gr, .ref de, .ref q17_1, .null, .null, .null])), (q17_1, .inl (cy g 4, 11, .inr (.inr (.inr (.inr (arrF F i))))))] (fl g gr F W i) _ _) rfl (by omega) (by decide) dX8_init_47 rfl ?_
    refine G_ws (ws' := w0 ++ ((a, .inr (7, [.ref gr, .ref de, .ref q17_1, .null, .null, .null])) :: (q17_1, .inl (cy g 4, 11, .inr (.inr (.inr (.inr (arrF (va_up F i q39_1) (i + 1))))))) :: fl g gr (va_up F i q39_1) (va_up W i q44_2) (i + 1))) (by rw [← arrF_s, ← fl_s]) ?_
    refine r_iinc C (v := (nI (i + 1))) (lv' := [(3, .int (nI (i + 1))), (0, .ref a), (1, .ref gr), (2, .ref de)]) 3 0 dX8_init_48 rfl (inc_N _ 1) (by decide) rfl ?_
    refine r_goto C 25 dX8_init_51 (by decide) ?_
    refine G_sub (lv' := [(3, .int (nI (i + 1))), (0, .ref a), (1, .ref gr), (2, .ref de)]) [0, 1, 2, 3] rfl ?_
    exact G_ce (by show 1 + 2 * i + 1 + 1 = 1 + 2 * (i + 1); omega) (by show 11 + 18 * i + 2 + 16 = 11 + 18 * (i + 1); omega) (ih (i + 1) (va_up F i q39_1) (va_up W i q44_2) (by omega) (by omega))
set_option maxHeartbeats 1000000 in
set_option maxRecDepth 100000 in
theorem k_X8_init (l : Launch) (g : Gd) (w0 : va_W) (a : Nat) (gr de : Nat) : Cn l yX8_init cX8_init 4 (rmc 2 28 1269 41) g w0 (a, .inr (7, [.null, .null, .null, .null, .null, .null])) [.ref a, .ref gr, .ref de] (fun c => ∃ ln F W r1 w1 r2 w2 co, c = (a, .inr (7, [.ref gr, .ref de, .ref ln, .ref r1, .ref r2, .ref co])) :: (ln, .inl (cy g 4, 11, .inr (.inr (.inr (.inr (arrF F 11)))))) :: (((fl g gr F W 11 ++ [(r1, .inr (2, [.ref gr, .ref w1])), (w1, jR g 16 (fun _ => lN 0))]) ++ [(r2, .inr (2, [.ref gr, .ref w2])), (w2, jR g 16 (fun _ => lN 0))]) ++ [(co, iR g 1 1024 (fun _ => nI 0))])) := by
  refine Cn.of (by decide) rfl (Nat.le_of_ble_eq_true rfl) (fun z A C X Rr => ?_)
  refine r_aload_n C dX8_init_0 0 rfl ?_
  refine n_obj C hw_1_170 hw_1_30 hw_1_31 dX8_init_1 ⟨by decide, by decide⟩ (Nat.le_of_ble_eq_true rfl) ?_
  refine r_aload_n C dX8_init_4 0 rfl ?_
  refine r_aload_n C dX8_init_5 1 rfl ?_
  refine n_putF C X 0 (c' := [(a, .inr (7, [.ref gr, .null, .null, .null, .null, .null]))]) (n := 0) (T := TX8) (N := 6) (R := RX8) rfl rfl inw8 tyX8_ok nmX8 (by decide) rfl hw_1_173 rfl rfl Rr.2.2.2 (tyX8_ok 0 (by decide)) rfl rfl (Nat.le_of_ble_eq_true rfl) dX8_init_6 rfl ?_
  refine r_aload_n C dX8_init_9 0 rfl ?_
  refine r_aload_n C dX8_init_10 2 rfl ?_
  refine n_putF C X 0 (c' := [(a, .inr (7, [.ref gr, .ref de, .null, .null, .null, .null]))]) (n := 1) (T := TX8) (N := 6) (R := RX8) rfl rfl inw8 tyX8_ok nmX8 (by decide) rfl hw_1_174 rfl rfl Rr.2.2.2 (tyX8_ok 1 (by decide)) rfl rfl (Nat.le_of_ble_eq_true rfl) dX8_init_11 rfl ?_
  refine r_aload_n C dX8_init_14 0 rfl ?_
  refine r_bipush C (v := (nI 11)) dX8_init_15 (by decide) ?_
  refine n_newq C X hw_1_171 (by decide) (by decide) (by decide) dX8_init_17 (fun q17_1 => ?_)
  refine G_ce (ce' := 1) (sl' := 11) (show 0 + 1 = 1 from rfl) (show 0 + 11 = 11 from rfl) ?_
  refine G_ws (ws' := w0 ++ [(a, .inr (7, [.ref gr, .ref de, .null, .null, .null, .null])), (q17_1, .inl (cy g 4, 11, .inr (.inr (.inr (.inr (fun _ => none))))))]) rfl ?_
  refine n_putF C X 0 (c' := [(a, .inr (7, [.ref gr, .ref de, .ref q17_1, .null, .null, .null])), (q17_1, .inl (cy g 4, 11, .inr (.inr (.inr (.inr (fun _ => none))))))]) (n := 2) (T := TX8) (N := 6) (R := RX8) rfl rfl inw8 tyX8_ok nmX8 (by decide) rfl hw_1_175 rfl rfl Rr.2.2.2 (tyX8_ok 2 (by decide)) rfl rfl (Nat.le_of_ble_eq_true rfl) dX8_init_20 rfl ?_
  refine r_iconst C (v := (nI 0)) dX8_init_23 rfl ?_
  refine r_istore_n C (lv' := [(3, .int (nI 0)), (0, .ref a), (1, .ref gr), (2, .ref de)]) 3 dX8_init_24 rfl (by decide) rfl ?_
  refine G_ws (ws' := w0 ++ ((a, .inr (7, [.ref gr, .ref de, .ref q17_1, .null, .null, .null])) :: (q17_1, .inl (cy g 4, 11, .inr (.inr (.inr (.inr (arrF (fun _ => 0) 0)))))) :: fl g gr (fun _ => 0) (fun _ => 0) 0)) (by rw [← arrF_0]; rfl) ?_
  refine G_sub (lv' := [(3, .int (nI 0)), (0, .ref a), (1, .ref gr), (2, .ref de)]) [0, 1, 2, 3] rfl ?_
  refine kl_X8_init C X (fun F W => ?_) 12 0 (fun _ => 0) (fun _ => 0) (by decide) (by decide)
  generalize hfl : fl g gr F W 11 = Tf
  refine G_ce (ce' := 23) (sl' := 209) (show 1 + 2 * 11 = 23 from rfl) (show 11 + 18 * 11 = 209 from rfl) ?_
  refine r_aload_n C dX8_init_54 1 rfl ?_
  refine n_new C X (R := RX3) (T := TX3) (N := 2) (ci := 2) (fs := [.null, .null]) inw3 tyX3_ok hw_1_171 hw_1_57 hw_1_3 rfl (fun j hj => by rcases (show j = 0 ∨ j = 1 by omega) with rfl | rfl <;> rfl) (by decide) (by decide) dX8_init_55 (fun q55_2 => ?_)
  refine G_ce (ce' := 24) (sl' := 211) (show 23 + 1 = 24 from rfl) (show 209 + 2 = 211 from rfl) ?_
  refine G_ws (ws' := w0 ++ ((a, .inr (7, [.ref gr, .ref de, .ref q17_1, .null, .null, .null])) :: (q17_1, .inl (cy g 4, 11, .inr (.inr (.inr (.inr (arrF F 11)))))) :: (Tf ++ [(q55_2, .inr (2, [.null, .null]))]))) rfl ?_
  refine r_dup C dX8_init_58 rfl ?_
  refine r_aload_n C dX8_init_59 2 rfl ?_
  refine n_callI C X (ce := 24) (sl := 211) (c := ((a, .inr (7, [.ref gr, .ref de, .ref q17_1, .null, .null, .null])) :: (q17_1, .inl (cy g 4, 11, .inr (.inr (.inr (.inr (arrF F 11)))))) :: Tf)) (As := [.ref gr]) (rest := [.ref q55_2, .ref a]) miX3_init rfl hw_1_59 (k_X3_init l g (w0 ++ ((a, .inr (7, [.ref gr, .ref de, .ref q17_1, .null, .null, .null])) :: (q17_1, .inl (cy g 4, 11, .inr (.inr (.inr (.inr (arrF F 11)))))) :: Tf)) q55_2 gr) hw_1_172 rfl ⟨by decide, by decide, (by decide), (by decide)⟩ rfl (Nat.le_of_ble_eq_true rfl) dX8_init_60 (fun c_ hp_ => ?_)
  refine G_ce (ce' := 25) (sl' := 227) (show 24 + 1 = 25 from rfl) (show 211 + 16 = 227 from rfl) ?_
  obtain ⟨q60_3, rfl⟩ := hp_
  refine G_ws (ws' := w0 ++ ((a, .inr (7, [.ref gr, .ref de, .ref q17_1, .null, .null, .null])) :: (q17_1, .inl (cy g 4, 11, .inr (.inr (.inr (.inr (arrF F 11)))))) :: (Tf ++ [(q55_2, .inr (2, [.ref gr, .ref q60_3])), (q60_3, .inl (cy g 2, 16, .inr (.inl (fun _ => lN 0))))]))) rfl ?_
  refine n_putF C X 0 (c' := ((a, .inr (7, [.ref gr, .ref de, .ref q17_1, .ref q55_2, .null, .null])) :: (q17_1, .inl (cy g 4, 11, .inr (.inr (.inr (.inr (arrF F 11)))))) :: (Tf ++ [(q55_2, .inr (2, [.ref gr, .ref q60_3])), (q60_3, .inl (cy g 2, 16, .inr (.inl (fun _ => lN 0))))]))) (n := 3) (T := TX8) (N := 6) (R := RX8) rfl rfl inw8 tyX8_ok nmX8 (by decide) rfl hw_1_176 rfl rfl Rr.2.2.2 (tyX8_ok 3 (by decide)) rfl rfl (Nat.le_of_ble_eq_true rfl) dX8_init_63 rfl ?_
  refine r_aload_n C dX8_init_66 1 rfl ?_
  refine n_new C X (R := RX3) (T := TX3) (N := 2) (ci := 2) (fs := [.null, .null]) inw3 tyX3_ok hw_1_171 hw_1_57 hw_1_3 rfl (fun j hj => by rcases (show j = 0 ∨ j = 1 by omega) with rfl | rfl <;> rfl) (by decide) (by decide) dX8_init_67 (fun q67_4 => ?_)
  refine G_ce (ce' := 26) (sl' := 229) (show 25 + 1 = 26 from rfl) (show 227 + 2 = 229 from rfl) ?_
  refine G_ws (ws' := w0 ++ ((a, .inr (7, [.ref gr, .ref de, .ref q17_1, .ref q55_2, .null, .null])) :: (q17_1, .inl (cy g 4, 11, .inr (.inr (.inr (.inr (arrF F 11)))))) :: ((Tf ++ [(q55_2, .inr (2, [.ref gr, .ref q60_3])), (q60_3, .inl (cy g 2, 16, .inr (.inl (fun _ => lN 0))))]) ++ [(q67_4, .inr (2, [.null, .null]))]))) rfl ?_
  refine r_dup C dX8_init_70 rfl ?_
  refine r_aload_n C dX8_init_71 2 rfl ?_
  refine n_callI C X (ce := 26) (sl := 229) (c := ((a, .inr (7, [.ref gr, .ref de, .ref q17_1, .ref q55_2, .null, .null])) :: (q17_1, .inl (cy g 4, 11, .inr (.inr (.inr (.inr (arrF F 11)))))) :: (Tf ++ [(q55_2, .inr (2, [.ref gr, .ref q60_3])), (q60_3, .inl (cy g 2, 16, .inr (.inl (fun _ => lN 0))))]))) (As := [.ref gr]) (rest := [.ref q67_4, .ref a]) miX3_init rfl hw_1_59 (k_X3_init l g (w0 ++ ((a, .inr (7, [.ref gr, .ref de, .ref q17_1, .ref q55_2, .null, .null])) :: (q17_1, .inl (cy g 4, 11, .inr (.inr (.inr (.inr (arrF F 11)))))) :: (Tf ++ [(q55_2, .inr (2, [.ref gr, .ref q60_3])), (q60_3, .inl (cy g 2, 16, .inr (.inl (fun _ => lN 0))))]))) q67_4 gr) hw_1_172 rfl ⟨by decide, by decide, (by decide), (by decide)⟩ rfl (Nat.le_of_ble_eq_true rfl) dX8_init_72 (fun c_ hp_ => ?_)
  refine G_ce (ce' := 27) (sl' := 245) (show 26 + 1 = 27 from rfl) (show 229 + 16 = 245 from rfl) ?_
  obtain ⟨q72_5, rfl⟩ := hp_
  refine G_ws (ws' := w0 ++ ((a, .inr (7, [.ref gr, .ref de, .ref q17_1, .ref q55_2, .null, .null])) :: (q17_1, .inl (cy g 4, 11, .inr (.inr (.inr (.inr (arrF F 11)))))) :: ((Tf ++ [(q55_2, .inr (2, [.ref gr, .ref q60_3])), (q60_3, .inl (cy g 2, 16, .inr (.inl (fun _ => lN 0))))]) ++ [(q67_4, .inr (2, [.ref gr, .ref q72_5])), (q72_5, .inl (cy g 2, 16, .inr (.inl (fun _ => lN 0))))]))) rfl ?_
  refine n_putF C X 0 (c' := ((a, .inr (7, [.ref gr, .ref de, .ref q17_1, .ref q55_2, .ref q67_4, .null])) :: (q17_1, .inl (cy g 4, 11, .inr (.inr (.inr (.inr (arrF F 11)))))) :: ((Tf ++ [(q55_2, .inr (2, [.ref gr, .ref q60_3])), (q60_3, .inl (cy g 2, 16, .inr (.inl (fun _ => lN 0))))]) ++ [(q67_4, .inr (2, [.ref gr, .ref q72_5])), (q72_5, .inl (cy g 2, 16, .inr (.inl (fun _ => lN 0))))]))) (n := 4) (T := TX8) (N := 6) (R := RX8) rfl rfl inw8 tyX8_ok nmX8 (by decide) rfl hw_1_177 rfl rfl Rr.2.2.2 (tyX8_ok 4 (by decide)) rfl rfl (Nat.le_of_ble_eq_true rfl) dX8_init_75 rfl ?_
  refine r_aload_n C dX8_init_78 1 rfl ?_
  refine r_sipush C (v := (nI 1024)) dX8_init_79 (by decide) ?_
  refine n_newa C X (atype := .int) (ty := .int) (t := 1) (x := (1024, .inl (fun _ => nI 0))) hw_1_92 rfl rfl (fun _ => rfl) (by decide) (Nat.le_of_ble_eq_true rfl) (by decide) (by decide) dX8_init_82 (fun q82_6 => ?_)
  refine G_ce (ce' := 28) (sl' := 1269) (show 27 + 1 = 28 from rfl) (show 245 + 1024 = 1269 from rfl) ?_
  refine G_ws (ws' := w0 ++ ((a, .inr (7, [.ref gr, .ref de, .ref q17_1, .ref q55_2, .ref q67_4, .null])) :: (q17_1, .inl (cy g 4, 11, .inr (.inr (.inr (.inr (arrF F 11)))))) :: (((Tf ++ [(q55_2, .inr (2, [.ref gr, .ref q60_3])), (q60_3, .inl (cy g 2, 16, .inr (.inl (fun _ => lN 0))))]) ++ [(q67_4, .inr (2, [.ref gr, .ref q72_5])), (q72_5, .inl (cy g 2, 16, .inr (.inl (fun _ => lN 0))))]) ++ [(q82_6, .inl (cy g 1, 1024, .inl (fun _ => nI 0)))]))) rfl ?_
  refine n_putF C X 0 (c' := ((a, .inr (7, [.ref gr, .ref de, .ref q17_1, .ref q55_2, .ref q67_4, .ref q82_6])) :: (q17_1, .inl (cy g 4, 11, .inr (.inr (.inr (.inr (arrF F 11)))))) :: (((Tf ++ [(q55_2, .inr (2, [.ref gr, .ref q60_3])), (q60_3, .inl (cy g 2, 16, .inr (.inl (fun _ => lN 0))))]) ++ [(q67_4, .inr (2, [.ref gr, .ref q72_5])), (q72_5, .inl (cy g 2, 16, .inr (.inl (fun _ => lN 0))))]) ++ [(q82_6, .inl (cy g 1, 1024, .inl (fun _ => nI 0)))]))) (n := 5) (T := TX8) (N := 6) (R := RX8) rfl rfl inw8 tyX8_ok nmX8 (by decide) rfl hw_1_178 rfl rfl Rr.2.2.2 (tyX8_ok 5 (by decide)) rfl rfl (Nat.le_of_ble_eq_true rfl) dX8_init_84 rfl ?_
  exact n_vret C dX8_init_87 ⟨q17_1, F, W, q55_2, q60_3, q67_4, q72_5, q82_6, by rw [hfl]⟩ (by decide) (by decide) Rr
