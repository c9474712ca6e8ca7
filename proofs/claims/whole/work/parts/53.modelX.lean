def snF (k : Nat) (O : Nat → Bool) (m : Nat) : Nat → (Nat → Bool) × Option Nat × Nat
  | 0 => (O, none, m)
  | s + 1 => if 0 < (snF k O m s).2.2 ∧ b10 s = k then (upB (snF k O m s).1 s true, some s, (snF k O m s).2.2 - 1) else snF k O m s
theorem snF_le (k : Nat) (O : Nat → Bool) (m : Nat) : ∀ s, (snF k O m s).2.2 ≤ m
  | 0 => Nat.le_refl _
  | s + 1 => by
    have := snF_le k O m s
    rw [snF]; split
    · show (snF k O m s).2.2 - 1 ≤ m; omega
    · exact this
theorem snF_y {k : Nat} {O : Nat → Bool} {m s : Nat} (h : 0 < (snF k O m s).2.2 ∧ b10 s = k) : snF k O m (s + 1) = (upB (snF k O m s).1 s true, some s, (snF k O m s).2.2 - 1) := by rw [snF, if_pos h]
theorem snF_n {k : Nat} {O : Nat → Bool} {m s : Nat} (h : ¬ (0 < (snF k O m s).2.2 ∧ b10 s = k)) : snF k O m (s + 1) = snF k O m s := by rw [snF, if_neg h]
set_option maxHeartbeats 1000000 in
set_option maxRecDepth 100000 in
theorem lp_segmentM {z : Zt} {A : Nat → Prop} {l : Launch} {g : Gd} (C : Cx z A l (rmk 3 68) cX11_segment 7 "SetFamiliesModel") (X : Kx z g A) {M : Mm} {F P O : Nat → Bool} {n ps q k m : Nat} (h6 : gI M 6 = nI n) (h7 : gI M 7 = nI ps) (hps : ps ≤ 4) (h5 : gA M 5 = bR F) (hP : gA M 6 = bR P) (h1n : 1 ≤ n) (hn10 : n ≤ 10) (hq : q < 4) (hk : k ≤ n) (hm : m < 2 ^ 31) (h1024 : 2 ^ n ≤ 1024) (h2n : 0 < 2 ^ n) (Rr : Rx z g A (some .int) (some (.int (if szF (lyB F (snF k O m (2 ^ n)).1 q 1024) q (-1) (2 ^ n) = 0 then -1 else oI (snF k O m (2 ^ n)).2.1))) (mLays (sA M 9 (bR (snF k O m (2 ^ n)).1)) F P (snF k O m (2 ^ n)).1 n ps q)) : ∀ (n_ : Nat) (s : Nat), 2 ^ n - s < n_ → s ≤ 2 ^ n → G z g.1 A 7 (wd g (sA M 9 (bR (snF k O m s).1))) 0 0 61 [(6, .int (nI s)), (4, .int (oI (snF k O m s).2.1)), (5, .int (nI ((snF k O m s).2.2))), (0, .ref (ad g 19)), (1, .int (nI q)), (2, .int (nI k)), (3, .int (nI m))] [] := by
  intro n_
  induction n_ with
  | zero => intro s hm_; exact absurd hm_ (Nat.not_lt_zero _)
  | succ n_ ih =>
    intro s hm_ hs
    have hle := snF_le k O m s
    refine r_iload C dX11_segment_61 0 rfl ?_
    refine r_aload_n C dX11_segment_63 3 rfl ?_
    refine r_callV C X (As := []) (rest := [.int (nI s)]) (st1 := [.int (nI (2 ^ n)), .int (nI s)]) (μ' := (sA M 9 (bR (snF k O m s).1))) (k := 19) (T := TX11) miX11_codes mvX11_codes (c_codes l g (sA M 9 (bR (snF k O m s).1)) (n := n) ((gI_A _ _ _ _).trans h6) (by omega)) hw_5_99 (by decide) rfl rfl rfl ⟨by decide, by decide, rfl, rfl, by decide, by decide⟩ rfl (Nat.le_of_ble_eq_true rfl) dX11_segment_64 rfl ?_
    refine r_icmp_ge C 105 dX11_segment_67 (by decide) (nI_leI (by omega) (by omega)) (fun h67 => ?_) (fun h67 => ?_)
    · have hs2 : s = 2 ^ n := by omega
      subst hs2
      have hszl := szF_le (lyB F (snF k O m (2 ^ n)).1 q 1024) q (-1) (2 ^ n)
      refine r_aload_n C dX11_segment_105 3 rfl ?_
      refine r_iload_n C dX11_segment_106 4 rfl ?_
      refine r_callV C X (As := [.int (nI q)]) (rest := []) (st1 := [.int (nI (szF (lyB F ((snF k O m (2 ^ n)).1) q 1024) q (-1) (2 ^ n)))]) (μ' := (mLays (sA M 9 (bR (snF k O m (2 ^ n)).1)) F P ((snF k O m (2 ^ n)).1) n ps q)) (k := 19) (T := TX11) miX11_lays mvX11_lays (c_lays l g (sA M 9 (bR (snF k O m (2 ^ n)).1)) (F := F) (P := P) (O := ((snF k O m (2 ^ n)).1)) (n := n) (ps := ps) (q := q) ⟨((gI_A _ _ _ _).trans h6), ((gI_A _ _ _ _).trans h7), hps, ((gA_n _ _ (by decide)).trans h5), ((gA_n _ _ (by decide)).trans hP), (gA_s _ _ _), h1n, hn10⟩ (by omega)) hw_5_146 (by decide) rfl rfl rfl ⟨by decide, by decide, rfl, rfl, by decide, by decide⟩ rfl (Nat.le_of_ble_eq_true rfl) dX11_segment_107 rfl ?_
      refine r_istore C (lv' := [(6, .int (nI (szF (lyB F ((snF k O m (2 ^ n)).1) q 1024) q (-1) (2 ^ n)))), (4, .int (oI (snF k O m (2 ^ n)).2.1)), (5, .int (nI ((snF k O m (2 ^ n)).2.2))), (0, .ref (ad g 19)), (1, .int (nI q)), (2, .int (nI k)), (3, .int (nI m))]) 6 dX11_segment_110 (by decide) rfl ?_
      refine r_iload C dX11_segment_112 0 rfl ?_
      refine r_if_ne C 121 dX11_segment_114 (by decide) (zI_ne (by omega)) (fun h114 => ?_) (fun h114 => ?_)
      · rw [if_neg h114] at Rr
        refine r_iload C dX11_segment_121 1 rfl ?_
        exact r_iret C dX11_segment_123 Rr
      · rw [if_pos (Decidable.not_not.mp h114)] at Rr
        refine r_iconst C (v := (-1)) dX11_segment_117 rfl ?_
        refine r_goto C 123 dX11_segment_118 (by decide) ?_
        exact r_iret C dX11_segment_123 Rr
    · have hbl := b10_lt s
      refine r_iload C dX11_segment_70 2 rfl ?_
      refine r_if_le C 99 dX11_segment_72 (by decide) (zI_le (by omega)) (fun h72 => ?_) (fun h72 => ?_)
      · have hcc : ¬ (0 < (snF k O m s).2.2 ∧ b10 s = k) := fun x => by omega
        refine r_iinc C (v := (nI (s + 1))) (lv' := [(6, .int (nI (s + 1))), (4, .int (oI (snF k O m s).2.1)), (5, .int (nI ((snF k O m s).2.2))), (0, .ref (ad g 19)), (1, .int (nI q)), (2, .int (nI k)), (3, .int (nI m))]) 6 0 dX11_segment_99 rfl (inc_N _ 1) (by decide) rfl ?_
        refine r_goto C 61 dX11_segment_102 (by decide) ?_
        refine G_mem (μ' := (sA M 9 (bR (snF k O m (s + 1)).1))) (by rw [snF_n hcc]) ?_
        refine G_lv (lv' := [(6, .int (nI (s + 1))), (4, .int (oI (snF k O m (s + 1)).2.1)), (5, .int (nI ((snF k O m (s + 1)).2.2))), (0, .ref (ad g 19)), (1, .int (nI q)), (2, .int (nI k)), (3, .int (nI m))]) (by rw [snF_n hcc]) ?_
        exact ih (s + 1) (by omega) (by omega)
      · refine r_iload C dX11_segment_75 0 rfl ?_
        refine r_callP C (As := [.int (nI s)]) (rest := []) (st1 := [.int (nI (b10 s))]) miX11_bits msX11_bits (c_bits l (c := s) (by omega)) hw_5_123 rfl ⟨by decide, by decide, rfl, rfl, by decide, by decide⟩ rfl (Nat.le_of_ble_eq_true rfl) dX11_segment_77 rfl ?_
        refine r_iload_n C dX11_segment_80 5 rfl ?_
        refine r_icmp_ne C 99 dX11_segment_81 (by decide) (not_congr (nI_eq (by omega) (by omega))) (fun h81 => ?_) (fun h81 => ?_)
        · have hcc : ¬ (0 < (snF k O m s).2.2 ∧ b10 s = k) := fun x => h81 x.2
          refine r_iinc C (v := (nI (s + 1))) (lv' := [(6, .int (nI (s + 1))), (4, .int (oI (snF k O m s).2.1)), (5, .int (nI ((snF k O m s).2.2))), (0, .ref (ad g 19)), (1, .int (nI q)), (2, .int (nI k)), (3, .int (nI m))]) 6 0 dX11_segment_99 rfl (inc_N _ 1) (by decide) rfl ?_
          refine r_goto C 61 dX11_segment_102 (by decide) ?_
          refine G_mem (μ' := (sA M 9 (bR (snF k O m (s + 1)).1))) (by rw [snF_n hcc]) ?_
          refine G_lv (lv' := [(6, .int (nI (s + 1))), (4, .int (oI (snF k O m (s + 1)).2.1)), (5, .int (nI ((snF k O m (s + 1)).2.2))), (0, .ref (ad g 19)), (1, .int (nI q)), (2, .int (nI k)), (3, .int (nI m))]) (by rw [snF_n hcc]) ?_
          exact ih (s + 1) (by omega) (by omega)
        · have hcc : 0 < (snF k O m s).2.2 ∧ b10 s = k := ⟨by omega, Decidable.not_not.mp h81⟩
          obtain ⟨d, hd⟩ : ∃ d, (snF k O m s).2.2 = d + 1 := ⟨(snF k O m s).2.2 - 1, by omega⟩
          refine G_lv (lv' := [(6, .int (nI s)), (4, .int (oI (snF k O m s).2.1)), (5, .int (nI (d + 1))), (0, .ref (ad g 19)), (1, .int (nI q)), (2, .int (nI k)), (3, .int (nI m))]) (by rw [hd]) ?_
          refine r_aload_n C dX11_segment_84 3 rfl ?_
          refine r_get C X (k := 19) (R := RX11) (T := TX11) (N := 15) (n := 8) (v := .ref (ad g 24)) (by decide) rfl rfl inw11 (by decide) rfl hw_5_26 rfl dX11_segment_85 ?_
          refine r_iload C dX11_segment_88 0 rfl ?_
          refine r_iconst C (v := (nI 1)) dX11_segment_90 rfl ?_
          refine G_top (y := (bI true)) rfl ?_
          refine r_zast C X (k := 24) (f' := bR (snF k O m (s + 1)).1) (μ' := (sA (sA M 9 (bR (snF k O m s).1)) 9 (bR (snF k O m (s + 1)).1))) (by decide) rfl (by omega) (by decide) (by rw [gA_s, snF_y hcc]; exact bR_up _ _ _) dX11_segment_91 (congrArg (iR g 3 1024) (gA_s _ _ _)) (WF_sA9_ne g _ _) ?_
          refine G_mem (μ' := (sA M 9 (bR (snF k O m (s + 1)).1))) (sA_u _ _ _ _) ?_
          refine r_iload C dX11_segment_92 0 rfl ?_
          refine r_istore C (lv' := [(4, .int (nI s)), (6, .int (nI s)), (5, .int (nI (d + 1))), (0, .ref (ad g 19)), (1, .int (nI q)), (2, .int (nI k)), (3, .int (nI m))]) 4 dX11_segment_94 (by decide) rfl ?_
          refine r_iinc C (v := (nI d)) (lv' := [(5, .int (nI d)), (4, .int (nI s)), (6, .int (nI s)), (0, .ref (ad g 19)), (1, .int (nI q)), (2, .int (nI k)), (3, .int (nI m))]) 5 2 dX11_segment_96 rfl (pk_m1 _) (by decide) rfl ?_
          refine r_iinc C (v := (nI (s + 1))) (lv' := [(6, .int (nI (s + 1))), (5, .int (nI d)), (4, .int (nI s)), (0, .ref (ad g 19)), (1, .int (nI q)), (2, .int (nI k)), (3, .int (nI m))]) 6 2 dX11_segment_99 rfl (inc_N _ 1) (by decide) rfl ?_
          refine r_goto C 61 dX11_segment_102 (by decide) ?_
          refine G_lv (lv' := [(6, .int (nI (s + 1))), (5, .int (nI ((snF k O m (s + 1)).2.2))), (4, .int (oI (snF k O m (s + 1)).2.1)), (0, .ref (ad g 19)), (1, .int (nI q)), (2, .int (nI k)), (3, .int (nI m))]) (by rw [snF_y hcc, hd]; rfl) ?_
          refine G_sub (lv' := [(6, .int (nI (s + 1))), (4, .int (oI (snF k O m (s + 1)).2.1)), (5, .int (nI ((snF k O m (s + 1)).2.2))), (0, .ref (ad g 19)), (1, .int (nI q)), (2, .int (nI k)), (3, .int (nI m))]) [0, 2, 1, 3, 4, 5, 6] rfl ?_
          exact ih (s + 1) (by omega) (by omega)
def sgO (F O : Nat → Bool) (n q k m : Nat) : Int32 := if szF (lyB F (snF k (rowU 1024 (fun _ => false) O) m (2 ^ n)).1 q 1024) q (-1) (2 ^ n) = 0 then -1 else oI (snF k (rowU 1024 (fun _ => false) O) m (2 ^ n)).2.1
set_option maxHeartbeats 1000000 in
set_option maxRecDepth 100000 in
theorem y_segment (l : Launch) (g : Gd) (μ : Mm) {F P O : Nat → Bool} {n ps q k m : Nat} (hM : Mo μ F P O n ps) (hq : q < 4) (hk : k ≤ n) (hm : m ≤ ch n k) : Ct l yX11_segment cX11_segment 7 (some .int) (rmk 3 68) g [.ref (ad g 19), .int (nI q), .int (nI k), .int (nI m)] μ (some (.int (sgO F O n q k m))) (mLays (sA (mgM μ true true) 9 (bR (snF k (rowU 1024 (fun _ => false) O) m (2 ^ n)).1)) F P (snF k (rowU 1024 (fun _ => false) O) m (2 ^ n)).1 n ps q) := by
  obtain ⟨h6, h7, hps, hF, hP, h9, h1n, hn10⟩ := hM
  have h1024 := pw10 hn10
  have h2n := Nat.two_pow_pos n
  refine Ct.of (by decide) (Nat.le_of_ble_eq_true rfl) (fun z A C X Rr => ?_)
  have hch := ch20 n (by omega) k (by omega)
  refine r_aload_n C dX11_segment_0 0 rfl ?_
  refine r_iload_n C dX11_segment_1 1 rfl ?_
  refine r_callP C (As := [.int (nI q)]) (rest := [.ref (ad g 19)]) (st1 := [.int (bI (inI (nI q) (nI 0) (nI 3))), .ref (ad g 19)]) miX11_isPlace msX11_isPlace (c_isPlace l (nI q)) hw_5_92 rfl ⟨by decide, by decide, rfl, rfl, by decide, by decide⟩ rfl (Nat.le_of_ble_eq_true rfl) dX11_segment_2 rfl ?_
  refine G_top (y := (bI true)) (congrArg bI (inN (v := q) (Nat.zero_le _) (by omega) (by decide))) ?_
  refine r_iload_n C dX11_segment_5 2 rfl ?_
  refine r_iconst C (v := (nI 0)) dX11_segment_6 rfl ?_
  refine r_aload_n C dX11_segment_7 0 rfl ?_
  refine r_get C X (k := 19) (R := RX11) (T := TX11) (N := 15) (n := 1) (v := .int (gI μ 6)) (by decide) rfl rfl inw11 (by decide) rfl hw_5_19 rfl dX11_segment_8 ?_
  refine G_top (y := (nI n)) h6 ?_
  refine r_callP C (As := [.int (nI k), .int (nI 0), .int (nI n)]) (rest := [.int (bI true), .ref (ad g 19)]) (st1 := [.int (bI (inI (nI k) (nI 0) (nI n))), .int (bI true), .ref (ad g 19)]) miX11_in msX11_in (c_in l (nI k) (nI 0) (nI n)) hw_5_77 rfl ⟨by decide, by decide, rfl, rfl, by decide, by decide⟩ rfl (Nat.le_of_ble_eq_true rfl) dX11_segment_11 rfl ?_
  refine G_top (y := (bI true)) (congrArg bI (inN (v := k) (Nat.zero_le _) hk (by omega))) ?_
  refine r_if_eq C 39 dX11_segment_14 (by decide) (bI_eq _) (fun h14 => ?_) (fun h14 => ?_)
  · exact absurd h14 (by decide)
  · refine r_iload_n C dX11_segment_17 3 rfl ?_
    refine r_if_lt C 39 dX11_segment_18 (by decide) (zI_lt (by omega)) (fun h18 => ?_) (fun h18 => ?_)
    · exact h18.elim
    · refine r_iload_n C dX11_segment_21 3 rfl ?_
      refine r_i2l C (v := (lN m)) dX11_segment_22 (nI_l (by omega)) ?_
      refine r_aload_n C dX11_segment_23 0 rfl ?_
      refine r_get C X (k := 19) (R := RX11) (T := TX11) (N := 15) (n := 1) (v := .int (gI μ 6)) (by decide) rfl rfl inw11 (by decide) rfl hw_5_19 rfl dX11_segment_24 ?_
      refine G_top (y := (nI n)) h6 ?_
      refine r_iload_n C dX11_segment_27 2 rfl ?_
      refine r_callP C (As := [.int (nI n), .int (nI k)]) (rest := [.long (lN m), .int (bI true), .ref (ad g 19)]) (st1 := [.long (lN (ch n k)), .long (lN m), .int (bI true), .ref (ad g 19)]) miX11_over msX11_over (c_over l (a := n) (b := k) (by omega) (by omega) (ov_le (by omega) (by omega) (by omega))) hw_5_202 rfl ⟨by decide, by decide, rfl, rfl, by decide, by decide⟩ rfl (Nat.le_of_ble_eq_true rfl) dX11_segment_28 rfl ?_
      refine r_lcmp C dX11_segment_31 ?_
      refine r_if_gt C 39 dX11_segment_32 (by decide) ((lgc_gt _ _).trans (pk_lLT (by omega) (by omega))) (fun h32 => ?_) (fun h32 => ?_)
      · exact absurd h32 (by omega)
      · refine r_iconst C (v := (nI 1)) dX11_segment_35 rfl ?_
        refine r_goto C 40 dX11_segment_36 (by decide) ?_
        refine G_top (y := (bI true)) rfl ?_
        refine r_callV C X (As := [.int (bI true), .int (bI true)]) (rest := []) (st1 := [.int (bI (true && true))]) (μ' := (mgM μ true true)) (k := 19) (T := TX11) miX11_mayGo mvX11_mayGo (c_mayGo l g μ true true) hw_5_103 (by decide) rfl rfl rfl ⟨by decide, by decide, rfl, rfl, by decide, by decide⟩ rfl (Nat.le_of_ble_eq_true rfl) dX11_segment_40 rfl ?_
        refine r_if_ne C 48 dX11_segment_43 (by decide) (bI_ne _) (fun h43 => ?_) (fun h43 => ?_)
        · refine r_aload_n C dX11_segment_48 0 rfl ?_
          refine r_callV C X (As := []) (rest := []) (st1 := []) (μ' := (sA (mgM μ true true) 9 (bR (rowU 1024 (fun _ => false) O)))) (k := 19) (T := TX11) miX11_empties mvX11_empties (c_empties l g (mgM μ true true) (O := O) ((gA_I _ _ _ _).trans h9)) hw_5_154 (by decide) rfl rfl rfl ⟨by decide, by decide, rfl, rfl, by decide, by decide⟩ rfl (Nat.le_of_ble_eq_true rfl) dX11_segment_49 rfl ?_
          refine r_iconst C (v := (-1)) dX11_segment_52 rfl ?_
          refine r_istore C (lv' := [(4, .int (-1)), (0, .ref (ad g 19)), (1, .int (nI q)), (2, .int (nI k)), (3, .int (nI m))]) 4 dX11_segment_53 (by decide) rfl ?_
          refine r_iload_n C dX11_segment_55 4 rfl ?_
          refine r_istore C (lv' := [(5, .int (nI m)), (4, .int (-1)), (0, .ref (ad g 19)), (1, .int (nI q)), (2, .int (nI k)), (3, .int (nI m))]) 5 dX11_segment_56 (by decide) rfl ?_
          refine r_iconst C (v := (nI 0)) dX11_segment_58 rfl ?_
          refine r_istore C (lv' := [(6, .int (nI 0)), (5, .int (nI m)), (4, .int (-1)), (0, .ref (ad g 19)), (1, .int (nI q)), (2, .int (nI k)), (3, .int (nI m))]) 6 dX11_segment_59 (by decide) rfl ?_
          refine G_lv (lv' := [(6, .int (nI 0)), (5, .int (nI ((snF k (rowU 1024 (fun _ => false) O) m 0).2.2))), (4, .int (oI (snF k (rowU 1024 (fun _ => false) O) m 0).2.1)), (0, .ref (ad g 19)), (1, .int (nI q)), (2, .int (nI k)), (3, .int (nI m))]) rfl ?_
          refine G_sub (lv' := [(6, .int (nI 0)), (4, .int (oI (snF k (rowU 1024 (fun _ => false) O) m 0).2.1)), (5, .int (nI ((snF k (rowU 1024 (fun _ => false) O) m 0).2.2))), (0, .ref (ad g 19)), (1, .int (nI q)), (2, .int (nI k)), (3, .int (nI m))]) [0, 2, 1, 3, 4, 5, 6] rfl ?_
          refine G_mem (μ' := (sA (mgM μ true true) 9 (bR (snF k (rowU 1024 (fun _ => false) O) m 0).1))) rfl ?_
          exact lp_segmentM C X (M := mgM μ true true) (O := (rowU 1024 (fun _ => false) O)) ((gI_mgM (by decide)).trans h6) ((gI_mgM (by decide)).trans h7) hps (gA_mgM.trans hF) (gA_mgM.trans hP) h1n hn10 hq hk (by omega) h1024 h2n Rr (2 ^ n + 1) 0 (by omega) (by omega)
        · exact absurd rfl h43
