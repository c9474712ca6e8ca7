def rkM (e : Nat) : Nat → Nat × Nat
  | 0 => (0, 0)
  | x + 1 => if e / 2 ^ x &&& 1 = 1 then ((rkM e x).1 + ch x ((rkM e x).2 + 1), (rkM e x).2 + 1) else rkM e x
theorem rkM_le (e : Nat) : ∀ x, (rkM e x).2 ≤ x
  | 0 => Nat.le_refl _
  | x + 1 => by
    have := rkM_le e x
    rw [rkM]; split
    · exact Nat.succ_le_succ this
    · exact Nat.le_succ_of_le this
set_option maxHeartbeats 1000000 in
set_option maxRecDepth 100000 in
theorem lp_rankM {z : Zt} {A : Nat → Prop} {l : Launch} {g : Gd} (C : Cx z A l (rmk 1 24) cX11_rank 5 "SetFamiliesModel") (X : Kx z g A) {M : Mm} {e : Nat} (he : e < 1024) (Rr : Rx z g A (some .int) (some (.int (nI (rkM e 10).1))) M) : ∀ (n_ : Nat) (x : Nat), 10 - x < n_ → x ≤ 10 → G z g.1 A 5 (wd g M) 0 0 36 [(4, .int (nI x)), (2, .int (nI ((rkM e x).1))), (3, .int (nI ((rkM e x).2))), (0, .ref (ad g 19)), (1, .int (nI e))] [] := by
  intro n_
  induction n_ with
  | zero => intro x hm_; exact absurd hm_ (Nat.not_lt_zero _)
  | succ n_ ih =>
    intro x hm_ hx
    refine r_iload C dX11_rank_36 0 rfl ?_
    refine r_bipush C (v := (nI 10)) dX11_rank_38 (by decide) ?_
    refine r_icmp_ge C 72 dX11_rank_40 (by decide) (nI_leI (by omega) (by omega)) (fun h40 => ?_) (fun h40 => ?_)
    · have hx2 : x = 10 := by omega
      subst hx2
      refine r_iload_n C dX11_rank_72 1 rfl ?_
      exact r_iret C dX11_rank_73 Rr
    · refine r_iload_n C dX11_rank_43 4 rfl ?_
      refine r_iload C dX11_rank_44 0 rfl ?_
      refine r_ishr C (v := (nI (e / 2 ^ x))) dX11_rank_46 (nshr (by omega) (by omega)) ?_
      refine r_iconst C (v := (nI 1)) dX11_rank_47 rfl ?_
      refine r_iand C (v := (nI ((e / 2 ^ x) &&& 1))) dX11_rank_48 (nand _ _) ?_
      refine r_iconst C (v := (nI 1)) dX11_rank_49 rfl ?_
      refine r_icmp_ne C 66 dX11_rank_50 (by decide) (not_congr (nI_eq (Nat.lt_of_le_of_lt Nat.and_le_right (by decide)) (by decide))) (fun h50 => ?_) (fun h50 => ?_)
      · refine r_iinc C (v := (nI (x + 1))) (lv' := [(4, .int (nI (x + 1))), (2, .int (nI ((rkM e x).1))), (3, .int (nI ((rkM e x).2))), (0, .ref (ad g 19)), (1, .int (nI e))]) 4 0 dX11_rank_66 rfl (inc_N _ 1) (by decide) rfl ?_
        refine r_goto C 36 dX11_rank_69 (by decide) ?_
        refine G_lv (lv' := [(4, .int (nI (x + 1))), (2, .int (nI ((rkM e (x + 1)).1))), (3, .int (nI ((rkM e (x + 1)).2))), (0, .ref (ad g 19)), (1, .int (nI e))]) (by rw [rkM, if_neg h50]) ?_
        exact ih (x + 1) (by omega) (by omega)
      · have hrl := rkM_le e x
        have hch := ch20 x (by omega) ((rkM e x).2 + 1) (by omega)
        refine r_iinc C (v := (nI ((rkM e x).2 + 1))) (lv' := [(3, .int (nI ((rkM e x).2 + 1))), (4, .int (nI x)), (2, .int (nI ((rkM e x).1))), (0, .ref (ad g 19)), (1, .int (nI e))]) 3 2 dX11_rank_53 rfl (inc_N _ 1) (by decide) rfl ?_
        refine r_iload_n C dX11_rank_56 2 rfl ?_
        refine r_iload C dX11_rank_57 1 rfl ?_
        refine r_iload_n C dX11_rank_59 0 rfl ?_
        refine r_callP C (As := [.int (nI x), .int (nI ((rkM e x).2 + 1))]) (rest := [.int (nI ((rkM e x).1))]) (st1 := [.long (lN (ch x ((rkM e x).2 + 1))), .int (nI ((rkM e x).1))]) miX11_over msX11_over (c_over l (a := x) (b := (rkM e x).2 + 1) (by omega) (by omega) (ov_le (by omega) (by omega) (by omega))) hw_5_202 rfl ⟨by decide, by decide, rfl, rfl, by decide, by decide⟩ rfl (Nat.le_of_ble_eq_true rfl) dX11_rank_60 rfl ?_
        refine r_l2i C (v := (nI (ch x ((rkM e x).2 + 1)))) dX11_rank_63 (lN_i _) ?_
        refine r_iadd C (v := (nI ((rkM e x).1 + (ch x ((rkM e x).2 + 1))))) dX11_rank_64 (nI_add _ _) ?_
        refine r_istore_n C (lv' := [(2, .int (nI ((rkM e x).1 + (ch x ((rkM e x).2 + 1))))), (3, .int (nI ((rkM e x).2 + 1))), (4, .int (nI x)), (0, .ref (ad g 19)), (1, .int (nI e))]) 2 dX11_rank_65 rfl (by decide) rfl ?_
        refine r_iinc C (v := (nI (x + 1))) (lv' := [(4, .int (nI (x + 1))), (2, .int (nI ((rkM e x).1 + (ch x ((rkM e x).2 + 1))))), (3, .int (nI ((rkM e x).2 + 1))), (0, .ref (ad g 19)), (1, .int (nI e))]) 4 2 dX11_rank_66 rfl (inc_N _ 1) (by decide) rfl ?_
        refine r_goto C 36 dX11_rank_69 (by decide) ?_
        refine G_lv (lv' := [(4, .int (nI (x + 1))), (2, .int (nI ((rkM e (x + 1)).1))), (3, .int (nI ((rkM e (x + 1)).2))), (0, .ref (ad g 19)), (1, .int (nI e))]) (by rw [rkM, if_pos (Decidable.not_not.mp h50)]) ?_
        exact ih (x + 1) (by omega) (by omega)
set_option maxHeartbeats 1000000 in
set_option maxRecDepth 100000 in
theorem y_rank (l : Launch) (g : Gd) (μ : Mm) {e : Nat} (he : e < 1024) : Ct l yX11_rank cX11_rank 5 (some .int) (rmk 1 24) g [.ref (ad g 19), .int (nI e)] μ (some (.int (nI ((rkM e 10).1)))) (sI μ 5 (nI 0)) := by
  refine Ct.of (by decide) (Nat.le_of_ble_eq_true rfl) (fun z A C X Rr => ?_)
  refine r_aload_n C dX11_rank_0 0 rfl ?_
  refine r_iload_n C dX11_rank_1 1 rfl ?_
  refine r_iconst C (v := (nI 0)) dX11_rank_2 rfl ?_
  refine r_sipush C (v := (nI 1023)) dX11_rank_3 (by decide) ?_
  refine r_callP C (As := [.int (nI e), .int (nI 0), .int (nI 1023)]) (rest := [.ref (ad g 19)]) (st1 := [.int (bI (inI (nI e) (nI 0) (nI 1023))), .ref (ad g 19)]) miX11_in msX11_in (c_in l (nI e) (nI 0) (nI 1023)) hw_5_77 rfl ⟨by decide, by decide, rfl, rfl, by decide, by decide⟩ rfl (Nat.le_of_ble_eq_true rfl) dX11_rank_6 rfl ?_
  refine G_top (y := (bI true)) (congrArg bI (inN (v := e) (Nat.zero_le _) (by omega) (by decide))) ?_
  refine r_if_eq C 16 dX11_rank_9 (by decide) (bI_eq _) (fun h9 => ?_) (fun h9 => ?_)
  · exact absurd h9 (by decide)
  · refine r_iconst C (v := (nI 0)) dX11_rank_12 rfl ?_
    refine r_goto C 17 dX11_rank_13 (by decide) ?_
    refine r_put C X (μ' := (sI μ 5 (nI 0))) (k := 19) (R := RX11) (T := TX11) (N := 15) (n := 0) (v := .int (nI 0)) (ty := .int) (by decide) rfl rfl inw11 tyX11_ok nmX11 (by decide) rfl hw_5_18 rfl rfl rfl rfl (Nat.le_of_ble_eq_true rfl) dX11_rank_17 (WF_sI5_at g _ _) (WF_sI5_ne g _ _) ?_
    refine r_aload_n C dX11_rank_20 0 rfl ?_
    refine r_get C X (k := 19) (R := RX11) (T := TX11) (N := 15) (n := 0) (v := .int (gI (sI μ 5 (nI 0)) 5)) (by decide) rfl rfl inw11 (by decide) rfl hw_5_18 rfl dX11_rank_21 ?_
    refine G_top (y := (nI 0)) (gI_s _ _ _) ?_
    refine r_if_le C 29 dX11_rank_24 (by decide) (zI_le (by omega)) (fun h24 => ?_) (fun h24 => ?_)
    · refine r_iconst C (v := (nI 0)) dX11_rank_29 rfl ?_
      refine r_istore_n C (lv' := [(2, .int (nI 0)), (0, .ref (ad g 19)), (1, .int (nI e))]) 2 dX11_rank_30 rfl (by decide) rfl ?_
      refine r_iconst C (v := (nI 0)) dX11_rank_31 rfl ?_
      refine r_istore_n C (lv' := [(3, .int (nI 0)), (2, .int (nI 0)), (0, .ref (ad g 19)), (1, .int (nI e))]) 3 dX11_rank_32 rfl (by decide) rfl ?_
      refine r_iconst C (v := (nI 0)) dX11_rank_33 rfl ?_
      refine r_istore C (lv' := [(4, .int (nI 0)), (3, .int (nI 0)), (2, .int (nI 0)), (0, .ref (ad g 19)), (1, .int (nI e))]) 4 dX11_rank_34 (by decide) rfl ?_
      refine G_lv (lv' := [(4, .int (nI 0)), (3, .int (nI ((rkM e 0).2))), (2, .int (nI ((rkM e 0).1))), (0, .ref (ad g 19)), (1, .int (nI e))]) rfl ?_
      refine G_sub (lv' := [(4, .int (nI 0)), (2, .int (nI ((rkM e 0).1))), (3, .int (nI ((rkM e 0).2))), (0, .ref (ad g 19)), (1, .int (nI e))]) [0, 2, 1, 3, 4] rfl ?_
      exact lp_rankM C X (M := (sI μ 5 (nI 0))) he Rr 11 0 (by decide) (by decide)
    · exact absurd rfl h24
def urF (k : Nat) : Nat → Nat → Nat → Int32
  | 0, _, _ => -1
  | r + 1, s, d => if b10 s = k then (if d = 0 then nI s else urF k r (s + 1) (d - 1)) else urF k r (s + 1) d
set_option maxHeartbeats 1000000 in
set_option maxRecDepth 100000 in
theorem lp_unrankM {z : Zt} {A : Nat → Prop} {l : Launch} {g : Gd} (C : Cx z A l (rmk 1 22) cX11_unrank 5 "SetFamiliesModel") (X : Kx z g A) {M : Mm} {k ix : Nat} (hk10 : k ≤ 10) : ∀ (n_ : Nat) (s : Nat) (d : Nat), 1024 - s < n_ → s ≤ 1024 → d < 2 ^ 31 → Rx z g A (some .int) (some (.int (urF k (1024 - s) s d))) M → G z g.1 A 5 (wd g M) 0 0 37 [(4, .int (nI s)), (3, .int (nI d)), (0, .ref (ad g 19)), (1, .int (nI k)), (2, .int (nI ix))] [] := by
  intro n_
  induction n_ with
  | zero => intro s d hm_; exact absurd hm_ (Nat.not_lt_zero _)
  | succ n_ ih =>
    intro s d hm_ hs hd Rr
    refine r_iload C dX11_unrank_37 0 rfl ?_
    refine r_sipush C (v := (nI 1024)) dX11_unrank_39 (by decide) ?_
    refine r_icmp_ge C 70 dX11_unrank_42 (by decide) (nI_leI (by omega) (by omega)) (fun h42 => ?_) (fun h42 => ?_)
    · rw [show 1024 - s = 0 by omega, urF] at Rr
      refine r_iconst C (v := (-1)) dX11_unrank_70 rfl ?_
      exact r_iret C dX11_unrank_71 Rr
    · rw [show 1024 - s = (1024 - (s + 1)) + 1 by omega, urF] at Rr
      have hbl := b10_lt s
      refine r_iload C dX11_unrank_45 0 rfl ?_
      refine r_callP C (As := [.int (nI s)]) (rest := []) (st1 := [.int (nI (b10 s))]) miX11_bits msX11_bits (c_bits l (c := s) (by omega)) hw_5_123 rfl ⟨by decide, by decide, rfl, rfl, by decide, by decide⟩ rfl (Nat.le_of_ble_eq_true rfl) dX11_unrank_47 rfl ?_
      refine r_iload_n C dX11_unrank_50 3 rfl ?_
      refine r_icmp_ne C 64 dX11_unrank_51 (by decide) (not_congr (nI_eq (by omega) (by omega))) (fun h51 => ?_) (fun h51 => ?_)
      · rw [if_neg h51] at Rr
        refine r_iinc C (v := (nI (s + 1))) (lv' := [(4, .int (nI (s + 1))), (3, .int (nI d)), (0, .ref (ad g 19)), (1, .int (nI k)), (2, .int (nI ix))]) 4 0 dX11_unrank_64 rfl (inc_N _ 1) (by decide) rfl ?_
        refine r_goto C 37 dX11_unrank_67 (by decide) ?_
        exact ih (s + 1) d (by omega) (by omega) (by omega) Rr
      · rw [if_pos (Decidable.not_not.mp h51)] at Rr
        refine r_iload_n C dX11_unrank_54 1 rfl ?_
        refine r_if_ne C 61 dX11_unrank_55 (by decide) (zI_ne (by omega)) (fun h55 => ?_) (fun h55 => ?_)
        · rw [if_neg h55] at Rr
          obtain ⟨q, rfl⟩ : ∃ q, d = q + 1 := ⟨d - 1, by omega⟩
          rw [show q + 1 - 1 = q from rfl] at Rr
          refine r_iinc C (v := (nI q)) (lv' := [(3, .int (nI q)), (4, .int (nI s)), (0, .ref (ad g 19)), (1, .int (nI k)), (2, .int (nI ix))]) 3 1 dX11_unrank_61 rfl (pk_m1 _) (by decide) rfl ?_
          refine r_iinc C (v := (nI (s + 1))) (lv' := [(4, .int (nI (s + 1))), (3, .int (nI q)), (0, .ref (ad g 19)), (1, .int (nI k)), (2, .int (nI ix))]) 4 1 dX11_unrank_64 rfl (inc_N _ 1) (by decide) rfl ?_
          refine r_goto C 37 dX11_unrank_67 (by decide) ?_
          exact ih (s + 1) q (by omega) (by omega) (by omega) Rr
        · rw [if_pos (Decidable.not_not.mp h55)] at Rr
          refine r_iload C dX11_unrank_58 0 rfl ?_
          exact r_iret C dX11_unrank_60 Rr
set_option maxHeartbeats 1000000 in
set_option maxRecDepth 100000 in
theorem y_unrank (l : Launch) (g : Gd) (μ : Mm) {k ix : Nat} (hk10 : k ≤ 10) (hix : ix < 2 ^ 31) : Ct l yX11_unrank cX11_unrank 5 (some .int) (rmk 1 22) g [.ref (ad g 19), .int (nI k), .int (nI ix)] μ (some (.int (urF k 1024 0 ix))) (sI μ 5 (nI 0)) := by
  refine Ct.of (by decide) (Nat.le_of_ble_eq_true rfl) (fun z A C X Rr => ?_)
  refine r_aload_n C dX11_unrank_0 0 rfl ?_
  refine r_iload_n C dX11_unrank_1 1 rfl ?_
  refine r_iconst C (v := (nI 0)) dX11_unrank_2 rfl ?_
  refine r_bipush C (v := (nI 10)) dX11_unrank_3 (by decide) ?_
  refine r_callP C (As := [.int (nI k), .int (nI 0), .int (nI 10)]) (rest := [.ref (ad g 19)]) (st1 := [.int (bI (inI (nI k) (nI 0) (nI 10))), .ref (ad g 19)]) miX11_in msX11_in (c_in l (nI k) (nI 0) (nI 10)) hw_5_77 rfl ⟨by decide, by decide, rfl, rfl, by decide, by decide⟩ rfl (Nat.le_of_ble_eq_true rfl) dX11_unrank_5 rfl ?_
  refine G_top (y := (bI true)) (congrArg bI (inN (v := k) (Nat.zero_le _) hk10 (by decide))) ?_
  refine r_if_eq C 19 dX11_unrank_8 (by decide) (bI_eq _) (fun h8 => ?_) (fun h8 => ?_)
  · exact absurd h8 (by decide)
  · refine r_iload_n C dX11_unrank_11 2 rfl ?_
    refine r_if_lt C 19 dX11_unrank_12 (by decide) (zI_lt (by omega)) (fun h12 => ?_) (fun h12 => ?_)
    · exact h12.elim
    · refine r_iconst C (v := (nI 0)) dX11_unrank_15 rfl ?_
      refine r_goto C 20 dX11_unrank_16 (by decide) ?_
      refine r_put C X (μ' := (sI μ 5 (nI 0))) (k := 19) (R := RX11) (T := TX11) (N := 15) (n := 0) (v := .int (nI 0)) (ty := .int) (by decide) rfl rfl inw11 tyX11_ok nmX11 (by decide) rfl hw_5_18 rfl rfl rfl rfl (Nat.le_of_ble_eq_true rfl) dX11_unrank_20 (WF_sI5_at g _ _) (WF_sI5_ne g _ _) ?_
      refine r_aload_n C dX11_unrank_23 0 rfl ?_
      refine r_get C X (k := 19) (R := RX11) (T := TX11) (N := 15) (n := 0) (v := .int (gI (sI μ 5 (nI 0)) 5)) (by decide) rfl rfl inw11 (by decide) rfl hw_5_18 rfl dX11_unrank_24 ?_
      refine G_top (y := (nI 0)) (gI_s _ _ _) ?_
      refine r_if_le C 32 dX11_unrank_27 (by decide) (zI_le (by omega)) (fun h27 => ?_) (fun h27 => ?_)
      · refine r_iload_n C dX11_unrank_32 2 rfl ?_
        refine r_istore_n C (lv' := [(3, .int (nI ix)), (0, .ref (ad g 19)), (1, .int (nI k)), (2, .int (nI ix))]) 3 dX11_unrank_33 rfl (by decide) rfl ?_
        refine r_iconst C (v := (nI 0)) dX11_unrank_34 rfl ?_
        refine r_istore C (lv' := [(4, .int (nI 0)), (3, .int (nI ix)), (0, .ref (ad g 19)), (1, .int (nI k)), (2, .int (nI ix))]) 4 dX11_unrank_35 (by decide) rfl ?_
        exact lp_unrankM C X (M := (sI μ 5 (nI 0))) hk10 1025 0 ix (by decide) (by decide) hix Rr
      · exact absurd rfl h27
def csM (ix : Nat) : Nat → Nat → Nat → Int32
  | 0, _, _ => -1
  | i + 1, d, a => if d = 0 then -1 else if a = ix then nI (grt d (i + 1)) else csM ix i (d - ch (grt d (i + 1)) (i + 1)) (a + 1)
set_option maxHeartbeats 1000000 in
set_option maxRecDepth 100000 in
theorem lp_cascadeM {z : Zt} {A : Nat → Prop} {l : Launch} {g : Gd} (C : Cx z A l (rmk 2 46) cX11_cascade 8 "SetFamiliesModel") (X : Kx z g A) {M : Mm} {m k ix : Nat} (hix : ix < 2 ^ 31) : ∀ (n_ : Nat) (i : Nat) (a : Nat) (d : Nat), i < n_ → i ≤ 10 → a + i ≤ 10 → d ≤ 1000000 → Rx z g A (some .int) (some (.int (csM ix i d a))) M → G z g.1 A 8 (wd g M) 0 0 51 [(6, .int (nI i)), (5, .int (nI a)), (4, .int (nI d)), (0, .ref (ad g 19)), (1, .int (nI m)), (2, .int (nI k)), (3, .int (nI ix))] [] := by
  intro n_
  induction n_ with
  | zero => intro i a d hm_; exact absurd hm_ (Nat.not_lt_zero _)
  | succ n_ ih =>
    intro i a d hm_ hi10 hai hd6 Rr
    refine r_iload C dX11_cascade_51 0 rfl ?_
    refine r_if_le C 101 dX11_cascade_53 (by decide) (zI_le (by omega)) (fun h53 => ?_) (fun h53 => ?_)
    · subst h53
      rw [csM] at Rr
      refine r_iconst C (v := (-1)) dX11_cascade_101 rfl ?_
      exact r_iret C dX11_cascade_102 Rr
    · refine r_iload C dX11_cascade_56 2 rfl ?_
      refine r_if_le C 101 dX11_cascade_58 (by decide) (zI_le (by omega)) (fun h58 => ?_) (fun h58 => ?_)
      · obtain ⟨j, rfl⟩ : ∃ j, i = j + 1 := ⟨i - 1, by omega⟩
        rw [csM, if_pos h58] at Rr
        refine r_iconst C (v := (-1)) dX11_cascade_101 rfl ?_
        exact r_iret C dX11_cascade_102 Rr
      · obtain ⟨j, rfl⟩ : ∃ j, i = j + 1 := ⟨i - 1, by omega⟩
        rw [csM, if_neg h58] at Rr
        obtain ⟨g1, g2, g3⟩ := grt_ok (m := d) (i := j + 1) (by omega) (by omega) (by omega)
        refine r_iload C dX11_cascade_61 2 rfl ?_
        refine r_iload C dX11_cascade_63 0 rfl ?_
        refine r_callP C (As := [.int (nI d), .int (nI (j + 1))]) (rest := []) (st1 := [.int (nI (grt d (j + 1)))]) miX11_greatest msX11_greatest (c_greatest l (m := d) (k := (j + 1)) (by omega) (by omega) (by omega) (by omega)) hw_5_218 rfl ⟨by decide, by decide, rfl, rfl, by decide, by decide⟩ rfl (Nat.le_of_ble_eq_true rfl) dX11_cascade_65 rfl ?_
        refine r_istore C (lv' := [(7, .int (nI (grt d (j + 1)))), (6, .int (nI (j + 1))), (5, .int (nI a)), (4, .int (nI d)), (0, .ref (ad g 19)), (1, .int (nI m)), (2, .int (nI k)), (3, .int (nI ix))]) 7 dX11_cascade_68 (by decide) rfl ?_
        refine r_iload C dX11_cascade_70 2 rfl ?_
        refine r_iload_n C dX11_cascade_72 7 rfl ?_
        refine r_icmp_ne C 79 dX11_cascade_73 (by decide) (not_congr (nI_eq (by omega) (by omega))) (fun h73 => ?_) (fun h73 => ?_)
        · rw [if_neg h73] at Rr
          refine r_iload C dX11_cascade_79 3 rfl ?_
          refine r_iload C dX11_cascade_81 0 rfl ?_
          refine r_iload C dX11_cascade_83 1 rfl ?_
          refine r_callP C (As := [.int (nI (grt d (j + 1))), .int (nI (j + 1))]) (rest := [.int (nI d)]) (st1 := [.long (lN (ch (grt d (j + 1)) (j + 1))), .int (nI d)]) miX11_over msX11_over (c_over l (a := grt d (j + 1)) (b := (j + 1)) (by omega) (by omega) (ov_le (by omega) (by omega) (by omega))) hw_5_202 rfl ⟨by decide, by decide, rfl, rfl, by decide, by decide⟩ rfl (Nat.le_of_ble_eq_true rfl) dX11_cascade_85 rfl ?_
          refine r_l2i C (v := (nI (ch (grt d (j + 1)) (j + 1)))) dX11_cascade_88 (lN_i _) ?_
          refine r_isub C (v := (nI (d - (ch (grt d (j + 1)) (j + 1))))) dX11_cascade_89 (pk_sub (by omega)) ?_
          refine r_istore C (lv' := [(4, .int (nI (d - (ch (grt d (j + 1)) (j + 1))))), (7, .int (nI (grt d (j + 1)))), (6, .int (nI (j + 1))), (5, .int (nI a)), (0, .ref (ad g 19)), (1, .int (nI m)), (2, .int (nI k)), (3, .int (nI ix))]) 4 dX11_cascade_90 (by decide) rfl ?_
          refine r_iinc C (v := (nI (a + 1))) (lv' := [(5, .int (nI (a + 1))), (4, .int (nI (d - (ch (grt d (j + 1)) (j + 1))))), (7, .int (nI (grt d (j + 1)))), (6, .int (nI (j + 1))), (0, .ref (ad g 19)), (1, .int (nI m)), (2, .int (nI k)), (3, .int (nI ix))]) 5 3 dX11_cascade_92 rfl (inc_N _ 1) (by decide) rfl ?_
          refine r_iinc C (v := (nI j)) (lv' := [(6, .int (nI j)), (5, .int (nI (a + 1))), (4, .int (nI (d - (ch (grt d (j + 1)) (j + 1))))), (7, .int (nI (grt d (j + 1)))), (0, .ref (ad g 19)), (1, .int (nI m)), (2, .int (nI k)), (3, .int (nI ix))]) 6 3 dX11_cascade_95 rfl (pk_m1 _) (by decide) rfl ?_
          refine r_goto C 51 dX11_cascade_98 (by decide) ?_
          refine G_sub (lv' := [(6, .int (nI j)), (5, .int (nI (a + 1))), (4, .int (nI (d - (ch (grt d (j + 1)) (j + 1))))), (0, .ref (ad g 19)), (1, .int (nI m)), (2, .int (nI k)), (3, .int (nI ix))]) [0, 1, 2, 4, 5, 6, 7] rfl ?_
          exact ih j (a + 1) (d - ch (grt d (j + 1)) (j + 1)) (by omega) (by omega) (by omega) (by omega) Rr
        · rw [if_pos (Decidable.not_not.mp h73)] at Rr
          refine r_iload C dX11_cascade_76 0 rfl ?_
          exact r_iret C dX11_cascade_78 Rr
set_option maxHeartbeats 1000000 in
set_option maxRecDepth 100000 in
theorem y_cascade (l : Launch) (g : Gd) (μ : Mm) {m k ix : Nat} (hm1 : 1 ≤ m) (hm : m ≤ 1000000) (hk : 1 ≤ k) (hk10 : k ≤ 10) (hix : ix < 2 ^ 31) : Ct l yX11_cascade cX11_cascade 8 (some .int) (rmk 2 46) g [.ref (ad g 19), .int (nI m), .int (nI k), .int (nI ix)] μ (some (.int (csM ix k m 0))) (sI μ 5 (nI 0)) := by
  refine Ct.of (by decide) (Nat.le_of_ble_eq_true rfl) (fun z A C X Rr => ?_)
  refine r_aload_n C dX11_cascade_0 0 rfl ?_
  refine r_iload_n C dX11_cascade_1 1 rfl ?_
  refine r_iconst C (v := (nI 1)) dX11_cascade_2 rfl ?_
  refine r_ldc C dX11_cascade_3 hw_5_217 ?_
  refine G_top (y := (nI 1000000)) (by decide) ?_
  refine r_callP C (As := [.int (nI m), .int (nI 1), .int (nI 1000000)]) (rest := [.ref (ad g 19)]) (st1 := [.int (bI (inI (nI m) (nI 1) (nI 1000000))), .ref (ad g 19)]) miX11_in msX11_in (c_in l (nI m) (nI 1) (nI 1000000)) hw_5_77 rfl ⟨by decide, by decide, rfl, rfl, by decide, by decide⟩ rfl (Nat.le_of_ble_eq_true rfl) dX11_cascade_5 rfl ?_
  refine G_top (y := (bI true)) (congrArg bI (inN (v := m) hm1 hm (by decide))) ?_
  refine r_if_eq C 29 dX11_cascade_8 (by decide) (bI_eq _) (fun h8 => ?_) (fun h8 => ?_)
  · exact absurd h8 (by decide)
  · refine r_iload_n C dX11_cascade_11 2 rfl ?_
    refine r_iconst C (v := (nI 1)) dX11_cascade_12 rfl ?_
    refine r_bipush C (v := (nI 10)) dX11_cascade_13 (by decide) ?_
    refine r_callP C (As := [.int (nI k), .int (nI 1), .int (nI 10)]) (rest := [.ref (ad g 19)]) (st1 := [.int (bI (inI (nI k) (nI 1) (nI 10))), .ref (ad g 19)]) miX11_in msX11_in (c_in l (nI k) (nI 1) (nI 10)) hw_5_77 rfl ⟨by decide, by decide, rfl, rfl, by decide, by decide⟩ rfl (Nat.le_of_ble_eq_true rfl) dX11_cascade_15 rfl ?_
    refine G_top (y := (bI true)) (congrArg bI (inN (v := k) hk hk10 (by decide))) ?_
    refine r_if_eq C 29 dX11_cascade_18 (by decide) (bI_eq _) (fun h18 => ?_) (fun h18 => ?_)
    · exact absurd h18 (by decide)
    · refine r_iload_n C dX11_cascade_21 3 rfl ?_
      refine r_if_lt C 29 dX11_cascade_22 (by decide) (zI_lt (by omega)) (fun h22 => ?_) (fun h22 => ?_)
      · exact h22.elim
      · refine r_iconst C (v := (nI 0)) dX11_cascade_25 rfl ?_
        refine r_goto C 30 dX11_cascade_26 (by decide) ?_
        refine r_put C X (μ' := (sI μ 5 (nI 0))) (k := 19) (R := RX11) (T := TX11) (N := 15) (n := 0) (v := .int (nI 0)) (ty := .int) (by decide) rfl rfl inw11 tyX11_ok nmX11 (by decide) rfl hw_5_18 rfl rfl rfl rfl (Nat.le_of_ble_eq_true rfl) dX11_cascade_30 (WF_sI5_at g _ _) (WF_sI5_ne g _ _) ?_
        refine r_aload_n C dX11_cascade_33 0 rfl ?_
        refine r_get C X (k := 19) (R := RX11) (T := TX11) (N := 15) (n := 0) (v := .int (gI (sI μ 5 (nI 0)) 5)) (by decide) rfl rfl inw11 (by decide) rfl hw_5_18 rfl dX11_cascade_34 ?_
        refine G_top (y := (nI 0)) (gI_s _ _ _) ?_
        refine r_if_le C 42 dX11_cascade_37 (by decide) (zI_le (by omega)) (fun h37 => ?_) (fun h37 => ?_)
        · refine r_iload_n C dX11_cascade_42 1 rfl ?_
          refine r_istore C (lv' := [(4, .int (nI m)), (0, .ref (ad g 19)), (1, .int (nI m)), (2, .int (nI k)), (3, .int (nI ix))]) 4 dX11_cascade_43 (by decide) rfl ?_
          refine r_iconst C (v := (nI 0)) dX11_cascade_45 rfl ?_
          refine r_istore C (lv' := [(5, .int (nI 0)), (4, .int (nI m)), (0, .ref (ad g 19)), (1, .int (nI m)), (2, .int (nI k)), (3, .int (nI ix))]) 5 dX11_cascade_46 (by decide) rfl ?_
          refine r_iload_n C dX11_cascade_48 4 rfl ?_
          refine r_istore C (lv' := [(6, .int (nI k)), (5, .int (nI 0)), (4, .int (nI m)), (0, .ref (ad g 19)), (1, .int (nI m)), (2, .int (nI k)), (3, .int (nI ix))]) 6 dX11_cascade_49 (by decide) rfl ?_
          exact lp_cascadeM C X (M := (sI μ 5 (nI 0))) hix (k + 1) k 0 m (by omega) (by omega) (by omega) (by omega) Rr
        · exact absurd rfl h37
