/-- the component's segment: r codes are left to look at, from c on -/
def sgQ (k : Nat) : Nat → Nat → Nat → Int32 → Mm → Mm × Int32
  | 0, _, _, last, M => (M, last)
  | r + 1, c, left, last, M => if left = 0 then (M, last) else if pN c = k then sgQ k r (c + 1) (left - 1) (nI c) (mPut M 50 c) else sgQ k r (c + 1) left last M
theorem gI_sgQ {k q : Nat} : ∀ (r c left : Nat) (last : Int32) (M : Mm), gI (sgQ k r c left last M).1 q = gI M q
  | 0, _, _, _, _ => rfl
  | r + 1, c, left, last, M => by
    rw [sgQ]
    split
    · rfl
    · split
      · exact (gI_sgQ _ _ _ _ _).trans gI_mPut
      · exact gI_sgQ _ _ _ _ _
theorem ch_seg {n k : Nat} (h : n ≤ 10) : ch n k < 2 ^ 31 := by
  by_cases hk : k ≤ n
  · have h1 : ∀ a, a < 11 → ∀ b, b < 11 → ch a b < 2 ^ 31 := by decide +kernel
    exact h1 n (by omega) k (by omega)
  · exact Nat.lt_of_le_of_lt (Nat.le_of_eq (ch_gt (by omega))) (by decide)
set_option maxHeartbeats 1000000 in
set_option maxRecDepth 100000 in
theorem lp_segment {z : Zt} {A : Nat → Prop} {l : Launch} {g : Gd} (C : Cx z A l (rmk 4 105) cX10_segment 7 "SetFamilies") (X : Kx z g A) {n nw p d pl k m : Nat} (hp4 : p < 4) (hd4 : d ≤ 4) (hn10 : n ≤ 10) (hnw : nw ≤ 16) (hs : ∀ e, e < n → 6 ≤ e → 2 ^ (e - 6) ≤ nw) (h1n : 1 ≤ n) (hpl : pl < 4) (hk : k ≤ 10) : ∀ (n_ : Nat) (c lf : Nat) (last : Int32) (M : Mm), 2 ^ n - c < n_ → c ≤ 2 ^ n → lf < 2 ^ 31 → gI M 0 = nI n → gI M 1 = nI nw → gI M 2 = nI d → gI M 3 = nI p → Rx z g A (some .int) (some (.int (sgQ k (2 ^ n - c) c lf last M).2)) (mLayP (sgQ k (2 ^ n - c) c lf last M).1 p d n (0 + pl)) → G z g.1 A 7 (wd g M) 0 0 49 [(6, .int (nI c)), (5, .int (nI lf)), (4, .int last), (0, .ref (ad g 0)), (1, .int (nI pl)), (2, .int (nI k)), (3, .int (nI m))] [] := by
  intro n_
  induction n_ with
  | zero => intro c lf last M hm_; exact absurd hm_ (Nat.not_lt_zero _)
  | succ n_ ih =>
    intro c lf last M hm_ hc hlf hn hw h2 h3 Rr
    have h1024 := pw10 hn10
    have h2n := Nat.two_pow_pos n
    refine r_iload C dX10_segment_49 0 rfl ?_
    refine r_aload_n C dX10_segment_51 3 rfl ?_
    refine r_get C X (k := 0) (R := RX10) (T := TX10) (N := 12) (n := 0) (v := .ref (ad g 1)) (by decide) rfl rfl inw10 (by decide) rfl hw_1_208 rfl dX10_segment_52 ?_
    refine r_callV C X (As := []) (rest := [.int (nI c)]) (st1 := [.int (nI (2 ^ n - 1)), .int (nI c)]) (μ' := M) (k := 1) (T := TX4) miX4_everything mvX4_everything (c_everything l g M (n := n) hn (by omega)) hw_3_200 (by decide) rfl rfl rfl ⟨by decide, by decide, rfl, rfl, by decide, by decide⟩ rfl (Nat.le_of_ble_eq_true rfl) dX10_segment_55 rfl ?_
    refine r_icmp_gt C 97 dX10_segment_58 (by decide) (nI_ltI (by omega) (by omega)) (fun h58 => ?_) (fun h58 => ?_)
    · have hc2 : 2 ^ n = c := by omega
      rw [hc2, Nat.sub_self, sgQ] at Rr
      refine r_aload_n C dX10_segment_97 3 rfl ?_
      refine r_iload_n C dX10_segment_98 4 rfl ?_
      refine r_callV C X (As := [.int (nI pl)]) (rest := []) (st1 := [.int (nI (ct (mLayP M p d n (0 + pl)) nw 50))]) (μ' := (mLayP M p d n (0 + pl))) (k := 0) (T := TX10) miX10_lay mvX10_lay (c_layP l g M (n := n) (nw := nw) (p := p) (d := d) (pl := pl) ⟨hn, hw, hn10, hnw, hs, h1n⟩ ⟨h2, h3, hp4, hd4⟩ (by omega)) hw_4_28 (by decide) rfl rfl rfl ⟨by decide, by decide, rfl, rfl, by decide, by decide⟩ rfl (Nat.le_of_ble_eq_true rfl) dX10_segment_99 rfl ?_
      refine r_pop C dX10_segment_102 rfl ?_
      refine r_iload C dX10_segment_103 2 rfl ?_
      exact r_iret C dX10_segment_105 Rr
    · rw [show 2 ^ n - c = (2 ^ n - (c + 1)) + 1 by omega, sgQ] at Rr
      refine r_iload C dX10_segment_61 1 rfl ?_
      refine r_if_le C 97 dX10_segment_63 (by decide) (zI_le (by omega)) (fun h63 => ?_) (fun h63 => ?_)
      · rw [if_pos (by omega)] at Rr
        refine r_aload_n C dX10_segment_97 3 rfl ?_
        refine r_iload_n C dX10_segment_98 4 rfl ?_
        refine r_callV C X (As := [.int (nI pl)]) (rest := []) (st1 := [.int (nI (ct (mLayP M p d n (0 + pl)) nw 50))]) (μ' := (mLayP M p d n (0 + pl))) (k := 0) (T := TX10) miX10_lay mvX10_lay (c_layP l g M (n := n) (nw := nw) (p := p) (d := d) (pl := pl) ⟨hn, hw, hn10, hnw, hs, h1n⟩ ⟨h2, h3, hp4, hd4⟩ (by omega)) hw_4_28 (by decide) rfl rfl rfl ⟨by decide, by decide, rfl, rfl, by decide, by decide⟩ rfl (Nat.le_of_ble_eq_true rfl) dX10_segment_99 rfl ?_
        refine r_pop C dX10_segment_102 rfl ?_
        refine r_iload C dX10_segment_103 2 rfl ?_
        exact r_iret C dX10_segment_105 Rr
      · rw [if_neg (by omega)] at Rr
        refine r_iload C dX10_segment_66 0 rfl ?_
        refine r_callP C (As := [.int (nI c)]) (rest := []) (st1 := [.int (nI (pN c))]) miJ6_bitCount_0f7a4 msJ6_bitCount_0f7a4 (c_bitCountI l (n := c) (by omega)) hw_3_5 rfl ⟨by decide, by decide, rfl, rfl, by decide, by decide⟩ rfl (Nat.le_of_ble_eq_true rfl) dX10_segment_68 rfl ?_
        have hpn := pN_le c
        refine r_iload_n C dX10_segment_71 5 rfl ?_
        refine r_icmp_ne C 91 dX10_segment_72 (by decide) (not_congr (nI_eq (by omega) (by omega))) (fun h72 => ?_) (fun h72 => ?_)
        · rw [if_neg h72] at Rr
          refine r_iinc C (v := (nI (c + 1))) (lv' := [(6, .int (nI (c + 1))), (5, .int (nI lf)), (4, .int last), (0, .ref (ad g 0)), (1, .int (nI pl)), (2, .int (nI k)), (3, .int (nI m))]) 6 0 dX10_segment_91 rfl (inc_N _ 1) (by decide) rfl ?_
          refine r_goto C 49 dX10_segment_94 (by decide) ?_
          exact ih (c + 1) lf last M (by omega) (by omega) (by omega) hn hw h2 h3 Rr
        · rw [if_pos (Decidable.not_not.mp h72)] at Rr
          refine r_aload_n C dX10_segment_75 3 rfl ?_
          refine r_get C X (k := 0) (R := RX10) (T := TX10) (N := 12) (n := 10) (v := .ref (ad g (fo 50))) (by decide) rfl rfl inw10 (by decide) rfl hw_1_218 rfl dX10_segment_76 ?_
          refine r_iload C dX10_segment_79 0 rfl ?_
          refine r_callV C X (As := [.int (nI c)]) (rest := []) (st1 := []) (μ' := (mPut M 50 c)) (k := (fo 50)) (T := TX3) miX3_put mvX3_put (c_put l g M (i := 50) (c := c) (by omega) (by omega)) hw_3_202 (fo_lt (by omega)) (WF_fo g _ 50) rfl rfl ⟨by decide, by decide, rfl, rfl, by decide, by decide⟩ rfl (Nat.le_of_ble_eq_true rfl) dX10_segment_81 rfl ?_
          refine r_iload C dX10_segment_84 0 rfl ?_
          refine r_istore C (lv' := [(4, .int (nI c)), (6, .int (nI c)), (5, .int (nI lf)), (0, .ref (ad g 0)), (1, .int (nI pl)), (2, .int (nI k)), (3, .int (nI m))]) 4 dX10_segment_86 (by decide) rfl ?_
          refine r_iinc C (v := (nI (lf - 1))) (lv' := [(5, .int (nI (lf - 1))), (4, .int (nI c)), (6, .int (nI c)), (0, .ref (ad g 0)), (1, .int (nI pl)), (2, .int (nI k)), (3, .int (nI m))]) 5 2 dX10_segment_88 rfl (dec1 (by omega)) (by decide) rfl ?_
          refine r_iinc C (v := (nI (c + 1))) (lv' := [(6, .int (nI (c + 1))), (5, .int (nI (lf - 1))), (4, .int (nI c)), (0, .ref (ad g 0)), (1, .int (nI pl)), (2, .int (nI k)), (3, .int (nI m))]) 6 2 dX10_segment_91 rfl (inc_N _ 1) (by decide) rfl ?_
          refine r_goto C 49 dX10_segment_94 (by decide) ?_
          exact ih (c + 1) (lf - 1) (nI c) (mPut M 50 c) (by omega) (by omega) (by omega) (gI_mPut.trans hn) (gI_mPut.trans hw) (gI_mPut.trans h2) (gI_mPut.trans h3) Rr
set_option maxHeartbeats 1000000 in
set_option maxRecDepth 100000 in
theorem y_segmentC (l : Launch) (g : Gd) (μ : Mm) {n nw p d pl k m : Nat} (hO : Ok μ n nw) (hH : Ok2 μ p d) (hpl : pl < 4) (hk : k ≤ n) (hm : m ≤ ch n k) : Ct l yX10_segment cX10_segment 7 (some .int) (rmk 4 105) g [.ref (ad g 0), .int (nI pl), .int (nI k), .int (nI m)] μ (some (.int ((sgQ k (2 ^ n) 0 m (-1) (mClr μ 50)).2))) (mLayP (sgQ k (2 ^ n) 0 m (-1) (mClr μ 50)).1 p d n (0 + pl)) := by
  obtain ⟨hn, hw, hn10, hnw, hs, h1n⟩ := hO
  obtain ⟨h2, h3, hp4, hd4⟩ := hH
  have h1024 := pw10 hn10
  have h2n := Nat.two_pow_pos n
  refine Ct.of (by decide) (Nat.le_of_ble_eq_true rfl) (fun z A C X Rr => ?_)
  refine r_iload_n C dX10_segment_0 1 rfl ?_
  refine r_callP C (As := [.int (nI pl)]) (rest := []) (st1 := []) miX10_checkFamily msX10_checkFamily (y_checkFamily l (f := pl) (by omega)) hw_3_177 rfl ⟨by decide, by decide, rfl, rfl, by decide, by decide⟩ rfl (Nat.le_of_ble_eq_true rfl) dX10_segment_1 rfl ?_
  refine r_iload_n C dX10_segment_4 2 rfl ?_
  refine r_iconst C (v := (nI 0)) dX10_segment_5 rfl ?_
  refine r_aload_n C dX10_segment_6 0 rfl ?_
  refine r_get C X (k := 0) (R := RX10) (T := TX10) (N := 12) (n := 0) (v := .ref (ad g 1)) (by decide) rfl rfl inw10 (by decide) rfl hw_1_208 rfl dX10_segment_7 ?_
  refine r_get C X (k := 1) (R := RX4) (T := TX4) (N := 2) (n := 0) (v := .int (gI μ 0)) (by decide) rfl rfl inw4 (by decide) rfl hw_1_42 rfl dX10_segment_10 ?_
  refine G_top (y := (nI n)) hn ?_
  refine r_callP C (As := [.int (nI k), .int (nI 0), .int (nI n)]) (rest := []) (st1 := []) miX10_checkRange msX10_checkRange (y_checkRange l (v := (nI k)) (a := (nI 0)) (b := (nI n)) ((nI_leI (by omega) (by omega)).mpr (by omega)) ((nI_leI (by omega) (by omega)).mpr (by omega))) hw_3_88 rfl ⟨by decide, by decide, rfl, rfl, by decide, by decide⟩ rfl (Nat.le_of_ble_eq_true rfl) dX10_segment_13 rfl ?_
  refine r_iload_n C dX10_segment_16 3 rfl ?_
  refine r_iconst C (v := (nI 0)) dX10_segment_17 rfl ?_
  refine r_aload_n C dX10_segment_18 0 rfl ?_
  refine r_get C X (k := 0) (R := RX10) (T := TX10) (N := 12) (n := 0) (v := .ref (ad g 1)) (by decide) rfl rfl inw10 (by decide) rfl hw_1_208 rfl dX10_segment_19 ?_
  refine r_get C X (k := 1) (R := RX4) (T := TX4) (N := 2) (n := 0) (v := .int (gI μ 0)) (by decide) rfl rfl inw4 (by decide) rfl hw_1_42 rfl dX10_segment_22 ?_
  refine G_top (y := (nI n)) hn ?_
  refine r_iload_n C dX10_segment_25 2 rfl ?_
  have hch := ch_seg (n := n) (k := k) hn10
  refine r_callP C (As := [.int (nI n), .int (nI k)]) (rest := [.int (nI 0), .int (nI m)]) (st1 := [.long (lN (ch n k)), .int (nI 0), .int (nI m)]) miX0_binomial msX0_binomial (c_binomial l (a := n) (b := k) (by omega) (by omega) (by omega)) hw_2_186 rfl ⟨by decide, by decide, rfl, rfl, by decide, by decide⟩ rfl (Nat.le_of_ble_eq_true rfl) dX10_segment_26 rfl ?_
  refine r_l2i C (v := (nI (ch n k))) dX10_segment_29 (lN_i _) ?_
  refine r_callP C (As := [.int (nI m), .int (nI 0), .int (nI (ch n k))]) (rest := []) (st1 := []) miX10_checkRange msX10_checkRange (y_checkRange l (v := (nI m)) (a := (nI 0)) (b := (nI (ch n k))) ((nI_leI (by omega) (by omega)).mpr (by omega)) ((nI_leI (by omega) (by omega)).mpr (by omega))) hw_3_88 rfl ⟨by decide, by decide, rfl, rfl, by decide, by decide⟩ rfl (Nat.le_of_ble_eq_true rfl) dX10_segment_30 rfl ?_
  refine r_iconst C (v := (-1)) dX10_segment_33 rfl ?_
  refine r_istore C (lv' := [(4, .int (-1)), (0, .ref (ad g 0)), (1, .int (nI pl)), (2, .int (nI k)), (3, .int (nI m))]) 4 dX10_segment_34 (by decide) rfl ?_
  refine r_iload_n C dX10_segment_36 4 rfl ?_
  refine r_istore C (lv' := [(5, .int (nI m)), (4, .int (-1)), (0, .ref (ad g 0)), (1, .int (nI pl)), (2, .int (nI k)), (3, .int (nI m))]) 5 dX10_segment_37 (by decide) rfl ?_
  refine r_aload_n C dX10_segment_39 2 rfl ?_
  refine r_get C X (k := 0) (R := RX10) (T := TX10) (N := 12) (n := 10) (v := .ref (ad g (fo 50))) (by decide) rfl rfl inw10 (by decide) rfl hw_1_218 rfl dX10_segment_40 ?_
  refine r_callV C X (As := []) (rest := []) (st1 := []) (μ' := (mClr μ 50)) (k := (fo 50)) (T := TX3) miX3_clear mvX3_clear (c_clear l g μ (i := 50) (by omega)) hw_3_168 (fo_lt (by omega)) (WF_fo g _ 50) rfl rfl ⟨by decide, by decide, rfl, rfl, by decide, by decide⟩ rfl (Nat.le_of_ble_eq_true rfl) dX10_segment_43 rfl ?_
  refine r_iconst C (v := (nI 0)) dX10_segment_46 rfl ?_
  refine r_istore C (lv' := [(6, .int (nI 0)), (5, .int (nI m)), (4, .int (-1)), (0, .ref (ad g 0)), (1, .int (nI pl)), (2, .int (nI k)), (3, .int (nI m))]) 6 dX10_segment_47 (by decide) rfl ?_
  exact lp_segment C X hp4 hd4 hn10 hnw hs h1n hpl (by omega) (2 ^ n + 1) 0 m (-1) (mClr μ 50) (by omega) (by omega) (by omega) (gI_mClr.trans hn) (gI_mClr.trans hw) (gI_mClr.trans h2) (gI_mClr.trans h3) Rr
set_option maxHeartbeats 1000000 in
set_option maxRecDepth 100000 in
theorem y_readC1 (l : Launch) (g : Gd) (μ : Mm) {n nw p d f tl : Nat} {tb : Nat → Nat} (hO : Ok μ n nw) (hH : Ok2 μ p d) (hf : f < 4) (h4 : gI μ 4 = nI tl) (htl : tl ≤ 120) (hb : ∀ i, i < tl → gA μ 1 i = nI (tb i) ∧ tb i < 128) (hq : (psF 50 n tl tb tl 0 0 0 false (mClr μ 50)).2 = -1) : Ct l yX10_read cX10_read 3 (some .int) (rmk 4 105) g [.ref (ad g 0), .int (nI f)] μ (some (.int (nI (ct (mLayP ((psF 50 n tl tb tl 0 0 0 false (mClr μ 50)).1) p d n (0 + f)) nw 50)))) (mLayP ((psF 50 n tl tb tl 0 0 0 false (mClr μ 50)).1) p d n (0 + f)) := by
  obtain ⟨hn, hw, hn10, hnw, hs, h1n⟩ := hO
  obtain ⟨h2, h3, hp4, hd4⟩ := hH
  have h1024 := pw10 hn10
  have h2n := Nat.two_pow_pos n
  refine Ct.of (by decide) (Nat.le_of_ble_eq_true rfl) (fun z A C X Rr => ?_)
  refine r_iload_n C dX10_read_0 1 rfl ?_
  refine r_callP C (As := [.int (nI f)]) (rest := []) (st1 := []) miX10_checkFamily msX10_checkFamily (y_checkFamily l (f := f) (by omega)) hw_3_177 rfl ⟨by decide, by decide, rfl, rfl, by decide, by decide⟩ rfl (Nat.le_of_ble_eq_true rfl) dX10_read_1 rfl ?_
  refine r_aload_n C dX10_read_4 0 rfl ?_
  refine r_get C X (k := 0) (R := RX10) (T := TX10) (N := 12) (n := 3) (v := .ref (ad g 6)) (by decide) rfl rfl inw10 (by decide) rfl hw_1_211 rfl dX10_read_5 ?_
  refine r_aload_n C dX10_read_8 0 rfl ?_
  refine r_get C X (k := 0) (R := RX10) (T := TX10) (N := 12) (n := 10) (v := .ref (ad g (fo 50))) (by decide) rfl rfl inw10 (by decide) rfl hw_1_218 rfl dX10_read_9 ?_
  refine r_aload_n C dX10_read_12 0 rfl ?_
  refine r_get C X (k := 0) (R := RX10) (T := TX10) (N := 12) (n := 0) (v := .ref (ad g 1)) (by decide) rfl rfl inw10 (by decide) rfl hw_1_208 rfl dX10_read_13 ?_
  refine r_get C X (k := 1) (R := RX4) (T := TX4) (N := 2) (n := 0) (v := .int (gI μ 0)) (by decide) rfl rfl inw4 (by decide) rfl hw_1_42 rfl dX10_read_16 ?_
  refine G_top (y := (nI n)) hn ?_
  refine r_callV C X (As := [.ref (ad g (fo 50)), .int (nI n)]) (rest := []) (st1 := [.int ((psF 50 n tl tb tl 0 0 0 false (mClr μ 50)).2)]) (μ' := ((psF 50 n tl tb tl 0 0 0 false (mClr μ 50)).1)) (k := 6) (T := TX9) miX9_parse mvX9_parse (c_parse l g μ (n := n) (t := 50) (tl := tl) (tb := tb) h4 htl hn10 (by decide) hb) hw_4_233 (by decide) rfl rfl rfl ⟨by decide, by decide, rfl, rfl, by decide, by decide⟩ rfl (Nat.le_of_ble_eq_true rfl) dX10_read_19 rfl ?_
  refine r_istore_n C (lv' := [(2, .int ((psF 50 n tl tb tl 0 0 0 false (mClr μ 50)).2)), (0, .ref (ad g 0)), (1, .int (nI f))]) 2 dX10_read_22 rfl (by decide) rfl ?_
  refine r_iload_n C dX10_read_23 0 rfl ?_
  refine r_iconst C (v := (-1)) dX10_read_24 rfl ?_
  refine r_icmp_ne C 36 dX10_read_25 (by decide) Iff.rfl (fun h25 => ?_) (fun h25 => ?_)
  · exact absurd hq h25
  · refine r_aload_n C dX10_read_28 1 rfl ?_
    refine r_iload_n C dX10_read_29 2 rfl ?_
    refine r_callV C X (As := [.int (nI f)]) (rest := []) (st1 := [.int (nI (ct (mLayP ((psF 50 n tl tb tl 0 0 0 false (mClr μ 50)).1) p d n (0 + f)) nw 50))]) (μ' := (mLayP ((psF 50 n tl tb tl 0 0 0 false (mClr μ 50)).1) p d n (0 + f))) (k := 0) (T := TX10) miX10_lay mvX10_lay (c_layP l g ((psF 50 n tl tb tl 0 0 0 false (mClr μ 50)).1) (n := n) (nw := nw) (p := p) (d := d) (pl := f) ⟨((gI_psF _ _ _ _ _ _).trans (gI_mClr.trans hn)), ((gI_psF _ _ _ _ _ _).trans (gI_mClr.trans hw)), hn10, hnw, hs, h1n⟩ ⟨((gI_psF _ _ _ _ _ _).trans (gI_mClr.trans h2)), ((gI_psF _ _ _ _ _ _).trans (gI_mClr.trans h3)), hp4, hd4⟩ (by omega)) hw_4_28 (by decide) rfl rfl rfl ⟨by decide, by decide, rfl, rfl, by decide, by decide⟩ rfl (Nat.le_of_ble_eq_true rfl) dX10_read_30 rfl ?_
    refine r_goto C 40 dX10_read_33 (by decide) ?_
    exact r_iret C dX10_read_40 Rr
set_option maxHeartbeats 1000000 in
set_option maxRecDepth 100000 in
theorem y_readC2 (l : Launch) (g : Gd) (μ : Mm) {n nw p d f tl : Nat} {tb : Nat → Nat} (hO : Ok μ n nw) (hH : Ok2 μ p d) (hf : f < 4) (h4 : gI μ 4 = nI tl) (htl : tl ≤ 120) (hb : ∀ i, i < tl → gA μ 1 i = nI (tb i) ∧ tb i < 128) (hq : ¬ (psF 50 n tl tb tl 0 0 0 false (mClr μ 50)).2 = -1) : Ct l yX10_read cX10_read 3 (some .int) (rmk 4 105) g [.ref (ad g 0), .int (nI f)] μ (some (.int ((-10) - ((psF 50 n tl tb tl 0 0 0 false (mClr μ 50)).2)))) ((psF 50 n tl tb tl 0 0 0 false (mClr μ 50)).1) := by
  obtain ⟨hn, hw, hn10, hnw, hs, h1n⟩ := hO
  obtain ⟨h2, h3, hp4, hd4⟩ := hH
  have h1024 := pw10 hn10
  have h2n := Nat.two_pow_pos n
  refine Ct.of (by decide) (Nat.le_of_ble_eq_true rfl) (fun z A C X Rr => ?_)
  refine r_iload_n C dX10_read_0 1 rfl ?_
  refine r_callP C (As := [.int (nI f)]) (rest := []) (st1 := []) miX10_checkFamily msX10_checkFamily (y_checkFamily l (f := f) (by omega)) hw_3_177 rfl ⟨by decide, by decide, rfl, rfl, by decide, by decide⟩ rfl (Nat.le_of_ble_eq_true rfl) dX10_read_1 rfl ?_
  refine r_aload_n C dX10_read_4 0 rfl ?_
  refine r_get C X (k := 0) (R := RX10) (T := TX10) (N := 12) (n := 3) (v := .ref (ad g 6)) (by decide) rfl rfl inw10 (by decide) rfl hw_1_211 rfl dX10_read_5 ?_
  refine r_aload_n C dX10_read_8 0 rfl ?_
  refine r_get C X (k := 0) (R := RX10) (T := TX10) (N := 12) (n := 10) (v := .ref (ad g (fo 50))) (by decide) rfl rfl inw10 (by decide) rfl hw_1_218 rfl dX10_read_9 ?_
  refine r_aload_n C dX10_read_12 0 rfl ?_
  refine r_get C X (k := 0) (R := RX10) (T := TX10) (N := 12) (n := 0) (v := .ref (ad g 1)) (by decide) rfl rfl inw10 (by decide) rfl hw_1_208 rfl dX10_read_13 ?_
  refine r_get C X (k := 1) (R := RX4) (T := TX4) (N := 2) (n := 0) (v := .int (gI μ 0)) (by decide) rfl rfl inw4 (by decide) rfl hw_1_42 rfl dX10_read_16 ?_
  refine G_top (y := (nI n)) hn ?_
  refine r_callV C X (As := [.ref (ad g (fo 50)), .int (nI n)]) (rest := []) (st1 := [.int ((psF 50 n tl tb tl 0 0 0 false (mClr μ 50)).2)]) (μ' := ((psF 50 n tl tb tl 0 0 0 false (mClr μ 50)).1)) (k := 6) (T := TX9) miX9_parse mvX9_parse (c_parse l g μ (n := n) (t := 50) (tl := tl) (tb := tb) h4 htl hn10 (by decide) hb) hw_4_233 (by decide) rfl rfl rfl ⟨by decide, by decide, rfl, rfl, by decide, by decide⟩ rfl (Nat.le_of_ble_eq_true rfl) dX10_read_19 rfl ?_
  refine r_istore_n C (lv' := [(2, .int ((psF 50 n tl tb tl 0 0 0 false (mClr μ 50)).2)), (0, .ref (ad g 0)), (1, .int (nI f))]) 2 dX10_read_22 rfl (by decide) rfl ?_
  refine r_iload_n C dX10_read_23 0 rfl ?_
  refine r_iconst C (v := (-1)) dX10_read_24 rfl ?_
  refine r_icmp_ne C 36 dX10_read_25 (by decide) Iff.rfl (fun h25 => ?_) (fun h25 => ?_)
  · refine r_bipush C (v := (-10)) dX10_read_36 (by decide) ?_
    refine r_iload_n C dX10_read_38 0 rfl ?_
    refine r_isub C (v := ((-10) - ((psF 50 n tl tb tl 0 0 0 false (mClr μ 50)).2))) dX10_read_39 rfl ?_
    exact r_iret C dX10_read_40 Rr
  · exact absurd hq h25
