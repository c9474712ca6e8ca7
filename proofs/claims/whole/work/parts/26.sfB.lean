def hpM (μ : Mm) (n nw f p : Nat) : Mm := match p with
  | 0 => mLMin μ n nw 50 f
  | 1 => fdM μ n nw f f
  | 2 => mLU μ n nw 50 f
  | 3 => mLI μ n nw 50 f
  | 4 => mSub (mSh μ nw 50 f n) nw 50 f
  | _ => (cnO n nw f (n - 1) 0 μ).1
def hpA (μ : Mm) (n nw f p : Nat) : Bool := match p with
  | 0 => eqTo (gJ (mLMin μ n nw 50 f) 50) (gJ (mLMin μ n nw 50 f) f) nw
  | 1 => decide (fdA μ n nw f f = -1)
  | 2 => eqTo (gJ (mLU μ n nw 50 f) 50) (gJ (mLU μ n nw 50 f) f) nw
  | 3 => eqTo (gJ (mLI μ n nw 50 f) 50) (gJ (mLI μ n nw 50 f) f) nw
  | 4 => decide (ct (mSub (mSh μ nw 50 f n) nw 50 f) nw 50 = 0)
  | _ => (cnO n nw f (n - 1) 0 μ).2
theorem gI_hpM {μ : Mm} {n nw f p q : Nat} : gI (hpM μ n nw f p) q = gI μ q := by
  unfold hpM; split
  · exact gI_mLMin
  · exact gI_fdM
  · exact gI_mLU
  · exact gI_mLI
  · exact gI_mSub.trans gI_mSh
  · exact gI_cnO _ _ _
theorem bd0 {P : Prop} [Decidable P] (h : ¬ P) : nI 0 = bI (decide P) := b0 (decide_eq_false h)
theorem bd1 {P : Prop} [Decidable P] (h : P) : nI 1 = bI (decide P) := b1 (decide_eq_true h)
set_option maxHeartbeats 1000000 in
set_option maxRecDepth 100000 in
theorem c_hasProperty (l : Launch) (g : Gd) (μ : Mm) {n nw f p : Nat} (hO : Ok μ n nw) (hf : f < 52) (hp6 : p < 6) : Ct l yX10_hasProperty cX10_hasProperty 3 (some .boolean) (rmk 5 115) g [.ref (ad g 0), .ref (ad g (fo f)), .int (nI p)] μ (some (.int (bI (hpA μ n nw f p)))) (hpM μ n nw f p) := by
  obtain ⟨hn, hw, hn10, hnw, hs, h1n⟩ := hO
  refine Ct.of (by decide) (Nat.le_of_ble_eq_true rfl) (fun z A C X Rr => ?_)
  refine r_iload_n C dX10_hasProperty_0 2 rfl ?_
  rcases (show p = 0 ∨ p = 1 ∨ p = 2 ∨ p = 3 ∨ p = 4 ∨ p = 5 by omega) with rfl | rfl | rfl | rfl | rfl | rfl
  · refine r_tabIn C 36 dX10_hasProperty_1 (by decide) (by decide) rfl (by decide) ?_
    refine r_aload_n C dX10_hasProperty_36 0 rfl ?_
    refine r_get C X (k := 0) (R := RX10) (T := TX10) (N := 12) (n := 4) (v := .ref (ad g 8)) (by decide) rfl rfl inw10 (by decide) rfl hw_1_212 rfl dX10_hasProperty_37 ?_
    refine r_aload_n C dX10_hasProperty_40 0 rfl ?_
    refine r_get C X (k := 0) (R := RX10) (T := TX10) (N := 12) (n := 10) (v := .ref (ad g (fo 50))) (by decide) rfl rfl inw10 (by decide) rfl hw_1_218 rfl dX10_hasProperty_41 ?_
    refine r_aload_n C dX10_hasProperty_44 1 rfl ?_
    refine r_callV C X (As := [.ref (ad g (fo 50)), .ref (ad g (fo f))]) (rest := []) (st1 := []) (μ' := (mLMin μ n nw 50 f)) (k := 8) (T := TX2) miX2_layMinimal mvX2_layMinimal (c_layMinimal l g μ (n := n) (nw := nw) (t := 50) (s := f) ⟨hn, hw, hn10, hnw, hs, h1n⟩ (by omega) (by omega)) hw_2_53 (by decide) rfl rfl rfl ⟨by decide, by decide, rfl, rfl, by decide, by decide⟩ rfl (Nat.le_of_ble_eq_true rfl) dX10_hasProperty_45 rfl ?_
    refine r_aload_n C dX10_hasProperty_48 0 rfl ?_
    refine r_get C X (k := 0) (R := RX10) (T := TX10) (N := 12) (n := 10) (v := .ref (ad g (fo 50))) (by decide) rfl rfl inw10 (by decide) rfl hw_1_218 rfl dX10_hasProperty_49 ?_
    refine r_aload_n C dX10_hasProperty_52 1 rfl ?_
    refine r_callV C X (As := [.ref (ad g (fo f))]) (rest := []) (st1 := [.int (bI (eqTo (gJ (mLMin μ n nw 50 f) 50) (gJ (mLMin μ n nw 50 f) f) nw))]) (μ' := (mLMin μ n nw 50 f)) (k := (fo 50)) (T := TX3) miX3_sameAs mvX3_sameAs (c_sameAs l g (mLMin μ n nw 50 f) (i := 50) (j := f) (nw := nw) (gI_mLMin.trans hw) (by omega) (by omega) (by omega)) hw_2_87 (fo_lt (by omega)) (WF_fo g _ 50) rfl rfl ⟨by decide, by decide, rfl, rfl, by decide, by decide⟩ rfl (Nat.le_of_ble_eq_true rfl) dX10_hasProperty_53 rfl ?_
    exact r_zret C dX10_hasProperty_56 (nar_b _) Rr
  · refine r_tabIn C 57 dX10_hasProperty_1 (by decide) (by decide) rfl (by decide) ?_
    refine r_aload_n C dX10_hasProperty_57 0 rfl ?_
    refine r_aload_n C dX10_hasProperty_58 1 rfl ?_
    refine r_aload_n C dX10_hasProperty_59 1 rfl ?_
    refine r_callV C X (As := [.ref (ad g (fo f)), .ref (ad g (fo f))]) (rest := []) (st1 := [.int (fdA μ n nw f f)]) (μ' := (fdM μ n nw f f)) (k := 0) (T := TX10) miX10_firstDisjointPair mvX10_firstDisjointPair (c_firstDisjointPair l g μ (n := n) (nw := nw) (a := f) (b := f) ⟨hn, hw, hn10, hnw, hs, h1n⟩ (by omega) (by omega)) hw_2_91 (by decide) rfl rfl rfl ⟨by decide, by decide, rfl, rfl, by decide, by decide⟩ rfl (Nat.le_of_ble_eq_true rfl) dX10_hasProperty_60 rfl ?_
    refine r_iconst C (v := (-1)) dX10_hasProperty_63 rfl ?_
    refine r_icmp_ne C 71 dX10_hasProperty_64 (by decide) Iff.rfl (fun h64 => ?_) (fun h64 => ?_)
    · refine r_iconst C (v := (nI 0)) dX10_hasProperty_71 rfl ?_
      refine G_top (y := (bI (decide (fdA μ n nw f f = -1)))) (bd0 h64) ?_
      exact r_zret C dX10_hasProperty_72 (nar_b _) Rr
    · refine r_iconst C (v := (nI 1)) dX10_hasProperty_67 rfl ?_
      refine r_goto C 72 dX10_hasProperty_68 (by decide) ?_
      refine G_top (y := (bI (decide (fdA μ n nw f f = -1)))) (bd1 (Decidable.not_not.mp h64)) ?_
      exact r_zret C dX10_hasProperty_72 (nar_b _) Rr
  · refine r_tabIn C 73 dX10_hasProperty_1 (by decide) (by decide) rfl (by decide) ?_
    refine r_aload_n C dX10_hasProperty_73 0 rfl ?_
    refine r_get C X (k := 0) (R := RX10) (T := TX10) (N := 12) (n := 4) (v := .ref (ad g 8)) (by decide) rfl rfl inw10 (by decide) rfl hw_1_212 rfl dX10_hasProperty_74 ?_
    refine r_aload_n C dX10_hasProperty_77 0 rfl ?_
    refine r_get C X (k := 0) (R := RX10) (T := TX10) (N := 12) (n := 10) (v := .ref (ad g (fo 50))) (by decide) rfl rfl inw10 (by decide) rfl hw_1_218 rfl dX10_hasProperty_78 ?_
    refine r_aload_n C dX10_hasProperty_81 1 rfl ?_
    refine r_callV C X (As := [.ref (ad g (fo 50)), .ref (ad g (fo f))]) (rest := []) (st1 := []) (μ' := (mLU μ n nw 50 f)) (k := 8) (T := TX2) miX2_layUnions mvX2_layUnions (c_layUnions l g μ (n := n) (nw := nw) (t := 50) (s := f) ⟨hn, hw, hn10, hnw, hs, h1n⟩ (by omega) (by omega)) hw_2_123 (by decide) rfl rfl rfl ⟨by decide, by decide, rfl, rfl, by decide, by decide⟩ rfl (Nat.le_of_ble_eq_true rfl) dX10_hasProperty_82 rfl ?_
    refine r_aload_n C dX10_hasProperty_85 0 rfl ?_
    refine r_get C X (k := 0) (R := RX10) (T := TX10) (N := 12) (n := 10) (v := .ref (ad g (fo 50))) (by decide) rfl rfl inw10 (by decide) rfl hw_1_218 rfl dX10_hasProperty_86 ?_
    refine r_aload_n C dX10_hasProperty_89 1 rfl ?_
    refine r_callV C X (As := [.ref (ad g (fo f))]) (rest := []) (st1 := [.int (bI (eqTo (gJ (mLU μ n nw 50 f) 50) (gJ (mLU μ n nw 50 f) f) nw))]) (μ' := (mLU μ n nw 50 f)) (k := (fo 50)) (T := TX3) miX3_sameAs mvX3_sameAs (c_sameAs l g (mLU μ n nw 50 f) (i := 50) (j := f) (nw := nw) (gI_mLU.trans hw) (by omega) (by omega) (by omega)) hw_2_87 (fo_lt (by omega)) (WF_fo g _ 50) rfl rfl ⟨by decide, by decide, rfl, rfl, by decide, by decide⟩ rfl (Nat.le_of_ble_eq_true rfl) dX10_hasProperty_90 rfl ?_
    exact r_zret C dX10_hasProperty_93 (nar_b _) Rr
  · refine r_tabIn C 94 dX10_hasProperty_1 (by decide) (by decide) rfl (by decide) ?_
    refine r_aload_n C dX10_hasProperty_94 0 rfl ?_
    refine r_get C X (k := 0) (R := RX10) (T := TX10) (N := 12) (n := 4) (v := .ref (ad g 8)) (by decide) rfl rfl inw10 (by decide) rfl hw_1_212 rfl dX10_hasProperty_95 ?_
    refine r_aload_n C dX10_hasProperty_98 0 rfl ?_
    refine r_get C X (k := 0) (R := RX10) (T := TX10) (N := 12) (n := 10) (v := .ref (ad g (fo 50))) (by decide) rfl rfl inw10 (by decide) rfl hw_1_218 rfl dX10_hasProperty_99 ?_
    refine r_aload_n C dX10_hasProperty_102 1 rfl ?_
    refine r_callV C X (As := [.ref (ad g (fo 50)), .ref (ad g (fo f))]) (rest := []) (st1 := []) (μ' := (mLI μ n nw 50 f)) (k := 8) (T := TX2) miX2_layIntersections mvX2_layIntersections (c_layIntersections l g μ (n := n) (nw := nw) (t := 50) (s := f) ⟨hn, hw, hn10, hnw, hs, h1n⟩ (by omega) (by omega)) hw_2_150 (by decide) rfl rfl rfl ⟨by decide, by decide, rfl, rfl, by decide, by decide⟩ rfl (Nat.le_of_ble_eq_true rfl) dX10_hasProperty_103 rfl ?_
    refine r_aload_n C dX10_hasProperty_106 0 rfl ?_
    refine r_get C X (k := 0) (R := RX10) (T := TX10) (N := 12) (n := 10) (v := .ref (ad g (fo 50))) (by decide) rfl rfl inw10 (by decide) rfl hw_1_218 rfl dX10_hasProperty_107 ?_
    refine r_aload_n C dX10_hasProperty_110 1 rfl ?_
    refine r_callV C X (As := [.ref (ad g (fo f))]) (rest := []) (st1 := [.int (bI (eqTo (gJ (mLI μ n nw 50 f) 50) (gJ (mLI μ n nw 50 f) f) nw))]) (μ' := (mLI μ n nw 50 f)) (k := (fo 50)) (T := TX3) miX3_sameAs mvX3_sameAs (c_sameAs l g (mLI μ n nw 50 f) (i := 50) (j := f) (nw := nw) (gI_mLI.trans hw) (by omega) (by omega) (by omega)) hw_2_87 (fo_lt (by omega)) (WF_fo g _ 50) rfl rfl ⟨by decide, by decide, rfl, rfl, by decide, by decide⟩ rfl (Nat.le_of_ble_eq_true rfl) dX10_hasProperty_111 rfl ?_
    exact r_zret C dX10_hasProperty_114 (nar_b _) Rr
  · refine r_tabIn C 115 dX10_hasProperty_1 (by decide) (by decide) rfl (by decide) ?_
    refine r_aload_n C dX10_hasProperty_115 0 rfl ?_
    refine r_get C X (k := 0) (R := RX10) (T := TX10) (N := 12) (n := 10) (v := .ref (ad g (fo 50))) (by decide) rfl rfl inw10 (by decide) rfl hw_1_218 rfl dX10_hasProperty_116 ?_
    refine r_aload_n C dX10_hasProperty_119 1 rfl ?_
    refine r_callV C X (As := [.ref (ad g (fo f))]) (rest := []) (st1 := []) (μ' := (mSh μ nw 50 f n)) (k := (fo 50)) (T := TX3) miX3_becomeShadow mvX3_becomeShadow (c_becomeShadow l g μ (i := 50) (j := f) (n := n) (nw := nw) hn (by omega) hw (by omega) (by omega) (by omega) hs) hw_2_156 (fo_lt (by omega)) (WF_fo g _ 50) rfl rfl ⟨by decide, by decide, rfl, rfl, by decide, by decide⟩ rfl (Nat.le_of_ble_eq_true rfl) dX10_hasProperty_120 rfl ?_
    refine r_aload_n C dX10_hasProperty_123 0 rfl ?_
    refine r_get C X (k := 0) (R := RX10) (T := TX10) (N := 12) (n := 10) (v := .ref (ad g (fo 50))) (by decide) rfl rfl inw10 (by decide) rfl hw_1_218 rfl dX10_hasProperty_124 ?_
    refine r_aload_n C dX10_hasProperty_127 1 rfl ?_
    refine r_callV C X (As := [.ref (ad g (fo f))]) (rest := []) (st1 := []) (μ' := (mSub (mSh μ nw 50 f n) nw 50 f)) (k := (fo 50)) (T := TX3) miX3_subtract mvX3_subtract (c_subtract l g (mSh μ nw 50 f n) (i := 50) (j := f) (nw := nw) (gI_mSh.trans hw) (by omega) (by omega) (by omega)) hw_2_164 (fo_lt (by omega)) (WF_fo g _ 50) rfl rfl ⟨by decide, by decide, rfl, rfl, by decide, by decide⟩ rfl (Nat.le_of_ble_eq_true rfl) dX10_hasProperty_128 rfl ?_
    refine r_aload_n C dX10_hasProperty_131 0 rfl ?_
    refine r_get C X (k := 0) (R := RX10) (T := TX10) (N := 12) (n := 10) (v := .ref (ad g (fo 50))) (by decide) rfl rfl inw10 (by decide) rfl hw_1_218 rfl dX10_hasProperty_132 ?_
    refine r_callV C X (As := []) (rest := []) (st1 := [.int (nI (sm (fun w => bc (gJ (mSub (mSh μ nw 50 f n) nw 50 f) 50 w)) nw))]) (μ' := (mSub (mSh μ nw 50 f n) nw 50 f)) (k := (fo 50)) (T := TX3) miX3_count mvX3_count (c_count l g (mSub (mSh μ nw 50 f n) nw 50 f) (i := 50) (nw := nw) (gI_mSub.trans (gI_mSh.trans hw)) (by omega) (by omega)) hw_2_165 (fo_lt (by omega)) (WF_fo g _ 50) rfl rfl ⟨by decide, by decide, rfl, rfl, by decide, by decide⟩ rfl (Nat.le_of_ble_eq_true rfl) dX10_hasProperty_135 rfl ?_
    have hct := ct_le (μ := mSub (mSh μ nw 50 f n) nw 50 f) (i := 50) hnw
    refine G_top (y := (nI (ct (mSub (mSh μ nw 50 f n) nw 50 f) nw 50))) rfl ?_
    refine r_if_ne C 145 dX10_hasProperty_138 (by decide) (zI_ne (by omega)) (fun h138 => ?_) (fun h138 => ?_)
    · refine r_iconst C (v := (nI 0)) dX10_hasProperty_145 rfl ?_
      refine G_top (y := (bI (decide (ct (mSub (mSh μ nw 50 f n) nw 50 f) nw 50 = 0)))) (bd0 h138) ?_
      exact r_zret C dX10_hasProperty_146 (nar_b _) Rr
    · refine r_iconst C (v := (nI 1)) dX10_hasProperty_141 rfl ?_
      refine r_goto C 146 dX10_hasProperty_142 (by decide) ?_
      refine G_top (y := (bI (decide (ct (mSub (mSh μ nw 50 f n) nw 50 f) nw 50 = 0)))) (bd1 (Decidable.not_not.mp h138)) ?_
      exact r_zret C dX10_hasProperty_146 (nar_b _) Rr
  · refine r_tabOut C 147 dX10_hasProperty_1 (by decide) (by decide) ?_
    refine r_aload_n C dX10_hasProperty_147 0 rfl ?_
    refine r_get C X (k := 0) (R := RX10) (T := TX10) (N := 12) (n := 5) (v := .ref (ad g 9)) (by decide) rfl rfl inw10 (by decide) rfl hw_1_213 rfl dX10_hasProperty_148 ?_
    refine r_aload_n C dX10_hasProperty_151 1 rfl ?_
    refine r_callV C X (As := [.ref (ad g (fo f))]) (rest := []) (st1 := [.int (bI ((cnO n nw f (n - 1) 0 μ).2))]) (μ' := ((cnO n nw f (n - 1) 0 μ).1)) (k := 9) (T := TX1) miX1_changesNothing mvX1_changesNothing (c_changesNothing l g μ (n := n) (nw := nw) (f := f) ⟨hn, hw, hn10, hnw, hs, h1n⟩ (by omega)) hw_2_169 (by decide) rfl rfl rfl ⟨by decide, by decide, rfl, rfl, by decide, by decide⟩ rfl (Nat.le_of_ble_eq_true rfl) dX10_hasProperty_152 rfl ?_
    exact r_zret C dX10_hasProperty_155 (nar_b _) Rr
def csz (μ : Mm) (nw f k : Nat) : Nat := sm (fun w => bc (gJ μ f w &&& oz w k)) nw
theorem csz_le {μ : Mm} {nw f k : Nat} (h : nw ≤ 16) : csz μ nw f k ≤ 1024 := Nat.le_trans (sm_le (fun w => bc_le _) nw) (by omega)
def wtN (μ : Mm) (n nw f : Nat) : Nat → Nat
  | 0 => 0
  | k + 1 => wtN μ n nw f k + csz μ nw f k * (2520 / ch n k)
theorem wtN_le {μ : Mm} {n nw f : Nat} (h : nw ≤ 16) : ∀ k, wtN μ n nw f k ≤ k * 2580480
  | 0 => Nat.zero_le _
  | k + 1 => by
    have h1 := wtN_le (μ := μ) (n := n) (f := f) h k
    have h2 : csz μ nw f k * (2520 / ch n k) ≤ 1024 * 2520 := Nat.mul_le_mul (csz_le h) (Nat.div_le_self _ _)
    rw [wtN, Nat.succ_mul]; omega
theorem ch_pos : ∀ {n k : Nat}, k ≤ n → 0 < ch n k
  | n, 0, _ => by rw [ch_0]; decide
  | 0, k + 1, h => absurd h (by omega)
  | n + 1, k + 1, h => by rw [ch_s]; have := ch_pos (n := n) (k := k) (by omega); omega
theorem maxl {a : Nat} (h : a < 2 ^ 31) : (if lN a < lN 1 then lN 1 else lN a) = lN (max 1 a) := by
  by_cases q : a < 1
  · rw [if_pos ((lN_lt h (by decide)).mpr q)]; congr 1; omega
  · rw [if_neg (fun z => q ((lN_lt h (by decide)).mp z))]; congr 1; omega
theorem gdF_le : ∀ (f a b : Nat), gdF f a b ≤ max a b
  | 0, a, b => Nat.le_max_left _ _
  | f + 1, a, b => by
    rw [gdF]
    by_cases h : b = 0
    · rw [if_pos h]; exact Nat.le_max_left _ _
    · rw [if_neg h]
      have h1 := gdF_le f b (a % b)
      have h2 : a % b < b := Nat.mod_lt _ (by omega)
      omega
def wtA (μ : Mm) (n nw f : Nat) (dn : Bool) : Nat := (if dn = true then 2520 else wtN μ n nw f (n + 1)) / max 1 (gdF 1000 (wtN μ n nw f (n + 1)) 2520)
set_option maxHeartbeats 1000000 in
set_option maxRecDepth 100000 in
theorem lp_weightOf {z : Zt} {A : Nat → Prop} {l : Launch} {g : Gd} {μ : Mm} (C : Cx z A l (rmk 3 65) cX10_weightOf 8 "SetFamilies") (X : Kx z g A) {n nw f : Nat} {dn : Bool} (hn : gI μ 0 = nI n) (hw : gI μ 1 = nI nw) (hn10 : n ≤ 10) (hnw : nw ≤ 16) (hf : f < 52) (Rr : Rx z g A (some .long) (some (.long (lN (wtA μ n nw f dn)))) μ) : ∀ (n_ : Nat) (k : Nat), n + 1 - k < n_ → k ≤ n + 1 → G z g.1 A 8 (wd g μ) 0 0 5 [(5, .int (nI k)), (3, .long (lN (wtN μ n nw f k))), (0, .ref (ad g 0)), (1, .ref (ad g (fo f))), (2, .int (bI dn))] [] := by
  intro n_
  induction n_ with
  | zero => intro k hm_; exact absurd hm_ (Nat.not_lt_zero _)
  | succ n_ ih =>
    intro k hm_ hk
    refine r_iload C dX10_weightOf_5 0 rfl ?_
    refine r_aload_n C dX10_weightOf_7 2 rfl ?_
    refine r_get C X (k := 0) (R := RX10) (T := TX10) (N := 12) (n := 0) (v := .ref (ad g 1)) (by decide) rfl rfl inw10 (by decide) rfl hw_1_208 rfl dX10_weightOf_8 ?_
    refine r_get C X (k := 1) (R := RX4) (T := TX4) (N := 2) (n := 0) (v := .int (gI μ 0)) (by decide) rfl rfl inw4 (by decide) rfl hw_1_42 rfl dX10_weightOf_11 ?_
    refine G_top (y := (nI n)) hn ?_
    refine r_icmp_gt C 58 dX10_weightOf_14 (by decide) (nI_ltI (by omega) (by omega)) (fun h14 => ?_) (fun h14 => ?_)
    · have hkn : k = n + 1 := by omega
      subst hkn
      have hwl := wtN_le (μ := μ) (n := n) (f := f) hnw (n + 1)
      have hgl := gdF_le 1000 (wtN μ n nw f (n + 1)) 2520
      have hdiv : 0 < max 1 (gdF 1000 (wtN μ n nw f (n + 1)) 2520) := by omega
      refine r_lconst C (v := (lN 1)) dX10_weightOf_58 rfl ?_
      refine r_lload_n C dX10_weightOf_59 1 rfl ?_
      refine r_ldc2 C dX10_weightOf_60 hw_2_207 ?_
      refine G_topl (y := lN 2520) rfl ?_
      refine r_callP C (As := [.long (lN (wtN μ n nw f (n + 1))), .long (lN 2520)]) (rest := [.long (lN 1)]) (st1 := [.long (lN (gdF 1000 (wtN μ n nw f (n + 1)) 2520)), .long (lN 1)]) miX0_greatestDivisor msX0_greatestDivisor (c_greatestDivisor l (x := wtN μ n nw f (n + 1)) (y := 2520) (by omega) (by omega)) hw_2_208 rfl ⟨by decide, by decide, rfl, rfl, by decide, by decide⟩ rfl (Nat.le_of_ble_eq_true rfl) dX10_weightOf_63 rfl ?_
      refine r_mmaxl C (v := (lN (max 1 (gdF 1000 (wtN μ n nw f (n + 1)) 2520)))) hw_2_189 ⟨by decide, Nat.le_of_ble_eq_true rfl, by decide, by decide⟩ dX10_weightOf_66 (maxl (by omega)) ?_
      refine r_lstore C (lv' := [(5, .long (lN (max 1 (gdF 1000 (wtN μ n nw f (n + 1)) 2520)))), (3, .long (lN (wtN μ n nw f (n + 1)))), (0, .ref (ad g 0)), (1, .ref (ad g (fo f))), (2, .int (bI dn))]) 5 dX10_weightOf_69 (by decide) rfl ?_
      refine r_iload_n C dX10_weightOf_71 4 rfl ?_
      refine r_if_eq C 81 dX10_weightOf_72 (by decide) (bI_eq _) (fun h72 => ?_) (fun h72 => ?_)
      · rw [wtA, if_neg (ts_f h72)] at Rr
        refine r_lload_n C dX10_weightOf_81 1 rfl ?_
        refine r_lload C dX10_weightOf_82 0 rfl ?_
        refine r_ldiv C (v := (lN ((wtN μ n nw f (n + 1)) / max 1 (gdF 1000 (wtN μ n nw f (n + 1)) 2520)))) dX10_weightOf_84 (lne (by omega) (by omega)) (pk_lDiv (by omega) (by omega) (by omega)) ?_
        exact r_lret C dX10_weightOf_85 Rr
      · rw [wtA, if_pos (ts_t h72)] at Rr
        refine r_ldc2 C dX10_weightOf_75 hw_2_207 ?_
        refine r_goto C 82 dX10_weightOf_78 (by decide) ?_
        refine G_topl (y := lN 2520) rfl ?_
        refine r_lload C dX10_weightOf_82 0 rfl ?_
        refine r_ldiv C (v := (lN (2520 / max 1 (gdF 1000 (wtN μ n nw f (n + 1)) 2520)))) dX10_weightOf_84 (lne (by omega) (by omega)) (pk_lDiv (by omega) (by omega) (by omega)) ?_
        exact r_lret C dX10_weightOf_85 Rr
    · have hch := ch10 n (by omega) k (by omega)
      have hcp := ch_pos (n := n) (k := k) (by omega)
      have hcs := csz_le (μ := μ) (f := f) (k := k) hnw
      refine r_lconst C (v := (lN 1)) dX10_weightOf_17 rfl ?_
      refine r_aload_n C dX10_weightOf_18 2 rfl ?_
      refine r_get C X (k := 0) (R := RX10) (T := TX10) (N := 12) (n := 0) (v := .ref (ad g 1)) (by decide) rfl rfl inw10 (by decide) rfl hw_1_208 rfl dX10_weightOf_19 ?_
      refine r_get C X (k := 1) (R := RX4) (T := TX4) (N := 2) (n := 0) (v := .int (gI μ 0)) (by decide) rfl rfl inw4 (by decide) rfl hw_1_42 rfl dX10_weightOf_22 ?_
      refine G_top (y := (nI n)) hn ?_
      refine r_iload C dX10_weightOf_25 0 rfl ?_
      refine r_callP C (As := [.int (nI n), .int (nI k)]) (rest := [.long (lN 1)]) (st1 := [.long (lN (ch n k)), .long (lN 1)]) miX0_binomial msX0_binomial (c_binomial l (a := n) (b := k) (by omega) (by omega) (by omega)) hw_2_186 rfl ⟨by decide, by decide, rfl, rfl, by decide, by decide⟩ rfl (Nat.le_of_ble_eq_true rfl) dX10_weightOf_27 rfl ?_
      refine r_mmaxl C (v := (lN (ch n k))) hw_2_189 ⟨by decide, Nat.le_of_ble_eq_true rfl, by decide, by decide⟩ dX10_weightOf_30 (by rw [maxl (by omega)]; congr 1; omega) ?_
      refine r_lstore C (lv' := [(6, .long (lN (ch n k))), (5, .int (nI k)), (3, .long (lN (wtN μ n nw f k))), (0, .ref (ad g 0)), (1, .ref (ad g (fo f))), (2, .int (bI dn))]) 6 dX10_weightOf_33 (by decide) rfl ?_
      refine r_lload_n C dX10_weightOf_35 2 rfl ?_
      refine r_aload_n C dX10_weightOf_36 4 rfl ?_
      refine r_iload C dX10_weightOf_37 1 rfl ?_
      refine r_callV C X (As := [.int (nI k)]) (rest := [.long (lN (wtN μ n nw f k))]) (st1 := [.int (nI (sm (fun w => bc (gJ μ f w &&& oz w k)) nw)), .long (lN (wtN μ n nw f k))]) (μ' := μ) (k := (fo f)) (T := TX3) miX3_countOfSize mvX3_countOfSize (c_countOfSize l g μ (i := f) (nw := nw) (m := k) hw (by omega) (by omega) (by omega)) hw_2_192 (fo_lt (by omega)) (WF_fo g _ f) rfl rfl ⟨by decide, by decide, rfl, rfl, by decide, by decide⟩ rfl (Nat.le_of_ble_eq_true rfl) dX10_weightOf_39 rfl ?_
      refine G_top (y := (nI (csz μ nw f k))) rfl ?_
      refine r_i2l C (v := (lN (csz μ nw f k))) dX10_weightOf_42 (nI_l (by omega)) ?_
      refine r_ldc2 C dX10_weightOf_43 hw_2_207 ?_
      refine r_lload C dX10_weightOf_46 0 rfl ?_
      refine r_ldiv C (v := (lN (2520 / ch n k))) dX10_weightOf_48 (lne (by omega) (by omega)) (pk_lDiv (a := 2520) (by decide) (by omega) (by omega)) ?_
      refine r_lmul C (v := (lN ((csz μ nw f k) * (2520 / ch n k)))) dX10_weightOf_49 (lN_mul _ _) ?_
      refine r_ladd C (v := (lN (wtN μ n nw f (k + 1)))) dX10_weightOf_50 (lN_add _ _) ?_
      refine r_lstore_n C (lv' := [(3, .long (lN (wtN μ n nw f (k + 1)))), (6, .long (lN (ch n k))), (5, .int (nI k)), (0, .ref (ad g 0)), (1, .ref (ad g (fo f))), (2, .int (bI dn))]) 3 dX10_weightOf_51 rfl (by decide) rfl ?_
      refine r_iinc C (v := (nI (k + 1))) (lv' := [(5, .int (nI (k + 1))), (3, .long (lN (wtN μ n nw f (k + 1)))), (6, .long (lN (ch n k))), (0, .ref (ad g 0)), (1, .ref (ad g (fo f))), (2, .int (bI dn))]) 5 2 dX10_weightOf_52 rfl (inc_N _ 1) (by decide) rfl ?_
      refine r_goto C 5 dX10_weightOf_55 (by decide) ?_
      refine G_sub (lv' := [(5, .int (nI (k + 1))), (3, .long (lN (wtN μ n nw f (k + 1)))), (0, .ref (ad g 0)), (1, .ref (ad g (fo f))), (2, .int (bI dn))]) [0, 1, 3, 4, 5] rfl ?_
      exact ih (k + 1) (by omega) (by omega)
set_option maxHeartbeats 1000000 in
set_option maxRecDepth 100000 in
theorem c_weightOf (l : Launch) (g : Gd) (μ : Mm) {n nw f : Nat} (hO : Ok μ n nw) (hf : f < 52) (dn : Bool) : Ct l yX10_weightOf cX10_weightOf 8 (some .long) (rmk 3 65) g [.ref (ad g 0), .ref (ad g (fo f)), .int (bI dn)] μ (some (.long (lN (wtA μ n nw f dn)))) μ := by
  obtain ⟨hn, hw, hn10, hnw, hs, h1n⟩ := hO
  refine Ct.of (by decide) (Nat.le_of_ble_eq_true rfl) (fun z A C X Rr => ?_)
  refine r_lconst C (v := (lN 0)) dX10_weightOf_0 rfl ?_
  refine r_lstore_n C (lv' := [(3, .long (lN 0)), (0, .ref (ad g 0)), (1, .ref (ad g (fo f))), (2, .int (bI dn))]) 3 dX10_weightOf_1 rfl (by decide) rfl ?_
  refine r_iconst C (v := (nI 0)) dX10_weightOf_2 rfl ?_
  refine r_istore C (lv' := [(5, .int (nI 0)), (3, .long (lN 0)), (0, .ref (ad g 0)), (1, .ref (ad g (fo f))), (2, .int (bI dn))]) 5 dX10_weightOf_3 (by decide) rfl ?_
  exact lp_weightOf C X hn hw hn10 hnw hf Rr (n + 2) 0 (by omega) (by omega)
def chl (μ : Mm) (nw f e : Nat) : Nat := sm (fun w => bc (gJ μ f w &&& (lk w e ^^^ (-1)))) nw
def mmM (μ : Mm) (nw f : Nat) : Mm := sA μ 4 (rowU (ct μ nw f) (fun p => atR (gJ μ f) nw 0 p) (gA μ 4))
def mm1 (μ : Mm) (nw f : Nat) (h : Int64) : Nat → Int64 := foldx (fun i => (atR (gJ μ f) nw 0 i).toInt64) (mx h (lN (ct μ nw f)))
def mm2 (μ : Mm) (nw f : Nat) (h : Int64) : Nat → Int64 := foldx (fun e => lN (chl μ nw f e)) (mm1 μ nw f h (ct μ nw f))
theorem gI_mmM {μ : Mm} {nw f q : Nat} : gI (mmM μ nw f) q = gI μ q := rfl
theorem gJ_mmM {μ : Mm} {nw f q : Nat} : gJ (mmM μ nw f) q = gJ μ q := rfl
theorem chl_le {μ : Mm} {nw f e : Nat} (h : nw ≤ 16) : chl μ nw f e ≤ 1024 := Nat.le_trans (sm_le (fun w => bc_le _) nw) (by omega)
set_option maxHeartbeats 1000000 in
set_option maxRecDepth 100000 in
theorem lp_mixMembers1 {z : Zt} {A : Nat → Prop} {l : Launch} {g : Gd} {μ : Mm} (C : Cx z A l (rmk 3 68) cX10_mixMembers 8 "SetFamilies") (X : Kx z g A) {nw f : Nat} {h : Int64} (hct : ct μ nw f ≤ 1024) (hf : f < 52) (KK : G z g.1 A 8 (wd g (mmM μ nw f)) 0 0 60 [(5, .long (mm1 μ nw f h (ct μ nw f))), (4, .int (nI (ct μ nw f))), (0, .ref (ad g 0)), (1, .long h), (3, .ref (ad g (fo f)))] []) : ∀ (n_ : Nat) (i : Nat), ct μ nw f - i < n_ → i ≤ ct μ nw f → G z g.1 A 8 (wd g (mmM μ nw f)) 0 0 22 [(7, .int (nI i)), (5, .long (mm1 μ nw f h i)), (4, .int (nI (ct μ nw f))), (0, .ref (ad g 0)), (1, .long h), (3, .ref (ad g (fo f)))] [] := by
  intro n_
  induction n_ with
  | zero => intro i hm_; exact absurd hm_ (Nat.not_lt_zero _)
  | succ n_ ih =>
    intro i hm_ hi
    refine r_iload C dX10_mixMembers_22 0 rfl ?_
    refine r_iload C dX10_mixMembers_24 2 rfl ?_
    refine r_icmp_ge C 60 dX10_mixMembers_26 (by decide) (nI_leI (by omega) (by omega)) (fun h26 => ?_) (fun h26 => ?_)
    · have hic : i = ct μ nw f := by omega
      subst hic
      refine G_sub (lv' := [(5, .long (mm1 μ nw f h (ct μ nw f))), (4, .int (nI (ct μ nw f))), (0, .ref (ad g 0)), (1, .long h), (3, .ref (ad g (fo f)))]) [1, 2, 3, 4, 5] rfl ?_
      exact KK
    · refine r_iload C dX10_mixMembers_29 0 rfl ?_
      refine r_aload_n C dX10_mixMembers_31 3 rfl ?_
      refine r_get C X (k := 0) (R := RX10) (T := TX10) (N := 12) (n := 9) (v := .ref (ad g 18)) (by decide) rfl rfl inw10 (by decide) rfl hw_1_217 rfl dX10_mixMembers_32 ?_
      refine r_alen C X (k := 18) (t := 1) (n := 1024) (by decide) rfl rfl rfl dX10_mixMembers_35 ?_
      refine r_icmp_ge C 60 dX10_mixMembers_36 (by decide) (nI_leI (by omega) (by omega)) (fun h36 => ?_) (fun h36 => ?_)
      · exact absurd h36 (by omega)
      · refine r_lload C dX10_mixMembers_39 1 rfl ?_
        refine r_aload_n C dX10_mixMembers_41 3 rfl ?_
        refine r_get C X (k := 0) (R := RX10) (T := TX10) (N := 12) (n := 9) (v := .ref (ad g 18)) (by decide) rfl rfl inw10 (by decide) rfl hw_1_217 rfl dX10_mixMembers_42 ?_
        refine r_iload C dX10_mixMembers_45 0 rfl ?_
        refine r_iald C X (k := 18) (v := (atR (gJ μ f) nw 0 i)) (by decide) rfl (by omega) (by decide) ((congrFun (gA_s _ _ _) _).trans (rowU_lt _ _ (by omega))) dX10_mixMembers_47 ?_
        refine r_i2l C (v := (((atR (gJ μ f) nw 0 i)).toInt64)) dX10_mixMembers_48 rfl ?_
        refine r_callP C (As := [.long (mm1 μ nw f h i), .long (((atR (gJ μ f) nw 0 i)).toInt64)]) (rest := []) (st1 := [.long (mx (mm1 μ nw f h i) (((atR (gJ μ f) nw 0 i)).toInt64))]) miX10_mix msX10_mix (c_mix l (mm1 μ nw f h i) (((atR (gJ μ f) nw 0 i)).toInt64)) hw_2_14 rfl ⟨by decide, by decide, rfl, rfl, by decide, by decide⟩ rfl (Nat.le_of_ble_eq_true rfl) dX10_mixMembers_49 rfl ?_
        refine G_topl (y := (mm1 μ nw f h (i + 1))) rfl ?_
        refine r_lstore C (lv' := [(5, .long (mm1 μ nw f h (i + 1))), (7, .int (nI i)), (4, .int (nI (ct μ nw f))), (0, .ref (ad g 0)), (1, .long h), (3, .ref (ad g (fo f)))]) 5 dX10_mixMembers_52 (by decide) rfl ?_
        refine r_iinc C (v := (nI (i + 1))) (lv' := [(7, .int (nI (i + 1))), (5, .long (mm1 μ nw f h (i + 1))), (4, .int (nI (ct μ nw f))), (0, .ref (ad g 0)), (1, .long h), (3, .ref (ad g (fo f)))]) 7 1 dX10_mixMembers_54 rfl (inc_N _ 1) (by decide) rfl ?_
        refine r_goto C 22 dX10_mixMembers_57 (by decide) ?_
        exact ih (i + 1) (by omega) (by omega)
set_option maxHeartbeats 1000000 in
set_option maxRecDepth 100000 in
theorem lp_mixMembers2 {z : Zt} {A : Nat → Prop} {l : Launch} {g : Gd} {μ : Mm} (C : Cx z A l (rmk 3 68) cX10_mixMembers 8 "SetFamilies") (X : Kx z g A) {n nw f : Nat} {h : Int64} (hn : gI μ 0 = nI n) (hw : gI μ 1 = nI nw) (hn10 : n ≤ 10) (hnw : nw ≤ 16) (hf : f < 52) (Rr : Rx z g A (some .long) (some (.long (mm2 μ nw f h n))) (mmM μ nw f)) : ∀ (n_ : Nat) (e : Nat), n - e < n_ → e ≤ n → G z g.1 A 8 (wd g (mmM μ nw f)) 0 0 63 [(7, .int (nI e)), (5, .long (mm2 μ nw f h e)), (4, .int (nI (ct μ nw f))), (0, .ref (ad g 0)), (1, .long h), (3, .ref (ad g (fo f)))] [] := by
  intro n_
  induction n_ with
  | zero => intro e hm_; exact absurd hm_ (Nat.not_lt_zero _)
  | succ n_ ih =>
    intro e hm_ he
    refine r_iload C dX10_mixMembers_63 0 rfl ?_
    refine r_aload_n C dX10_mixMembers_65 3 rfl ?_
    refine r_get C X (k := 0) (R := RX10) (T := TX10) (N := 12) (n := 0) (v := .ref (ad g 1)) (by decide) rfl rfl inw10 (by decide) rfl hw_1_208 rfl dX10_mixMembers_66 ?_
    refine r_get C X (k := 1) (R := RX4) (T := TX4) (N := 2) (n := 0) (v := .int (gI (mmM μ nw f) 0)) (by decide) rfl rfl inw4 (by decide) rfl hw_1_42 rfl dX10_mixMembers_69 ?_
    refine G_top (y := (nI n)) (gI_mmM.trans hn) ?_
    refine r_icmp_ge C 95 dX10_mixMembers_72 (by decide) (nI_leI (by omega) (by omega)) (fun h72 => ?_) (fun h72 => ?_)
    · have hkn : e = n := by omega
      subst hkn
      refine r_lload C dX10_mixMembers_95 1 rfl ?_
      exact r_lret C dX10_mixMembers_97 Rr
    · refine r_lload C dX10_mixMembers_75 1 rfl ?_
      refine r_aload_n C dX10_mixMembers_77 5 rfl ?_
      refine r_iload C dX10_mixMembers_78 0 rfl ?_
      refine r_callV C X (As := [.int (nI e)]) (rest := [.long (mm2 μ nw f h e)]) (st1 := [.int (nI (sm (fun w => bc (gJ (mmM μ nw f) f w &&& (lk w e ^^^ (-1)))) nw)), .long (mm2 μ nw f h e)]) (μ' := (mmM μ nw f)) (k := (fo f)) (T := TX3) miX3_countHolding mvX3_countHolding (c_countHolding l g (mmM μ nw f) (i := f) (nw := nw) (e := e) (gI_mmM.trans hw) (by omega) (by omega) (by omega)) hw_2_35 (fo_lt (by omega)) (WF_fo g _ f) rfl rfl ⟨by decide, by decide, rfl, rfl, by decide, by decide⟩ rfl (Nat.le_of_ble_eq_true rfl) dX10_mixMembers_80 rfl ?_
      have hcl := chl_le (μ := μ) (f := f) (e := e) hnw
      refine G_top (y := (nI (chl μ nw f e))) (congrArg nI (show sm (fun w => bc (gJ (mmM μ nw f) f w &&& (lk w e ^^^ (-1)))) nw = chl μ nw f e by rw [gJ_mmM]; rfl)) ?_
      refine r_i2l C (v := (lN (chl μ nw f e))) dX10_mixMembers_83 (nI_l (by omega)) ?_
      refine r_callP C (As := [.long (mm2 μ nw f h e), .long (lN (chl μ nw f e))]) (rest := []) (st1 := [.long (mx (mm2 μ nw f h e) (lN (chl μ nw f e)))]) miX10_mix msX10_mix (c_mix l (mm2 μ nw f h e) (lN (chl μ nw f e))) hw_2_14 rfl ⟨by decide, by decide, rfl, rfl, by decide, by decide⟩ rfl (Nat.le_of_ble_eq_true rfl) dX10_mixMembers_84 rfl ?_
      refine G_topl (y := (mm2 μ nw f h (e + 1))) rfl ?_
      refine r_lstore C (lv' := [(5, .long (mm2 μ nw f h (e + 1))), (7, .int (nI e)), (4, .int (nI (ct μ nw f))), (0, .ref (ad g 0)), (1, .long h), (3, .ref (ad g (fo f)))]) 5 dX10_mixMembers_87 (by decide) rfl ?_
      refine r_iinc C (v := (nI (e + 1))) (lv' := [(7, .int (nI (e + 1))), (5, .long (mm2 μ nw f h (e + 1))), (4, .int (nI (ct μ nw f))), (0, .ref (ad g 0)), (1, .long h), (3, .ref (ad g (fo f)))]) 7 1 dX10_mixMembers_89 rfl (inc_N _ 1) (by decide) rfl ?_
      refine r_goto C 63 dX10_mixMembers_92 (by decide) ?_
      exact ih (e + 1) (by omega) (by omega)
set_option maxHeartbeats 1000000 in
set_option maxRecDepth 100000 in
theorem c_mixMembers (l : Launch) (g : Gd) (μ : Mm) {n nw f : Nat} (hO : Ok μ n nw) (hf : f < 52) (h : Int64) : Ct l yX10_mixMembers cX10_mixMembers 8 (some .long) (rmk 3 68) g [.ref (ad g 0), .long h, .ref (ad g (fo f))] μ (some (.long (mm2 μ nw f h n))) (mmM μ nw f) := by
  obtain ⟨hn, hw, hn10, hnw, hs, h1n⟩ := hO
  refine Ct.of (by decide) (Nat.le_of_ble_eq_true rfl) (fun z A C X Rr => ?_)
  have hct := ct_le (μ := μ) (i := f) hnw
  refine r_aload_n C dX10_mixMembers_0 2 rfl ?_
  refine r_aload_n C dX10_mixMembers_1 0 rfl ?_
  refine r_get C X (k := 0) (R := RX10) (T := TX10) (N := 12) (n := 9) (v := .ref (ad g 18)) (by decide) rfl rfl inw10 (by decide) rfl hw_1_217 rfl dX10_mixMembers_2 ?_
  refine r_callV C X (As := [.ref (ad g 18)]) (rest := []) (st1 := [.int (nI (sm (fun w => bc (gJ μ f w)) nw))]) (μ' := (sA μ 4 (rowU (sm (fun w => bc (gJ μ f w)) nw) (fun p => atR (gJ μ f) nw 0 p) (gA μ 4)))) (k := (fo f)) (T := TX3) miX3_listInto mvX3_listInto (c_listInto_18 l g μ (i := f) (nw := nw) hw (by omega) (by omega)) hw_2_22 (fo_lt (by omega)) (WF_fo g _ f) rfl rfl ⟨by decide, by decide, rfl, rfl, by decide, by decide⟩ rfl (Nat.le_of_ble_eq_true rfl) dX10_mixMembers_5 rfl ?_
  refine G_mem (μ' := mmM μ nw f) rfl ?_
  refine G_top (y := (nI (ct μ nw f))) rfl ?_
  refine r_istore C (lv' := [(4, .int (nI (ct μ nw f))), (0, .ref (ad g 0)), (1, .long h), (3, .ref (ad g (fo f)))]) 4 dX10_mixMembers_8 (by decide) rfl ?_
  refine r_lload_n C dX10_mixMembers_10 2 rfl ?_
  refine r_iload C dX10_mixMembers_11 0 rfl ?_
  refine r_i2l C (v := (lN (ct μ nw f))) dX10_mixMembers_13 (nI_l (by omega)) ?_
  refine r_callP C (As := [.long h, .long (lN (ct μ nw f))]) (rest := []) (st1 := [.long (mx h (lN (ct μ nw f)))]) miX10_mix msX10_mix (c_mix l h (lN (ct μ nw f))) hw_2_14 rfl ⟨by decide, by decide, rfl, rfl, by decide, by decide⟩ rfl (Nat.le_of_ble_eq_true rfl) dX10_mixMembers_14 rfl ?_
  refine G_topl (y := (mm1 μ nw f h 0)) rfl ?_
  refine r_lstore C (lv' := [(5, .long (mm1 μ nw f h 0)), (4, .int (nI (ct μ nw f))), (0, .ref (ad g 0)), (1, .long h), (3, .ref (ad g (fo f)))]) 5 dX10_mixMembers_17 (by decide) rfl ?_
  refine r_iconst C (v := (nI 0)) dX10_mixMembers_19 rfl ?_
  refine r_istore C (lv' := [(7, .int (nI 0)), (5, .long (mm1 μ nw f h 0)), (4, .int (nI (ct μ nw f))), (0, .ref (ad g 0)), (1, .long h), (3, .ref (ad g (fo f)))]) 7 dX10_mixMembers_20 (by decide) rfl ?_
  refine lp_mixMembers1 C X hct hf ?_ (ct μ nw f + 1) 0 (by omega) (by omega)
  refine r_iconst C (v := (nI 0)) dX10_mixMembers_60 rfl ?_
  refine r_istore C (lv' := [(7, .int (nI 0)), (5, .long (mm1 μ nw f h (ct μ nw f))), (4, .int (nI (ct μ nw f))), (0, .ref (ad g 0)), (1, .long h), (3, .ref (ad g (fo f)))]) 7 dX10_mixMembers_61 (by decide) rfl ?_
  exact lp_mixMembers2 C X hn hw hn10 hnw hf Rr (n + 1) 0 (by omega) (by omega)
