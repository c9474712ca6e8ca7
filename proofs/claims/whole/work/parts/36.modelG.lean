def idA (F : Nat → Bool) (n op f s : Nat) : Bool := match op with
  | 2 => hbF F f s true false (2 ^ n) 0
  | 3 => hbF F f s false false (2 ^ n) 0
  | 4 => F (1024 * f + s) && !hbF F f s false true (2 ^ n) 0
  | 5 => F (1024 * f + s) && !hbF F f s true true (2 ^ n) 0
  | 6 => F (1024 * f + 2 ^ n - 1 - s)
  | _ => blA F n f s
set_option maxHeartbeats 1000000 in
set_option maxRecDepth 100000 in
theorem c_isDerived (l : Launch) (g : Gd) (μ : Mm) {F : Nat → Bool} {n op f s : Nat} (h6 : gI μ 6 = nI n) (hn10 : n ≤ 10) (h5 : gA μ 5 = bR F) (hf : f < 4) (hop : 2 ≤ op) (hop7 : op ≤ 7) (hs : s < 2 ^ n) : Ct l yX11_isDerived cX11_isDerived 4 (some .boolean) (rmk 3 68) g [.ref (ad g 19), .int (nI op), .int (nI f), .int (nI s)] μ (some (.int (bI (idA F n op f s)))) μ := by
  have h1024 := pw10 hn10
  have h2n := Nat.two_pow_pos n
  refine Ct.of (by decide) (Nat.le_of_ble_eq_true rfl) (fun z A C X Rr => ?_)
  refine r_iload_n C dX11_isDerived_0 1 rfl ?_
  rcases (show op = 2 ∨ op = 3 ∨ op = 4 ∨ op = 5 ∨ op = 6 ∨ op = 7 by omega) with rfl | rfl | rfl | rfl | rfl | rfl
  · refine r_tabIn C 36 dX11_isDerived_1 (by decide) (by decide) rfl (by decide) ?_
    refine r_aload_n C dX11_isDerived_36 0 rfl ?_
    refine r_iload_n C dX11_isDerived_37 2 rfl ?_
    refine r_iload_n C dX11_isDerived_38 3 rfl ?_
    refine r_iconst C (v := (nI 1)) dX11_isDerived_39 rfl ?_
    refine r_iconst C (v := (nI 0)) dX11_isDerived_40 rfl ?_
    refine G_st (st' := [.int (bI false), .int (bI true), .int (nI s), .int (nI f), .ref (ad g 19)]) rfl ?_
    refine r_callV C X (As := [.int (nI f), .int (nI s), .int (bI true), .int (bI false)]) (rest := []) (st1 := [.int (bI (hbF F f s true false (2 ^ n) 0))]) (μ' := μ) (k := 19) (T := TX11) miX11_hasBelow mvX11_hasBelow (c_hasBelow l g μ (F := F) (n := n) (f := f) (e := s) h6 (by omega) h5 (by omega) (by omega) true false) hw_5_170 (by decide) rfl rfl rfl ⟨by decide, by decide, rfl, rfl, by decide, by decide⟩ rfl (Nat.le_of_ble_eq_true rfl) dX11_isDerived_41 rfl ?_
    exact r_zret C dX11_isDerived_44 (nar_b _) Rr
  · refine r_tabIn C 45 dX11_isDerived_1 (by decide) (by decide) rfl (by decide) ?_
    refine r_aload_n C dX11_isDerived_45 0 rfl ?_
    refine r_iload_n C dX11_isDerived_46 2 rfl ?_
    refine r_iload_n C dX11_isDerived_47 3 rfl ?_
    refine r_iconst C (v := (nI 0)) dX11_isDerived_48 rfl ?_
    refine r_iconst C (v := (nI 0)) dX11_isDerived_49 rfl ?_
    refine G_st (st' := [.int (bI false), .int (bI false), .int (nI s), .int (nI f), .ref (ad g 19)]) rfl ?_
    refine r_callV C X (As := [.int (nI f), .int (nI s), .int (bI false), .int (bI false)]) (rest := []) (st1 := [.int (bI (hbF F f s false false (2 ^ n) 0))]) (μ' := μ) (k := 19) (T := TX11) miX11_hasBelow mvX11_hasBelow (c_hasBelow l g μ (F := F) (n := n) (f := f) (e := s) h6 (by omega) h5 (by omega) (by omega) false false) hw_5_170 (by decide) rfl rfl rfl ⟨by decide, by decide, rfl, rfl, by decide, by decide⟩ rfl (Nat.le_of_ble_eq_true rfl) dX11_isDerived_50 rfl ?_
    exact r_zret C dX11_isDerived_53 (nar_b _) Rr
  · refine r_tabIn C 54 dX11_isDerived_1 (by decide) (by decide) rfl (by decide) ?_
    refine r_aload_n C dX11_isDerived_54 0 rfl ?_
    refine r_get C X (k := 19) (R := RX11) (T := TX11) (N := 15) (n := 2) (v := .ref (ad g 20)) (by decide) rfl rfl inw11 (by decide) rfl hw_5_20 rfl dX11_isDerived_55 ?_
    refine r_sipush C (v := (nI 1024)) dX11_isDerived_58 (by decide) ?_
    refine r_iload_n C dX11_isDerived_61 2 rfl ?_
    refine r_imul C (v := (nI (1024 * f))) dX11_isDerived_62 (pk_mul _ _) ?_
    refine r_iload_n C dX11_isDerived_63 3 rfl ?_
    refine r_iadd C (v := (nI (1024 * f + s))) dX11_isDerived_64 (nI_add _ _) ?_
    refine r_zald C X (k := 20) (v := (bI (F (1024 * f + s)))) (by decide) rfl (by omega) (by decide) (bR_at h5 _) dX11_isDerived_65 ?_
    refine r_if_eq C 84 dX11_isDerived_66 (by decide) (bI_eq _) (fun h66 => ?_) (fun h66 => ?_)
    · refine r_iconst C (v := (nI 0)) dX11_isDerived_84 rfl ?_
      refine G_top (y := (bI (F (1024 * f + s) && !hbF F f s false true (2 ^ n) 0))) (b0 (by rw [h66]; rfl)) ?_
      exact r_zret C dX11_isDerived_85 (nar_b _) Rr
    · refine r_aload_n C dX11_isDerived_69 0 rfl ?_
      refine r_iload_n C dX11_isDerived_70 2 rfl ?_
      refine r_iload_n C dX11_isDerived_71 3 rfl ?_
      refine r_iconst C (v := (nI 0)) dX11_isDerived_72 rfl ?_
      refine r_iconst C (v := (nI 1)) dX11_isDerived_73 rfl ?_
      refine G_st (st' := [.int (bI true), .int (bI false), .int (nI s), .int (nI f), .ref (ad g 19)]) rfl ?_
      refine r_callV C X (As := [.int (nI f), .int (nI s), .int (bI false), .int (bI true)]) (rest := []) (st1 := [.int (bI (hbF F f s false true (2 ^ n) 0))]) (μ' := μ) (k := 19) (T := TX11) miX11_hasBelow mvX11_hasBelow (c_hasBelow l g μ (F := F) (n := n) (f := f) (e := s) h6 (by omega) h5 (by omega) (by omega) false true) hw_5_170 (by decide) rfl rfl rfl ⟨by decide, by decide, rfl, rfl, by decide, by decide⟩ rfl (Nat.le_of_ble_eq_true rfl) dX11_isDerived_74 rfl ?_
      refine r_if_ne C 84 dX11_isDerived_77 (by decide) (bI_ne _) (fun h77 => ?_) (fun h77 => ?_)
      · refine r_iconst C (v := (nI 0)) dX11_isDerived_84 rfl ?_
        refine G_top (y := (bI (F (1024 * f + s) && !hbF F f s false true (2 ^ n) 0))) (b0 (by rw [h77]; exact Bool.and_false _)) ?_
        exact r_zret C dX11_isDerived_85 (nar_b _) Rr
      · refine r_iconst C (v := (nI 1)) dX11_isDerived_80 rfl ?_
        refine r_goto C 85 dX11_isDerived_81 (by decide) ?_
        refine G_top (y := (bI (F (1024 * f + s) && !hbF F f s false true (2 ^ n) 0))) (b1 (by rw [ts_t h66, Bool.eq_false_iff.mpr h77]; rfl)) ?_
        exact r_zret C dX11_isDerived_85 (nar_b _) Rr
  · refine r_tabIn C 86 dX11_isDerived_1 (by decide) (by decide) rfl (by decide) ?_
    refine r_aload_n C dX11_isDerived_86 0 rfl ?_
    refine r_get C X (k := 19) (R := RX11) (T := TX11) (N := 15) (n := 2) (v := .ref (ad g 20)) (by decide) rfl rfl inw11 (by decide) rfl hw_5_20 rfl dX11_isDerived_87 ?_
    refine r_sipush C (v := (nI 1024)) dX11_isDerived_90 (by decide) ?_
    refine r_iload_n C dX11_isDerived_93 2 rfl ?_
    refine r_imul C (v := (nI (1024 * f))) dX11_isDerived_94 (pk_mul _ _) ?_
    refine r_iload_n C dX11_isDerived_95 3 rfl ?_
    refine r_iadd C (v := (nI (1024 * f + s))) dX11_isDerived_96 (nI_add _ _) ?_
    refine r_zald C X (k := 20) (v := (bI (F (1024 * f + s)))) (by decide) rfl (by omega) (by decide) (bR_at h5 _) dX11_isDerived_97 ?_
    refine r_if_eq C 116 dX11_isDerived_98 (by decide) (bI_eq _) (fun h98 => ?_) (fun h98 => ?_)
    · refine r_iconst C (v := (nI 0)) dX11_isDerived_116 rfl ?_
      refine G_top (y := (bI (F (1024 * f + s) && !hbF F f s true true (2 ^ n) 0))) (b0 (by rw [h98]; rfl)) ?_
      exact r_zret C dX11_isDerived_117 (nar_b _) Rr
    · refine r_aload_n C dX11_isDerived_101 0 rfl ?_
      refine r_iload_n C dX11_isDerived_102 2 rfl ?_
      refine r_iload_n C dX11_isDerived_103 3 rfl ?_
      refine r_iconst C (v := (nI 1)) dX11_isDerived_104 rfl ?_
      refine r_iconst C (v := (nI 1)) dX11_isDerived_105 rfl ?_
      refine G_st (st' := [.int (bI true), .int (bI true), .int (nI s), .int (nI f), .ref (ad g 19)]) rfl ?_
      refine r_callV C X (As := [.int (nI f), .int (nI s), .int (bI true), .int (bI true)]) (rest := []) (st1 := [.int (bI (hbF F f s true true (2 ^ n) 0))]) (μ' := μ) (k := 19) (T := TX11) miX11_hasBelow mvX11_hasBelow (c_hasBelow l g μ (F := F) (n := n) (f := f) (e := s) h6 (by omega) h5 (by omega) (by omega) true true) hw_5_170 (by decide) rfl rfl rfl ⟨by decide, by decide, rfl, rfl, by decide, by decide⟩ rfl (Nat.le_of_ble_eq_true rfl) dX11_isDerived_106 rfl ?_
      refine r_if_ne C 116 dX11_isDerived_109 (by decide) (bI_ne _) (fun h109 => ?_) (fun h109 => ?_)
      · refine r_iconst C (v := (nI 0)) dX11_isDerived_116 rfl ?_
        refine G_top (y := (bI (F (1024 * f + s) && !hbF F f s true true (2 ^ n) 0))) (b0 (by rw [h109]; exact Bool.and_false _)) ?_
        exact r_zret C dX11_isDerived_117 (nar_b _) Rr
      · refine r_iconst C (v := (nI 1)) dX11_isDerived_112 rfl ?_
        refine r_goto C 117 dX11_isDerived_113 (by decide) ?_
        refine G_top (y := (bI (F (1024 * f + s) && !hbF F f s true true (2 ^ n) 0))) (b1 (by rw [ts_t h98, Bool.eq_false_iff.mpr h109]; rfl)) ?_
        exact r_zret C dX11_isDerived_117 (nar_b _) Rr
  · refine r_tabIn C 118 dX11_isDerived_1 (by decide) (by decide) rfl (by decide) ?_
    refine r_aload_n C dX11_isDerived_118 0 rfl ?_
    refine r_get C X (k := 19) (R := RX11) (T := TX11) (N := 15) (n := 2) (v := .ref (ad g 20)) (by decide) rfl rfl inw11 (by decide) rfl hw_5_20 rfl dX11_isDerived_119 ?_
    refine r_sipush C (v := (nI 1024)) dX11_isDerived_122 (by decide) ?_
    refine r_iload_n C dX11_isDerived_125 2 rfl ?_
    refine r_imul C (v := (nI (1024 * f))) dX11_isDerived_126 (pk_mul _ _) ?_
    refine r_aload_n C dX11_isDerived_127 0 rfl ?_
    refine r_callV C X (As := []) (rest := [.int (nI (1024 * f)), .ref (ad g 20)]) (st1 := [.int (nI (2 ^ n)), .int (nI (1024 * f)), .ref (ad g 20)]) (μ' := μ) (k := 19) (T := TX11) miX11_codes mvX11_codes (c_codes l g μ (n := n) h6 (by omega)) hw_5_99 (by decide) rfl rfl rfl ⟨by decide, by decide, rfl, rfl, by decide, by decide⟩ rfl (Nat.le_of_ble_eq_true rfl) dX11_isDerived_128 rfl ?_
    refine r_iadd C (v := (nI (1024 * f + (2 ^ n)))) dX11_isDerived_131 (nI_add _ _) ?_
    refine r_iconst C (v := (nI 1)) dX11_isDerived_132 rfl ?_
    refine r_isub C (v := (nI (1024 * f + (2 ^ n) - 1))) dX11_isDerived_133 (pk_sub (by omega)) ?_
    refine r_iload_n C dX11_isDerived_134 3 rfl ?_
    refine r_isub C (v := (nI (1024 * f + (2 ^ n) - 1 - s))) dX11_isDerived_135 (pk_sub (by omega)) ?_
    refine r_zald C X (k := 20) (v := (bI (F (1024 * f + (2 ^ n) - 1 - s)))) (by decide) rfl (by omega) (by decide) (bR_at h5 _) dX11_isDerived_136 ?_
    exact r_zret C dX11_isDerived_137 (nar_b _) Rr
  · refine r_tabOut C 138 dX11_isDerived_1 (by decide) (by decide) ?_
    refine r_aload_n C dX11_isDerived_138 0 rfl ?_
    refine r_iload_n C dX11_isDerived_139 2 rfl ?_
    refine r_iload_n C dX11_isDerived_140 3 rfl ?_
    refine r_callV C X (As := [.int (nI f), .int (nI s)]) (rest := []) (st1 := [.int (bI (blA F n f s))]) (μ' := μ) (k := 19) (T := TX11) miX11_blocks mvX11_blocks (c_blocks l g μ (F := F) (n := n) (f := f) (e := s) h6 (by omega) h5 (by omega) (by omega)) hw_5_174 (by decide) rfl rfl rfl ⟨by decide, by decide, rfl, rfl, by decide, by decide⟩ rfl (Nat.le_of_ble_eq_true rfl) dX11_isDerived_141 rfl ?_
    exact r_zret C dX11_isDerived_144 (nar_b _) Rr
def abA (F : Nat → Bool) (f p s t : Nat) : Bool := match p with
  | 0 => !decide (s = t) && decide (s &&& t = s)
  | 1 => decide (s &&& t = 0)
  | 2 => !F (1024 * f + (s ||| t))
  | _ => !F (1024 * f + (s &&& t))
theorem or1024 {s t : Nat} (hs : s < 1024) (ht : t < 1024) : s ||| t < 1024 := Nat.or_lt_two_pow (n := 10) hs ht
theorem and1024 {s t : Nat} (hs : s < 1024) : s &&& t < 1024 := Nat.lt_of_le_of_lt Nat.and_le_left hs
set_option maxHeartbeats 1000000 in
set_option maxRecDepth 100000 in
theorem c_areBad (l : Launch) (g : Gd) (μ : Mm) {F : Nat → Bool} {f p s t : Nat} (h5 : gA μ 5 = bR F) (hf : f < 4) (hp : p < 4) (hs : s < 1024) (ht : t < 1024) : Ct l yX11_areBad cX11_areBad 5 (some .boolean) (rmk 0 0) g [.ref (ad g 19), .int (nI f), .int (nI p), .int (nI s), .int (nI t)] μ (some (.int (bI (abA F f p s t)))) μ := by
  refine Ct.of (by decide) (Nat.le_of_ble_eq_true rfl) (fun z A C X Rr => ?_)
  have hor := or1024 hs ht
  have hand := and1024 (t := t) hs
  refine r_iload_n C dX11_areBad_0 2 rfl ?_
  rcases (show p = 0 ∨ p = 1 ∨ p = 2 ∨ p = 3 by omega) with rfl | rfl | rfl | rfl
  · refine r_tabIn C 28 dX11_areBad_1 (by decide) (by decide) rfl (by decide) ?_
    refine r_iload_n C dX11_areBad_28 3 rfl ?_
    refine r_iload C dX11_areBad_29 4 rfl ?_
    refine r_icmp_eq C 46 dX11_areBad_31 (by decide) (nI_eq (by omega) (by omega)) (fun h31 => ?_) (fun h31 => ?_)
    · refine r_iconst C (v := (nI 0)) dX11_areBad_46 rfl ?_
      refine G_top (y := (bI (!decide (s = t) && decide (s &&& t = s)))) (b0 (by rw [decide_eq_true h31]; rfl)) ?_
      exact r_zret C dX11_areBad_47 (nar_b _) Rr
    · refine r_iload_n C dX11_areBad_34 3 rfl ?_
      refine r_iload C dX11_areBad_35 4 rfl ?_
      refine r_iand C (v := (nI (s &&& t))) dX11_areBad_37 (nand _ _) ?_
      refine r_iload_n C dX11_areBad_38 3 rfl ?_
      refine r_icmp_ne C 46 dX11_areBad_39 (by decide) (not_congr (nI_eq (by omega) (by omega))) (fun h39 => ?_) (fun h39 => ?_)
      · refine r_iconst C (v := (nI 0)) dX11_areBad_46 rfl ?_
        refine G_top (y := (bI (!decide (s = t) && decide (s &&& t = s)))) (b0 (by rw [decide_eq_false h39]; exact Bool.and_false _)) ?_
        exact r_zret C dX11_areBad_47 (nar_b _) Rr
      · refine r_iconst C (v := (nI 1)) dX11_areBad_42 rfl ?_
        refine r_goto C 47 dX11_areBad_43 (by decide) ?_
        refine G_top (y := (bI (!decide (s = t) && decide (s &&& t = s)))) (b1 (by rw [decide_eq_false h31, decide_eq_true (Decidable.not_not.mp h39)]; rfl)) ?_
        exact r_zret C dX11_areBad_47 (nar_b _) Rr
  · refine r_tabIn C 48 dX11_areBad_1 (by decide) (by decide) rfl (by decide) ?_
    refine r_iload_n C dX11_areBad_48 3 rfl ?_
    refine r_iload C dX11_areBad_49 4 rfl ?_
    refine r_iand C (v := (nI (s &&& t))) dX11_areBad_51 (nand _ _) ?_
    refine r_if_ne C 59 dX11_areBad_52 (by decide) (zI_ne (by omega)) (fun h52 => ?_) (fun h52 => ?_)
    · refine r_iconst C (v := (nI 0)) dX11_areBad_59 rfl ?_
      refine G_top (y := (bI (decide (s &&& t = 0)))) (bd0 h52) ?_
      exact r_zret C dX11_areBad_60 (nar_b _) Rr
    · refine r_iconst C (v := (nI 1)) dX11_areBad_55 rfl ?_
      refine r_goto C 60 dX11_areBad_56 (by decide) ?_
      refine G_top (y := (bI (decide (s &&& t = 0)))) (bd1 (Decidable.not_not.mp h52)) ?_
      exact r_zret C dX11_areBad_60 (nar_b _) Rr
  · refine r_tabIn C 61 dX11_areBad_1 (by decide) (by decide) rfl (by decide) ?_
    refine r_aload_n C dX11_areBad_61 0 rfl ?_
    refine r_get C X (k := 19) (R := RX11) (T := TX11) (N := 15) (n := 2) (v := .ref (ad g 20)) (by decide) rfl rfl inw11 (by decide) rfl hw_5_20 rfl dX11_areBad_62 ?_
    refine r_sipush C (v := (nI 1024)) dX11_areBad_65 (by decide) ?_
    refine r_iload_n C dX11_areBad_68 1 rfl ?_
    refine r_imul C (v := (nI (1024 * f))) dX11_areBad_69 (pk_mul _ _) ?_
    refine r_iload_n C dX11_areBad_70 3 rfl ?_
    refine r_iload C dX11_areBad_71 4 rfl ?_
    refine r_ior C (v := (nI (s ||| t))) dX11_areBad_73 (nor _ _) ?_
    refine r_iadd C (v := (nI (1024 * f + (s ||| t)))) dX11_areBad_74 (nI_add _ _) ?_
    refine r_zald C X (k := 20) (v := (bI (F (1024 * f + (s ||| t))))) (by decide) rfl (by omega) (by decide) (bR_at h5 _) dX11_areBad_75 ?_
    refine r_if_ne C 83 dX11_areBad_76 (by decide) (bI_ne _) (fun h76 => ?_) (fun h76 => ?_)
    · refine r_iconst C (v := (nI 0)) dX11_areBad_83 rfl ?_
      refine G_top (y := (bI (!F (1024 * f + (s ||| t))))) (b0 (by rw [h76]; rfl)) ?_
      exact r_zret C dX11_areBad_84 (nar_b _) Rr
    · refine r_iconst C (v := (nI 1)) dX11_areBad_79 rfl ?_
      refine r_goto C 84 dX11_areBad_80 (by decide) ?_
      refine G_top (y := (bI (!F (1024 * f + (s ||| t))))) (b1 (by rw [Bool.eq_false_iff.mpr h76]; rfl)) ?_
      exact r_zret C dX11_areBad_84 (nar_b _) Rr
  · refine r_tabOut C 85 dX11_areBad_1 (by decide) (by decide) ?_
    refine r_aload_n C dX11_areBad_85 0 rfl ?_
    refine r_get C X (k := 19) (R := RX11) (T := TX11) (N := 15) (n := 2) (v := .ref (ad g 20)) (by decide) rfl rfl inw11 (by decide) rfl hw_5_20 rfl dX11_areBad_86 ?_
    refine r_sipush C (v := (nI 1024)) dX11_areBad_89 (by decide) ?_
    refine r_iload_n C dX11_areBad_92 1 rfl ?_
    refine r_imul C (v := (nI (1024 * f))) dX11_areBad_93 (pk_mul _ _) ?_
    refine r_iload_n C dX11_areBad_94 3 rfl ?_
    refine r_iload C dX11_areBad_95 4 rfl ?_
    refine r_iand C (v := (nI (s &&& t))) dX11_areBad_97 (nand _ _) ?_
    refine r_iadd C (v := (nI (1024 * f + (s &&& t)))) dX11_areBad_98 (nI_add _ _) ?_
    refine r_zald C X (k := 20) (v := (bI (F (1024 * f + (s &&& t))))) (by decide) rfl (by omega) (by decide) (bR_at h5 _) dX11_areBad_99 ?_
    refine r_if_ne C 107 dX11_areBad_100 (by decide) (bI_ne _) (fun h100 => ?_) (fun h100 => ?_)
    · refine r_iconst C (v := (nI 0)) dX11_areBad_107 rfl ?_
      refine G_top (y := (bI (!F (1024 * f + (s &&& t))))) (b0 (by rw [h100]; rfl)) ?_
      exact r_zret C dX11_areBad_108 (nar_b _) Rr
    · refine r_iconst C (v := (nI 1)) dX11_areBad_103 rfl ?_
      refine r_goto C 108 dX11_areBad_104 (by decide) ?_
      refine G_top (y := (bI (!F (1024 * f + (s &&& t))))) (b1 (by rw [Bool.eq_false_iff.mpr h100]; rfl)) ?_
      exact r_zret C dX11_areBad_108 (nar_b _) Rr
def cpZ : Nat → (Nat → Int32) → Nat → Int32 := fun k r => rowU k (fun _ => nI 0) r
def cpI (F : Nat → Bool) (f s : Nat) (r : Nat → Int32) : Nat → Nat → Int32
  | 0 => r
  | t + 1 => if F (1024 * f + t) = true then upd (cpI F f s r t) (b10 (s &&& t)) (cpI F f s r t (b10 (s &&& t)) + nI 1) else cpI F f s r t
def cpO (F : Nat → Bool) (f : Nat) (r : Nat → Int32) : Nat → Nat → Int32
  | 0 => r
  | s + 1 => if F (1024 * f + s) = true then cpI F f s (cpO F f r s) s else cpO F f r s
def mCP (μ : Mm) (F : Nat → Bool) (n f : Nat) : Mm := sA μ 11 (cpO F f (cpZ 11 (gA μ 11)) (2 ^ n))
set_option maxHeartbeats 1000000 in
set_option maxRecDepth 100000 in
theorem lp_countsPairsZ {z : Zt} {A : Nat → Prop} {l : Launch} {g : Gd} {μ : Mm} (C : Cx z A l (rmk 1 22) cX11_countsPairs 4 "SetFamiliesModel") (X : Kx z g A) {f : Nat} (KK : G z g.1 A 4 (wd g (sA μ 11 (cpZ 11 (gA μ 11)))) 0 0 21 [(0, .ref (ad g 19)), (1, .int (nI f))] []) : ∀ (n_ : Nat) (k : Nat), 11 - k < n_ → k ≤ 11 → G z g.1 A 4 (wd g (sA μ 11 (cpZ k (gA μ 11)))) 0 0 2 [(2, .int (nI k)), (0, .ref (ad g 19)), (1, .int (nI f))] [] := by
  intro n_
  induction n_ with
  | zero => intro k hm_; exact absurd hm_ (Nat.not_lt_zero _)
  | succ n_ ih =>
    intro k hm_ hk
    refine r_iload_n C dX11_countsPairs_2 0 rfl ?_
    refine r_bipush C (v := (nI 11)) dX11_countsPairs_3 (by decide) ?_
    refine r_icmp_ge C 21 dX11_countsPairs_5 (by decide) (nI_leI (by omega) (by omega)) (fun h5 => ?_) (fun h5 => ?_)
    · have hk : k = 11 := by omega
      subst hk
      refine G_sub (lv' := [(0, .ref (ad g 19)), (1, .int (nI f))]) [1, 2] rfl ?_
      exact KK
    · refine r_aload_n C dX11_countsPairs_8 1 rfl ?_
      refine r_get C X (k := 19) (R := RX11) (T := TX11) (N := 15) (n := 13) (v := .ref (ad g 26)) (by decide) rfl rfl inw11 (by decide) rfl hw_5_31 rfl dX11_countsPairs_9 ?_
      refine r_iload_n C dX11_countsPairs_12 0 rfl ?_
      refine r_iconst C (v := (nI 0)) dX11_countsPairs_13 rfl ?_
      refine r_iast C X (k := 26) (f' := cpZ (k + 1) (gA μ 11)) (μ' := (sA (sA μ 11 (cpZ k (gA μ 11))) 11 (cpZ (k + 1) (gA μ 11)))) (by decide) rfl (by omega) (by decide) (by rw [gA_s]; exact rowU_si _ _ _ rfl) dX11_countsPairs_14 (congrArg (iR g 1 11) (gA_s _ _ _)) (WF_sA11_ne g _ _) ?_
      refine G_mem (μ' := (sA μ 11 (cpZ (k + 1) (gA μ 11)))) (sA_u _ _ _ _) ?_
      refine r_iinc C (v := (nI (k + 1))) (lv' := [(2, .int (nI (k + 1))), (0, .ref (ad g 19)), (1, .int (nI f))]) 2 0 dX11_countsPairs_15 rfl (inc_N _ 1) (by decide) rfl ?_
      refine r_goto C 2 dX11_countsPairs_18 (by decide) ?_
      exact ih (k + 1) (by omega) (by omega)
set_option maxHeartbeats 1000000 in
set_option maxRecDepth 100000 in
theorem lp_countsPairsI {z : Zt} {A : Nat → Prop} {l : Launch} {g : Gd} {μ : Mm} (C : Cx z A l (rmk 1 22) cX11_countsPairs 4 "SetFamiliesModel") (X : Kx z g A) {F : Nat → Bool} {n f s : Nat} {r : Nat → Int32} (h5 : gA μ 5 = bR F) (hf : f < 4) (hs1 : s < 2 ^ n) (hFs : F (1024 * f + s) = true) (h1024 : 2 ^ n ≤ 1024) (KK : G z g.1 A 4 (wd g (sA μ 11 (cpI F f s r s))) 0 0 89 [(2, .int (nI s)), (0, .ref (ad g 19)), (1, .int (nI f))] []) : ∀ (n_ : Nat) (t : Nat), s - t < n_ → t ≤ s → G z g.1 A 4 (wd g (sA μ 11 (cpI F f s r t))) 0 0 33 [(3, .int (nI t)), (2, .int (nI s)), (0, .ref (ad g 19)), (1, .int (nI f))] [] := by
  intro n_
  induction n_ with
  | zero => intro t hm_; exact absurd hm_ (Nat.not_lt_zero _)
  | succ n_ ih =>
    intro t hm_ ht
    refine r_iload_n C dX11_countsPairs_33 0 rfl ?_
    refine r_iload_n C dX11_countsPairs_34 1 rfl ?_
    refine r_icmp_ge C 89 dX11_countsPairs_35 (by decide) (nI_leI (by omega) (by omega)) (fun h35 => ?_) (fun h35 => ?_)
    · have ht2 : s = t := by omega
      subst ht2
      refine G_sub (lv' := [(2, .int (nI s)), (0, .ref (ad g 19)), (1, .int (nI f))]) [1, 2, 3] rfl ?_
      exact KK
    · refine r_aload_n C dX11_countsPairs_38 2 rfl ?_
      refine r_get C X (k := 19) (R := RX11) (T := TX11) (N := 15) (n := 2) (v := .ref (ad g 20)) (by decide) rfl rfl inw11 (by decide) rfl hw_5_20 rfl dX11_countsPairs_39 ?_
      refine r_sipush C (v := (nI 1024)) dX11_countsPairs_42 (by decide) ?_
      refine r_iload_n C dX11_countsPairs_45 3 rfl ?_
      refine r_imul C (v := (nI (1024 * f))) dX11_countsPairs_46 (pk_mul _ _) ?_
      refine r_iload_n C dX11_countsPairs_47 1 rfl ?_
      refine r_iadd C (v := (nI (1024 * f + s))) dX11_countsPairs_48 (nI_add _ _) ?_
      refine r_zald C X (k := 20) (v := (bI (F (1024 * f + s)))) (by decide) rfl (by omega) (by decide) (bR_at ((gA_n _ _ (by decide)).trans h5) _) dX11_countsPairs_49 ?_
      refine r_if_eq C 89 dX11_countsPairs_50 (by decide) (bI_eq _) (fun h50 => ?_) (fun h50 => ?_)
      · exact absurd h50 (by rw [hFs]; decide)
      · have hb := b10_lt (s &&& t)
        have hsa : s &&& t < 1024 := and1024 (by omega)
        refine r_aload_n C dX11_countsPairs_53 2 rfl ?_
        refine r_get C X (k := 19) (R := RX11) (T := TX11) (N := 15) (n := 2) (v := .ref (ad g 20)) (by decide) rfl rfl inw11 (by decide) rfl hw_5_20 rfl dX11_countsPairs_54 ?_
        refine r_sipush C (v := (nI 1024)) dX11_countsPairs_57 (by decide) ?_
        refine r_iload_n C dX11_countsPairs_60 3 rfl ?_
        refine r_imul C (v := (nI (1024 * f))) dX11_countsPairs_61 (pk_mul _ _) ?_
        refine r_iload_n C dX11_countsPairs_62 0 rfl ?_
        refine r_iadd C (v := (nI (1024 * f + t))) dX11_countsPairs_63 (nI_add _ _) ?_
        refine r_zald C X (k := 20) (v := (bI (F (1024 * f + t)))) (by decide) rfl (by omega) (by decide) (bR_at ((gA_n _ _ (by decide)).trans h5) _) dX11_countsPairs_64 ?_
        refine r_if_eq C 83 dX11_countsPairs_65 (by decide) (bI_eq _) (fun h65 => ?_) (fun h65 => ?_)
        · refine r_iinc C (v := (nI (t + 1))) (lv' := [(3, .int (nI (t + 1))), (2, .int (nI s)), (0, .ref (ad g 19)), (1, .int (nI f))]) 3 0 dX11_countsPairs_83 rfl (inc_N _ 1) (by decide) rfl ?_
          refine r_goto C 33 dX11_countsPairs_86 (by decide) ?_
          refine G_mem (μ' := (sA μ 11 (cpI F f s r (t + 1)))) (by rw [cpI, if_neg (ts_f h65)]) ?_
          exact ih (t + 1) (by omega) (by omega)
        · refine r_aload_n C dX11_countsPairs_68 2 rfl ?_
          refine r_get C X (k := 19) (R := RX11) (T := TX11) (N := 15) (n := 13) (v := .ref (ad g 26)) (by decide) rfl rfl inw11 (by decide) rfl hw_5_31 rfl dX11_countsPairs_69 ?_
          refine r_iload_n C dX11_countsPairs_72 1 rfl ?_
          refine r_iload_n C dX11_countsPairs_73 0 rfl ?_
          refine r_iand C (v := (nI (s &&& t))) dX11_countsPairs_74 (nand _ _) ?_
          refine r_callP C (As := [.int (nI (s &&& t))]) (rest := [.ref (ad g 26)]) (st1 := [.int (nI (b10 (s &&& t))), .ref (ad g 26)]) miX11_bits msX11_bits (c_bits l (c := s &&& t) (by omega)) hw_5_123 rfl ⟨by decide, by decide, rfl, rfl, by decide, by decide⟩ rfl (Nat.le_of_ble_eq_true rfl) dX11_countsPairs_75 rfl ?_
          refine r_dup2 C dX11_countsPairs_78 rfl rfl ?_
          refine r_iald C X (k := 26) (v := (cpI F f s r t (b10 (s &&& t)))) (by decide) rfl (by omega) (by decide) (by rw [gA_s]) dX11_countsPairs_79 ?_
          refine r_iconst C (v := (nI 1)) dX11_countsPairs_80 rfl ?_
          refine r_iadd C (v := ((cpI F f s r t (b10 (s &&& t))) + (nI 1))) dX11_countsPairs_81 rfl ?_
          refine r_iast C X (k := 26) (f' := cpI F f s r (t + 1)) (μ' := (sA (sA μ 11 (cpI F f s r t)) 11 (cpI F f s r (t + 1)))) (by decide) rfl (by omega) (by decide) (by rw [gA_s, cpI, if_pos (ts_t h65)]) dX11_countsPairs_82 (congrArg (iR g 1 11) (gA_s _ _ _)) (WF_sA11_ne g _ _) ?_
          refine G_mem (μ' := (sA μ 11 (cpI F f s r (t + 1)))) (sA_u _ _ _ _) ?_
          refine r_iinc C (v := (nI (t + 1))) (lv' := [(3, .int (nI (t + 1))), (2, .int (nI s)), (0, .ref (ad g 19)), (1, .int (nI f))]) 3 0 dX11_countsPairs_83 rfl (inc_N _ 1) (by decide) rfl ?_
          refine r_goto C 33 dX11_countsPairs_86 (by decide) ?_
          exact ih (t + 1) (by omega) (by omega)
set_option maxHeartbeats 1000000 in
set_option maxRecDepth 100000 in
theorem lp_countsPairs {z : Zt} {A : Nat → Prop} {l : Launch} {g : Gd} {μ : Mm} (C : Cx z A l (rmk 1 22) cX11_countsPairs 4 "SetFamiliesModel") (X : Kx z g A) {F : Nat → Bool} {n f : Nat} {r : Nat → Int32} (h6 : gI μ 6 = nI n) (hn10 : n ≤ 10) (h5 : gA μ 5 = bR F) (hf : f < 4) (h1024 : 2 ^ n ≤ 1024) (h2n : 0 < 2 ^ n) (Rr : Rx z g A none none (sA μ 11 (cpO F f r (2 ^ n)))) : ∀ (n_ : Nat) (s : Nat), 2 ^ n - s < n_ → s ≤ 2 ^ n → G z g.1 A 4 (wd g (sA μ 11 (cpO F f r s))) 0 0 23 [(2, .int (nI s)), (0, .ref (ad g 19)), (1, .int (nI f))] [] := by
  intro n_
  induction n_ with
  | zero => intro s hm_; exact absurd hm_ (Nat.not_lt_zero _)
  | succ n_ ih =>
    intro s hm_ hs
    refine r_iload_n C dX11_countsPairs_23 0 rfl ?_
    refine r_aload_n C dX11_countsPairs_24 1 rfl ?_
    refine r_callV C X (As := []) (rest := [.int (nI s)]) (st1 := [.int (nI (2 ^ n)), .int (nI s)]) (μ' := (sA μ 11 (cpO F f r s))) (k := 19) (T := TX11) miX11_codes mvX11_codes (c_codes l g (sA μ 11 (cpO F f r s)) (n := n) ((gI_A _ _ _ _).trans h6) (by omega)) hw_5_99 (by decide) rfl rfl rfl ⟨by decide, by decide, rfl, rfl, by decide, by decide⟩ rfl (Nat.le_of_ble_eq_true rfl) dX11_countsPairs_25 rfl ?_
    refine r_icmp_ge C 95 dX11_countsPairs_28 (by decide) (nI_leI (by omega) (by omega)) (fun h28 => ?_) (fun h28 => ?_)
    · have hs2 : s = 2 ^ n := by omega
      subst hs2
      exact r_vret C dX11_countsPairs_95 Rr
    · have hs1 : s < 2 ^ n := by omega
      refine r_iconst C (v := (nI 0)) dX11_countsPairs_31 rfl ?_
      refine r_istore_n C (lv' := [(3, .int (nI 0)), (2, .int (nI s)), (0, .ref (ad g 19)), (1, .int (nI f))]) 3 dX11_countsPairs_32 rfl (by decide) rfl ?_
      by_cases hFs : F (1024 * f + s) = true
      · refine lp_countsPairsI C X (r := cpO F f r s) h5 hf hs1 hFs h1024 ?_ (s + 1) 0 (by omega) (by omega)
        refine G_mem (μ' := (sA μ 11 (cpO F f r (s + 1)))) (by rw [cpO, if_pos hFs]) ?_
        refine r_iinc C (v := (nI (s + 1))) (lv' := [(2, .int (nI (s + 1))), (0, .ref (ad g 19)), (1, .int (nI f))]) 2 0 dX11_countsPairs_89 rfl (inc_N _ 1) (by decide) rfl ?_
        refine r_goto C 23 dX11_countsPairs_92 (by decide) ?_
        exact ih (s + 1) (by omega) (by omega)
      · refine G_mem (μ' := (sA μ 11 (cpO F f r (s + 1)))) (by rw [cpO, if_neg hFs]) ?_
        refine r_iload_n C dX11_countsPairs_33 0 rfl ?_
        refine r_iload_n C dX11_countsPairs_34 1 rfl ?_
        refine r_icmp_ge C 89 dX11_countsPairs_35 (by decide) (nI_leI (by omega) (by omega)) (fun h35 => ?_) (fun h35 => ?_)
        · refine r_iinc C (v := (nI (s + 1))) (lv' := [(2, .int (nI (s + 1))), (3, .int (nI 0)), (0, .ref (ad g 19)), (1, .int (nI f))]) 2 1 dX11_countsPairs_89 rfl (inc_N _ 1) (by decide) rfl ?_
          refine r_goto C 23 dX11_countsPairs_92 (by decide) ?_
          refine G_sub (lv' := [(2, .int (nI (s + 1))), (0, .ref (ad g 19)), (1, .int (nI f))]) [0, 2, 3] rfl ?_
          exact ih (s + 1) (by omega) (by omega)
        · refine r_aload_n C dX11_countsPairs_38 2 rfl ?_
          refine r_get C X (k := 19) (R := RX11) (T := TX11) (N := 15) (n := 2) (v := .ref (ad g 20)) (by decide) rfl rfl inw11 (by decide) rfl hw_5_20 rfl dX11_countsPairs_39 ?_
          refine r_sipush C (v := (nI 1024)) dX11_countsPairs_42 (by decide) ?_
          refine r_iload_n C dX11_countsPairs_45 3 rfl ?_
          refine r_imul C (v := (nI (1024 * f))) dX11_countsPairs_46 (pk_mul _ _) ?_
          refine r_iload_n C dX11_countsPairs_47 1 rfl ?_
          refine r_iadd C (v := (nI (1024 * f + s))) dX11_countsPairs_48 (nI_add _ _) ?_
          refine r_zald C X (k := 20) (v := (bI (F (1024 * f + s)))) (by decide) rfl (by omega) (by decide) (bR_at ((gA_n _ _ (by decide)).trans h5) _) dX11_countsPairs_49 ?_
          refine r_if_eq C 89 dX11_countsPairs_50 (by decide) (bI_eq _) (fun h50 => ?_) (fun h50 => ?_)
          · refine r_iinc C (v := (nI (s + 1))) (lv' := [(2, .int (nI (s + 1))), (3, .int (nI 0)), (0, .ref (ad g 19)), (1, .int (nI f))]) 2 1 dX11_countsPairs_89 rfl (inc_N _ 1) (by decide) rfl ?_
            refine r_goto C 23 dX11_countsPairs_92 (by decide) ?_
            refine G_sub (lv' := [(2, .int (nI (s + 1))), (0, .ref (ad g 19)), (1, .int (nI f))]) [0, 2, 3] rfl ?_
            exact ih (s + 1) (by omega) (by omega)
          · exact absurd (ts_t h50) hFs
set_option maxHeartbeats 1000000 in
set_option maxRecDepth 100000 in
theorem c_countsPairs (l : Launch) (g : Gd) (μ : Mm) {F : Nat → Bool} {n f : Nat} (h6 : gI μ 6 = nI n) (hn10 : n ≤ 10) (h5 : gA μ 5 = bR F) (hf : f < 4) : Ct l yX11_countsPairs cX11_countsPairs 4 none (rmk 1 22) g [.ref (ad g 19), .int (nI f)] μ none (mCP μ F n f) := by
  have h1024 := pw10 hn10
  have h2n := Nat.two_pow_pos n
  refine Ct.of (by decide) (Nat.le_of_ble_eq_true rfl) (fun z A C X Rr => ?_)
  refine r_iconst C (v := (nI 0)) dX11_countsPairs_0 rfl ?_
  refine r_istore_n C (lv' := [(2, .int (nI 0)), (0, .ref (ad g 19)), (1, .int (nI f))]) 2 dX11_countsPairs_1 rfl (by decide) rfl ?_
  refine G_mem (show μ = (sA μ 11 (cpZ 0 (gA μ 11))) by unfold cpZ; rw [rowU_0, sA_i]) ?_
  refine lp_countsPairsZ C X ?_ 12 0 (by decide) (by decide)
  refine r_iconst C (v := (nI 0)) dX11_countsPairs_21 rfl ?_
  refine r_istore_n C (lv' := [(2, .int (nI 0)), (0, .ref (ad g 19)), (1, .int (nI f))]) 2 dX11_countsPairs_22 rfl (by decide) rfl ?_
  exact lp_countsPairs C X (r := cpZ 11 (gA μ 11)) h6 hn10 h5 hf h1024 h2n Rr (2 ^ n + 1) 0 (by omega) (by omega)
