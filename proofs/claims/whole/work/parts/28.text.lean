theorem b8 : ∀ v, v < 128 → (nI v).toInt8.toInt32 = nI v := by decide +kernel
theorem nar8 : ∀ v, v < 128 → vp_nar .byte (nI v) = nI v := fun v h => by rw [vp_nar_byte]; exact b8 v h
theorem nar_z (b : Bool) : vp_nar .boolean (bI b) = bI b := by cases b <;> rfl
theorem dig_lt {b l : Nat} (hb : b < 2 ^ 20) (hl : l < 2 ^ 20) : nI b - nI 48 < nI l ↔ b < 48 + l := by
  rw [Int32.lt_iff_toInt_lt, pk_sub_toInt (by omega) (by decide), nI_toInt (by omega)]
  omega
def psF (t n tl : Nat) (tb : Nat → Nat) : Nat → Nat → Nat → Nat → Bool → Mm → Mm × Int32
  | 0, _, set, _, bg, M => (if bg = true then mPut M t set else M, if bg = true ∨ tl = 0 then -1 else nI tl)
  | r + 1, i, set, l, bg, M =>
    if bg = true ∧ tb i = 44 then psF t n tl tb r (i + 1) 0 0 false (mPut M t set)
    else if bg = false ∧ tb i = 45 then psF t n tl tb r (i + 1) set n true M
    else if 48 + l ≤ tb i ∧ tb i < 48 + n then psF t n tl tb r (i + 1) (set ||| 2 ^ (tb i - 48)) (tb i - 48 + 1) true M
    else (M, nI i)
theorem gI_psF {t n tl q : Nat} {tb : Nat → Nat} : ∀ (r i set l : Nat) (bg : Bool) (M : Mm), gI (psF t n tl tb r i set l bg M).1 q = gI M q
  | 0, _, set, _, bg, M => by unfold psF; by_cases h : bg = true <;> simp only [h, if_true]; exact gI_mPut; rfl
  | r + 1, i, set, l, bg, M => by
    rw [psF]
    split
    · exact (gI_psF _ _ _ _ _ _).trans gI_mPut
    · split
      · exact gI_psF _ _ _ _ _ _
      · split
        · exact gI_psF _ _ _ _ _ _
        · rfl
theorem or10 {a d : Nat} (ha : a < 1024) (hd : d < 10) : a ||| 2 ^ d < 1024 := Nat.or_lt_two_pow (n := 10) ha (Nat.pow_lt_pow_right (by decide) hd)
set_option maxHeartbeats 1000000 in
set_option maxRecDepth 100000 in
theorem c_append (l : Launch) (g : Gd) (μ : Mm) {v tl : Nat} (h4 : gI μ 4 = nI tl) (htl : tl < 120) (hv : v < 128) : Ct l yX9_append cX9_append 2 none (rmk 0 0) g [.ref (ad g 6), .int (nI v)] μ none (sI (sA μ 1 (upd (gA μ 1) tl (nI v))) 4 (nI (tl + 1))) := by
  refine Ct.of (by decide) (Nat.le_of_ble_eq_true rfl) (fun z A C X Rr => ?_)
  refine r_aload_n C dX9_append_0 0 rfl ?_
  refine r_get C X (k := 6) (R := RX9) (T := TX9) (N := 2) (n := 0) (v := .int (gI μ 4)) (by decide) rfl rfl inw9 (by decide) rfl hw_1_99 rfl dX9_append_1 ?_
  refine G_top (y := (nI tl)) h4 ?_
  refine r_aload_n C dX9_append_4 0 rfl ?_
  refine r_get C X (k := 6) (R := RX9) (T := TX9) (N := 2) (n := 1) (v := .ref (ad g 7)) (by decide) rfl rfl inw9 (by decide) rfl hw_1_101 rfl dX9_append_5 ?_
  refine r_alen C X (k := 7) (t := 0) (n := 120) (by decide) rfl rfl rfl dX9_append_8 ?_
  refine r_icmp_ge C 33 dX9_append_9 (by decide) (nI_leI (by omega) (by omega)) (fun h9 => ?_) (fun h9 => ?_)
  · exact absurd h9 (by omega)
  · refine r_aload_n C dX9_append_12 0 rfl ?_
    refine r_get C X (k := 6) (R := RX9) (T := TX9) (N := 2) (n := 1) (v := .ref (ad g 7)) (by decide) rfl rfl inw9 (by decide) rfl hw_1_101 rfl dX9_append_13 ?_
    refine r_aload_n C dX9_append_16 0 rfl ?_
    refine r_get C X (k := 6) (R := RX9) (T := TX9) (N := 2) (n := 0) (v := .int (gI μ 4)) (by decide) rfl rfl inw9 (by decide) rfl hw_1_99 rfl dX9_append_17 ?_
    refine G_top (y := (nI tl)) h4 ?_
    refine r_iload_n C dX9_append_20 1 rfl ?_
    refine r_i2b C (v := (nI v)) dX9_append_21 (b8 v hv) ?_
    refine r_bast C X (k := 7) (f' := upd (gA μ 1) tl (nI v)) (μ' := (sA μ 1 (upd (gA μ 1) tl (nI v)))) (by decide) rfl (by omega) (by decide) (by rw [nar8 v hv]) dX9_append_22 (congrArg (iR g 0 120) (gA_s _ _ _)) (WF_sA1_ne g _ _) ?_
    refine r_aload_n C dX9_append_23 0 rfl ?_
    refine r_dup C dX9_append_24 rfl ?_
    refine r_get C X (k := 6) (R := RX9) (T := TX9) (N := 2) (n := 0) (v := .int (gI (sA μ 1 (upd (gA μ 1) tl (nI v))) 4)) (by decide) rfl rfl inw9 (by decide) rfl hw_1_99 rfl dX9_append_25 ?_
    refine G_top (y := (nI tl)) ((gI_A _ _ _ _).trans h4) ?_
    refine r_iconst C (v := (nI 1)) dX9_append_28 rfl ?_
    refine r_iadd C (v := (nI (tl + 1))) dX9_append_29 (nI_add _ _) ?_
    refine r_put C X (μ' := (sI (sA μ 1 (upd (gA μ 1) tl (nI v))) 4 (nI (tl + 1)))) (k := 6) (R := RX9) (T := TX9) (N := 2) (n := 0) (v := .int (nI (tl + 1))) (ty := .int) (by decide) rfl rfl inw9 tyX9_ok nmX9 (by decide) rfl hw_1_99 rfl rfl rfl rfl (Nat.le_of_ble_eq_true rfl) dX9_append_30 (WF_sI4_at g _ _) (WF_sI4_ne g _ _) ?_
    exact r_vret C dX9_append_33 Rr
set_option maxHeartbeats 1000000 in
set_option maxRecDepth 100000 in
theorem lp_parse {z : Zt} {A : Nat → Prop} {l : Launch} {g : Gd} (C : Cx z A l (rmk 2 44) cX9_parse 8 "SetFamilies$Text") (X : Kx z g A) {n t tl : Nat} {tb : Nat → Nat} (htl : tl ≤ 120) (hn10 : n ≤ 10) (ht : t < 52) : ∀ (n_ : Nat) (i set ld : Nat) (bg : Bool) (M : Mm), tl - i < n_ → i ≤ tl → set < 1024 → ld ≤ 80 → gI M 4 = nI tl → (∀ i, i < tl → gA M 1 i = nI (tb i) ∧ tb i < 128) → Rx z g A (some .int) (some (.int (psF t n tl tb (tl - i) i set ld bg M).2)) (psF t n tl tb (tl - i) i set ld bg M).1 → G z g.1 A 8 (wd g M) 0 0 15 [(6, .int (nI i)), (5, .int (bI bg)), (4, .int (nI ld)), (3, .int (nI set)), (0, .ref (ad g 6)), (1, .ref (ad g (fo t))), (2, .int (nI n))] [] := by
  intro n_
  induction n_ with
  | zero => intro i set ld bg M hm_; exact absurd hm_ (Nat.not_lt_zero _)
  | succ n_ ih =>
    intro i set ld bg M hm_ hi hset hl h4 hb Rr
    refine r_iload C dX9_parse_15 0 rfl ?_
    refine r_aload_n C dX9_parse_17 4 rfl ?_
    refine r_get C X (k := 6) (R := RX9) (T := TX9) (N := 2) (n := 0) (v := .int (gI M 4)) (by decide) rfl rfl inw9 (by decide) rfl hw_1_99 rfl dX9_parse_18 ?_
    refine G_top (y := (nI tl)) h4 ?_
    refine r_icmp_ge C 136 dX9_parse_21 (by decide) (nI_leI (by omega) (by omega)) (fun h21 => ?_) (fun h21 => ?_)
    · have hit : tl = i := by omega
      subst hit
      rw [Nat.sub_self, psF] at Rr
      refine r_iload C dX9_parse_136 1 rfl ?_
      refine r_if_eq C 146 dX9_parse_138 (by decide) (bI_eq _) (fun h138 => ?_) (fun h138 => ?_)
      · rw [if_neg (ts_f h138)] at Rr
        refine r_iload C dX9_parse_146 1 rfl ?_
        refine r_if_ne C 158 dX9_parse_148 (by decide) (bI_ne _) (fun h148 => ?_) (fun h148 => ?_)
        · exact absurd h138 (fun q => by rw [q] at h148; exact absurd h148 (by decide))
        · refine r_aload_n C dX9_parse_151 4 rfl ?_
          refine r_get C X (k := 6) (R := RX9) (T := TX9) (N := 2) (n := 0) (v := .int (gI M 4)) (by decide) rfl rfl inw9 (by decide) rfl hw_1_99 rfl dX9_parse_152 ?_
          refine G_top (y := (nI tl)) h4 ?_
          refine r_if_ne C 162 dX9_parse_155 (by decide) (zI_ne (by omega)) (fun h155 => ?_) (fun h155 => ?_)
          · rw [if_neg (fun q => q.elim (ts_f h138) h155)] at Rr
            refine r_aload_n C dX9_parse_162 4 rfl ?_
            refine r_get C X (k := 6) (R := RX9) (T := TX9) (N := 2) (n := 0) (v := .int (gI M 4)) (by decide) rfl rfl inw9 (by decide) rfl hw_1_99 rfl dX9_parse_163 ?_
            refine G_top (y := (nI tl)) h4 ?_
            exact r_iret C dX9_parse_166 Rr
          · rw [if_pos (Or.inr (Decidable.not_not.mp h155))] at Rr
            refine r_iconst C (v := (-1)) dX9_parse_158 rfl ?_
            refine r_goto C 166 dX9_parse_159 (by decide) ?_
            exact r_iret C dX9_parse_166 Rr
      · rw [if_pos (ts_t h138), if_pos (Or.inl (ts_t h138))] at Rr
        refine r_aload_n C dX9_parse_141 5 rfl ?_
        refine r_iload_n C dX9_parse_142 3 rfl ?_
        refine r_callV C X (As := [.int (nI set)]) (rest := []) (st1 := []) (μ' := (mPut M t set)) (k := (fo t)) (T := TX3) miX3_put mvX3_put (c_put l g M (i := t) (c := set) (by omega) (by omega)) hw_4_238 (fo_lt (by omega)) (WF_fo g _ t) rfl rfl ⟨by decide, by decide, rfl, rfl, by decide, by decide⟩ rfl (Nat.le_of_ble_eq_true rfl) dX9_parse_143 rfl ?_
        refine r_iload C dX9_parse_146 1 rfl ?_
        refine r_if_ne C 158 dX9_parse_148 (by decide) (bI_ne _) (fun h148 => ?_) (fun h148 => ?_)
        · refine r_iconst C (v := (-1)) dX9_parse_158 rfl ?_
          refine r_goto C 166 dX9_parse_159 (by decide) ?_
          exact r_iret C dX9_parse_166 Rr
        · exact absurd (ts_t h138) h148
    · have hbi := (hb i (by omega)).2
      rw [show tl - i = (tl - (i + 1)) + 1 by omega, psF] at Rr
      refine r_aload_n C dX9_parse_24 4 rfl ?_
      refine r_get C X (k := 6) (R := RX9) (T := TX9) (N := 2) (n := 1) (v := .ref (ad g 7)) (by decide) rfl rfl inw9 (by decide) rfl hw_1_101 rfl dX9_parse_25 ?_
      refine r_iload C dX9_parse_28 0 rfl ?_
      refine r_bald C X (k := 7) (v := (nI (tb i))) (by decide) rfl (by omega) (by decide) (hb i (by omega)).1 dX9_parse_30 ?_
      refine r_bipush C (v := (nI 48)) dX9_parse_31 (by decide) ?_
      refine r_isub C (v := (nI (tb i) - nI 48)) dX9_parse_33 rfl ?_
      refine r_istore C (lv' := [(7, .int (nI (tb i) - nI 48)), (6, .int (nI i)), (5, .int (bI bg)), (4, .int (nI ld)), (3, .int (nI set)), (0, .ref (ad g 6)), (1, .ref (ad g (fo t))), (2, .int (nI n))]) 7 dX9_parse_34 (by decide) rfl ?_
      refine r_iload C dX9_parse_36 2 rfl ?_
      refine r_if_eq C 69 dX9_parse_38 (by decide) (bI_eq _) (fun h38 => ?_) (fun h38 => ?_)
      · rw [if_neg (fun q => ts_f h38 q.1)] at Rr
        refine r_iload C dX9_parse_69 2 rfl ?_
        refine r_if_ne C 95 dX9_parse_71 (by decide) (bI_ne _) (fun h71 => ?_) (fun h71 => ?_)
        · rw [if_neg (fun q => ts_f q.1 h71)] at Rr
          refine r_iload C dX9_parse_95 0 rfl ?_
          refine r_iload C dX9_parse_97 3 rfl ?_
          refine r_icmp_lt C 127 dX9_parse_99 (by decide) (dig_lt (by omega) (by omega)) (fun h99 => ?_) (fun h99 => ?_)
          · rw [if_neg (by omega)] at Rr
            refine r_iload C dX9_parse_127 1 rfl ?_
            exact r_iret C dX9_parse_129 Rr
          · have hdg : nI (tb i) - nI 48 = nI (tb i - 48) := pk_sub (by omega)
            rw [hdg]
            refine r_iload C dX9_parse_102 0 rfl ?_
            refine r_iload_n C dX9_parse_104 7 rfl ?_
            refine r_icmp_ge C 127 dX9_parse_105 (by decide) (nI_leI (by omega) (by omega)) (fun h105 => ?_) (fun h105 => ?_)
            · rw [if_neg (by omega)] at Rr
              refine r_iload C dX9_parse_127 1 rfl ?_
              exact r_iret C dX9_parse_129 Rr
            · rw [if_pos (by omega)] at Rr
              refine r_iload_n C dX9_parse_108 4 rfl ?_
              refine r_iconst C (v := (nI 1)) dX9_parse_109 rfl ?_
              refine r_iload C dX9_parse_110 0 rfl ?_
              refine r_ishl C (v := (nI (2 ^ (tb i - 48)))) dX9_parse_112 (nshl1 (by omega)) ?_
              refine r_ior C (v := (nI (set ||| (2 ^ (tb i - 48))))) dX9_parse_113 (nor _ _) ?_
              refine r_istore_n C (lv' := [(3, .int (nI (set ||| (2 ^ (tb i - 48))))), (7, .int (nI (tb i - 48))), (6, .int (nI i)), (5, .int (bI bg)), (4, .int (nI ld)), (0, .ref (ad g 6)), (1, .ref (ad g (fo t))), (2, .int (nI n))]) 3 dX9_parse_114 rfl (by decide) rfl ?_
              refine r_iload C dX9_parse_115 1 rfl ?_
              refine r_iconst C (v := (nI 1)) dX9_parse_117 rfl ?_
              refine r_iadd C (v := (nI (tb i - 48 + 1))) dX9_parse_118 (nI_add _ _) ?_
              refine r_istore C (lv' := [(4, .int (nI (tb i - 48 + 1))), (3, .int (nI (set ||| (2 ^ (tb i - 48))))), (7, .int (nI (tb i - 48))), (6, .int (nI i)), (5, .int (bI bg)), (0, .ref (ad g 6)), (1, .ref (ad g (fo t))), (2, .int (nI n))]) 4 dX9_parse_119 (by decide) rfl ?_
              refine r_iconst C (v := (nI 1)) dX9_parse_121 rfl ?_
              refine r_istore C (lv' := [(5, .int (nI 1)), (4, .int (nI (tb i - 48 + 1))), (3, .int (nI (set ||| (2 ^ (tb i - 48))))), (7, .int (nI (tb i - 48))), (6, .int (nI i)), (0, .ref (ad g 6)), (1, .ref (ad g (fo t))), (2, .int (nI n))]) 5 dX9_parse_122 (by decide) rfl ?_
              refine r_goto C 130 dX9_parse_124 (by decide) ?_
              refine r_iinc C (v := (nI (i + 1))) (lv' := [(6, .int (nI (i + 1))), (5, .int (nI 1)), (4, .int (nI (tb i - 48 + 1))), (3, .int (nI (set ||| (2 ^ (tb i - 48))))), (7, .int (nI (tb i - 48))), (0, .ref (ad g 6)), (1, .ref (ad g (fo t))), (2, .int (nI n))]) 6 4 dX9_parse_130 rfl (inc_N _ 1) (by decide) rfl ?_
              refine r_goto C 15 dX9_parse_133 (by decide) ?_
              refine G_lv (lv' := [(6, .int (nI (i + 1))), (5, .int (bI true)), (4, .int (nI (tb i - 48 + 1))), (3, .int (nI (set ||| (2 ^ (tb i - 48))))), (7, .int (nI (tb i - 48))), (0, .ref (ad g 6)), (1, .ref (ad g (fo t))), (2, .int (nI n))]) rfl ?_
              refine G_sub (lv' := [(6, .int (nI (i + 1))), (5, .int (bI true)), (4, .int (nI (tb i - 48 + 1))), (3, .int (nI (set ||| (2 ^ (tb i - 48))))), (0, .ref (ad g 6)), (1, .ref (ad g (fo t))), (2, .int (nI n))]) [0, 1, 2, 3, 5, 6, 7] rfl ?_
              exact ih (i + 1) (set ||| (2 ^ (tb i - 48))) (tb i - 48 + 1) true M (by omega) (by omega) (or10 hset (by omega)) (by omega) h4 hb Rr
        · refine r_aload_n C dX9_parse_74 5 rfl ?_
          refine r_get C X (k := 6) (R := RX9) (T := TX9) (N := 2) (n := 1) (v := .ref (ad g 7)) (by decide) rfl rfl inw9 (by decide) rfl hw_1_101 rfl dX9_parse_75 ?_
          refine r_iload C dX9_parse_78 1 rfl ?_
          refine r_bald C X (k := 7) (v := (nI (tb i))) (by decide) rfl (by omega) (by decide) (hb i (by omega)).1 dX9_parse_80 ?_
          refine r_bipush C (v := (nI 45)) dX9_parse_81 (by decide) ?_
          refine r_icmp_ne C 95 dX9_parse_83 (by decide) (not_congr (nI_eq (by omega) (by omega))) (fun h83 => ?_) (fun h83 => ?_)
          · rw [if_neg (fun q => h83 q.2)] at Rr
            refine r_iload C dX9_parse_95 0 rfl ?_
            refine r_iload C dX9_parse_97 3 rfl ?_
            refine r_icmp_lt C 127 dX9_parse_99 (by decide) (dig_lt (by omega) (by omega)) (fun h99 => ?_) (fun h99 => ?_)
            · rw [if_neg (by omega)] at Rr
              refine r_iload C dX9_parse_127 1 rfl ?_
              exact r_iret C dX9_parse_129 Rr
            · have hdg : nI (tb i) - nI 48 = nI (tb i - 48) := pk_sub (by omega)
              rw [hdg]
              refine r_iload C dX9_parse_102 0 rfl ?_
              refine r_iload_n C dX9_parse_104 7 rfl ?_
              refine r_icmp_ge C 127 dX9_parse_105 (by decide) (nI_leI (by omega) (by omega)) (fun h105 => ?_) (fun h105 => ?_)
              · rw [if_neg (by omega)] at Rr
                refine r_iload C dX9_parse_127 1 rfl ?_
                exact r_iret C dX9_parse_129 Rr
              · rw [if_pos (by omega)] at Rr
                refine r_iload_n C dX9_parse_108 4 rfl ?_
                refine r_iconst C (v := (nI 1)) dX9_parse_109 rfl ?_
                refine r_iload C dX9_parse_110 0 rfl ?_
                refine r_ishl C (v := (nI (2 ^ (tb i - 48)))) dX9_parse_112 (nshl1 (by omega)) ?_
                refine r_ior C (v := (nI (set ||| (2 ^ (tb i - 48))))) dX9_parse_113 (nor _ _) ?_
                refine r_istore_n C (lv' := [(3, .int (nI (set ||| (2 ^ (tb i - 48))))), (7, .int (nI (tb i - 48))), (6, .int (nI i)), (5, .int (bI bg)), (4, .int (nI ld)), (0, .ref (ad g 6)), (1, .ref (ad g (fo t))), (2, .int (nI n))]) 3 dX9_parse_114 rfl (by decide) rfl ?_
                refine r_iload C dX9_parse_115 1 rfl ?_
                refine r_iconst C (v := (nI 1)) dX9_parse_117 rfl ?_
                refine r_iadd C (v := (nI (tb i - 48 + 1))) dX9_parse_118 (nI_add _ _) ?_
                refine r_istore C (lv' := [(4, .int (nI (tb i - 48 + 1))), (3, .int (nI (set ||| (2 ^ (tb i - 48))))), (7, .int (nI (tb i - 48))), (6, .int (nI i)), (5, .int (bI bg)), (0, .ref (ad g 6)), (1, .ref (ad g (fo t))), (2, .int (nI n))]) 4 dX9_parse_119 (by decide) rfl ?_
                refine r_iconst C (v := (nI 1)) dX9_parse_121 rfl ?_
                refine r_istore C (lv' := [(5, .int (nI 1)), (4, .int (nI (tb i - 48 + 1))), (3, .int (nI (set ||| (2 ^ (tb i - 48))))), (7, .int (nI (tb i - 48))), (6, .int (nI i)), (0, .ref (ad g 6)), (1, .ref (ad g (fo t))), (2, .int (nI n))]) 5 dX9_parse_122 (by decide) rfl ?_
                refine r_goto C 130 dX9_parse_124 (by decide) ?_
                refine r_iinc C (v := (nI (i + 1))) (lv' := [(6, .int (nI (i + 1))), (5, .int (nI 1)), (4, .int (nI (tb i - 48 + 1))), (3, .int (nI (set ||| (2 ^ (tb i - 48))))), (7, .int (nI (tb i - 48))), (0, .ref (ad g 6)), (1, .ref (ad g (fo t))), (2, .int (nI n))]) 6 4 dX9_parse_130 rfl (inc_N _ 1) (by decide) rfl ?_
                refine r_goto C 15 dX9_parse_133 (by decide) ?_
                refine G_lv (lv' := [(6, .int (nI (i + 1))), (5, .int (bI true)), (4, .int (nI (tb i - 48 + 1))), (3, .int (nI (set ||| (2 ^ (tb i - 48))))), (7, .int (nI (tb i - 48))), (0, .ref (ad g 6)), (1, .ref (ad g (fo t))), (2, .int (nI n))]) rfl ?_
                refine G_sub (lv' := [(6, .int (nI (i + 1))), (5, .int (bI true)), (4, .int (nI (tb i - 48 + 1))), (3, .int (nI (set ||| (2 ^ (tb i - 48))))), (0, .ref (ad g 6)), (1, .ref (ad g (fo t))), (2, .int (nI n))]) [0, 1, 2, 3, 5, 6, 7] rfl ?_
                exact ih (i + 1) (set ||| (2 ^ (tb i - 48))) (tb i - 48 + 1) true M (by omega) (by omega) (or10 hset (by omega)) (by omega) h4 hb Rr
          · rw [if_pos ⟨Bool.eq_false_iff.mpr h71, Decidable.not_not.mp h83⟩] at Rr
            refine r_iload_n C dX9_parse_86 7 rfl ?_
            refine r_istore C (lv' := [(4, .int (nI n)), (7, .int (nI (tb i) - nI 48)), (6, .int (nI i)), (5, .int (bI bg)), (3, .int (nI set)), (0, .ref (ad g 6)), (1, .ref (ad g (fo t))), (2, .int (nI n))]) 4 dX9_parse_87 (by decide) rfl ?_
            refine r_iconst C (v := (nI 1)) dX9_parse_89 rfl ?_
            refine r_istore C (lv' := [(5, .int (nI 1)), (4, .int (nI n)), (7, .int (nI (tb i) - nI 48)), (6, .int (nI i)), (3, .int (nI set)), (0, .ref (ad g 6)), (1, .ref (ad g (fo t))), (2, .int (nI n))]) 5 dX9_parse_90 (by decide) rfl ?_
            refine r_goto C 130 dX9_parse_92 (by decide) ?_
            refine r_iinc C (v := (nI (i + 1))) (lv' := [(6, .int (nI (i + 1))), (5, .int (nI 1)), (4, .int (nI n)), (7, .int (nI (tb i) - nI 48)), (3, .int (nI set)), (0, .ref (ad g 6)), (1, .ref (ad g (fo t))), (2, .int (nI n))]) 6 3 dX9_parse_130 rfl (inc_N _ 1) (by decide) rfl ?_
            refine r_goto C 15 dX9_parse_133 (by decide) ?_
            refine G_lv (lv' := [(6, .int (nI (i + 1))), (5, .int (bI true)), (4, .int (nI n)), (7, .int (nI (tb i) - nI 48)), (3, .int (nI set)), (0, .ref (ad g 6)), (1, .ref (ad g (fo t))), (2, .int (nI n))]) rfl ?_
            refine G_sub (lv' := [(6, .int (nI (i + 1))), (5, .int (bI true)), (4, .int (nI n)), (3, .int (nI set)), (0, .ref (ad g 6)), (1, .ref (ad g (fo t))), (2, .int (nI n))]) [0, 1, 2, 4, 5, 6, 7] rfl ?_
            exact ih (i + 1) set n true M (by omega) (by omega) hset (by omega) h4 hb Rr
      · refine r_aload_n C dX9_parse_41 5 rfl ?_
        refine r_get C X (k := 6) (R := RX9) (T := TX9) (N := 2) (n := 1) (v := .ref (ad g 7)) (by decide) rfl rfl inw9 (by decide) rfl hw_1_101 rfl dX9_parse_42 ?_
        refine r_iload C dX9_parse_45 1 rfl ?_
        refine r_bald C X (k := 7) (v := (nI (tb i))) (by decide) rfl (by omega) (by decide) (hb i (by omega)).1 dX9_parse_47 ?_
        refine r_bipush C (v := (nI 44)) dX9_parse_48 (by decide) ?_
        refine r_icmp_ne C 69 dX9_parse_50 (by decide) (not_congr (nI_eq (by omega) (by omega))) (fun h50 => ?_) (fun h50 => ?_)
        · rw [if_neg (fun q => h50 q.2)] at Rr
          refine r_iload C dX9_parse_69 2 rfl ?_
          refine r_if_ne C 95 dX9_parse_71 (by decide) (bI_ne _) (fun h71 => ?_) (fun h71 => ?_)
          · rw [if_neg (fun q => ts_f q.1 h71)] at Rr
            refine r_iload C dX9_parse_95 0 rfl ?_
            refine r_iload C dX9_parse_97 3 rfl ?_
            refine r_icmp_lt C 127 dX9_parse_99 (by decide) (dig_lt (by omega) (by omega)) (fun h99 => ?_) (fun h99 => ?_)
            · rw [if_neg (by omega)] at Rr
              refine r_iload C dX9_parse_127 1 rfl ?_
              exact r_iret C dX9_parse_129 Rr
            · have hdg : nI (tb i) - nI 48 = nI (tb i - 48) := pk_sub (by omega)
              rw [hdg]
              refine r_iload C dX9_parse_102 0 rfl ?_
              refine r_iload_n C dX9_parse_104 7 rfl ?_
              refine r_icmp_ge C 127 dX9_parse_105 (by decide) (nI_leI (by omega) (by omega)) (fun h105 => ?_) (fun h105 => ?_)
              · rw [if_neg (by omega)] at Rr
                refine r_iload C dX9_parse_127 1 rfl ?_
                exact r_iret C dX9_parse_129 Rr
              · rw [if_pos (by omega)] at Rr
                refine r_iload_n C dX9_parse_108 4 rfl ?_
                refine r_iconst C (v := (nI 1)) dX9_parse_109 rfl ?_
                refine r_iload C dX9_parse_110 0 rfl ?_
                refine r_ishl C (v := (nI (2 ^ (tb i - 48)))) dX9_parse_112 (nshl1 (by omega)) ?_
                refine r_ior C (v := (nI (set ||| (2 ^ (tb i - 48))))) dX9_parse_113 (nor _ _) ?_
                refine r_istore_n C (lv' := [(3, .int (nI (set ||| (2 ^ (tb i - 48))))), (7, .int (nI (tb i - 48))), (6, .int (nI i)), (5, .int (bI bg)), (4, .int (nI ld)), (0, .ref (ad g 6)), (1, .ref (ad g (fo t))), (2, .int (nI n))]) 3 dX9_parse_114 rfl (by decide) rfl ?_
                refine r_iload C dX9_parse_115 1 rfl ?_
                refine r_iconst C (v := (nI 1)) dX9_parse_117 rfl ?_
                refine r_iadd C (v := (nI (tb i - 48 + 1))) dX9_parse_118 (nI_add _ _) ?_
                refine r_istore C (lv' := [(4, .int (nI (tb i - 48 + 1))), (3, .int (nI (set ||| (2 ^ (tb i - 48))))), (7, .int (nI (tb i - 48))), (6, .int (nI i)), (5, .int (bI bg)), (0, .ref (ad g 6)), (1, .ref (ad g (fo t))), (2, .int (nI n))]) 4 dX9_parse_119 (by decide) rfl ?_
                refine r_iconst C (v := (nI 1)) dX9_parse_121 rfl ?_
                refine r_istore C (lv' := [(5, .int (nI 1)), (4, .int (nI (tb i - 48 + 1))), (3, .int (nI (set ||| (2 ^ (tb i - 48))))), (7, .int (nI (tb i - 48))), (6, .int (nI i)), (0, .ref (ad g 6)), (1, .ref (ad g (fo t))), (2, .int (nI n))]) 5 dX9_parse_122 (by decide) rfl ?_
                refine r_goto C 130 dX9_parse_124 (by decide) ?_
                refine r_iinc C (v := (nI (i + 1))) (lv' := [(6, .int (nI (i + 1))), (5, .int (nI 1)), (4, .int (nI (tb i - 48 + 1))), (3, .int (nI (set ||| (2 ^ (tb i - 48))))), (7, .int (nI (tb i - 48))), (0, .ref (ad g 6)), (1, .ref (ad g (fo t))), (2, .int (nI n))]) 6 4 dX9_parse_130 rfl (inc_N _ 1) (by decide) rfl ?_
                refine r_goto C 15 dX9_parse_133 (by decide) ?_
                refine G_lv (lv' := [(6, .int (nI (i + 1))), (5, .int (bI true)), (4, .int (nI (tb i - 48 + 1))), (3, .int (nI (set ||| (2 ^ (tb i - 48))))), (7, .int (nI (tb i - 48))), (0, .ref (ad g 6)), (1, .ref (ad g (fo t))), (2, .int (nI n))]) rfl ?_
                refine G_sub (lv' := [(6, .int (nI (i + 1))), (5, .int (bI true)), (4, .int (nI (tb i - 48 + 1))), (3, .int (nI (set ||| (2 ^ (tb i - 48))))), (0, .ref (ad g 6)), (1, .ref (ad g (fo t))), (2, .int (nI n))]) [0, 1, 2, 3, 5, 6, 7] rfl ?_
                exact ih (i + 1) (set ||| (2 ^ (tb i - 48))) (tb i - 48 + 1) true M (by omega) (by omega) (or10 hset (by omega)) (by omega) h4 hb Rr
          · refine r_aload_n C dX9_parse_74 5 rfl ?_
            refine r_get C X (k := 6) (R := RX9) (T := TX9) (N := 2) (n := 1) (v := .ref (ad g 7)) (by decide) rfl rfl inw9 (by decide) rfl hw_1_101 rfl dX9_parse_75 ?_
            refine r_iload C dX9_parse_78 1 rfl ?_
            refine r_bald C X (k := 7) (v := (nI (tb i))) (by decide) rfl (by omega) (by decide) (hb i (by omega)).1 dX9_parse_80 ?_
            refine r_bipush C (v := (nI 45)) dX9_parse_81 (by decide) ?_
            refine r_icmp_ne C 95 dX9_parse_83 (by decide) (not_congr (nI_eq (by omega) (by omega))) (fun h83 => ?_) (fun h83 => ?_)
            · rw [if_neg (fun q => h83 q.2)] at Rr
              refine r_iload C dX9_parse_95 0 rfl ?_
              refine r_iload C dX9_parse_97 3 rfl ?_
              refine r_icmp_lt C 127 dX9_parse_99 (by decide) (dig_lt (by omega) (by omega)) (fun h99 => ?_) (fun h99 => ?_)
              · rw [if_neg (by omega)] at Rr
                refine r_iload C dX9_parse_127 1 rfl ?_
                exact r_iret C dX9_parse_129 Rr
              · have hdg : nI (tb i) - nI 48 = nI (tb i - 48) := pk_sub (by omega)
                rw [hdg]
                refine r_iload C dX9_parse_102 0 rfl ?_
                refine r_iload_n C dX9_parse_104 7 rfl ?_
                refine r_icmp_ge C 127 dX9_parse_105 (by decide) (nI_leI (by omega) (by omega)) (fun h105 => ?_) (fun h105 => ?_)
                · rw [if_neg (by omega)] at Rr
                  refine r_iload C dX9_parse_127 1 rfl ?_
                  exact r_iret C dX9_parse_129 Rr
                · rw [if_pos (by omega)] at Rr
                  refine r_iload_n C dX9_parse_108 4 rfl ?_
                  refine r_iconst C (v := (nI 1)) dX9_parse_109 rfl ?_
                  refine r_iload C dX9_parse_110 0 rfl ?_
                  refine r_ishl C (v := (nI (2 ^ (tb i - 48)))) dX9_parse_112 (nshl1 (by omega)) ?_
                  refine r_ior C (v := (nI (set ||| (2 ^ (tb i - 48))))) dX9_parse_113 (nor _ _) ?_
                  refine r_istore_n C (lv' := [(3, .int (nI (set ||| (2 ^ (tb i - 48))))), (7, .int (nI (tb i - 48))), (6, .int (nI i)), (5, .int (bI bg)), (4, .int (nI ld)), (0, .ref (ad g 6)), (1, .ref (ad g (fo t))), (2, .int (nI n))]) 3 dX9_parse_114 rfl (by decide) rfl ?_
                  refine r_iload C dX9_parse_115 1 rfl ?_
                  refine r_iconst C (v := (nI 1)) dX9_parse_117 rfl ?_
                  refine r_iadd C (v := (nI (tb i - 48 + 1))) dX9_parse_118 (nI_add _ _) ?_
                  refine r_istore C (lv' := [(4, .int (nI (tb i - 48 + 1))), (3, .int (nI (set ||| (2 ^ (tb i - 48))))), (7, .int (nI (tb i - 48))), (6, .int (nI i)), (5, .int (bI bg)), (0, .ref (ad g 6)), (1, .ref (ad g (fo t))), (2, .int (nI n))]) 4 dX9_parse_119 (by decide) rfl ?_
                  refine r_iconst C (v := (nI 1)) dX9_parse_121 rfl ?_
                  refine r_istore C (lv' := [(5, .int (nI 1)), (4, .int (nI (tb i - 48 + 1))), (3, .int (nI (set ||| (2 ^ (tb i - 48))))), (7, .int (nI (tb i - 48))), (6, .int (nI i)), (0, .ref (ad g 6)), (1, .ref (ad g (fo t))), (2, .int (nI n))]) 5 dX9_parse_122 (by decide) rfl ?_
                  refine r_goto C 130 dX9_parse_124 (by decide) ?_
                  refine r_iinc C (v := (nI (i + 1))) (lv' := [(6, .int (nI (i + 1))), (5, .int (nI 1)), (4, .int (nI (tb i - 48 + 1))), (3, .int (nI (set ||| (2 ^ (tb i - 48))))), (7, .int (nI (tb i - 48))), (0, .ref (ad g 6)), (1, .ref (ad g (fo t))), (2, .int (nI n))]) 6 4 dX9_parse_130 rfl (inc_N _ 1) (by decide) rfl ?_
                  refine r_goto C 15 dX9_parse_133 (by decide) ?_
                  refine G_lv (lv' := [(6, .int (nI (i + 1))), (5, .int (bI true)), (4, .int (nI (tb i - 48 + 1))), (3, .int (nI (set ||| (2 ^ (tb i - 48))))), (7, .int (nI (tb i - 48))), (0, .ref (ad g 6)), (1, .ref (ad g (fo t))), (2, .int (nI n))]) rfl ?_
                  refine G_sub (lv' := [(6, .int (nI (i + 1))), (5, .int (bI true)), (4, .int (nI (tb i - 48 + 1))), (3, .int (nI (set ||| (2 ^ (tb i - 48))))), (0, .ref (ad g 6)), (1, .ref (ad g (fo t))), (2, .int (nI n))]) [0, 1, 2, 3, 5, 6, 7] rfl ?_
                  exact ih (i + 1) (set ||| (2 ^ (tb i - 48))) (tb i - 48 + 1) true M (by omega) (by omega) (or10 hset (by omega)) (by omega) h4 hb Rr
            · rw [if_pos ⟨Bool.eq_false_iff.mpr h71, Decidable.not_not.mp h83⟩] at Rr
              refine r_iload_n C dX9_parse_86 7 rfl ?_
              refine r_istore C (lv' := [(4, .int (nI n)), (7, .int (nI (tb i) - nI 48)), (6, .int (nI i)), (5, .int (bI bg)), (3, .int (nI set)), (0, .ref (ad g 6)), (1, .ref (ad g (fo t))), (2, .int (nI n))]) 4 dX9_parse_87 (by decide) rfl ?_
              refine r_iconst C (v := (nI 1)) dX9_parse_89 rfl ?_
              refine r_istore C (lv' := [(5, .int (nI 1)), (4, .int (nI n)), (7, .int (nI (tb i) - nI 48)), (6, .int (nI i)), (3, .int (nI set)), (0, .ref (ad g 6)), (1, .ref (ad g (fo t))), (2, .int (nI n))]) 5 dX9_parse_90 (by decide) rfl ?_
              refine r_goto C 130 dX9_parse_92 (by decide) ?_
              refine r_iinc C (v := (nI (i + 1))) (lv' := [(6, .int (nI (i + 1))), (5, .int (nI 1)), (4, .int (nI n)), (7, .int (nI (tb i) - nI 48)), (3, .int (nI set)), (0, .ref (ad g 6)), (1, .ref (ad g (fo t))), (2, .int (nI n))]) 6 3 dX9_parse_130 rfl (inc_N _ 1) (by decide) rfl ?_
              refine r_goto C 15 dX9_parse_133 (by decide) ?_
              refine G_lv (lv' := [(6, .int (nI (i + 1))), (5, .int (bI true)), (4, .int (nI n)), (7, .int (nI (tb i) - nI 48)), (3, .int (nI set)), (0, .ref (ad g 6)), (1, .ref (ad g (fo t))), (2, .int (nI n))]) rfl ?_
              refine G_sub (lv' := [(6, .int (nI (i + 1))), (5, .int (bI true)), (4, .int (nI n)), (3, .int (nI set)), (0, .ref (ad g 6)), (1, .ref (ad g (fo t))), (2, .int (nI n))]) [0, 1, 2, 4, 5, 6, 7] rfl ?_
              exact ih (i + 1) set n true M (by omega) (by omega) hset (by omega) h4 hb Rr
        · rw [if_pos ⟨ts_t h38, Decidable.not_not.mp h50⟩] at Rr
          refine r_aload_n C dX9_parse_53 6 rfl ?_
          refine r_iload_n C dX9_parse_54 4 rfl ?_
          refine r_callV C X (As := [.int (nI set)]) (rest := []) (st1 := []) (μ' := (mPut M t set)) (k := (fo t)) (T := TX3) miX3_put mvX3_put (c_put l g M (i := t) (c := set) (by omega) (by omega)) hw_4_238 (fo_lt (by omega)) (WF_fo g _ t) rfl rfl ⟨by decide, by decide, rfl, rfl, by decide, by decide⟩ rfl (Nat.le_of_ble_eq_true rfl) dX9_parse_55 rfl ?_
          refine r_iconst C (v := (nI 0)) dX9_parse_58 rfl ?_
          refine r_istore_n C (lv' := [(3, .int (nI 0)), (7, .int (nI (tb i) - nI 48)), (6, .int (nI i)), (5, .int (bI bg)), (4, .int (nI ld)), (0, .ref (ad g 6)), (1, .ref (ad g (fo t))), (2, .int (nI n))]) 3 dX9_parse_59 rfl (by decide) rfl ?_
          refine r_iconst C (v := (nI 0)) dX9_parse_60 rfl ?_
          refine r_istore C (lv' := [(4, .int (nI 0)), (3, .int (nI 0)), (7, .int (nI (tb i) - nI 48)), (6, .int (nI i)), (5, .int (bI bg)), (0, .ref (ad g 6)), (1, .ref (ad g (fo t))), (2, .int (nI n))]) 4 dX9_parse_61 (by decide) rfl ?_
          refine r_iconst C (v := (nI 0)) dX9_parse_63 rfl ?_
          refine r_istore C (lv' := [(5, .int (nI 0)), (4, .int (nI 0)), (3, .int (nI 0)), (7, .int (nI (tb i) - nI 48)), (6, .int (nI i)), (0, .ref (ad g 6)), (1, .ref (ad g (fo t))), (2, .int (nI n))]) 5 dX9_parse_64 (by decide) rfl ?_
          refine r_goto C 130 dX9_parse_66 (by decide) ?_
          refine r_iinc C (v := (nI (i + 1))) (lv' := [(6, .int (nI (i + 1))), (5, .int (nI 0)), (4, .int (nI 0)), (3, .int (nI 0)), (7, .int (nI (tb i) - nI 48)), (0, .ref (ad g 6)), (1, .ref (ad g (fo t))), (2, .int (nI n))]) 6 4 dX9_parse_130 rfl (inc_N _ 1) (by decide) rfl ?_
          refine r_goto C 15 dX9_parse_133 (by decide) ?_
          refine G_lv (lv' := [(6, .int (nI (i + 1))), (5, .int (bI false)), (4, .int (nI 0)), (3, .int (nI 0)), (7, .int (nI (tb i) - nI 48)), (0, .ref (ad g 6)), (1, .ref (ad g (fo t))), (2, .int (nI n))]) rfl ?_
          refine G_sub (lv' := [(6, .int (nI (i + 1))), (5, .int (bI false)), (4, .int (nI 0)), (3, .int (nI 0)), (0, .ref (ad g 6)), (1, .ref (ad g (fo t))), (2, .int (nI n))]) [0, 1, 2, 3, 5, 6, 7] rfl ?_
          exact ih (i + 1) 0 0 false (mPut M t set) (by omega) (by omega) (by decide) (by omega) (gI_mPut.trans h4) hb Rr
set_option maxHeartbeats 1000000 in
set_option maxRecDepth 100000 in
theorem c_parse (l : Launch) (g : Gd) (μ : Mm) {n t tl : Nat} {tb : Nat → Nat} (h4 : gI μ 4 = nI tl) (htl : tl ≤ 120) (hn10 : n ≤ 10) (ht : t < 52) (hb : ∀ i, i < tl → gA μ 1 i = nI (tb i) ∧ tb i < 128) : Ct l yX9_parse cX9_parse 8 (some .int) (rmk 2 44) g [.ref (ad g 6), .ref (ad g (fo t)), .int (nI n)] μ (some (.int ((psF t n tl tb tl 0 0 0 false (mClr μ t)).2))) ((psF t n tl tb tl 0 0 0 false (mClr μ t)).1) := by
  refine Ct.of (by decide) (Nat.le_of_ble_eq_true rfl) (fun z A C X Rr => ?_)
  refine r_iconst C (v := (nI 0)) dX9_parse_0 rfl ?_
  refine r_istore_n C (lv' := [(3, .int (nI 0)), (0, .ref (ad g 6)), (1, .ref (ad g (fo t))), (2, .int (nI n))]) 3 dX9_parse_1 rfl (by decide) rfl ?_
  refine r_iconst C (v := (nI 0)) dX9_parse_2 rfl ?_
  refine r_istore C (lv' := [(4, .int (nI 0)), (3, .int (nI 0)), (0, .ref (ad g 6)), (1, .ref (ad g (fo t))), (2, .int (nI n))]) 4 dX9_parse_3 (by decide) rfl ?_
  refine r_iconst C (v := (nI 0)) dX9_parse_5 rfl ?_
  refine r_istore C (lv' := [(5, .int (nI 0)), (4, .int (nI 0)), (3, .int (nI 0)), (0, .ref (ad g 6)), (1, .ref (ad g (fo t))), (2, .int (nI n))]) 5 dX9_parse_6 (by decide) rfl ?_
  refine r_aload_n C dX9_parse_8 4 rfl ?_
  refine r_callV C X (As := []) (rest := []) (st1 := []) (μ' := (mClr μ t)) (k := (fo t)) (T := TX3) miX3_clear mvX3_clear (c_clear l g μ (i := t) (by omega)) hw_4_237 (fo_lt (by omega)) (WF_fo g _ t) rfl rfl ⟨by decide, by decide, rfl, rfl, by decide, by decide⟩ rfl (Nat.le_of_ble_eq_true rfl) dX9_parse_9 rfl ?_
  refine r_iconst C (v := (nI 0)) dX9_parse_12 rfl ?_
  refine r_istore C (lv' := [(6, .int (nI 0)), (5, .int (nI 0)), (4, .int (nI 0)), (3, .int (nI 0)), (0, .ref (ad g 6)), (1, .ref (ad g (fo t))), (2, .int (nI n))]) 6 dX9_parse_13 (by decide) rfl ?_
  refine G_lv (lv' := [(6, .int (nI 0)), (5, .int (bI false)), (4, .int (nI 0)), (3, .int (nI 0)), (0, .ref (ad g 6)), (1, .ref (ad g (fo t))), (2, .int (nI n))]) rfl ?_
  exact lp_parse C X htl hn10 ht (tl + 1) 0 0 0 false (mClr μ t) (by omega) (by omega) (by decide) (by omega) (gI_mClr.trans h4) hb Rr
