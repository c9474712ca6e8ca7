def hlI (F : Nat → Bool) (f p s : Nat) : Nat → Bool
  | 0 => true
  | t + 1 => hlI F f p s t && !(F (1024 * f + t) && abA F f p s t)
def hlE (F : Nat → Bool) (n f p s : Nat) : Bool := if p < 4 then hlI F f p s (2 ^ n) else !ibO F f p s n
def hlO (F : Nat → Bool) (n f p : Nat) : Nat → Bool
  | 0 => true
  | s + 1 => if F (1024 * f + s) = true ∧ hlO F n f p s = true then hlE F n f p s else hlO F n f p s
set_option maxHeartbeats 1000000 in
set_option maxRecDepth 100000 in
theorem lp_holdsI {z : Zt} {A : Nat → Prop} {l : Launch} {g : Gd} {μ : Mm} (C : Cx z A l (rmk 1 27) cX11_holds 6 "SetFamiliesModel") (X : Kx z g A) {F : Nat → Bool} {n f p s : Nat} (h6 : gI μ 6 = nI n) (hn10 : n ≤ 10) (h5 : gA μ 5 = bR F) (hf : f < 4) (hp4 : p < 4) (hs1 : s < 2 ^ n) (h1024 : 2 ^ n ≤ 1024) (h2n : 0 < 2 ^ n) (KK : G z g.1 A 6 (wd g μ) 0 0 96 [(3, .int (bI (hlI F f p s (2 ^ n)))), (4, .int (nI s)), (0, .ref (ad g 19)), (1, .int (nI f)), (2, .int (nI p))] []) : ∀ (n_ : Nat) (t : Nat), 2 ^ n - t < n_ → t ≤ 2 ^ n → G z g.1 A 6 (wd g μ) 0 0 37 [(5, .int (nI t)), (3, .int (bI (hlI F f p s t))), (4, .int (nI s)), (0, .ref (ad g 19)), (1, .int (nI f)), (2, .int (nI p))] [] := by
  intro n_
  induction n_ with
  | zero => intro t hm_; exact absurd hm_ (Nat.not_lt_zero _)
  | succ n_ ih =>
    intro t hm_ ht
    refine r_iload C dX11_holds_37 0 rfl ?_
    refine r_aload_n C dX11_holds_39 3 rfl ?_
    refine r_callV C X (As := []) (rest := [.int (nI t)]) (st1 := [.int (nI (2 ^ n)), .int (nI t)]) (μ' := μ) (k := 19) (T := TX11) miX11_codes mvX11_codes (c_codes l g μ (n := n) h6 (by omega)) hw_5_99 (by decide) rfl rfl rfl ⟨by decide, by decide, rfl, rfl, by decide, by decide⟩ rfl (Nat.le_of_ble_eq_true rfl) dX11_holds_40 rfl ?_
    refine r_icmp_ge C 96 dX11_holds_43 (by decide) (nI_leI (by omega) (by omega)) (fun h43 => ?_) (fun h43 => ?_)
    · have ht2 : t = 2 ^ n := by omega
      subst ht2
      refine G_sub (lv' := [(3, .int (bI (hlI F f p s (2 ^ n)))), (4, .int (nI s)), (0, .ref (ad g 19)), (1, .int (nI f)), (2, .int (nI p))]) [1, 2, 3, 4, 5] rfl ?_
      exact KK
    · refine r_iload_n C dX11_holds_46 5 rfl ?_
      refine r_iconst C (v := (nI 4)) dX11_holds_47 rfl ?_
      refine r_icmp_ge C 96 dX11_holds_48 (by decide) (nI_leI (by omega) (by omega)) (fun h48 => ?_) (fun h48 => ?_)
      · exact absurd h48 (by omega)
      · refine r_iload_n C dX11_holds_51 1 rfl ?_
        refine r_if_eq C 88 dX11_holds_52 (by decide) (bI_eq _) (fun h52 => ?_) (fun h52 => ?_)
        · refine r_iconst C (v := (nI 0)) dX11_holds_88 rfl ?_
          refine G_top (y := (bI (hlI F f p s (t + 1)))) (b0 (show hlI F f p s (t + 1) = false by rw [hlI]; rw [h52]; rfl)) ?_
          refine r_istore_n C (lv' := [(3, .int (bI (hlI F f p s (t + 1)))), (5, .int (nI t)), (4, .int (nI s)), (0, .ref (ad g 19)), (1, .int (nI f)), (2, .int (nI p))]) 3 dX11_holds_89 rfl (by decide) rfl ?_
          refine r_iinc C (v := (nI (t + 1))) (lv' := [(5, .int (nI (t + 1))), (3, .int (bI (hlI F f p s (t + 1)))), (4, .int (nI s)), (0, .ref (ad g 19)), (1, .int (nI f)), (2, .int (nI p))]) 5 1 dX11_holds_90 rfl (inc_N _ 1) (by decide) rfl ?_
          refine r_goto C 37 dX11_holds_93 (by decide) ?_
          exact ih (t + 1) (by omega) (by omega)
        · refine r_aload_n C dX11_holds_55 3 rfl ?_
          refine r_get C X (k := 19) (R := RX11) (T := TX11) (N := 15) (n := 2) (v := .ref (ad g 20)) (by decide) rfl rfl inw11 (by decide) rfl hw_5_20 rfl dX11_holds_56 ?_
          refine r_sipush C (v := (nI 1024)) dX11_holds_59 (by decide) ?_
          refine r_iload_n C dX11_holds_62 4 rfl ?_
          refine r_imul C (v := (nI (1024 * f))) dX11_holds_63 (pk_mul _ _) ?_
          refine r_iload C dX11_holds_64 0 rfl ?_
          refine r_iadd C (v := (nI (1024 * f + t))) dX11_holds_66 (nI_add _ _) ?_
          refine r_zald C X (k := 20) (v := (bI (F (1024 * f + t)))) (by decide) rfl (by omega) (by decide) (bR_at h5 _) dX11_holds_67 ?_
          refine r_if_eq C 84 dX11_holds_68 (by decide) (bI_eq _) (fun h68 => ?_) (fun h68 => ?_)
          · refine r_iconst C (v := (nI 1)) dX11_holds_84 rfl ?_
            refine r_goto C 89 dX11_holds_85 (by decide) ?_
            refine G_top (y := (bI (hlI F f p s (t + 1)))) (b1 (show hlI F f p s (t + 1) = true by rw [hlI]; rw [ts_t h52, h68]; rfl)) ?_
            refine r_istore_n C (lv' := [(3, .int (bI (hlI F f p s (t + 1)))), (5, .int (nI t)), (4, .int (nI s)), (0, .ref (ad g 19)), (1, .int (nI f)), (2, .int (nI p))]) 3 dX11_holds_89 rfl (by decide) rfl ?_
            refine r_iinc C (v := (nI (t + 1))) (lv' := [(5, .int (nI (t + 1))), (3, .int (bI (hlI F f p s (t + 1)))), (4, .int (nI s)), (0, .ref (ad g 19)), (1, .int (nI f)), (2, .int (nI p))]) 5 1 dX11_holds_90 rfl (inc_N _ 1) (by decide) rfl ?_
            refine r_goto C 37 dX11_holds_93 (by decide) ?_
            exact ih (t + 1) (by omega) (by omega)
          · refine r_aload_n C dX11_holds_71 3 rfl ?_
            refine r_iload_n C dX11_holds_72 4 rfl ?_
            refine r_iload_n C dX11_holds_73 5 rfl ?_
            refine r_iload C dX11_holds_74 2 rfl ?_
            refine r_iload C dX11_holds_76 0 rfl ?_
            refine r_callV C X (As := [.int (nI f), .int (nI p), .int (nI s), .int (nI t)]) (rest := []) (st1 := [.int (bI (abA F f p s t))]) (μ' := μ) (k := 19) (T := TX11) miX11_areBad mvX11_areBad (c_areBad l g μ (F := F) (f := f) (p := p) (s := s) (t := t) h5 (by omega) (by omega) (by omega) (by omega)) hw_6_4 (by decide) rfl rfl rfl ⟨by decide, by decide, rfl, rfl, by decide, by decide⟩ rfl (Nat.le_of_ble_eq_true rfl) dX11_holds_78 rfl ?_
            refine r_if_ne C 88 dX11_holds_81 (by decide) (bI_ne _) (fun h81 => ?_) (fun h81 => ?_)
            · refine r_iconst C (v := (nI 0)) dX11_holds_88 rfl ?_
              refine G_top (y := (bI (hlI F f p s (t + 1)))) (b0 (show hlI F f p s (t + 1) = false by rw [hlI]; rw [ts_t h68, h81, Bool.and_self, Bool.not_true, Bool.and_false])) ?_
              refine r_istore_n C (lv' := [(3, .int (bI (hlI F f p s (t + 1)))), (5, .int (nI t)), (4, .int (nI s)), (0, .ref (ad g 19)), (1, .int (nI f)), (2, .int (nI p))]) 3 dX11_holds_89 rfl (by decide) rfl ?_
              refine r_iinc C (v := (nI (t + 1))) (lv' := [(5, .int (nI (t + 1))), (3, .int (bI (hlI F f p s (t + 1)))), (4, .int (nI s)), (0, .ref (ad g 19)), (1, .int (nI f)), (2, .int (nI p))]) 5 1 dX11_holds_90 rfl (inc_N _ 1) (by decide) rfl ?_
              refine r_goto C 37 dX11_holds_93 (by decide) ?_
              exact ih (t + 1) (by omega) (by omega)
            · refine r_iconst C (v := (nI 1)) dX11_holds_84 rfl ?_
              refine r_goto C 89 dX11_holds_85 (by decide) ?_
              refine G_top (y := (bI (hlI F f p s (t + 1)))) (b1 (show hlI F f p s (t + 1) = true by rw [hlI]; rw [ts_t h52, Bool.eq_false_iff.mpr h81, Bool.and_false]; rfl)) ?_
              refine r_istore_n C (lv' := [(3, .int (bI (hlI F f p s (t + 1)))), (5, .int (nI t)), (4, .int (nI s)), (0, .ref (ad g 19)), (1, .int (nI f)), (2, .int (nI p))]) 3 dX11_holds_89 rfl (by decide) rfl ?_
              refine r_iinc C (v := (nI (t + 1))) (lv' := [(5, .int (nI (t + 1))), (3, .int (bI (hlI F f p s (t + 1)))), (4, .int (nI s)), (0, .ref (ad g 19)), (1, .int (nI f)), (2, .int (nI p))]) 5 1 dX11_holds_90 rfl (inc_N _ 1) (by decide) rfl ?_
              refine r_goto C 37 dX11_holds_93 (by decide) ?_
              exact ih (t + 1) (by omega) (by omega)
set_option maxHeartbeats 1000000 in
set_option maxRecDepth 100000 in
theorem lp_holds {z : Zt} {A : Nat → Prop} {l : Launch} {g : Gd} {μ : Mm} (C : Cx z A l (rmk 1 27) cX11_holds 6 "SetFamiliesModel") (X : Kx z g A) {F : Nat → Bool} {n f p : Nat} (h6 : gI μ 6 = nI n) (hn10 : n ≤ 10) (h5 : gA μ 5 = bR F) (hf : f < 4) (hp : p < 6) (h1024 : 2 ^ n ≤ 1024) (h2n : 0 < 2 ^ n) (Rr : Rx z g A (some .boolean) (some (.int (bI (hlO F n f p (2 ^ n))))) μ) : ∀ (n_ : Nat) (s : Nat), 2 ^ n - s < n_ → s ≤ 2 ^ n → G z g.1 A 6 (wd g μ) 0 0 5 [(4, .int (nI s)), (3, .int (bI (hlO F n f p s))), (0, .ref (ad g 19)), (1, .int (nI f)), (2, .int (nI p))] [] := by
  intro n_
  induction n_ with
  | zero => intro s hm_; exact absurd hm_ (Nat.not_lt_zero _)
  | succ n_ ih =>
    intro s hm_ hs
    refine r_iload C dX11_holds_5 0 rfl ?_
    refine r_aload_n C dX11_holds_7 2 rfl ?_
    refine r_callV C X (As := []) (rest := [.int (nI s)]) (st1 := [.int (nI (2 ^ n)), .int (nI s)]) (μ' := μ) (k := 19) (T := TX11) miX11_codes mvX11_codes (c_codes l g μ (n := n) h6 (by omega)) hw_5_99 (by decide) rfl rfl rfl ⟨by decide, by decide, rfl, rfl, by decide, by decide⟩ rfl (Nat.le_of_ble_eq_true rfl) dX11_holds_8 rfl ?_
    refine r_icmp_ge C 128 dX11_holds_11 (by decide) (nI_leI (by omega) (by omega)) (fun h11 => ?_) (fun h11 => ?_)
    · have hs2 : s = 2 ^ n := by omega
      subst hs2
      refine r_iload_n C dX11_holds_128 1 rfl ?_
      exact r_zret C dX11_holds_129 (nar_b _) Rr
    · have hs1 : s < 2 ^ n := by omega
      refine r_aload_n C dX11_holds_14 2 rfl ?_
      refine r_get C X (k := 19) (R := RX11) (T := TX11) (N := 15) (n := 2) (v := .ref (ad g 20)) (by decide) rfl rfl inw11 (by decide) rfl hw_5_20 rfl dX11_holds_15 ?_
      refine r_sipush C (v := (nI 1024)) dX11_holds_18 (by decide) ?_
      refine r_iload_n C dX11_holds_21 3 rfl ?_
      refine r_imul C (v := (nI (1024 * f))) dX11_holds_22 (pk_mul _ _) ?_
      refine r_iload C dX11_holds_23 0 rfl ?_
      refine r_iadd C (v := (nI (1024 * f + s))) dX11_holds_25 (nI_add _ _) ?_
      refine r_zald C X (k := 20) (v := (bI (F (1024 * f + s)))) (by decide) rfl (by omega) (by decide) (bR_at h5 _) dX11_holds_26 ?_
      refine r_if_eq C 122 dX11_holds_27 (by decide) (bI_eq _) (fun h27 => ?_) (fun h27 => ?_)
      · refine r_iinc C (v := (nI (s + 1))) (lv' := [(4, .int (nI (s + 1))), (3, .int (bI (hlO F n f p s))), (0, .ref (ad g 19)), (1, .int (nI f)), (2, .int (nI p))]) 4 0 dX11_holds_122 rfl (inc_N _ 1) (by decide) rfl ?_
        refine r_goto C 5 dX11_holds_125 (by decide) ?_
        refine G_lv (lv' := [(4, .int (nI (s + 1))), (3, .int (bI (hlO F n f p (s + 1)))), (0, .ref (ad g 19)), (1, .int (nI f)), (2, .int (nI p))]) (by rw [hlO, if_neg (fun q => ts_f h27 q.1)]) ?_
        exact ih (s + 1) (by omega) (by omega)
      · refine r_iload_n C dX11_holds_30 1 rfl ?_
        refine r_if_eq C 122 dX11_holds_31 (by decide) (bI_eq _) (fun h31 => ?_) (fun h31 => ?_)
        · refine r_iinc C (v := (nI (s + 1))) (lv' := [(4, .int (nI (s + 1))), (3, .int (bI (hlO F n f p s))), (0, .ref (ad g 19)), (1, .int (nI f)), (2, .int (nI p))]) 4 0 dX11_holds_122 rfl (inc_N _ 1) (by decide) rfl ?_
          refine r_goto C 5 dX11_holds_125 (by decide) ?_
          refine G_lv (lv' := [(4, .int (nI (s + 1))), (3, .int (bI (hlO F n f p (s + 1)))), (0, .ref (ad g 19)), (1, .int (nI f)), (2, .int (nI p))]) (by rw [hlO, if_neg (fun q => ts_f h31 q.2)]) ?_
          exact ih (s + 1) (by omega) (by omega)
        · refine r_iconst C (v := (nI 0)) dX11_holds_34 rfl ?_
          refine r_istore C (lv' := [(5, .int (nI 0)), (4, .int (nI s)), (3, .int (bI (hlO F n f p s))), (0, .ref (ad g 19)), (1, .int (nI f)), (2, .int (nI p))]) 5 dX11_holds_35 (by decide) rfl ?_
          by_cases hp4 : p < 4
          · refine G_lv (lv' := [(5, .int (nI 0)), (4, .int (nI s)), (3, .int (bI (hlI F f p s 0))), (0, .ref (ad g 19)), (1, .int (nI f)), (2, .int (nI p))]) (by rw [ts_t h31]; rfl) ?_
            refine G_sub (lv' := [(5, .int (nI 0)), (3, .int (bI (hlI F f p s 0))), (4, .int (nI s)), (0, .ref (ad g 19)), (1, .int (nI f)), (2, .int (nI p))]) [0, 2, 1, 3, 4, 5] rfl ?_
            refine lp_holdsI C X h6 hn10 h5 hf hp4 hs1 h1024 h2n ?_ (2 ^ n + 1) 0 (by omega) (by omega)
            refine r_iload_n C dX11_holds_96 0 rfl ?_
            refine r_if_eq C 120 dX11_holds_97 (by decide) (bI_eq _) (fun h97 => ?_) (fun h97 => ?_)
            · refine r_iconst C (v := (nI 0)) dX11_holds_120 rfl ?_
              refine G_top (y := (bI (hlE F n f p s))) (b0 (show hlE F n f p s = false by rw [hlE, if_pos hp4]; exact h97)) ?_
              refine r_istore_n C (lv' := [(3, .int (bI (hlE F n f p s))), (4, .int (nI s)), (0, .ref (ad g 19)), (1, .int (nI f)), (2, .int (nI p))]) 3 dX11_holds_121 rfl (by decide) rfl ?_
              refine r_iinc C (v := (nI (s + 1))) (lv' := [(4, .int (nI (s + 1))), (3, .int (bI (hlE F n f p s))), (0, .ref (ad g 19)), (1, .int (nI f)), (2, .int (nI p))]) 4 1 dX11_holds_122 rfl (inc_N _ 1) (by decide) rfl ?_
              refine r_goto C 5 dX11_holds_125 (by decide) ?_
              refine G_lv (lv' := [(4, .int (nI (s + 1))), (3, .int (bI (hlO F n f p (s + 1)))), (0, .ref (ad g 19)), (1, .int (nI f)), (2, .int (nI p))]) (by rw [hlO, if_pos ⟨ts_t h27, ts_t h31⟩]) ?_
              exact ih (s + 1) (by omega) (by omega)
            · refine r_iload_n C dX11_holds_100 4 rfl ?_
              refine r_iconst C (v := (nI 4)) dX11_holds_101 rfl ?_
              refine r_icmp_lt C 116 dX11_holds_102 (by decide) (nI_ltI (by omega) (by omega)) (fun h102 => ?_) (fun h102 => ?_)
              · refine r_iconst C (v := (nI 1)) dX11_holds_116 rfl ?_
                refine r_goto C 121 dX11_holds_117 (by decide) ?_
                refine G_top (y := (bI (hlE F n f p s))) (b1 (show hlE F n f p s = true by rw [hlE, if_pos hp4]; exact ts_t h97)) ?_
                refine r_istore_n C (lv' := [(3, .int (bI (hlE F n f p s))), (4, .int (nI s)), (0, .ref (ad g 19)), (1, .int (nI f)), (2, .int (nI p))]) 3 dX11_holds_121 rfl (by decide) rfl ?_
                refine r_iinc C (v := (nI (s + 1))) (lv' := [(4, .int (nI (s + 1))), (3, .int (bI (hlE F n f p s))), (0, .ref (ad g 19)), (1, .int (nI f)), (2, .int (nI p))]) 4 1 dX11_holds_122 rfl (inc_N _ 1) (by decide) rfl ?_
                refine r_goto C 5 dX11_holds_125 (by decide) ?_
                refine G_lv (lv' := [(4, .int (nI (s + 1))), (3, .int (bI (hlO F n f p (s + 1)))), (0, .ref (ad g 19)), (1, .int (nI f)), (2, .int (nI p))]) (by rw [hlO, if_pos ⟨ts_t h27, ts_t h31⟩]) ?_
                exact ih (s + 1) (by omega) (by omega)
              · exact absurd hp4 h102
          · refine G_lv (lv' := [(5, .int (nI 0)), (4, .int (nI s)), (3, .int (bI true)), (0, .ref (ad g 19)), (1, .int (nI f)), (2, .int (nI p))]) (by rw [ts_t h31]) ?_
            refine r_iload C dX11_holds_37 0 rfl ?_
            refine r_aload_n C dX11_holds_39 3 rfl ?_
            refine r_callV C X (As := []) (rest := [.int (nI 0)]) (st1 := [.int (nI (2 ^ n)), .int (nI 0)]) (μ' := μ) (k := 19) (T := TX11) miX11_codes mvX11_codes (c_codes l g μ (n := n) h6 (by omega)) hw_5_99 (by decide) rfl rfl rfl ⟨by decide, by decide, rfl, rfl, by decide, by decide⟩ rfl (Nat.le_of_ble_eq_true rfl) dX11_holds_40 rfl ?_
            refine r_icmp_ge C 96 dX11_holds_43 (by decide) (nI_leI (by omega) (by omega)) (fun h43 => ?_) (fun h43 => ?_)
            · exact absurd h43 (by omega)
            · refine r_iload_n C dX11_holds_46 5 rfl ?_
              refine r_iconst C (v := (nI 4)) dX11_holds_47 rfl ?_
              refine r_icmp_ge C 96 dX11_holds_48 (by decide) (nI_leI (by omega) (by omega)) (fun h48 => ?_) (fun h48 => ?_)
              · refine r_iload_n C dX11_holds_96 2 rfl ?_
                refine r_if_eq C 120 dX11_holds_97 (by decide) (bI_eq _) (fun h97 => ?_) (fun h97 => ?_)
                · exact absurd h97 (by decide)
                · refine r_iload_n C dX11_holds_100 5 rfl ?_
                  refine r_iconst C (v := (nI 4)) dX11_holds_101 rfl ?_
                  refine r_icmp_lt C 116 dX11_holds_102 (by decide) (nI_ltI (by omega) (by omega)) (fun h102 => ?_) (fun h102 => ?_)
                  · exact absurd h102 hp4
                  · refine r_aload_n C dX11_holds_105 3 rfl ?_
                    refine r_iload_n C dX11_holds_106 4 rfl ?_
                    refine r_iload_n C dX11_holds_107 5 rfl ?_
                    refine r_iload C dX11_holds_108 1 rfl ?_
                    refine r_callV C X (As := [.int (nI f), .int (nI p), .int (nI s)]) (rest := []) (st1 := [.int (bI (ibO F f p s n))]) (μ' := μ) (k := 19) (T := TX11) miX11_isBad mvX11_isBad (c_isBad l g μ (F := F) (n := n) (f := f) (p := p) (s := s) h6 (by omega) h5 (by omega) (by omega) (by omega)) hw_6_8 (by decide) rfl rfl rfl ⟨by decide, by decide, rfl, rfl, by decide, by decide⟩ rfl (Nat.le_of_ble_eq_true rfl) dX11_holds_110 rfl ?_
                    refine r_if_ne C 120 dX11_holds_113 (by decide) (bI_ne _) (fun h113 => ?_) (fun h113 => ?_)
                    · refine r_iconst C (v := (nI 0)) dX11_holds_120 rfl ?_
                      refine G_top (y := (bI (hlE F n f p s))) (b0 (show hlE F n f p s = false by rw [hlE, if_neg hp4, h113]; rfl)) ?_
                      refine r_istore_n C (lv' := [(3, .int (bI (hlE F n f p s))), (5, .int (nI 0)), (4, .int (nI s)), (0, .ref (ad g 19)), (1, .int (nI f)), (2, .int (nI p))]) 3 dX11_holds_121 rfl (by decide) rfl ?_
                      refine r_iinc C (v := (nI (s + 1))) (lv' := [(4, .int (nI (s + 1))), (3, .int (bI (hlE F n f p s))), (5, .int (nI 0)), (0, .ref (ad g 19)), (1, .int (nI f)), (2, .int (nI p))]) 4 2 dX11_holds_122 rfl (inc_N _ 1) (by decide) rfl ?_
                      refine r_goto C 5 dX11_holds_125 (by decide) ?_
                      refine G_lv (lv' := [(4, .int (nI (s + 1))), (3, .int (bI (hlO F n f p (s + 1)))), (5, .int (nI 0)), (0, .ref (ad g 19)), (1, .int (nI f)), (2, .int (nI p))]) (by rw [hlO, if_pos ⟨ts_t h27, ts_t h31⟩]) ?_
                      refine G_sub (lv' := [(4, .int (nI (s + 1))), (3, .int (bI (hlO F n f p (s + 1)))), (0, .ref (ad g 19)), (1, .int (nI f)), (2, .int (nI p))]) [0, 1, 3, 4, 5] rfl ?_
                      exact ih (s + 1) (by omega) (by omega)
                    · refine r_iconst C (v := (nI 1)) dX11_holds_116 rfl ?_
                      refine r_goto C 121 dX11_holds_117 (by decide) ?_
                      refine G_top (y := (bI (hlE F n f p s))) (b1 (show hlE F n f p s = true by rw [hlE, if_neg hp4, Bool.eq_false_iff.mpr h113]; rfl)) ?_
                      refine r_istore_n C (lv' := [(3, .int (bI (hlE F n f p s))), (5, .int (nI 0)), (4, .int (nI s)), (0, .ref (ad g 19)), (1, .int (nI f)), (2, .int (nI p))]) 3 dX11_holds_121 rfl (by decide) rfl ?_
                      refine r_iinc C (v := (nI (s + 1))) (lv' := [(4, .int (nI (s + 1))), (3, .int (bI (hlE F n f p s))), (5, .int (nI 0)), (0, .ref (ad g 19)), (1, .int (nI f)), (2, .int (nI p))]) 4 2 dX11_holds_122 rfl (inc_N _ 1) (by decide) rfl ?_
                      refine r_goto C 5 dX11_holds_125 (by decide) ?_
                      refine G_lv (lv' := [(4, .int (nI (s + 1))), (3, .int (bI (hlO F n f p (s + 1)))), (5, .int (nI 0)), (0, .ref (ad g 19)), (1, .int (nI f)), (2, .int (nI p))]) (by rw [hlO, if_pos ⟨ts_t h27, ts_t h31⟩]) ?_
                      refine G_sub (lv' := [(4, .int (nI (s + 1))), (3, .int (bI (hlO F n f p (s + 1)))), (0, .ref (ad g 19)), (1, .int (nI f)), (2, .int (nI p))]) [0, 1, 3, 4, 5] rfl ?_
                      exact ih (s + 1) (by omega) (by omega)
              · exact absurd (show 4 ≤ p by omega) h48
set_option maxHeartbeats 1000000 in
set_option maxRecDepth 100000 in
theorem c_holdsM (l : Launch) (g : Gd) (μ : Mm) {F : Nat → Bool} {n f p : Nat} (h6 : gI μ 6 = nI n) (hn10 : n ≤ 10) (h5 : gA μ 5 = bR F) (hf : f < 4) (hp : p < 6) : Ct l yX11_holds cX11_holds 6 (some .boolean) (rmk 1 27) g [.ref (ad g 19), .int (nI f), .int (nI p)] μ (some (.int (bI (hlO F n f p (2 ^ n))))) μ := by
  have h1024 := pw10 hn10
  have h2n := Nat.two_pow_pos n
  refine Ct.of (by decide) (Nat.le_of_ble_eq_true rfl) (fun z A C X Rr => ?_)
  refine r_iconst C (v := (nI 1)) dX11_holds_0 rfl ?_
  refine r_istore_n C (lv' := [(3, .int (nI 1)), (0, .ref (ad g 19)), (1, .int (nI f)), (2, .int (nI p))]) 3 dX11_holds_1 rfl (by decide) rfl ?_
  refine r_iconst C (v := (nI 0)) dX11_holds_2 rfl ?_
  refine r_istore C (lv' := [(4, .int (nI 0)), (3, .int (nI 1)), (0, .ref (ad g 19)), (1, .int (nI f)), (2, .int (nI p))]) 4 dX11_holds_3 (by decide) rfl ?_
  refine G_lv (lv' := [(4, .int (nI 0)), (3, .int (bI (hlO F n f p 0))), (0, .ref (ad g 19)), (1, .int (nI f)), (2, .int (nI p))]) rfl ?_
  exact lp_holds C X h6 hn10 h5 hf hp h1024 h2n Rr (2 ^ n + 1) 0 (by omega) (by omega)
def exX (F : Nat → Bool) (f t : Nat) : Nat → Nat → Bool
  | 0, _ => false
  | r + 1, x => if t / 2 ^ x &&& 1 = 0 ∧ F (1024 * f + (t ||| 2 ^ x)) = true then true else exX F f t r (x + 1)
def exC (F : Nat → Bool) (n f lv t : Nat) : Bool := if b10 t = lv - 1 then exX F f t n 0 else false
def exc (F : Nat → Bool) (n f lv t : Nat) : Nat := if exC F n f lv t = true then 1 else 0
def exF (F : Nat → Bool) (n f lv : Nat) : Nat → Nat := sm (exc F n f lv)
theorem exF_le (F : Nat → Bool) (n f lv k : Nat) : exF F n f lv k ≤ k * 1 := sm_le (fun s => by unfold exc; split <;> decide) k
theorem orx10 {e x : Nat} (he : e < 1024) (hx : x < 10) : e ||| 2 ^ x < 1024 := Nat.or_lt_two_pow (n := 10) he (Nat.pow_lt_pow_right (by decide) hx)
set_option maxHeartbeats 1000000 in
set_option maxRecDepth 100000 in
theorem lp_excessI {z : Zt} {A : Nat → Prop} {l : Launch} {g : Gd} {μ : Mm} (C : Cx z A l (rmk 3 71) cX11_excessOf 7 "SetFamiliesModel") (X : Kx z g A) {F : Nat → Bool} {n f lv t m : Nat} (h6 : gI μ 6 = nI n) (hn10 : n ≤ 10) (h5 : gA μ 5 = bR F) (hf : f < 4) (hl : 1 ≤ lv) (hl10 : lv ≤ 10) (hbt : b10 t = lv - 1) (ht1 : t < 2 ^ n) (h1024 : 2 ^ n ≤ 1024) : ∀ (n_ : Nat) (x : Nat) (b : Bool), n - x < n_ → x ≤ n → G z g.1 A 7 (wd g μ) 0 0 89 [(5, .int (bI (if b = true then true else exX F f t (n - x) x))), (4, .int (nI t)), (3, .int (nI m)), (0, .ref (ad g 19)), (1, .int (nI f)), (2, .int (nI lv))] [] → G z g.1 A 7 (wd g μ) 0 0 20 [(6, .int (nI x)), (5, .int (bI b)), (4, .int (nI t)), (3, .int (nI m)), (0, .ref (ad g 19)), (1, .int (nI f)), (2, .int (nI lv))] [] := by
  intro n_
  induction n_ with
  | zero => intro x b hm_; exact absurd hm_ (Nat.not_lt_zero _)
  | succ n_ ih =>
    intro x b hm_ hx KK
    refine r_iload C dX11_excessOf_20 0 rfl ?_
    refine r_aload_n C dX11_excessOf_22 4 rfl ?_
    refine r_get C X (k := 19) (R := RX11) (T := TX11) (N := 15) (n := 1) (v := .int (gI μ 6)) (by decide) rfl rfl inw11 (by decide) rfl hw_5_19 rfl dX11_excessOf_23 ?_
    refine G_top (y := (nI n)) h6 ?_
    refine r_icmp_ge C 89 dX11_excessOf_26 (by decide) (nI_leI (by omega) (by omega)) (fun h26 => ?_) (fun h26 => ?_)
    · rw [show n - x = 0 by omega, exX, show (if b = true then true else false) = b by cases b <;> rfl] at KK
      refine G_sub (lv' := [(5, .int (bI b)), (4, .int (nI t)), (3, .int (nI m)), (0, .ref (ad g 19)), (1, .int (nI f)), (2, .int (nI lv))]) [1, 2, 3, 4, 5, 6] rfl ?_
      exact KK
    · have hbl := b10_lt t
      refine r_iload C dX11_excessOf_29 2 rfl ?_
      refine r_callP C (As := [.int (nI t)]) (rest := []) (st1 := [.int (nI (b10 t))]) miX11_bits msX11_bits (c_bits l (c := t) (by omega)) hw_5_123 rfl ⟨by decide, by decide, rfl, rfl, by decide, by decide⟩ rfl (Nat.le_of_ble_eq_true rfl) dX11_excessOf_31 rfl ?_
      refine r_iload_n C dX11_excessOf_34 6 rfl ?_
      refine r_iconst C (v := (nI 1)) dX11_excessOf_35 rfl ?_
      refine r_isub C (v := (nI (lv - 1))) dX11_excessOf_36 (pk_sub (by omega)) ?_
      refine r_icmp_ne C 89 dX11_excessOf_37 (by decide) (not_congr (nI_eq (by omega) (by omega))) (fun h37 => ?_) (fun h37 => ?_)
      · exact absurd hbt h37
      · refine r_iload C dX11_excessOf_40 1 rfl ?_
        refine r_if_ne C 89 dX11_excessOf_42 (by decide) (bI_ne _) (fun h42 => ?_) (fun h42 => ?_)
        · rw [h42, if_pos rfl] at KK
          rw [h42]
          refine G_sub (lv' := [(5, .int (bI true)), (4, .int (nI t)), (3, .int (nI m)), (0, .ref (ad g 19)), (1, .int (nI f)), (2, .int (nI lv))]) [1, 2, 3, 4, 5, 6] rfl ?_
          exact KK
        · rw [if_neg h42, show n - x = (n - (x + 1)) + 1 by omega, exX] at KK
          have hor := orx10 (x := x) (show t < 1024 by omega) (by omega)
          refine r_iload C dX11_excessOf_45 2 rfl ?_
          refine r_iload C dX11_excessOf_47 0 rfl ?_
          refine r_ishr C (v := (nI (t / 2 ^ x))) dX11_excessOf_49 (nshr (by omega) (by omega)) ?_
          refine r_iconst C (v := (nI 1)) dX11_excessOf_50 rfl ?_
          refine r_iand C (v := (nI ((t / 2 ^ x) &&& 1))) dX11_excessOf_51 (nand _ _) ?_
          refine r_if_ne C 80 dX11_excessOf_52 (by decide) (zI_ne (Nat.lt_of_le_of_lt Nat.and_le_right (by decide))) (fun h52 => ?_) (fun h52 => ?_)
          · rw [if_neg (fun q => h52 q.1)] at KK
            refine r_iconst C (v := (nI 0)) dX11_excessOf_80 rfl ?_
            refine r_istore C (lv' := [(5, .int (nI 0)), (6, .int (nI x)), (4, .int (nI t)), (3, .int (nI m)), (0, .ref (ad g 19)), (1, .int (nI f)), (2, .int (nI lv))]) 5 dX11_excessOf_81 (by decide) rfl ?_
            refine r_iinc C (v := (nI (x + 1))) (lv' := [(6, .int (nI (x + 1))), (5, .int (nI 0)), (4, .int (nI t)), (3, .int (nI m)), (0, .ref (ad g 19)), (1, .int (nI f)), (2, .int (nI lv))]) 6 1 dX11_excessOf_83 rfl (inc_N _ 1) (by decide) rfl ?_
            refine r_goto C 20 dX11_excessOf_86 (by decide) ?_
            refine G_lv (lv' := [(6, .int (nI (x + 1))), (5, .int (bI false)), (4, .int (nI t)), (3, .int (nI m)), (0, .ref (ad g 19)), (1, .int (nI f)), (2, .int (nI lv))]) rfl ?_
            exact ih (x + 1) false (by omega) (by omega) (by rw [if_neg (by decide)]; exact KK)
          · refine r_aload_n C dX11_excessOf_55 4 rfl ?_
            refine r_get C X (k := 19) (R := RX11) (T := TX11) (N := 15) (n := 2) (v := .ref (ad g 20)) (by decide) rfl rfl inw11 (by decide) rfl hw_5_20 rfl dX11_excessOf_56 ?_
            refine r_sipush C (v := (nI 1024)) dX11_excessOf_59 (by decide) ?_
            refine r_iload_n C dX11_excessOf_62 5 rfl ?_
            refine r_imul C (v := (nI (1024 * f))) dX11_excessOf_63 (pk_mul _ _) ?_
            refine r_iload C dX11_excessOf_64 2 rfl ?_
            refine r_iconst C (v := (nI 1)) dX11_excessOf_66 rfl ?_
            refine r_iload C dX11_excessOf_67 0 rfl ?_
            refine r_ishl C (v := (nI (2 ^ x))) dX11_excessOf_69 (nshl1 (by omega)) ?_
            refine r_ior C (v := (nI (t ||| (2 ^ x)))) dX11_excessOf_70 (nor _ _) ?_
            refine r_iadd C (v := (nI (1024 * f + (t ||| (2 ^ x))))) dX11_excessOf_71 (nI_add _ _) ?_
            refine r_zald C X (k := 20) (v := (bI (F (1024 * f + (t ||| (2 ^ x)))))) (by decide) rfl (by omega) (by decide) (bR_at h5 _) dX11_excessOf_72 ?_
            refine r_if_eq C 80 dX11_excessOf_73 (by decide) (bI_eq _) (fun h73 => ?_) (fun h73 => ?_)
            · rw [if_neg (fun q => ts_f h73 q.2)] at KK
              refine r_iconst C (v := (nI 0)) dX11_excessOf_80 rfl ?_
              refine r_istore C (lv' := [(5, .int (nI 0)), (6, .int (nI x)), (4, .int (nI t)), (3, .int (nI m)), (0, .ref (ad g 19)), (1, .int (nI f)), (2, .int (nI lv))]) 5 dX11_excessOf_81 (by decide) rfl ?_
              refine r_iinc C (v := (nI (x + 1))) (lv' := [(6, .int (nI (x + 1))), (5, .int (nI 0)), (4, .int (nI t)), (3, .int (nI m)), (0, .ref (ad g 19)), (1, .int (nI f)), (2, .int (nI lv))]) 6 1 dX11_excessOf_83 rfl (inc_N _ 1) (by decide) rfl ?_
              refine r_goto C 20 dX11_excessOf_86 (by decide) ?_
              refine G_lv (lv' := [(6, .int (nI (x + 1))), (5, .int (bI false)), (4, .int (nI t)), (3, .int (nI m)), (0, .ref (ad g 19)), (1, .int (nI f)), (2, .int (nI lv))]) rfl ?_
              exact ih (x + 1) false (by omega) (by omega) (by rw [if_neg (by decide)]; exact KK)
            · rw [if_pos ⟨Decidable.not_not.mp h52, ts_t h73⟩] at KK
              refine r_iconst C (v := (nI 1)) dX11_excessOf_76 rfl ?_
              refine r_goto C 81 dX11_excessOf_77 (by decide) ?_
              refine r_istore C (lv' := [(5, .int (nI 1)), (6, .int (nI x)), (4, .int (nI t)), (3, .int (nI m)), (0, .ref (ad g 19)), (1, .int (nI f)), (2, .int (nI lv))]) 5 dX11_excessOf_81 (by decide) rfl ?_
              refine r_iinc C (v := (nI (x + 1))) (lv' := [(6, .int (nI (x + 1))), (5, .int (nI 1)), (4, .int (nI t)), (3, .int (nI m)), (0, .ref (ad g 19)), (1, .int (nI f)), (2, .int (nI lv))]) 6 1 dX11_excessOf_83 rfl (inc_N _ 1) (by decide) rfl ?_
              refine r_goto C 20 dX11_excessOf_86 (by decide) ?_
              refine G_lv (lv' := [(6, .int (nI (x + 1))), (5, .int (bI true)), (4, .int (nI t)), (3, .int (nI m)), (0, .ref (ad g 19)), (1, .int (nI f)), (2, .int (nI lv))]) rfl ?_
              exact ih (x + 1) true (by omega) (by omega) (by rw [if_pos rfl]; exact KK)
set_option maxHeartbeats 1000000 in
set_option maxRecDepth 100000 in
theorem lp_excess {z : Zt} {A : Nat → Prop} {l : Launch} {g : Gd} {μ : Mm} (C : Cx z A l (rmk 3 71) cX11_excessOf 7 "SetFamiliesModel") (X : Kx z g A) {F : Nat → Bool} {n f lv : Nat} (h6 : gI μ 6 = nI n) (hn10 : n ≤ 10) (h5 : gA μ 5 = bR F) (hf : f < 4) (hl : 1 ≤ lv) (hl10 : lv ≤ 10) (h1024 : 2 ^ n ≤ 1024) (h2n : 0 < 2 ^ n) (Rr : Rx z g A (some .int) (some (.int (nI (exF F n f lv (2 ^ n)) - nI (lshG lv (szF F f (nI lv) (2 ^ n)))))) μ) : ∀ (n_ : Nat) (t : Nat), 2 ^ n - t < n_ → t ≤ 2 ^ n → G z g.1 A 7 (wd g μ) 0 0 5 [(4, .int (nI t)), (3, .int (nI (exF F n f lv t))), (0, .ref (ad g 19)), (1, .int (nI f)), (2, .int (nI lv))] [] := by
  intro n_
  induction n_ with
  | zero => intro t hm_; exact absurd hm_ (Nat.not_lt_zero _)
  | succ n_ ih =>
    intro t hm_ ht
    refine r_iload C dX11_excessOf_5 0 rfl ?_
    refine r_aload_n C dX11_excessOf_7 2 rfl ?_
    refine r_callV C X (As := []) (rest := [.int (nI t)]) (st1 := [.int (nI (2 ^ n)), .int (nI t)]) (μ' := μ) (k := 19) (T := TX11) miX11_codes mvX11_codes (c_codes l g μ (n := n) h6 (by omega)) hw_5_99 (by decide) rfl rfl rfl ⟨by decide, by decide, rfl, rfl, by decide, by decide⟩ rfl (Nat.le_of_ble_eq_true rfl) dX11_excessOf_8 rfl ?_
    refine r_icmp_ge C 108 dX11_excessOf_11 (by decide) (nI_leI (by omega) (by omega)) (fun h11 => ?_) (fun h11 => ?_)
    · have ht2 : t = 2 ^ n := by omega
      subst ht2
      have hszl := szF_le F f (nI lv) (2 ^ n)
      refine r_iload_n C dX11_excessOf_108 1 rfl ?_
      refine r_aload_n C dX11_excessOf_109 2 rfl ?_
      refine r_iload_n C dX11_excessOf_110 3 rfl ?_
      refine r_iload_n C dX11_excessOf_111 4 rfl ?_
      refine r_callV C X (As := [.int (nI f), .int (nI lv)]) (rest := [.int (nI (exF F n f lv (2 ^ n)))]) (st1 := [.int (nI (szF F f (nI lv) (2 ^ n))), .int (nI (exF F n f lv (2 ^ n)))]) (μ' := μ) (k := 19) (T := TX11) miX11_sizeOf mvX11_sizeOf (c_sizeOf l g μ (F := F) (n := n) (f := f) h6 (by omega) h5 (by omega) (nI lv)) hw_5_119 (by decide) rfl rfl rfl ⟨by decide, by decide, rfl, rfl, by decide, by decide⟩ rfl (Nat.le_of_ble_eq_true rfl) dX11_excessOf_112 rfl ?_
      refine r_iload_n C dX11_excessOf_115 4 rfl ?_
      refine r_callP C (As := [.int (nI (szF F f (nI lv) (2 ^ n))), .int (nI lv)]) (rest := [.int (nI (exF F n f lv (2 ^ n)))]) (st1 := [.int (nI (lshG lv (szF F f (nI lv) (2 ^ n)))), .int (nI (exF F n f lv (2 ^ n)))]) miX11_bound msX11_bound (c_bound l (m := szF F f (nI lv) (2 ^ n)) (k := lv) (by omega) (by omega)) hw_5_225 rfl ⟨by decide, by decide, rfl, rfl, by decide, by decide⟩ rfl (Nat.le_of_ble_eq_true rfl) dX11_excessOf_116 rfl ?_
      refine r_isub C (v := (nI (exF F n f lv (2 ^ n)) - nI (lshG lv (szF F f (nI lv) (2 ^ n))))) dX11_excessOf_119 rfl ?_
      exact r_iret C dX11_excessOf_120 Rr
    · have ht1 : t < 2 ^ n := by omega
      have hbl := b10_lt t
      have hfl := exF_le F n f lv t
      refine r_iconst C (v := (nI 0)) dX11_excessOf_14 rfl ?_
      refine r_istore C (lv' := [(5, .int (nI 0)), (4, .int (nI t)), (3, .int (nI (exF F n f lv t))), (0, .ref (ad g 19)), (1, .int (nI f)), (2, .int (nI lv))]) 5 dX11_excessOf_15 (by decide) rfl ?_
      refine r_iconst C (v := (nI 0)) dX11_excessOf_17 rfl ?_
      refine r_istore C (lv' := [(6, .int (nI 0)), (5, .int (nI 0)), (4, .int (nI t)), (3, .int (nI (exF F n f lv t))), (0, .ref (ad g 19)), (1, .int (nI f)), (2, .int (nI lv))]) 6 dX11_excessOf_18 (by decide) rfl ?_
      by_cases hbt : b10 t = lv - 1
      · refine G_lv (lv' := [(6, .int (nI 0)), (5, .int (bI false)), (4, .int (nI t)), (3, .int (nI (exF F n f lv t))), (0, .ref (ad g 19)), (1, .int (nI f)), (2, .int (nI lv))]) rfl ?_
        refine lp_excessI C X h6 hn10 h5 hf hl hl10 hbt ht1 h1024 (n + 1) 0 false (by omega) (by omega) ?_
        refine G_lv (lv' := [(5, .int (bI (exC F n f lv t))), (4, .int (nI t)), (3, .int (nI (exF F n f lv t))), (0, .ref (ad g 19)), (1, .int (nI f)), (2, .int (nI lv))]) (by rw [exC, if_pos hbt, if_neg (by decide), Nat.sub_zero]) ?_
        refine r_iload_n C dX11_excessOf_89 2 rfl ?_
        refine r_iload C dX11_excessOf_90 0 rfl ?_
        refine r_if_eq C 99 dX11_excessOf_92 (by decide) (bI_eq _) (fun h92 => ?_) (fun h92 => ?_)
        · refine r_iconst C (v := (nI 0)) dX11_excessOf_99 rfl ?_
          refine G_top (y := (nI (exc F n f lv t))) (by rw [exc, if_neg (ts_f h92)]) ?_
          refine r_iadd C (v := (nI (exF F n f lv (t + 1)))) dX11_excessOf_100 (nI_add _ _) ?_
          refine r_istore_n C (lv' := [(3, .int (nI (exF F n f lv (t + 1)))), (5, .int (bI (exC F n f lv t))), (4, .int (nI t)), (0, .ref (ad g 19)), (1, .int (nI f)), (2, .int (nI lv))]) 3 dX11_excessOf_101 rfl (by decide) rfl ?_
          refine r_iinc C (v := (nI (t + 1))) (lv' := [(4, .int (nI (t + 1))), (3, .int (nI (exF F n f lv (t + 1)))), (5, .int (bI (exC F n f lv t))), (0, .ref (ad g 19)), (1, .int (nI f)), (2, .int (nI lv))]) 4 2 dX11_excessOf_102 rfl (inc_N _ 1) (by decide) rfl ?_
          refine r_goto C 5 dX11_excessOf_105 (by decide) ?_
          refine G_sub (lv' := [(4, .int (nI (t + 1))), (3, .int (nI (exF F n f lv (t + 1)))), (0, .ref (ad g 19)), (1, .int (nI f)), (2, .int (nI lv))]) [0, 1, 3, 4, 5] rfl ?_
          exact ih (t + 1) (by omega) (by omega)
        · refine r_iconst C (v := (nI 1)) dX11_excessOf_95 rfl ?_
          refine r_goto C 100 dX11_excessOf_96 (by decide) ?_
          refine G_top (y := (nI (exc F n f lv t))) (by rw [exc, if_pos (ts_t h92)]) ?_
          refine r_iadd C (v := (nI (exF F n f lv (t + 1)))) dX11_excessOf_100 (nI_add _ _) ?_
          refine r_istore_n C (lv' := [(3, .int (nI (exF F n f lv (t + 1)))), (5, .int (bI (exC F n f lv t))), (4, .int (nI t)), (0, .ref (ad g 19)), (1, .int (nI f)), (2, .int (nI lv))]) 3 dX11_excessOf_101 rfl (by decide) rfl ?_
          refine r_iinc C (v := (nI (t + 1))) (lv' := [(4, .int (nI (t + 1))), (3, .int (nI (exF F n f lv (t + 1)))), (5, .int (bI (exC F n f lv t))), (0, .ref (ad g 19)), (1, .int (nI f)), (2, .int (nI lv))]) 4 2 dX11_excessOf_102 rfl (inc_N _ 1) (by decide) rfl ?_
          refine r_goto C 5 dX11_excessOf_105 (by decide) ?_
          refine G_sub (lv' := [(4, .int (nI (t + 1))), (3, .int (nI (exF F n f lv (t + 1)))), (0, .ref (ad g 19)), (1, .int (nI f)), (2, .int (nI lv))]) [0, 1, 3, 4, 5] rfl ?_
          exact ih (t + 1) (by omega) (by omega)
      · refine G_lv (lv' := [(6, .int (nI 0)), (5, .int (bI (exC F n f lv t))), (4, .int (nI t)), (3, .int (nI (exF F n f lv t))), (0, .ref (ad g 19)), (1, .int (nI f)), (2, .int (nI lv))]) (by rw [exC, if_neg hbt]; rfl) ?_
        refine r_iload C dX11_excessOf_20 0 rfl ?_
        refine r_aload_n C dX11_excessOf_22 4 rfl ?_
        refine r_get C X (k := 19) (R := RX11) (T := TX11) (N := 15) (n := 1) (v := .int (gI μ 6)) (by decide) rfl rfl inw11 (by decide) rfl hw_5_19 rfl dX11_excessOf_23 ?_
        refine G_top (y := (nI n)) h6 ?_
        refine r_icmp_ge C 89 dX11_excessOf_26 (by decide) (nI_leI (by omega) (by omega)) (fun h26 => ?_) (fun h26 => ?_)
        · refine r_iload_n C dX11_excessOf_89 3 rfl ?_
          refine r_iload C dX11_excessOf_90 1 rfl ?_
          refine r_if_eq C 99 dX11_excessOf_92 (by decide) (bI_eq _) (fun h92 => ?_) (fun h92 => ?_)
          · refine r_iconst C (v := (nI 0)) dX11_excessOf_99 rfl ?_
            refine G_top (y := (nI (exc F n f lv t))) (by rw [exc, if_neg (ts_f h92)]) ?_
            refine r_iadd C (v := (nI (exF F n f lv (t + 1)))) dX11_excessOf_100 (nI_add _ _) ?_
            refine r_istore_n C (lv' := [(3, .int (nI (exF F n f lv (t + 1)))), (6, .int (nI 0)), (5, .int (bI (exC F n f lv t))), (4, .int (nI t)), (0, .ref (ad g 19)), (1, .int (nI f)), (2, .int (nI lv))]) 3 dX11_excessOf_101 rfl (by decide) rfl ?_
            refine r_iinc C (v := (nI (t + 1))) (lv' := [(4, .int (nI (t + 1))), (3, .int (nI (exF F n f lv (t + 1)))), (6, .int (nI 0)), (5, .int (bI (exC F n f lv t))), (0, .ref (ad g 19)), (1, .int (nI f)), (2, .int (nI lv))]) 4 3 dX11_excessOf_102 rfl (inc_N _ 1) (by decide) rfl ?_
            refine r_goto C 5 dX11_excessOf_105 (by decide) ?_
            refine G_sub (lv' := [(4, .int (nI (t + 1))), (3, .int (nI (exF F n f lv (t + 1)))), (0, .ref (ad g 19)), (1, .int (nI f)), (2, .int (nI lv))]) [0, 1, 4, 5, 6] rfl ?_
            exact ih (t + 1) (by omega) (by omega)
          · refine r_iconst C (v := (nI 1)) dX11_excessOf_95 rfl ?_
            refine r_goto C 100 dX11_excessOf_96 (by decide) ?_
            refine G_top (y := (nI (exc F n f lv t))) (by rw [exc, if_pos (ts_t h92)]) ?_
            refine r_iadd C (v := (nI (exF F n f lv (t + 1)))) dX11_excessOf_100 (nI_add _ _) ?_
            refine r_istore_n C (lv' := [(3, .int (nI (exF F n f lv (t + 1)))), (6, .int (nI 0)), (5, .int (bI (exC F n f lv t))), (4, .int (nI t)), (0, .ref (ad g 19)), (1, .int (nI f)), (2, .int (nI lv))]) 3 dX11_excessOf_101 rfl (by decide) rfl ?_
            refine r_iinc C (v := (nI (t + 1))) (lv' := [(4, .int (nI (t + 1))), (3, .int (nI (exF F n f lv (t + 1)))), (6, .int (nI 0)), (5, .int (bI (exC F n f lv t))), (0, .ref (ad g 19)), (1, .int (nI f)), (2, .int (nI lv))]) 4 3 dX11_excessOf_102 rfl (inc_N _ 1) (by decide) rfl ?_
            refine r_goto C 5 dX11_excessOf_105 (by decide) ?_
            refine G_sub (lv' := [(4, .int (nI (t + 1))), (3, .int (nI (exF F n f lv (t + 1)))), (0, .ref (ad g 19)), (1, .int (nI f)), (2, .int (nI lv))]) [0, 1, 4, 5, 6] rfl ?_
            exact ih (t + 1) (by omega) (by omega)
        · refine r_iload C dX11_excessOf_29 2 rfl ?_
          refine r_callP C (As := [.int (nI t)]) (rest := []) (st1 := [.int (nI (b10 t))]) miX11_bits msX11_bits (c_bits l (c := t) (by omega)) hw_5_123 rfl ⟨by decide, by decide, rfl, rfl, by decide, by decide⟩ rfl (Nat.le_of_ble_eq_true rfl) dX11_excessOf_31 rfl ?_
          refine r_iload_n C dX11_excessOf_34 6 rfl ?_
          refine r_iconst C (v := (nI 1)) dX11_excessOf_35 rfl ?_
          refine r_isub C (v := (nI (lv - 1))) dX11_excessOf_36 (pk_sub (by omega)) ?_
          refine r_icmp_ne C 89 dX11_excessOf_37 (by decide) (not_congr (nI_eq (by omega) (by omega))) (fun h37 => ?_) (fun h37 => ?_)
          · refine r_iload_n C dX11_excessOf_89 3 rfl ?_
            refine r_iload C dX11_excessOf_90 1 rfl ?_
            refine r_if_eq C 99 dX11_excessOf_92 (by decide) (bI_eq _) (fun h92 => ?_) (fun h92 => ?_)
            · refine r_iconst C (v := (nI 0)) dX11_excessOf_99 rfl ?_
              refine G_top (y := (nI (exc F n f lv t))) (by rw [exc, if_neg (ts_f h92)]) ?_
              refine r_iadd C (v := (nI (exF F n f lv (t + 1)))) dX11_excessOf_100 (nI_add _ _) ?_
              refine r_istore_n C (lv' := [(3, .int (nI (exF F n f lv (t + 1)))), (6, .int (nI 0)), (5, .int (bI (exC F n f lv t))), (4, .int (nI t)), (0, .ref (ad g 19)), (1, .int (nI f)), (2, .int (nI lv))]) 3 dX11_excessOf_101 rfl (by decide) rfl ?_
              refine r_iinc C (v := (nI (t + 1))) (lv' := [(4, .int (nI (t + 1))), (3, .int (nI (exF F n f lv (t + 1)))), (6, .int (nI 0)), (5, .int (bI (exC F n f lv t))), (0, .ref (ad g 19)), (1, .int (nI f)), (2, .int (nI lv))]) 4 3 dX11_excessOf_102 rfl (inc_N _ 1) (by decide) rfl ?_
              refine r_goto C 5 dX11_excessOf_105 (by decide) ?_
              refine G_sub (lv' := [(4, .int (nI (t + 1))), (3, .int (nI (exF F n f lv (t + 1)))), (0, .ref (ad g 19)), (1, .int (nI f)), (2, .int (nI lv))]) [0, 1, 4, 5, 6] rfl ?_
              exact ih (t + 1) (by omega) (by omega)
            · refine r_iconst C (v := (nI 1)) dX11_excessOf_95 rfl ?_
              refine r_goto C 100 dX11_excessOf_96 (by decide) ?_
              refine G_top (y := (nI (exc F n f lv t))) (by rw [exc, if_pos (ts_t h92)]) ?_
              refine r_iadd C (v := (nI (exF F n f lv (t + 1)))) dX11_excessOf_100 (nI_add _ _) ?_
              refine r_istore_n C (lv' := [(3, .int (nI (exF F n f lv (t + 1)))), (6, .int (nI 0)), (5, .int (bI (exC F n f lv t))), (4, .int (nI t)), (0, .ref (ad g 19)), (1, .int (nI f)), (2, .int (nI lv))]) 3 dX11_excessOf_101 rfl (by decide) rfl ?_
              refine r_iinc C (v := (nI (t + 1))) (lv' := [(4, .int (nI (t + 1))), (3, .int (nI (exF F n f lv (t + 1)))), (6, .int (nI 0)), (5, .int (bI (exC F n f lv t))), (0, .ref (ad g 19)), (1, .int (nI f)), (2, .int (nI lv))]) 4 3 dX11_excessOf_102 rfl (inc_N _ 1) (by decide) rfl ?_
              refine r_goto C 5 dX11_excessOf_105 (by decide) ?_
              refine G_sub (lv' := [(4, .int (nI (t + 1))), (3, .int (nI (exF F n f lv (t + 1)))), (0, .ref (ad g 19)), (1, .int (nI f)), (2, .int (nI lv))]) [0, 1, 4, 5, 6] rfl ?_
              exact ih (t + 1) (by omega) (by omega)
          · exact absurd (Decidable.not_not.mp h37) hbt
set_option maxHeartbeats 1000000 in
set_option maxRecDepth 100000 in
theorem c_excessOfM (l : Launch) (g : Gd) (μ : Mm) {F : Nat → Bool} {n f lv : Nat} (h6 : gI μ 6 = nI n) (hn10 : n ≤ 10) (h5 : gA μ 5 = bR F) (hf : f < 4) (hl : 1 ≤ lv) (hl10 : lv ≤ 10) : Ct l yX11_excessOf cX11_excessOf 7 (some .int) (rmk 3 71) g [.ref (ad g 19), .int (nI f), .int (nI lv)] μ (some (.int (nI (exF F n f lv (2 ^ n)) - nI (lshG lv (szF F f (nI lv) (2 ^ n)))))) μ := by
  have h1024 := pw10 hn10
  have h2n := Nat.two_pow_pos n
  refine Ct.of (by decide) (Nat.le_of_ble_eq_true rfl) (fun z A C X Rr => ?_)
  refine r_iconst C (v := (nI 0)) dX11_excessOf_0 rfl ?_
  refine r_istore_n C (lv' := [(3, .int (nI 0)), (0, .ref (ad g 19)), (1, .int (nI f)), (2, .int (nI lv))]) 3 dX11_excessOf_1 rfl (by decide) rfl ?_
  refine r_iconst C (v := (nI 0)) dX11_excessOf_2 rfl ?_
  refine r_istore C (lv' := [(4, .int (nI 0)), (3, .int (nI 0)), (0, .ref (ad g 19)), (1, .int (nI f)), (2, .int (nI lv))]) 4 dX11_excessOf_3 (by decide) rfl ?_
  refine G_lv (lv' := [(4, .int (nI 0)), (3, .int (nI (exF F n f lv 0))), (0, .ref (ad g 19)), (1, .int (nI f)), (2, .int (nI lv))]) rfl ?_
  exact lp_excess C X h6 hn10 h5 hf hl hl10 h1024 h2n Rr (2 ^ n + 1) 0 (by omega) (by omega)
def exR (F : Nat → Bool) (n f lv : Nat) : Int32 := nI (exF F n f lv (2 ^ n)) - nI (lshG lv (szF F f (nI lv) (2 ^ n)))
