theorem bI_inj {a b : Bool} : bI a = bI b ↔ a = b := ⟨fun h => by cases a <;> cases b <;> first | rfl | exact absurd h (by decide), fun h => by rw [h]⟩
def swI (O : Nat → Bool) (s : Nat) (up : Bool) : Nat → Nat → Bool
  | 0 => O
  | x + 1 => if decide (s / 2 ^ x &&& 1 = 1) = up then swI O s up x else upB (swI O s up x) (s ^^^ 2 ^ x) true
def swO (F O : Nat → Bool) (n f : Nat) (up : Bool) : Nat → Nat → Bool
  | 0 => O
  | s + 1 => if F (1024 * f + s) = true then swI (swO F O n f up s) s up n else swO F O n f up s
set_option maxHeartbeats 1000000 in
set_option maxRecDepth 100000 in
theorem lp_shadowI {z : Zt} {A : Nat → Prop} {l : Launch} {g : Gd} {μ : Mm} (C : Cx z A l (rmk 1 20) cX11_shadow 6 "SetFamiliesModel") (X : Kx z g A) {F r : Nat → Bool} {n f s : Nat} {up : Bool} (h6 : gI μ 6 = nI n) (hn10 : n ≤ 10) (h5 : gA μ 5 = bR F) (hf : f < 4) (hs1 : s < 2 ^ n) (hFs : F (1024 * f + s) = true) (h1024 : 2 ^ n ≤ 1024) (KK : G z g.1 A 6 (wd g (sA μ 9 (bR (swI r s up n)))) 0 0 78 [(3, .int (nI s)), (0, .ref (ad g 19)), (1, .int (nI f)), (2, .int (bI up))] []) : ∀ (n_ : Nat) (x : Nat), n - x < n_ → x ≤ n → G z g.1 A 6 (wd g (sA μ 9 (bR (swI r s up x)))) 0 0 13 [(4, .int (nI x)), (3, .int (nI s)), (0, .ref (ad g 19)), (1, .int (nI f)), (2, .int (bI up))] [] := by
  intro n_
  induction n_ with
  | zero => intro x hm_; exact absurd hm_ (Nat.not_lt_zero _)
  | succ n_ ih =>
    intro x hm_ hx
    refine r_iload C dX11_shadow_13 0 rfl ?_
    refine r_aload_n C dX11_shadow_15 2 rfl ?_
    refine r_get C X (k := 19) (R := RX11) (T := TX11) (N := 15) (n := 1) (v := .int (gI (sA μ 9 (bR (swI r s up x))) 6)) (by decide) rfl rfl inw11 (by decide) rfl hw_5_19 rfl dX11_shadow_16 ?_
    refine G_top (y := (nI n)) ((gI_A _ _ _ _).trans h6) ?_
    refine r_icmp_ge C 78 dX11_shadow_19 (by decide) (nI_leI (by omega) (by omega)) (fun h19 => ?_) (fun h19 => ?_)
    · have hx2 : n = x := by omega
      subst hx2
      refine G_sub (lv' := [(3, .int (nI s)), (0, .ref (ad g 19)), (1, .int (nI f)), (2, .int (bI up))]) [1, 2, 3, 4] rfl ?_
      exact KK
    · have hx10 := x10 (x := x) (show s < 1024 by omega) (by omega)
      refine r_aload_n C dX11_shadow_22 2 rfl ?_
      refine r_get C X (k := 19) (R := RX11) (T := TX11) (N := 15) (n := 2) (v := .ref (ad g 20)) (by decide) rfl rfl inw11 (by decide) rfl hw_5_20 rfl dX11_shadow_23 ?_
      refine r_sipush C (v := (nI 1024)) dX11_shadow_26 (by decide) ?_
      refine r_iload_n C dX11_shadow_29 3 rfl ?_
      refine r_imul C (v := (nI (1024 * f))) dX11_shadow_30 (pk_mul _ _) ?_
      refine r_iload_n C dX11_shadow_31 1 rfl ?_
      refine r_iadd C (v := (nI (1024 * f + s))) dX11_shadow_32 (nI_add _ _) ?_
      refine r_zald C X (k := 20) (v := (bI (F (1024 * f + s)))) (by decide) rfl (by omega) (by decide) (bR_at ((gA_n _ _ (by decide)).trans h5) _) dX11_shadow_33 ?_
      refine r_if_eq C 78 dX11_shadow_34 (by decide) (bI_eq _) (fun h34 => ?_) (fun h34 => ?_)
      · exact absurd h34 (by rw [hFs]; decide)
      · refine r_iload_n C dX11_shadow_37 1 rfl ?_
        refine r_iload C dX11_shadow_38 0 rfl ?_
        refine r_ishr C (v := (nI (s / 2 ^ x))) dX11_shadow_40 (nshr (by omega) (by omega)) ?_
        refine r_iconst C (v := (nI 1)) dX11_shadow_41 rfl ?_
        refine r_iand C (v := (nI ((s / 2 ^ x) &&& 1))) dX11_shadow_42 (nand _ _) ?_
        refine r_iconst C (v := (nI 1)) dX11_shadow_43 rfl ?_
        refine r_icmp_ne C 51 dX11_shadow_44 (by decide) (not_congr (nI_eq (Nat.lt_of_le_of_lt Nat.and_le_right (by decide)) (by decide))) (fun h44 => ?_) (fun h44 => ?_)
        · refine r_iconst C (v := (nI 0)) dX11_shadow_51 rfl ?_
          refine G_top (y := (bI (decide (s / 2 ^ x &&& 1 = 1)))) (bd0 h44) ?_
          refine r_istore C (lv' := [(5, .int (bI (decide (s / 2 ^ x &&& 1 = 1)))), (4, .int (nI x)), (3, .int (nI s)), (0, .ref (ad g 19)), (1, .int (nI f)), (2, .int (bI up))]) 5 dX11_shadow_52 (by decide) rfl ?_
          refine r_iload C dX11_shadow_54 0 rfl ?_
          refine r_iload_n C dX11_shadow_56 5 rfl ?_
          refine r_icmp_eq C 72 dX11_shadow_57 (by decide) bI_inj (fun h57 => ?_) (fun h57 => ?_)
          · refine r_iinc C (v := (nI (x + 1))) (lv' := [(4, .int (nI (x + 1))), (5, .int (bI (decide (s / 2 ^ x &&& 1 = 1)))), (3, .int (nI s)), (0, .ref (ad g 19)), (1, .int (nI f)), (2, .int (bI up))]) 4 1 dX11_shadow_72 rfl (inc_N _ 1) (by decide) rfl ?_
            refine r_goto C 13 dX11_shadow_75 (by decide) ?_
            refine G_mem (μ' := (sA μ 9 (bR (swI r s up (x + 1))))) (by rw [swI, if_pos h57]) ?_
            refine G_sub (lv' := [(4, .int (nI (x + 1))), (3, .int (nI s)), (0, .ref (ad g 19)), (1, .int (nI f)), (2, .int (bI up))]) [0, 2, 3, 4, 5] rfl ?_
            exact ih (x + 1) (by omega) (by omega)
          · refine r_aload_n C dX11_shadow_60 3 rfl ?_
            refine r_get C X (k := 19) (R := RX11) (T := TX11) (N := 15) (n := 8) (v := .ref (ad g 24)) (by decide) rfl rfl inw11 (by decide) rfl hw_5_26 rfl dX11_shadow_61 ?_
            refine r_iload_n C dX11_shadow_64 2 rfl ?_
            refine r_iconst C (v := (nI 1)) dX11_shadow_65 rfl ?_
            refine r_iload C dX11_shadow_66 1 rfl ?_
            refine r_ishl C (v := (nI (2 ^ x))) dX11_shadow_68 (nshl1 (by omega)) ?_
            refine r_ixor C (v := (nI (s ^^^ (2 ^ x)))) dX11_shadow_69 (nxor _ _) ?_
            refine r_iconst C (v := (nI 1)) dX11_shadow_70 rfl ?_
            refine G_top (y := (bI true)) rfl ?_
            refine r_zast C X (k := 24) (f' := bR (swI r s up (x + 1))) (μ' := (sA (sA μ 9 (bR (swI r s up x))) 9 (bR (swI r s up (x + 1))))) (by decide) rfl (by omega) (by decide) (by rw [gA_s, swI, if_neg h57]; exact bR_up _ _ _) dX11_shadow_71 (congrArg (iR g 3 1024) (gA_s _ _ _)) (WF_sA9_ne g _ _) ?_
            refine G_mem (μ' := (sA μ 9 (bR (swI r s up (x + 1))))) (sA_u _ _ _ _) ?_
            refine r_iinc C (v := (nI (x + 1))) (lv' := [(4, .int (nI (x + 1))), (5, .int (bI (decide (s / 2 ^ x &&& 1 = 1)))), (3, .int (nI s)), (0, .ref (ad g 19)), (1, .int (nI f)), (2, .int (bI up))]) 4 1 dX11_shadow_72 rfl (inc_N _ 1) (by decide) rfl ?_
            refine r_goto C 13 dX11_shadow_75 (by decide) ?_
            refine G_sub (lv' := [(4, .int (nI (x + 1))), (3, .int (nI s)), (0, .ref (ad g 19)), (1, .int (nI f)), (2, .int (bI up))]) [0, 2, 3, 4, 5] rfl ?_
            exact ih (x + 1) (by omega) (by omega)
        · refine r_iconst C (v := (nI 1)) dX11_shadow_47 rfl ?_
          refine r_goto C 52 dX11_shadow_48 (by decide) ?_
          refine G_top (y := (bI (decide (s / 2 ^ x &&& 1 = 1)))) (bd1 (Decidable.not_not.mp h44)) ?_
          refine r_istore C (lv' := [(5, .int (bI (decide (s / 2 ^ x &&& 1 = 1)))), (4, .int (nI x)), (3, .int (nI s)), (0, .ref (ad g 19)), (1, .int (nI f)), (2, .int (bI up))]) 5 dX11_shadow_52 (by decide) rfl ?_
          refine r_iload C dX11_shadow_54 0 rfl ?_
          refine r_iload_n C dX11_shadow_56 5 rfl ?_
          refine r_icmp_eq C 72 dX11_shadow_57 (by decide) bI_inj (fun h57 => ?_) (fun h57 => ?_)
          · refine r_iinc C (v := (nI (x + 1))) (lv' := [(4, .int (nI (x + 1))), (5, .int (bI (decide (s / 2 ^ x &&& 1 = 1)))), (3, .int (nI s)), (0, .ref (ad g 19)), (1, .int (nI f)), (2, .int (bI up))]) 4 1 dX11_shadow_72 rfl (inc_N _ 1) (by decide) rfl ?_
            refine r_goto C 13 dX11_shadow_75 (by decide) ?_
            refine G_mem (μ' := (sA μ 9 (bR (swI r s up (x + 1))))) (by rw [swI, if_pos h57]) ?_
            refine G_sub (lv' := [(4, .int (nI (x + 1))), (3, .int (nI s)), (0, .ref (ad g 19)), (1, .int (nI f)), (2, .int (bI up))]) [0, 2, 3, 4, 5] rfl ?_
            exact ih (x + 1) (by omega) (by omega)
          · refine r_aload_n C dX11_shadow_60 3 rfl ?_
            refine r_get C X (k := 19) (R := RX11) (T := TX11) (N := 15) (n := 8) (v := .ref (ad g 24)) (by decide) rfl rfl inw11 (by decide) rfl hw_5_26 rfl dX11_shadow_61 ?_
            refine r_iload_n C dX11_shadow_64 2 rfl ?_
            refine r_iconst C (v := (nI 1)) dX11_shadow_65 rfl ?_
            refine r_iload C dX11_shadow_66 1 rfl ?_
            refine r_ishl C (v := (nI (2 ^ x))) dX11_shadow_68 (nshl1 (by omega)) ?_
            refine r_ixor C (v := (nI (s ^^^ (2 ^ x)))) dX11_shadow_69 (nxor _ _) ?_
            refine r_iconst C (v := (nI 1)) dX11_shadow_70 rfl ?_
            refine G_top (y := (bI true)) rfl ?_
            refine r_zast C X (k := 24) (f' := bR (swI r s up (x + 1))) (μ' := (sA (sA μ 9 (bR (swI r s up x))) 9 (bR (swI r s up (x + 1))))) (by decide) rfl (by omega) (by decide) (by rw [gA_s, swI, if_neg h57]; exact bR_up _ _ _) dX11_shadow_71 (congrArg (iR g 3 1024) (gA_s _ _ _)) (WF_sA9_ne g _ _) ?_
            refine G_mem (μ' := (sA μ 9 (bR (swI r s up (x + 1))))) (sA_u _ _ _ _) ?_
            refine r_iinc C (v := (nI (x + 1))) (lv' := [(4, .int (nI (x + 1))), (5, .int (bI (decide (s / 2 ^ x &&& 1 = 1)))), (3, .int (nI s)), (0, .ref (ad g 19)), (1, .int (nI f)), (2, .int (bI up))]) 4 1 dX11_shadow_72 rfl (inc_N _ 1) (by decide) rfl ?_
            refine r_goto C 13 dX11_shadow_75 (by decide) ?_
            refine G_sub (lv' := [(4, .int (nI (x + 1))), (3, .int (nI s)), (0, .ref (ad g 19)), (1, .int (nI f)), (2, .int (bI up))]) [0, 2, 3, 4, 5] rfl ?_
            exact ih (x + 1) (by omega) (by omega)
set_option maxHeartbeats 1000000 in
set_option maxRecDepth 100000 in
theorem lp_shadow {z : Zt} {A : Nat → Prop} {l : Launch} {g : Gd} {μ : Mm} (C : Cx z A l (rmk 1 20) cX11_shadow 6 "SetFamiliesModel") (X : Kx z g A) {F O : Nat → Bool} {n f : Nat} {up : Bool} (h6 : gI μ 6 = nI n) (hn10 : n ≤ 10) (h5 : gA μ 5 = bR F) (hf : f < 4) (h1024 : 2 ^ n ≤ 1024) (h2n : 0 < 2 ^ n) (Rr : Rx z g A none none (sA μ 9 (bR (swO F O n f up (2 ^ n))))) : ∀ (n_ : Nat) (s : Nat), 2 ^ n - s < n_ → s ≤ 2 ^ n → G z g.1 A 6 (wd g (sA μ 9 (bR (swO F O n f up s)))) 0 0 2 [(3, .int (nI s)), (0, .ref (ad g 19)), (1, .int (nI f)), (2, .int (bI up))] [] := by
  intro n_
  induction n_ with
  | zero => intro s hm_; exact absurd hm_ (Nat.not_lt_zero _)
  | succ n_ ih =>
    intro s hm_ hs
    refine r_iload_n C dX11_shadow_2 0 rfl ?_
    refine r_aload_n C dX11_shadow_3 1 rfl ?_
    refine r_callV C X (As := []) (rest := [.int (nI s)]) (st1 := [.int (nI (2 ^ n)), .int (nI s)]) (μ' := (sA μ 9 (bR (swO F O n f up s)))) (k := 19) (T := TX11) miX11_codes mvX11_codes (c_codes l g (sA μ 9 (bR (swO F O n f up s))) (n := n) ((gI_A _ _ _ _).trans h6) (by omega)) hw_5_99 (by decide) rfl rfl rfl ⟨by decide, by decide, rfl, rfl, by decide, by decide⟩ rfl (Nat.le_of_ble_eq_true rfl) dX11_shadow_4 rfl ?_
    refine r_icmp_ge C 84 dX11_shadow_7 (by decide) (nI_leI (by omega) (by omega)) (fun h7 => ?_) (fun h7 => ?_)
    · have hs2 : s = 2 ^ n := by omega
      subst hs2
      exact r_vret C dX11_shadow_84 Rr
    · have hs1 : s < 2 ^ n := by omega
      refine r_iconst C (v := (nI 0)) dX11_shadow_10 rfl ?_
      refine r_istore C (lv' := [(4, .int (nI 0)), (3, .int (nI s)), (0, .ref (ad g 19)), (1, .int (nI f)), (2, .int (bI up))]) 4 dX11_shadow_11 (by decide) rfl ?_
      by_cases hFs : F (1024 * f + s) = true
      · refine lp_shadowI C X (r := swO F O n f up s) h6 hn10 h5 hf hs1 hFs h1024 ?_ (n + 1) 0 (by omega) (by omega)
        refine G_mem (μ' := (sA μ 9 (bR (swO F O n f up (s + 1))))) (by rw [swO, if_pos hFs]) ?_
        refine r_iinc C (v := (nI (s + 1))) (lv' := [(3, .int (nI (s + 1))), (0, .ref (ad g 19)), (1, .int (nI f)), (2, .int (bI up))]) 3 0 dX11_shadow_78 rfl (inc_N _ 1) (by decide) rfl ?_
        refine r_goto C 2 dX11_shadow_81 (by decide) ?_
        exact ih (s + 1) (by omega) (by omega)
      · refine G_mem (μ' := (sA μ 9 (bR (swO F O n f up (s + 1))))) (by rw [swO, if_neg hFs]) ?_
        refine r_iload C dX11_shadow_13 0 rfl ?_
        refine r_aload_n C dX11_shadow_15 2 rfl ?_
        refine r_get C X (k := 19) (R := RX11) (T := TX11) (N := 15) (n := 1) (v := .int (gI (sA μ 9 (bR (swO F O n f up (s + 1)))) 6)) (by decide) rfl rfl inw11 (by decide) rfl hw_5_19 rfl dX11_shadow_16 ?_
        refine G_top (y := (nI n)) ((gI_A _ _ _ _).trans h6) ?_
        refine r_icmp_ge C 78 dX11_shadow_19 (by decide) (nI_leI (by omega) (by omega)) (fun h19 => ?_) (fun h19 => ?_)
        · refine r_iinc C (v := (nI (s + 1))) (lv' := [(3, .int (nI (s + 1))), (4, .int (nI 0)), (0, .ref (ad g 19)), (1, .int (nI f)), (2, .int (bI up))]) 3 1 dX11_shadow_78 rfl (inc_N _ 1) (by decide) rfl ?_
          refine r_goto C 2 dX11_shadow_81 (by decide) ?_
          refine G_sub (lv' := [(3, .int (nI (s + 1))), (0, .ref (ad g 19)), (1, .int (nI f)), (2, .int (bI up))]) [0, 2, 3, 4] rfl ?_
          exact ih (s + 1) (by omega) (by omega)
        · refine r_aload_n C dX11_shadow_22 2 rfl ?_
          refine r_get C X (k := 19) (R := RX11) (T := TX11) (N := 15) (n := 2) (v := .ref (ad g 20)) (by decide) rfl rfl inw11 (by decide) rfl hw_5_20 rfl dX11_shadow_23 ?_
          refine r_sipush C (v := (nI 1024)) dX11_shadow_26 (by decide) ?_
          refine r_iload_n C dX11_shadow_29 3 rfl ?_
          refine r_imul C (v := (nI (1024 * f))) dX11_shadow_30 (pk_mul _ _) ?_
          refine r_iload_n C dX11_shadow_31 1 rfl ?_
          refine r_iadd C (v := (nI (1024 * f + s))) dX11_shadow_32 (nI_add _ _) ?_
          refine r_zald C X (k := 20) (v := (bI (F (1024 * f + s)))) (by decide) rfl (by omega) (by decide) (bR_at ((gA_n _ _ (by decide)).trans h5) _) dX11_shadow_33 ?_
          refine r_if_eq C 78 dX11_shadow_34 (by decide) (bI_eq _) (fun h34 => ?_) (fun h34 => ?_)
          · refine r_iinc C (v := (nI (s + 1))) (lv' := [(3, .int (nI (s + 1))), (4, .int (nI 0)), (0, .ref (ad g 19)), (1, .int (nI f)), (2, .int (bI up))]) 3 1 dX11_shadow_78 rfl (inc_N _ 1) (by decide) rfl ?_
            refine r_goto C 2 dX11_shadow_81 (by decide) ?_
            refine G_sub (lv' := [(3, .int (nI (s + 1))), (0, .ref (ad g 19)), (1, .int (nI f)), (2, .int (bI up))]) [0, 2, 3, 4] rfl ?_
            exact ih (s + 1) (by omega) (by omega)
          · exact absurd (ts_t h34) hFs
set_option maxHeartbeats 1000000 in
set_option maxRecDepth 100000 in
theorem c_shadow (l : Launch) (g : Gd) (μ : Mm) {F O : Nat → Bool} {n f : Nat} (h6 : gI μ 6 = nI n) (hn10 : n ≤ 10) (h5 : gA μ 5 = bR F) (hf : f < 4) (h9 : gA μ 9 = bR O) (up : Bool) : Ct l yX11_shadow cX11_shadow 6 none (rmk 1 20) g [.ref (ad g 19), .int (nI f), .int (bI up)] μ none (sA μ 9 (bR (swO F O n f up (2 ^ n)))) := by
  have h1024 := pw10 hn10
  have h2n := Nat.two_pow_pos n
  refine Ct.of (by decide) (Nat.le_of_ble_eq_true rfl) (fun z A C X Rr => ?_)
  refine r_iconst C (v := (nI 0)) dX11_shadow_0 rfl ?_
  refine r_istore_n C (lv' := [(3, .int (nI 0)), (0, .ref (ad g 19)), (1, .int (nI f)), (2, .int (bI up))]) 3 dX11_shadow_1 rfl (by decide) rfl ?_
  refine G_mem (show μ = (sA μ 9 (bR (swO F O n f up 0))) from (sA_i μ 9).symm.trans (congrArg (sA μ 9) h9)) ?_
  exact lp_shadow C X h6 hn10 h5 hf h1024 h2n Rr (2 ^ n + 1) 0 (by omega) (by omega)
def ibC (F : Nat → Bool) (f s x i : Nat) : Bool := decide (s / 2 ^ x &&& 1 = 1) && (decide (s / 2 ^ i &&& 1 = 0) && !F (1024 * f + (s ^^^ 2 ^ x ^^^ 2 ^ i)))
def ibI (F : Nat → Bool) (f s x : Nat) (b : Bool) : Nat → Bool
  | 0 => b
  | i + 1 => ibI F f s x b i || ibC F f s x i
def ibX (F : Nat → Bool) (f p s x : Nat) (b : Bool) : Bool := b || (decide (p = 4) && (decide (s / 2 ^ x &&& 1 = 1) && !F (1024 * f + (s ^^^ 2 ^ x))))
def ibO (F : Nat → Bool) (f p s : Nat) : Nat → Bool
  | 0 => false
  | x + 1 => if p = 5 then ibI F f s x (ibX F f p s x (ibO F f p s x)) x else ibX F f p s x (ibO F f p s x)
set_option maxHeartbeats 1000000 in
set_option maxRecDepth 100000 in
theorem lp_isBadI {z : Zt} {A : Nat → Prop} {l : Launch} {g : Gd} {μ : Mm} (C : Cx z A l (rmk 0 0) cX11_isBad 8 "SetFamiliesModel") (X : Kx z g A) {F : Nat → Bool} {n f p s x : Nat} {b : Bool} (h6 : gI μ 6 = nI n) (hn10 : n ≤ 10) (h5 : gA μ 5 = bR F) (hf : f < 4) (hs : s < 1024) (hp5 : p = 5) (hxn : x < n) (KK : G z g.1 A 8 (wd g μ) 0 0 146 [(4, .int (bI (ibI F f s x b x))), (5, .int (nI x)), (0, .ref (ad g 19)), (1, .int (nI f)), (2, .int (nI p)), (3, .int (nI s))] []) : ∀ (n_ : Nat) (i : Nat), x - i < n_ → i ≤ x → G z g.1 A 8 (wd g μ) 0 0 77 [(7, .int (nI i)), (4, .int (bI (ibI F f s x b i))), (6, .int (bI (decide (s / 2 ^ x &&& 1 = 1)))), (5, .int (nI x)), (0, .ref (ad g 19)), (1, .int (nI f)), (2, .int (nI p)), (3, .int (nI s))] [] := by
  intro n_
  induction n_ with
  | zero => intro i hm_; exact absurd hm_ (Nat.not_lt_zero _)
  | succ n_ ih =>
    intro i hm_ hi
    refine r_iload C dX11_isBad_77 0 rfl ?_
    refine r_iload C dX11_isBad_79 3 rfl ?_
    refine r_icmp_ge C 146 dX11_isBad_81 (by decide) (nI_leI (by omega) (by omega)) (fun h81 => ?_) (fun h81 => ?_)
    · have hi2 : x = i := by omega
      subst hi2
      refine G_sub (lv' := [(4, .int (bI (ibI F f s x b x))), (5, .int (nI x)), (0, .ref (ad g 19)), (1, .int (nI f)), (2, .int (nI p)), (3, .int (nI s))]) [1, 3, 4, 5, 6, 7] rfl ?_
      exact KK
    · refine r_iload_n C dX11_isBad_84 6 rfl ?_
      refine r_iconst C (v := (nI 5)) dX11_isBad_85 rfl ?_
      refine r_icmp_ne C 146 dX11_isBad_86 (by decide) (not_congr (nI_eq (by omega) (by omega))) (fun h86 => ?_) (fun h86 => ?_)
      · exact absurd hp5 h86
      · have hx10 := x10 (x := x) hs (by omega)
        have hxi10 := x10 (x := i) hx10 (by omega)
        refine r_iload C dX11_isBad_89 1 rfl ?_
        refine r_if_ne C 133 dX11_isBad_91 (by decide) (bI_ne _) (fun h91 => ?_) (fun h91 => ?_)
        · refine r_iconst C (v := (nI 1)) dX11_isBad_133 rfl ?_
          refine r_goto C 138 dX11_isBad_134 (by decide) ?_
          refine G_top (y := (bI (ibI F f s x b (i + 1)))) (b1 (show ibI F f s x b (i + 1) = true by rw [ibI]; rw [h91]; rfl)) ?_
          refine r_istore C (lv' := [(4, .int (bI (ibI F f s x b (i + 1)))), (7, .int (nI i)), (6, .int (bI (decide (s / 2 ^ x &&& 1 = 1)))), (5, .int (nI x)), (0, .ref (ad g 19)), (1, .int (nI f)), (2, .int (nI p)), (3, .int (nI s))]) 4 dX11_isBad_138 (by decide) rfl ?_
          refine r_iinc C (v := (nI (i + 1))) (lv' := [(7, .int (nI (i + 1))), (4, .int (bI (ibI F f s x b (i + 1)))), (6, .int (bI (decide (s / 2 ^ x &&& 1 = 1)))), (5, .int (nI x)), (0, .ref (ad g 19)), (1, .int (nI f)), (2, .int (nI p)), (3, .int (nI s))]) 7 1 dX11_isBad_140 rfl (inc_N _ 1) (by decide) rfl ?_
          refine r_goto C 77 dX11_isBad_143 (by decide) ?_
          exact ih (i + 1) (by omega) (by omega)
        · refine r_iload C dX11_isBad_94 2 rfl ?_
          refine r_if_eq C 137 dX11_isBad_96 (by decide) (bI_eq _) (fun h96 => ?_) (fun h96 => ?_)
          · refine r_iconst C (v := (nI 0)) dX11_isBad_137 rfl ?_
            refine G_top (y := (bI (ibI F f s x b (i + 1)))) (b0 (show ibI F f s x b (i + 1) = false by rw [ibI]; rw [Bool.eq_false_iff.mpr h91, Bool.false_or]; unfold ibC; rw [h96]; rfl)) ?_
            refine r_istore C (lv' := [(4, .int (bI (ibI F f s x b (i + 1)))), (7, .int (nI i)), (6, .int (bI (decide (s / 2 ^ x &&& 1 = 1)))), (5, .int (nI x)), (0, .ref (ad g 19)), (1, .int (nI f)), (2, .int (nI p)), (3, .int (nI s))]) 4 dX11_isBad_138 (by decide) rfl ?_
            refine r_iinc C (v := (nI (i + 1))) (lv' := [(7, .int (nI (i + 1))), (4, .int (bI (ibI F f s x b (i + 1)))), (6, .int (bI (decide (s / 2 ^ x &&& 1 = 1)))), (5, .int (nI x)), (0, .ref (ad g 19)), (1, .int (nI f)), (2, .int (nI p)), (3, .int (nI s))]) 7 1 dX11_isBad_140 rfl (inc_N _ 1) (by decide) rfl ?_
            refine r_goto C 77 dX11_isBad_143 (by decide) ?_
            exact ih (i + 1) (by omega) (by omega)
          · refine r_iload_n C dX11_isBad_99 7 rfl ?_
            refine r_iload C dX11_isBad_100 0 rfl ?_
            refine r_ishr C (v := (nI (s / 2 ^ i))) dX11_isBad_102 (nshr (by omega) (by omega)) ?_
            refine r_iconst C (v := (nI 1)) dX11_isBad_103 rfl ?_
            refine r_iand C (v := (nI ((s / 2 ^ i) &&& 1))) dX11_isBad_104 (nand _ _) ?_
            refine r_if_ne C 137 dX11_isBad_105 (by decide) (zI_ne (Nat.lt_of_le_of_lt Nat.and_le_right (by decide))) (fun h105 => ?_) (fun h105 => ?_)
            · refine r_iconst C (v := (nI 0)) dX11_isBad_137 rfl ?_
              refine G_top (y := (bI (ibI F f s x b (i + 1)))) (b0 (show ibI F f s x b (i + 1) = false by rw [ibI]; rw [Bool.eq_false_iff.mpr h91, Bool.false_or]; unfold ibC; rw [decide_eq_false h105, Bool.false_and, Bool.and_false])) ?_
              refine r_istore C (lv' := [(4, .int (bI (ibI F f s x b (i + 1)))), (7, .int (nI i)), (6, .int (bI (decide (s / 2 ^ x &&& 1 = 1)))), (5, .int (nI x)), (0, .ref (ad g 19)), (1, .int (nI f)), (2, .int (nI p)), (3, .int (nI s))]) 4 dX11_isBad_138 (by decide) rfl ?_
              refine r_iinc C (v := (nI (i + 1))) (lv' := [(7, .int (nI (i + 1))), (4, .int (bI (ibI F f s x b (i + 1)))), (6, .int (bI (decide (s / 2 ^ x &&& 1 = 1)))), (5, .int (nI x)), (0, .ref (ad g 19)), (1, .int (nI f)), (2, .int (nI p)), (3, .int (nI s))]) 7 1 dX11_isBad_140 rfl (inc_N _ 1) (by decide) rfl ?_
              refine r_goto C 77 dX11_isBad_143 (by decide) ?_
              exact ih (i + 1) (by omega) (by omega)
            · refine r_aload_n C dX11_isBad_108 4 rfl ?_
              refine r_get C X (k := 19) (R := RX11) (T := TX11) (N := 15) (n := 2) (v := .ref (ad g 20)) (by decide) rfl rfl inw11 (by decide) rfl hw_5_20 rfl dX11_isBad_109 ?_
              refine r_sipush C (v := (nI 1024)) dX11_isBad_112 (by decide) ?_
              refine r_iload_n C dX11_isBad_115 5 rfl ?_
              refine r_imul C (v := (nI (1024 * f))) dX11_isBad_116 (pk_mul _ _) ?_
              refine r_iload_n C dX11_isBad_117 7 rfl ?_
              refine r_iconst C (v := (nI 1)) dX11_isBad_118 rfl ?_
              refine r_iload C dX11_isBad_119 3 rfl ?_
              refine r_ishl C (v := (nI (2 ^ x))) dX11_isBad_121 (nshl1 (by omega)) ?_
              refine r_ixor C (v := (nI (s ^^^ (2 ^ x)))) dX11_isBad_122 (nxor _ _) ?_
              refine r_iconst C (v := (nI 1)) dX11_isBad_123 rfl ?_
              refine r_iload C dX11_isBad_124 0 rfl ?_
              refine r_ishl C (v := (nI (2 ^ i))) dX11_isBad_126 (nshl1 (by omega)) ?_
              refine r_ixor C (v := (nI ((s ^^^ (2 ^ x)) ^^^ (2 ^ i)))) dX11_isBad_127 (nxor _ _) ?_
              refine r_iadd C (v := (nI (1024 * f + ((s ^^^ (2 ^ x)) ^^^ (2 ^ i))))) dX11_isBad_128 (nI_add _ _) ?_
              refine r_zald C X (k := 20) (v := (bI (F (1024 * f + ((s ^^^ (2 ^ x)) ^^^ (2 ^ i)))))) (by decide) rfl (by omega) (by decide) (bR_at h5 _) dX11_isBad_129 ?_
              refine r_if_ne C 137 dX11_isBad_130 (by decide) (bI_ne _) (fun h130 => ?_) (fun h130 => ?_)
              · refine r_iconst C (v := (nI 0)) dX11_isBad_137 rfl ?_
                refine G_top (y := (bI (ibI F f s x b (i + 1)))) (b0 (show ibI F f s x b (i + 1) = false by rw [ibI]; rw [Bool.eq_false_iff.mpr h91, Bool.false_or]; unfold ibC; rw [h130, Bool.not_true, Bool.and_false, Bool.and_false])) ?_
                refine r_istore C (lv' := [(4, .int (bI (ibI F f s x b (i + 1)))), (7, .int (nI i)), (6, .int (bI (decide (s / 2 ^ x &&& 1 = 1)))), (5, .int (nI x)), (0, .ref (ad g 19)), (1, .int (nI f)), (2, .int (nI p)), (3, .int (nI s))]) 4 dX11_isBad_138 (by decide) rfl ?_
                refine r_iinc C (v := (nI (i + 1))) (lv' := [(7, .int (nI (i + 1))), (4, .int (bI (ibI F f s x b (i + 1)))), (6, .int (bI (decide (s / 2 ^ x &&& 1 = 1)))), (5, .int (nI x)), (0, .ref (ad g 19)), (1, .int (nI f)), (2, .int (nI p)), (3, .int (nI s))]) 7 1 dX11_isBad_140 rfl (inc_N _ 1) (by decide) rfl ?_
                refine r_goto C 77 dX11_isBad_143 (by decide) ?_
                exact ih (i + 1) (by omega) (by omega)
              · refine r_iconst C (v := (nI 1)) dX11_isBad_133 rfl ?_
                refine r_goto C 138 dX11_isBad_134 (by decide) ?_
                refine G_top (y := (bI (ibI F f s x b (i + 1)))) (b1 (show ibI F f s x b (i + 1) = true by rw [ibI]; rw [Bool.eq_false_iff.mpr h91, Bool.false_or]; unfold ibC; rw [ts_t h96, decide_eq_true (Decidable.not_not.mp h105), Bool.eq_false_iff.mpr h130]; rfl)) ?_
                refine r_istore C (lv' := [(4, .int (bI (ibI F f s x b (i + 1)))), (7, .int (nI i)), (6, .int (bI (decide (s / 2 ^ x &&& 1 = 1)))), (5, .int (nI x)), (0, .ref (ad g 19)), (1, .int (nI f)), (2, .int (nI p)), (3, .int (nI s))]) 4 dX11_isBad_138 (by decide) rfl ?_
                refine r_iinc C (v := (nI (i + 1))) (lv' := [(7, .int (nI (i + 1))), (4, .int (bI (ibI F f s x b (i + 1)))), (6, .int (bI (decide (s / 2 ^ x &&& 1 = 1)))), (5, .int (nI x)), (0, .ref (ad g 19)), (1, .int (nI f)), (2, .int (nI p)), (3, .int (nI s))]) 7 1 dX11_isBad_140 rfl (inc_N _ 1) (by decide) rfl ?_
                refine r_goto C 77 dX11_isBad_143 (by decide) ?_
                exact ih (i + 1) (by omega) (by omega)
set_option maxHeartbeats 1000000 in
set_option maxRecDepth 100000 in
theorem lp_isBad {z : Zt} {A : Nat → Prop} {l : Launch} {g : Gd} {μ : Mm} (C : Cx z A l (rmk 0 0) cX11_isBad 8 "SetFamiliesModel") (X : Kx z g A) {F : Nat → Bool} {n f p s : Nat} (h6 : gI μ 6 = nI n) (hn10 : n ≤ 10) (h5 : gA μ 5 = bR F) (hf : f < 4) (hp : p < 6) (hs : s < 1024) (Rr : Rx z g A (some .boolean) (some (.int (bI (ibO F f p s n)))) μ) : ∀ (n_ : Nat) (x : Nat), n - x < n_ → x ≤ n → G z g.1 A 8 (wd g μ) 0 0 6 [(5, .int (nI x)), (4, .int (bI (ibO F f p s x))), (0, .ref (ad g 19)), (1, .int (nI f)), (2, .int (nI p)), (3, .int (nI s))] [] := by
  intro n_
  induction n_ with
  | zero => intro x hm_; exact absurd hm_ (Nat.not_lt_zero _)
  | succ n_ ih =>
    intro x hm_ hx
    refine r_iload C dX11_isBad_6 0 rfl ?_
    refine r_aload_n C dX11_isBad_8 2 rfl ?_
    refine r_get C X (k := 19) (R := RX11) (T := TX11) (N := 15) (n := 1) (v := .int (gI μ 6)) (by decide) rfl rfl inw11 (by decide) rfl hw_5_19 rfl dX11_isBad_9 ?_
    refine G_top (y := (nI n)) h6 ?_
    refine r_icmp_ge C 152 dX11_isBad_12 (by decide) (nI_leI (by omega) (by omega)) (fun h12 => ?_) (fun h12 => ?_)
    · have hx2 : n = x := by omega
      subst hx2
      refine r_iload C dX11_isBad_152 1 rfl ?_
      exact r_zret C dX11_isBad_154 (nar_b _) Rr
    · have hx10 := x10 (x := x) hs (by omega)
      refine r_iload_n C dX11_isBad_15 5 rfl ?_
      refine r_iload C dX11_isBad_16 0 rfl ?_
      refine r_ishr C (v := (nI (s / 2 ^ x))) dX11_isBad_18 (nshr (by omega) (by omega)) ?_
      refine r_iconst C (v := (nI 1)) dX11_isBad_19 rfl ?_
      refine r_iand C (v := (nI ((s / 2 ^ x) &&& 1))) dX11_isBad_20 (nand _ _) ?_
      refine r_iconst C (v := (nI 1)) dX11_isBad_21 rfl ?_
      refine r_icmp_ne C 29 dX11_isBad_22 (by decide) (not_congr (nI_eq (Nat.lt_of_le_of_lt Nat.and_le_right (by decide)) (by decide))) (fun h22 => ?_) (fun h22 => ?_)
      · refine r_iconst C (v := (nI 0)) dX11_isBad_29 rfl ?_
        refine G_top (y := (bI (decide (s / 2 ^ x &&& 1 = 1)))) (bd0 h22) ?_
        refine r_istore C (lv' := [(6, .int (bI (decide (s / 2 ^ x &&& 1 = 1)))), (5, .int (nI x)), (4, .int (bI (ibO F f p s x))), (0, .ref (ad g 19)), (1, .int (nI f)), (2, .int (nI p)), (3, .int (nI s))]) 6 dX11_isBad_30 (by decide) rfl ?_
        refine r_iload C dX11_isBad_32 2 rfl ?_
        refine r_if_ne C 67 dX11_isBad_34 (by decide) (bI_ne _) (fun h34 => ?_) (fun h34 => ?_)
        · refine r_iconst C (v := (nI 1)) dX11_isBad_67 rfl ?_
          refine r_goto C 72 dX11_isBad_68 (by decide) ?_
          refine G_top (y := (bI (ibX F f p s x (ibO F f p s x)))) (b1 (show ibX F f p s x (ibO F f p s x) = true by unfold ibX; rw [h34]; rfl)) ?_
          refine r_istore C (lv' := [(4, .int (bI (ibX F f p s x (ibO F f p s x)))), (6, .int (bI (decide (s / 2 ^ x &&& 1 = 1)))), (5, .int (nI x)), (0, .ref (ad g 19)), (1, .int (nI f)), (2, .int (nI p)), (3, .int (nI s))]) 4 dX11_isBad_72 (by decide) rfl ?_
          refine r_iconst C (v := (nI 0)) dX11_isBad_74 rfl ?_
          refine r_istore C (lv' := [(7, .int (nI 0)), (4, .int (bI (ibX F f p s x (ibO F f p s x)))), (6, .int (bI (decide (s / 2 ^ x &&& 1 = 1)))), (5, .int (nI x)), (0, .ref (ad g 19)), (1, .int (nI f)), (2, .int (nI p)), (3, .int (nI s))]) 7 dX11_isBad_75 (by decide) rfl ?_
          by_cases hp5 : p = 5
          · refine G_lv (lv' := [(7, .int (nI 0)), (4, .int (bI (ibI F f s x (ibX F f p s x (ibO F f p s x)) 0))), (6, .int (bI (decide (s / 2 ^ x &&& 1 = 1)))), (5, .int (nI x)), (0, .ref (ad g 19)), (1, .int (nI f)), (2, .int (nI p)), (3, .int (nI s))]) rfl ?_
            refine lp_isBadI C X (b := ibX F f p s x (ibO F f p s x)) h6 hn10 h5 hf hs hp5 (show x < n by omega) ?_ (x + 1) 0 (by omega) (by omega)
            refine G_lv (lv' := [(4, .int (bI (ibO F f p s (x + 1)))), (5, .int (nI x)), (0, .ref (ad g 19)), (1, .int (nI f)), (2, .int (nI p)), (3, .int (nI s))]) (by rw [ibO, if_pos hp5]) ?_
            refine r_iinc C (v := (nI (x + 1))) (lv' := [(5, .int (nI (x + 1))), (4, .int (bI (ibO F f p s (x + 1)))), (0, .ref (ad g 19)), (1, .int (nI f)), (2, .int (nI p)), (3, .int (nI s))]) 5 1 dX11_isBad_146 rfl (inc_N _ 1) (by decide) rfl ?_
            refine r_goto C 6 dX11_isBad_149 (by decide) ?_
            exact ih (x + 1) (by omega) (by omega)
          · refine G_lv (lv' := [(7, .int (nI 0)), (4, .int (bI (ibO F f p s (x + 1)))), (6, .int (bI (decide (s / 2 ^ x &&& 1 = 1)))), (5, .int (nI x)), (0, .ref (ad g 19)), (1, .int (nI f)), (2, .int (nI p)), (3, .int (nI s))]) (by rw [ibO, if_neg hp5]) ?_
            refine r_iload C dX11_isBad_77 0 rfl ?_
            refine r_iload C dX11_isBad_79 3 rfl ?_
            refine r_icmp_ge C 146 dX11_isBad_81 (by decide) (nI_leI (by omega) (by omega)) (fun h81 => ?_) (fun h81 => ?_)
            · refine r_iinc C (v := (nI (x + 1))) (lv' := [(5, .int (nI (x + 1))), (7, .int (nI 0)), (4, .int (bI (ibO F f p s (x + 1)))), (6, .int (bI (decide (s / 2 ^ x &&& 1 = 1)))), (0, .ref (ad g 19)), (1, .int (nI f)), (2, .int (nI p)), (3, .int (nI s))]) 5 3 dX11_isBad_146 rfl (inc_N _ 1) (by decide) rfl ?_
              refine r_goto C 6 dX11_isBad_149 (by decide) ?_
              refine G_sub (lv' := [(5, .int (nI (x + 1))), (4, .int (bI (ibO F f p s (x + 1)))), (0, .ref (ad g 19)), (1, .int (nI f)), (2, .int (nI p)), (3, .int (nI s))]) [0, 2, 4, 5, 6, 7] rfl ?_
              exact ih (x + 1) (by omega) (by omega)
            · refine r_iload_n C dX11_isBad_84 6 rfl ?_
              refine r_iconst C (v := (nI 5)) dX11_isBad_85 rfl ?_
              refine r_icmp_ne C 146 dX11_isBad_86 (by decide) (not_congr (nI_eq (by omega) (by omega))) (fun h86 => ?_) (fun h86 => ?_)
              · refine r_iinc C (v := (nI (x + 1))) (lv' := [(5, .int (nI (x + 1))), (7, .int (nI 0)), (4, .int (bI (ibO F f p s (x + 1)))), (6, .int (bI (decide (s / 2 ^ x &&& 1 = 1)))), (0, .ref (ad g 19)), (1, .int (nI f)), (2, .int (nI p)), (3, .int (nI s))]) 5 3 dX11_isBad_146 rfl (inc_N _ 1) (by decide) rfl ?_
                refine r_goto C 6 dX11_isBad_149 (by decide) ?_
                refine G_sub (lv' := [(5, .int (nI (x + 1))), (4, .int (bI (ibO F f p s (x + 1)))), (0, .ref (ad g 19)), (1, .int (nI f)), (2, .int (nI p)), (3, .int (nI s))]) [0, 2, 4, 5, 6, 7] rfl ?_
                exact ih (x + 1) (by omega) (by omega)
              · exact absurd (Decidable.not_not.mp h86) hp5
        · refine r_iload_n C dX11_isBad_37 5 rfl ?_
          refine r_iconst C (v := (nI 4)) dX11_isBad_38 rfl ?_
          refine r_icmp_ne C 71 dX11_isBad_39 (by decide) (not_congr (nI_eq (by omega) (by omega))) (fun h39 => ?_) (fun h39 => ?_)
          · refine r_iconst C (v := (nI 0)) dX11_isBad_71 rfl ?_
            refine G_top (y := (bI (ibX F f p s x (ibO F f p s x)))) (b0 (show ibX F f p s x (ibO F f p s x) = false by unfold ibX; rw [Bool.eq_false_iff.mpr h34, Bool.false_or]; rw [decide_eq_false h39]; rfl)) ?_
            refine r_istore C (lv' := [(4, .int (bI (ibX F f p s x (ibO F f p s x)))), (6, .int (bI (decide (s / 2 ^ x &&& 1 = 1)))), (5, .int (nI x)), (0, .ref (ad g 19)), (1, .int (nI f)), (2, .int (nI p)), (3, .int (nI s))]) 4 dX11_isBad_72 (by decide) rfl ?_
            refine r_iconst C (v := (nI 0)) dX11_isBad_74 rfl ?_
            refine r_istore C (lv' := [(7, .int (nI 0)), (4, .int (bI (ibX F f p s x (ibO F f p s x)))), (6, .int (bI (decide (s / 2 ^ x &&& 1 = 1)))), (5, .int (nI x)), (0, .ref (ad g 19)), (1, .int (nI f)), (2, .int (nI p)), (3, .int (nI s))]) 7 dX11_isBad_75 (by decide) rfl ?_
            by_cases hp5 : p = 5
            · refine G_lv (lv' := [(7, .int (nI 0)), (4, .int (bI (ibI F f s x (ibX F f p s x (ibO F f p s x)) 0))), (6, .int (bI (decide (s / 2 ^ x &&& 1 = 1)))), (5, .int (nI x)), (0, .ref (ad g 19)), (1, .int (nI f)), (2, .int (nI p)), (3, .int (nI s))]) rfl ?_
              refine lp_isBadI C X (b := ibX F f p s x (ibO F f p s x)) h6 hn10 h5 hf hs hp5 (show x < n by omega) ?_ (x + 1) 0 (by omega) (by omega)
              refine G_lv (lv' := [(4, .int (bI (ibO F f p s (x + 1)))), (5, .int (nI x)), (0, .ref (ad g 19)), (1, .int (nI f)), (2, .int (nI p)), (3, .int (nI s))]) (by rw [ibO, if_pos hp5]) ?_
              refine r_iinc C (v := (nI (x + 1))) (lv' := [(5, .int (nI (x + 1))), (4, .int (bI (ibO F f p s (x + 1)))), (0, .ref (ad g 19)), (1, .int (nI f)), (2, .int (nI p)), (3, .int (nI s))]) 5 1 dX11_isBad_146 rfl (inc_N _ 1) (by decide) rfl ?_
              refine r_goto C 6 dX11_isBad_149 (by decide) ?_
              exact ih (x + 1) (by omega) (by omega)
            · refine G_lv (lv' := [(7, .int (nI 0)), (4, .int (bI (ibO F f p s (x + 1)))), (6, .int (bI (decide (s / 2 ^ x &&& 1 = 1)))), (5, .int (nI x)), (0, .ref (ad g 19)), (1, .int (nI f)), (2, .int (nI p)), (3, .int (nI s))]) (by rw [ibO, if_neg hp5]) ?_
              refine r_iload C dX11_isBad_77 0 rfl ?_
              refine r_iload C dX11_isBad_79 3 rfl ?_
              refine r_icmp_ge C 146 dX11_isBad_81 (by decide) (nI_leI (by omega) (by omega)) (fun h81 => ?_) (fun h81 => ?_)
              · refine r_iinc C (v := (nI (x + 1))) (lv' := [(5, .int (nI (x + 1))), (7, .int (nI 0)), (4, .int (bI (ibO F f p s (x + 1)))), (6, .int (bI (decide (s / 2 ^ x &&& 1 = 1)))), (0, .ref (ad g 19)), (1, .int (nI f)), (2, .int (nI p)), (3, .int (nI s))]) 5 3 dX11_isBad_146 rfl (inc_N _ 1) (by decide) rfl ?_
                refine r_goto C 6 dX11_isBad_149 (by decide) ?_
                refine G_sub (lv' := [(5, .int (nI (x + 1))), (4, .int (bI (ibO F f p s (x + 1)))), (0, .ref (ad g 19)), (1, .int (nI f)), (2, .int (nI p)), (3, .int (nI s))]) [0, 2, 4, 5, 6, 7] rfl ?_
                exact ih (x + 1) (by omega) (by omega)
              · refine r_iload_n C dX11_isBad_84 6 rfl ?_
                refine r_iconst C (v := (nI 5)) dX11_isBad_85 rfl ?_
                refine r_icmp_ne C 146 dX11_isBad_86 (by decide) (not_congr (nI_eq (by omega) (by omega))) (fun h86 => ?_) (fun h86 => ?_)
                · refine r_iinc C (v := (nI (x + 1))) (lv' := [(5, .int (nI (x + 1))), (7, .int (nI 0)), (4, .int (bI (ibO F f p s (x + 1)))), (6, .int (bI (decide (s / 2 ^ x &&& 1 = 1)))), (0, .ref (ad g 19)), (1, .int (nI f)), (2, .int (nI p)), (3, .int (nI s))]) 5 3 dX11_isBad_146 rfl (inc_N _ 1) (by decide) rfl ?_
                  refine r_goto C 6 dX11_isBad_149 (by decide) ?_
                  refine G_sub (lv' := [(5, .int (nI (x + 1))), (4, .int (bI (ibO F f p s (x + 1)))), (0, .ref (ad g 19)), (1, .int (nI f)), (2, .int (nI p)), (3, .int (nI s))]) [0, 2, 4, 5, 6, 7] rfl ?_
                  exact ih (x + 1) (by omega) (by omega)
                · exact absurd (Decidable.not_not.mp h86) hp5
          · refine r_iload C dX11_isBad_42 0 rfl ?_
            refine r_if_eq C 71 dX11_isBad_44 (by decide) (bI_eq _) (fun h44 => ?_) (fun h44 => ?_)
            · refine r_iconst C (v := (nI 0)) dX11_isBad_71 rfl ?_
              refine G_top (y := (bI (ibX F f p s x (ibO F f p s x)))) (b0 (show ibX F f p s x (ibO F f p s x) = false by unfold ibX; rw [Bool.eq_false_iff.mpr h34, Bool.false_or]; rw [h44, Bool.false_and, Bool.and_false])) ?_
              refine r_istore C (lv' := [(4, .int (bI (ibX F f p s x (ibO F f p s x)))), (6, .int (bI (decide (s / 2 ^ x &&& 1 = 1)))), (5, .int (nI x)), (0, .ref (ad g 19)), (1, .int (nI f)), (2, .int (nI p)), (3, .int (nI s))]) 4 dX11_isBad_72 (by decide) rfl ?_
              refine r_iconst C (v := (nI 0)) dX11_isBad_74 rfl ?_
              refine r_istore C (lv' := [(7, .int (nI 0)), (4, .int (bI (ibX F f p s x (ibO F f p s x)))), (6, .int (bI (decide (s / 2 ^ x &&& 1 = 1)))), (5, .int (nI x)), (0, .ref (ad g 19)), (1, .int (nI f)), (2, .int (nI p)), (3, .int (nI s))]) 7 dX11_isBad_75 (by decide) rfl ?_
              by_cases hp5 : p = 5
              · refine G_lv (lv' := [(7, .int (nI 0)), (4, .int (bI (ibI F f s x (ibX F f p s x (ibO F f p s x)) 0))), (6, .int (bI (decide (s / 2 ^ x &&& 1 = 1)))), (5, .int (nI x)), (0, .ref (ad g 19)), (1, .int (nI f)), (2, .int (nI p)), (3, .int (nI s))]) rfl ?_
                refine lp_isBadI C X (b := ibX F f p s x (ibO F f p s x)) h6 hn10 h5 hf hs hp5 (show x < n by omega) ?_ (x + 1) 0 (by omega) (by omega)
                refine G_lv (lv' := [(4, .int (bI (ibO F f p s (x + 1)))), (5, .int (nI x)), (0, .ref (ad g 19)), (1, .int (nI f)), (2, .int (nI p)), (3, .int (nI s))]) (by rw [ibO, if_pos hp5]) ?_
                refine r_iinc C (v := (nI (x + 1))) (lv' := [(5, .int (nI (x + 1))), (4, .int (bI (ibO F f p s (x + 1)))), (0, .ref (ad g 19)), (1, .int (nI f)), (2, .int (nI p)), (3, .int (nI s))]) 5 1 dX11_isBad_146 rfl (inc_N _ 1) (by decide) rfl ?_
                refine r_goto C 6 dX11_isBad_149 (by decide) ?_
                exact ih (x + 1) (by omega) (by omega)
              · refine G_lv (lv' := [(7, .int (nI 0)), (4, .int (bI (ibO F f p s (x + 1)))), (6, .int (bI (decide (s / 2 ^ x &&& 1 = 1)))), (5, .int (nI x)), (0, .ref (ad g 19)), (1, .int (nI f)), (2, .int (nI p)), (3, .int (nI s))]) (by rw [ibO, if_neg hp5]) ?_
                refine r_iload C dX11_isBad_77 0 rfl ?_
                refine r_iload C dX11_isBad_79 3 rfl ?_
                refine r_icmp_ge C 146 dX11_isBad_81 (by decide) (nI_leI (by omega) (by omega)) (fun h81 => ?_) (fun h81 => ?_)
                · refine r_iinc C (v := (nI (x + 1))) (lv' := [(5, .int (nI (x + 1))), (7, .int (nI 0)), (4, .int (bI (ibO F f p s (x + 1)))), (6, .int (bI (decide (s / 2 ^ x &&& 1 = 1)))), (0, .ref (ad g 19)), (1, .int (nI f)), (2, .int (nI p)), (3, .int (nI s))]) 5 3 dX11_isBad_146 rfl (inc_N _ 1) (by decide) rfl ?_
                  refine r_goto C 6 dX11_isBad_149 (by decide) ?_
                  refine G_sub (lv' := [(5, .int (nI (x + 1))), (4, .int (bI (ibO F f p s (x + 1)))), (0, .ref (ad g 19)), (1, .int (nI f)), (2, .int (nI p)), (3, .int (nI s))]) [0, 2, 4, 5, 6, 7] rfl ?_
                  exact ih (x + 1) (by omega) (by omega)
                · refine r_iload_n C dX11_isBad_84 6 rfl ?_
                  refine r_iconst C (v := (nI 5)) dX11_isBad_85 rfl ?_
                  refine r_icmp_ne C 146 dX11_isBad_86 (by decide) (not_congr (nI_eq (by omega) (by omega))) (fun h86 => ?_) (fun h86 => ?_)
                  · refine r_iinc C (v := (nI (x + 1))) (lv' := [(5, .int (nI (x + 1))), (7, .int (nI 0)), (4, .int (bI (ibO F f p s (x + 1)))), (6, .int (bI (decide (s / 2 ^ x &&& 1 = 1)))), (0, .ref (ad g 19)), (1, .int (nI f)), (2, .int (nI p)), (3, .int (nI s))]) 5 3 dX11_isBad_146 rfl (inc_N _ 1) (by decide) rfl ?_
                    refine r_goto C 6 dX11_isBad_149 (by decide) ?_
                    refine G_sub (lv' := [(5, .int (nI (x + 1))), (4, .int (bI (ibO F f p s (x + 1)))), (0, .ref (ad g 19)), (1, .int (nI f)), (2, .int (nI p)), (3, .int (nI s))]) [0, 2, 4, 5, 6, 7] rfl ?_
                    exact ih (x + 1) (by omega) (by omega)
                  · exact absurd (Decidable.not_not.mp h86) hp5
            · refine r_aload_n C dX11_isBad_47 3 rfl ?_
              refine r_get C X (k := 19) (R := RX11) (T := TX11) (N := 15) (n := 2) (v := .ref (ad g 20)) (by decide) rfl rfl inw11 (by decide) rfl hw_5_20 rfl dX11_isBad_48 ?_
              refine r_sipush C (v := (nI 1024)) dX11_isBad_51 (by decide) ?_
              refine r_iload_n C dX11_isBad_54 4 rfl ?_
              refine r_imul C (v := (nI (1024 * f))) dX11_isBad_55 (pk_mul _ _) ?_
              refine r_iload_n C dX11_isBad_56 6 rfl ?_
              refine r_iconst C (v := (nI 1)) dX11_isBad_57 rfl ?_
              refine r_iload C dX11_isBad_58 1 rfl ?_
              refine r_ishl C (v := (nI (2 ^ x))) dX11_isBad_60 (nshl1 (by omega)) ?_
              refine r_ixor C (v := (nI (s ^^^ (2 ^ x)))) dX11_isBad_61 (nxor _ _) ?_
              refine r_iadd C (v := (nI (1024 * f + (s ^^^ (2 ^ x))))) dX11_isBad_62 (nI_add _ _) ?_
              refine r_zald C X (k := 20) (v := (bI (F (1024 * f + (s ^^^ (2 ^ x)))))) (by decide) rfl (by omega) (by decide) (bR_at h5 _) dX11_isBad_63 ?_
              refine r_if_ne C 71 dX11_isBad_64 (by decide) (bI_ne _) (fun h64 => ?_) (fun h64 => ?_)
              · refine r_iconst C (v := (nI 0)) dX11_isBad_71 rfl ?_
                refine G_top (y := (bI (ibX F f p s x (ibO F f p s x)))) (b0 (show ibX F f p s x (ibO F f p s x) = false by unfold ibX; rw [Bool.eq_false_iff.mpr h34, Bool.false_or]; rw [h64, Bool.not_true, Bool.and_false, Bool.and_false])) ?_
                refine r_istore C (lv' := [(4, .int (bI (ibX F f p s x (ibO F f p s x)))), (6, .int (bI (decide (s / 2 ^ x &&& 1 = 1)))), (5, .int (nI x)), (0, .ref (ad g 19)), (1, .int (nI f)), (2, .int (nI p)), (3, .int (nI s))]) 4 dX11_isBad_72 (by decide) rfl ?_
                refine r_iconst C (v := (nI 0)) dX11_isBad_74 rfl ?_
                refine r_istore C (lv' := [(7, .int (nI 0)), (4, .int (bI (ibX F f p s x (ibO F f p s x)))), (6, .int (bI (decide (s / 2 ^ x &&& 1 = 1)))), (5, .int (nI x)), (0, .ref (ad g 19)), (1, .int (nI f)), (2, .int (nI p)), (3, .int (nI s))]) 7 dX11_isBad_75 (by decide) rfl ?_
                by_cases hp5 : p = 5
                · refine G_lv (lv' := [(7, .int (nI 0)), (4, .int (bI (ibI F f s x (ibX F f p s x (ibO F f p s x)) 0))), (6, .int (bI (decide (s / 2 ^ x &&& 1 = 1)))), (5, .int (nI x)), (0, .ref (ad g 19)), (1, .int (nI f)), (2, .int (nI p)), (3, .int (nI s))]) rfl ?_
                  refine lp_isBadI C X (b := ibX F f p s x (ibO F f p s x)) h6 hn10 h5 hf hs hp5 (show x < n by omega) ?_ (x + 1) 0 (by omega) (by omega)
                  refine G_lv (lv' := [(4, .int (bI (ibO F f p s (x + 1)))), (5, .int (nI x)), (0, .ref (ad g 19)), (1, .int (nI f)), (2, .int (nI p)), (3, .int (nI s))]) (by rw [ibO, if_pos hp5]) ?_
                  refine r_iinc C (v := (nI (x + 1))) (lv' := [(5, .int (nI (x + 1))), (4, .int (bI (ibO F f p s (x + 1)))), (0, .ref (ad g 19)), (1, .int (nI f)), (2, .int (nI p)), (3, .int (nI s))]) 5 1 dX11_isBad_146 rfl (inc_N _ 1) (by decide) rfl ?_
                  refine r_goto C 6 dX11_isBad_149 (by decide) ?_
                  exact ih (x + 1) (by omega) (by omega)
                · refine G_lv (lv' := [(7, .int (nI 0)), (4, .int (bI (ibO F f p s (x + 1)))), (6, .int (bI (decide (s / 2 ^ x &&& 1 = 1)))), (5, .int (nI x)), (0, .ref (ad g 19)), (1, .int (nI f)), (2, .int (nI p)), (3, .int (nI s))]) (by rw [ibO, if_neg hp5]) ?_
                  refine r_iload C dX11_isBad_77 0 rfl ?_
                  refine r_iload C dX11_isBad_79 3 rfl ?_
                  refine r_icmp_ge C 146 dX11_isBad_81 (by decide) (nI_leI (by omega) (by omega)) (fun h81 => ?_) (fun h81 => ?_)
                  · refine r_iinc C (v := (nI (x + 1))) (lv' := [(5, .int (nI (x + 1))), (7, .int (nI 0)), (4, .int (bI (ibO F f p s (x + 1)))), (6, .int (bI (decide (s / 2 ^ x &&& 1 = 1)))), (0, .ref (ad g 19)), (1, .int (nI f)), (2, .int (nI p)), (3, .int (nI s))]) 5 3 dX11_isBad_146 rfl (inc_N _ 1) (by decide) rfl ?_
                    refine r_goto C 6 dX11_isBad_149 (by decide) ?_
                    refine G_sub (lv' := [(5, .int (nI (x + 1))), (4, .int (bI (ibO F f p s (x + 1)))), (0, .ref (ad g 19)), (1, .int (nI f)), (2, .int (nI p)), (3, .int (nI s))]) [0, 2, 4, 5, 6, 7] rfl ?_
                    exact ih (x + 1) (by omega) (by omega)
                  · refine r_iload_n C dX11_isBad_84 6 rfl ?_
                    refine r_iconst C (v := (nI 5)) dX11_isBad_85 rfl ?_
                    refine r_icmp_ne C 146 dX11_isBad_86 (by decide) (not_congr (nI_eq (by omega) (by omega))) (fun h86 => ?_) (fun h86 => ?_)
                    · refine r_iinc C (v := (nI (x + 1))) (lv' := [(5, .int (nI (x + 1))), (7, .int (nI 0)), (4, .int (bI (ibO F f p s (x + 1)))), (6, .int (bI (decide (s / 2 ^ x &&& 1 = 1)))), (0, .ref (ad g 19)), (1, .int (nI f)), (2, .int (nI p)), (3, .int (nI s))]) 5 3 dX11_isBad_146 rfl (inc_N _ 1) (by decide) rfl ?_
                      refine r_goto C 6 dX11_isBad_149 (by decide) ?_
                      refine G_sub (lv' := [(5, .int (nI (x + 1))), (4, .int (bI (ibO F f p s (x + 1)))), (0, .ref (ad g 19)), (1, .int (nI f)), (2, .int (nI p)), (3, .int (nI s))]) [0, 2, 4, 5, 6, 7] rfl ?_
                      exact ih (x + 1) (by omega) (by omega)
                    · exact absurd (Decidable.not_not.mp h86) hp5
              · refine r_iconst C (v := (nI 1)) dX11_isBad_67 rfl ?_
                refine r_goto C 72 dX11_isBad_68 (by decide) ?_
                refine G_top (y := (bI (ibX F f p s x (ibO F f p s x)))) (b1 (show ibX F f p s x (ibO F f p s x) = true by unfold ibX; rw [Bool.eq_false_iff.mpr h34, Bool.false_or]; rw [decide_eq_true (Decidable.not_not.mp h39), ts_t h44, Bool.eq_false_iff.mpr h64]; rfl)) ?_
                refine r_istore C (lv' := [(4, .int (bI (ibX F f p s x (ibO F f p s x)))), (6, .int (bI (decide (s / 2 ^ x &&& 1 = 1)))), (5, .int (nI x)), (0, .ref (ad g 19)), (1, .int (nI f)), (2, .int (nI p)), (3, .int (nI s))]) 4 dX11_isBad_72 (by decide) rfl ?_
                refine r_iconst C (v := (nI 0)) dX11_isBad_74 rfl ?_
                refine r_istore C (lv' := [(7, .int (nI 0)), (4, .int (bI (ibX F f p s x (ibO F f p s x)))), (6, .int (bI (decide (s / 2 ^ x &&& 1 = 1)))), (5, .int (nI x)), (0, .ref (ad g 19)), (1, .int (nI f)), (2, .int (nI p)), (3, .int (nI s))]) 7 dX11_isBad_75 (by decide) rfl ?_
                by_cases hp5 : p = 5
                · refine G_lv (lv' := [(7, .int (nI 0)), (4, .int (bI (ibI F f s x (ibX F f p s x (ibO F f p s x)) 0))), (6, .int (bI (decide (s / 2 ^ x &&& 1 = 1)))), (5, .int (nI x)), (0, .ref (ad g 19)), (1, .int (nI f)), (2, .int (nI p)), (3, .int (nI s))]) rfl ?_
                  refine lp_isBadI C X (b := ibX F f p s x (ibO F f p s x)) h6 hn10 h5 hf hs hp5 (show x < n by omega) ?_ (x + 1) 0 (by omega) (by omega)
                  refine G_lv (lv' := [(4, .int (bI (ibO F f p s (x + 1)))), (5, .int (nI x)), (0, .ref (ad g 19)), (1, .int (nI f)), (2, .int (nI p)), (3, .int (nI s))]) (by rw [ibO, if_pos hp5]) ?_
                  refine r_iinc C (v := (nI (x + 1))) (lv' := [(5, .int (nI (x + 1))), (4, .int (bI (ibO F f p s (x + 1)))), (0, .ref (ad g 19)), (1, .int (nI f)), (2, .int (nI p)), (3, .int (nI s))]) 5 1 dX11_isBad_146 rfl (inc_N _ 1) (by decide) rfl ?_
                  refine r_goto C 6 dX11_isBad_149 (by decide) ?_
                  exact ih (x + 1) (by omega) (by omega)
                · refine G_lv (lv' := [(7, .int (nI 0)), (4, .int (bI (ibO F f p s (x + 1)))), (6, .int (bI (decide (s / 2 ^ x &&& 1 = 1)))), (5, .int (nI x)), (0, .ref (ad g 19)), (1, .int (nI f)), (2, .int (nI p)), (3, .int (nI s))]) (by rw [ibO, if_neg hp5]) ?_
                  refine r_iload C dX11_isBad_77 0 rfl ?_
                  refine r_iload C dX11_isBad_79 3 rfl ?_
                  refine r_icmp_ge C 146 dX11_isBad_81 (by decide) (nI_leI (by omega) (by omega)) (fun h81 => ?_) (fun h81 => ?_)
                  · refine r_iinc C (v := (nI (x + 1))) (lv' := [(5, .int (nI (x + 1))), (7, .int (nI 0)), (4, .int (bI (ibO F f p s (x + 1)))), (6, .int (bI (decide (s / 2 ^ x &&& 1 = 1)))), (0, .ref (ad g 19)), (1, .int (nI f)), (2, .int (nI p)), (3, .int (nI s))]) 5 3 dX11_isBad_146 rfl (inc_N _ 1) (by decide) rfl ?_
                    refine r_goto C 6 dX11_isBad_149 (by decide) ?_
                    refine G_sub (lv' := [(5, .int (nI (x + 1))), (4, .int (bI (ibO F f p s (x + 1)))), (0, .ref (ad g 19)), (1, .int (nI f)), (2, .int (nI p)), (3, .int (nI s))]) [0, 2, 4, 5, 6, 7] rfl ?_
                    exact ih (x + 1) (by omega) (by omega)
                  · refine r_iload_n C dX11_isBad_84 6 rfl ?_
                    refine r_iconst C (v := (nI 5)) dX11_isBad_85 rfl ?_
                    refine r_icmp_ne C 146 dX11_isBad_86 (by decide) (not_congr (nI_eq (by omega) (by omega))) (fun h86 => ?_) (fun h86 => ?_)
                    · refine r_iinc C (v := (nI (x + 1))) (lv' := [(5, .int (nI (x + 1))), (7, .int (nI 0)), (4, .int (bI (ibO F f p s (x + 1)))), (6, .int (bI (decide (s / 2 ^ x &&& 1 = 1)))), (0, .ref (ad g 19)), (1, .int (nI f)), (2, .int (nI p)), (3, .int (nI s))]) 5 3 dX11_isBad_146 rfl (inc_N _ 1) (by decide) rfl ?_
                      refine r_goto C 6 dX11_isBad_149 (by decide) ?_
                      refine G_sub (lv' := [(5, .int (nI (x + 1))), (4, .int (bI (ibO F f p s (x + 1)))), (0, .ref (ad g 19)), (1, .int (nI f)), (2, .int (nI p)), (3, .int (nI s))]) [0, 2, 4, 5, 6, 7] rfl ?_
                      exact ih (x + 1) (by omega) (by omega)
                    · exact absurd (Decidable.not_not.mp h86) hp5
      · refine r_iconst C (v := (nI 1)) dX11_isBad_25 rfl ?_
        refine r_goto C 30 dX11_isBad_26 (by decide) ?_
        refine G_top (y := (bI (decide (s / 2 ^ x &&& 1 = 1)))) (bd1 (Decidable.not_not.mp h22)) ?_
        refine r_istore C (lv' := [(6, .int (bI (decide (s / 2 ^ x &&& 1 = 1)))), (5, .int (nI x)), (4, .int (bI (ibO F f p s x))), (0, .ref (ad g 19)), (1, .int (nI f)), (2, .int (nI p)), (3, .int (nI s))]) 6 dX11_isBad_30 (by decide) rfl ?_
        refine r_iload C dX11_isBad_32 2 rfl ?_
        refine r_if_ne C 67 dX11_isBad_34 (by decide) (bI_ne _) (fun h34 => ?_) (fun h34 => ?_)
        · refine r_iconst C (v := (nI 1)) dX11_isBad_67 rfl ?_
          refine r_goto C 72 dX11_isBad_68 (by decide) ?_
          refine G_top (y := (bI (ibX F f p s x (ibO F f p s x)))) (b1 (show ibX F f p s x (ibO F f p s x) = true by unfold ibX; rw [h34]; rfl)) ?_
          refine r_istore C (lv' := [(4, .int (bI (ibX F f p s x (ibO F f p s x)))), (6, .int (bI (decide (s / 2 ^ x &&& 1 = 1)))), (5, .int (nI x)), (0, .ref (ad g 19)), (1, .int (nI f)), (2, .int (nI p)), (3, .int (nI s))]) 4 dX11_isBad_72 (by decide) rfl ?_
          refine r_iconst C (v := (nI 0)) dX11_isBad_74 rfl ?_
          refine r_istore C (lv' := [(7, .int (nI 0)), (4, .int (bI (ibX F f p s x (ibO F f p s x)))), (6, .int (bI (decide (s / 2 ^ x &&& 1 = 1)))), (5, .int (nI x)), (0, .ref (ad g 19)), (1, .int (nI f)), (2, .int (nI p)), (3, .int (nI s))]) 7 dX11_isBad_75 (by decide) rfl ?_
          by_cases hp5 : p = 5
          · refine G_lv (lv' := [(7, .int (nI 0)), (4, .int (bI (ibI F f s x (ibX F f p s x (ibO F f p s x)) 0))), (6, .int (bI (decide (s / 2 ^ x &&& 1 = 1)))), (5, .int (nI x)), (0, .ref (ad g 19)), (1, .int (nI f)), (2, .int (nI p)), (3, .int (nI s))]) rfl ?_
            refine lp_isBadI C X (b := ibX F f p s x (ibO F f p s x)) h6 hn10 h5 hf hs hp5 (show x < n by omega) ?_ (x + 1) 0 (by omega) (by omega)
            refine G_lv (lv' := [(4, .int (bI (ibO F f p s (x + 1)))), (5, .int (nI x)), (0, .ref (ad g 19)), (1, .int (nI f)), (2, .int (nI p)), (3, .int (nI s))]) (by rw [ibO, if_pos hp5]) ?_
            refine r_iinc C (v := (nI (x + 1))) (lv' := [(5, .int (nI (x + 1))), (4, .int (bI (ibO F f p s (x + 1)))), (0, .ref (ad g 19)), (1, .int (nI f)), (2, .int (nI p)), (3, .int (nI s))]) 5 1 dX11_isBad_146 rfl (inc_N _ 1) (by decide) rfl ?_
            refine r_goto C 6 dX11_isBad_149 (by decide) ?_
            exact ih (x + 1) (by omega) (by omega)
          · refine G_lv (lv' := [(7, .int (nI 0)), (4, .int (bI (ibO F f p s (x + 1)))), (6, .int (bI (decide (s / 2 ^ x &&& 1 = 1)))), (5, .int (nI x)), (0, .ref (ad g 19)), (1, .int (nI f)), (2, .int (nI p)), (3, .int (nI s))]) (by rw [ibO, if_neg hp5]) ?_
            refine r_iload C dX11_isBad_77 0 rfl ?_
            refine r_iload C dX11_isBad_79 3 rfl ?_
            refine r_icmp_ge C 146 dX11_isBad_81 (by decide) (nI_leI (by omega) (by omega)) (fun h81 => ?_) (fun h81 => ?_)
            · refine r_iinc C (v := (nI (x + 1))) (lv' := [(5, .int (nI (x + 1))), (7, .int (nI 0)), (4, .int (bI (ibO F f p s (x + 1)))), (6, .int (bI (decide (s / 2 ^ x &&& 1 = 1)))), (0, .ref (ad g 19)), (1, .int (nI f)), (2, .int (nI p)), (3, .int (nI s))]) 5 3 dX11_isBad_146 rfl (inc_N _ 1) (by decide) rfl ?_
              refine r_goto C 6 dX11_isBad_149 (by decide) ?_
              refine G_sub (lv' := [(5, .int (nI (x + 1))), (4, .int (bI (ibO F f p s (x + 1)))), (0, .ref (ad g 19)), (1, .int (nI f)), (2, .int (nI p)), (3, .int (nI s))]) [0, 2, 4, 5, 6, 7] rfl ?_
              exact ih (x + 1) (by omega) (by omega)
            · refine r_iload_n C dX11_isBad_84 6 rfl ?_
              refine r_iconst C (v := (nI 5)) dX11_isBad_85 rfl ?_
              refine r_icmp_ne C 146 dX11_isBad_86 (by decide) (not_congr (nI_eq (by omega) (by omega))) (fun h86 => ?_) (fun h86 => ?_)
              · refine r_iinc C (v := (nI (x + 1))) (lv' := [(5, .int (nI (x + 1))), (7, .int (nI 0)), (4, .int (bI (ibO F f p s (x + 1)))), (6, .int (bI (decide (s / 2 ^ x &&& 1 = 1)))), (0, .ref (ad g 19)), (1, .int (nI f)), (2, .int (nI p)), (3, .int (nI s))]) 5 3 dX11_isBad_146 rfl (inc_N _ 1) (by decide) rfl ?_
                refine r_goto C 6 dX11_isBad_149 (by decide) ?_
                refine G_sub (lv' := [(5, .int (nI (x + 1))), (4, .int (bI (ibO F f p s (x + 1)))), (0, .ref (ad g 19)), (1, .int (nI f)), (2, .int (nI p)), (3, .int (nI s))]) [0, 2, 4, 5, 6, 7] rfl ?_
                exact ih (x + 1) (by omega) (by omega)
              · exact absurd (Decidable.not_not.mp h86) hp5
        · refine r_iload_n C dX11_isBad_37 5 rfl ?_
          refine r_iconst C (v := (nI 4)) dX11_isBad_38 rfl ?_
          refine r_icmp_ne C 71 dX11_isBad_39 (by decide) (not_congr (nI_eq (by omega) (by omega))) (fun h39 => ?_) (fun h39 => ?_)
          · refine r_iconst C (v := (nI 0)) dX11_isBad_71 rfl ?_
            refine G_top (y := (bI (ibX F f p s x (ibO F f p s x)))) (b0 (show ibX F f p s x (ibO F f p s x) = false by unfold ibX; rw [Bool.eq_false_iff.mpr h34, Bool.false_or]; rw [decide_eq_false h39]; rfl)) ?_
            refine r_istore C (lv' := [(4, .int (bI (ibX F f p s x (ibO F f p s x)))), (6, .int (bI (decide (s / 2 ^ x &&& 1 = 1)))), (5, .int (nI x)), (0, .ref (ad g 19)), (1, .int (nI f)), (2, .int (nI p)), (3, .int (nI s))]) 4 dX11_isBad_72 (by decide) rfl ?_
            refine r_iconst C (v := (nI 0)) dX11_isBad_74 rfl ?_
            refine r_istore C (lv' := [(7, .int (nI 0)), (4, .int (bI (ibX F f p s x (ibO F f p s x)))), (6, .int (bI (decide (s / 2 ^ x &&& 1 = 1)))), (5, .int (nI x)), (0, .ref (ad g 19)), (1, .int (nI f)), (2, .int (nI p)), (3, .int (nI s))]) 7 dX11_isBad_75 (by decide) rfl ?_
            by_cases hp5 : p = 5
            · refine G_lv (lv' := [(7, .int (nI 0)), (4, .int (bI (ibI F f s x (ibX F f p s x (ibO F f p s x)) 0))), (6, .int (bI (decide (s / 2 ^ x &&& 1 = 1)))), (5, .int (nI x)), (0, .ref (ad g 19)), (1, .int (nI f)), (2, .int (nI p)), (3, .int (nI s))]) rfl ?_
              refine lp_isBadI C X (b := ibX F f p s x (ibO F f p s x)) h6 hn10 h5 hf hs hp5 (show x < n by omega) ?_ (x + 1) 0 (by omega) (by omega)
              refine G_lv (lv' := [(4, .int (bI (ibO F f p s (x + 1)))), (5, .int (nI x)), (0, .ref (ad g 19)), (1, .int (nI f)), (2, .int (nI p)), (3, .int (nI s))]) (by rw [ibO, if_pos hp5]) ?_
              refine r_iinc C (v := (nI (x + 1))) (lv' := [(5, .int (nI (x + 1))), (4, .int (bI (ibO F f p s (x + 1)))), (0, .ref (ad g 19)), (1, .int (nI f)), (2, .int (nI p)), (3, .int (nI s))]) 5 1 dX11_isBad_146 rfl (inc_N _ 1) (by decide) rfl ?_
              refine r_goto C 6 dX11_isBad_149 (by decide) ?_
              exact ih (x + 1) (by omega) (by omega)
            · refine G_lv (lv' := [(7, .int (nI 0)), (4, .int (bI (ibO F f p s (x + 1)))), (6, .int (bI (decide (s / 2 ^ x &&& 1 = 1)))), (5, .int (nI x)), (0, .ref (ad g 19)), (1, .int (nI f)), (2, .int (nI p)), (3, .int (nI s))]) (by rw [ibO, if_neg hp5]) ?_
              refine r_iload C dX11_isBad_77 0 rfl ?_
              refine r_iload C dX11_isBad_79 3 rfl ?_
              refine r_icmp_ge C 146 dX11_isBad_81 (by decide) (nI_leI (by omega) (by omega)) (fun h81 => ?_) (fun h81 => ?_)
              · refine r_iinc C (v := (nI (x + 1))) (lv' := [(5, .int (nI (x + 1))), (7, .int (nI 0)), (4, .int (bI (ibO F f p s (x + 1)))), (6, .int (bI (decide (s / 2 ^ x &&& 1 = 1)))), (0, .ref (ad g 19)), (1, .int (nI f)), (2, .int (nI p)), (3, .int (nI s))]) 5 3 dX11_isBad_146 rfl (inc_N _ 1) (by decide) rfl ?_
                refine r_goto C 6 dX11_isBad_149 (by decide) ?_
                refine G_sub (lv' := [(5, .int (nI (x + 1))), (4, .int (bI (ibO F f p s (x + 1)))), (0, .ref (ad g 19)), (1, .int (nI f)), (2, .int (nI p)), (3, .int (nI s))]) [0, 2, 4, 5, 6, 7] rfl ?_
                exact ih (x + 1) (by omega) (by omega)
              · refine r_iload_n C dX11_isBad_84 6 rfl ?_
                refine r_iconst C (v := (nI 5)) dX11_isBad_85 rfl ?_
                refine r_icmp_ne C 146 dX11_isBad_86 (by decide) (not_congr (nI_eq (by omega) (by omega))) (fun h86 => ?_) (fun h86 => ?_)
                · refine r_iinc C (v := (nI (x + 1))) (lv' := [(5, .int (nI (x + 1))), (7, .int (nI 0)), (4, .int (bI (ibO F f p s (x + 1)))), (6, .int (bI (decide (s / 2 ^ x &&& 1 = 1)))), (0, .ref (ad g 19)), (1, .int (nI f)), (2, .int (nI p)), (3, .int (nI s))]) 5 3 dX11_isBad_146 rfl (inc_N _ 1) (by decide) rfl ?_
                  refine r_goto C 6 dX11_isBad_149 (by decide) ?_
                  refine G_sub (lv' := [(5, .int (nI (x + 1))), (4, .int (bI (ibO F f p s (x + 1)))), (0, .ref (ad g 19)), (1, .int (nI f)), (2, .int (nI p)), (3, .int (nI s))]) [0, 2, 4, 5, 6, 7] rfl ?_
                  exact ih (x + 1) (by omega) (by omega)
                · exact absurd (Decidable.not_not.mp h86) hp5
          · refine r_iload C dX11_isBad_42 0 rfl ?_
            refine r_if_eq C 71 dX11_isBad_44 (by decide) (bI_eq _) (fun h44 => ?_) (fun h44 => ?_)
            · refine r_iconst C (v := (nI 0)) dX11_isBad_71 rfl ?_
              refine G_top (y := (bI (ibX F f p s x (ibO F f p s x)))) (b0 (show ibX F f p s x (ibO F f p s x) = false by unfold ibX; rw [Bool.eq_false_iff.mpr h34, Bool.false_or]; rw [h44, Bool.false_and, Bool.and_false])) ?_
              refine r_istore C (lv' := [(4, .int (bI (ibX F f p s x (ibO F f p s x)))), (6, .int (bI (decide (s / 2 ^ x &&& 1 = 1)))), (5, .int (nI x)), (0, .ref (ad g 19)), (1, .int (nI f)), (2, .int (nI p)), (3, .int (nI s))]) 4 dX11_isBad_72 (by decide) rfl ?_
              refine r_iconst C (v := (nI 0)) dX11_isBad_74 rfl ?_
              refine r_istore C (lv' := [(7, .int (nI 0)), (4, .int (bI (ibX F f p s x (ibO F f p s x)))), (6, .int (bI (decide (s / 2 ^ x &&& 1 = 1)))), (5, .int (nI x)), (0, .ref (ad g 19)), (1, .int (nI f)), (2, .int (nI p)), (3, .int (nI s))]) 7 dX11_isBad_75 (by decide) rfl ?_
              by_cases hp5 : p = 5
              · refine G_lv (lv' := [(7, .int (nI 0)), (4, .int (bI (ibI F f s x (ibX F f p s x (ibO F f p s x)) 0))), (6, .int (bI (decide (s / 2 ^ x &&& 1 = 1)))), (5, .int (nI x)), (0, .ref (ad g 19)), (1, .int (nI f)), (2, .int (nI p)), (3, .int (nI s))]) rfl ?_
                refine lp_isBadI C X (b := ibX F f p s x (ibO F f p s x)) h6 hn10 h5 hf hs hp5 (show x < n by omega) ?_ (x + 1) 0 (by omega) (by omega)
                refine G_lv (lv' := [(4, .int (bI (ibO F f p s (x + 1)))), (5, .int (nI x)), (0, .ref (ad g 19)), (1, .int (nI f)), (2, .int (nI p)), (3, .int (nI s))]) (by rw [ibO, if_pos hp5]) ?_
                refine r_iinc C (v := (nI (x + 1))) (lv' := [(5, .int (nI (x + 1))), (4, .int (bI (ibO F f p s (x + 1)))), (0, .ref (ad g 19)), (1, .int (nI f)), (2, .int (nI p)), (3, .int (nI s))]) 5 1 dX11_isBad_146 rfl (inc_N _ 1) (by decide) rfl ?_
                refine r_goto C 6 dX11_isBad_149 (by decide) ?_
                exact ih (x + 1) (by omega) (by omega)
              · refine G_lv (lv' := [(7, .int (nI 0)), (4, .int (bI (ibO F f p s (x + 1)))), (6, .int (bI (decide (s / 2 ^ x &&& 1 = 1)))), (5, .int (nI x)), (0, .ref (ad g 19)), (1, .int (nI f)), (2, .int (nI p)), (3, .int (nI s))]) (by rw [ibO, if_neg hp5]) ?_
                refine r_iload C dX11_isBad_77 0 rfl ?_
                refine r_iload C dX11_isBad_79 3 rfl ?_
                refine r_icmp_ge C 146 dX11_isBad_81 (by decide) (nI_leI (by omega) (by omega)) (fun h81 => ?_) (fun h81 => ?_)
                · refine r_iinc C (v := (nI (x + 1))) (lv' := [(5, .int (nI (x + 1))), (7, .int (nI 0)), (4, .int (bI (ibO F f p s (x + 1)))), (6, .int (bI (decide (s / 2 ^ x &&& 1 = 1)))), (0, .ref (ad g 19)), (1, .int (nI f)), (2, .int (nI p)), (3, .int (nI s))]) 5 3 dX11_isBad_146 rfl (inc_N _ 1) (by decide) rfl ?_
                  refine r_goto C 6 dX11_isBad_149 (by decide) ?_
                  refine G_sub (lv' := [(5, .int (nI (x + 1))), (4, .int (bI (ibO F f p s (x + 1)))), (0, .ref (ad g 19)), (1, .int (nI f)), (2, .int (nI p)), (3, .int (nI s))]) [0, 2, 4, 5, 6, 7] rfl ?_
                  exact ih (x + 1) (by omega) (by omega)
                · refine r_iload_n C dX11_isBad_84 6 rfl ?_
                  refine r_iconst C (v := (nI 5)) dX11_isBad_85 rfl ?_
                  refine r_icmp_ne C 146 dX11_isBad_86 (by decide) (not_congr (nI_eq (by omega) (by omega))) (fun h86 => ?_) (fun h86 => ?_)
                  · refine r_iinc C (v := (nI (x + 1))) (lv' := [(5, .int (nI (x + 1))), (7, .int (nI 0)), (4, .int (bI (ibO F f p s (x + 1)))), (6, .int (bI (decide (s / 2 ^ x &&& 1 = 1)))), (0, .ref (ad g 19)), (1, .int (nI f)), (2, .int (nI p)), (3, .int (nI s))]) 5 3 dX11_isBad_146 rfl (inc_N _ 1) (by decide) rfl ?_
                    refine r_goto C 6 dX11_isBad_149 (by decide) ?_
                    refine G_sub (lv' := [(5, .int (nI (x + 1))), (4, .int (bI (ibO F f p s (x + 1)))), (0, .ref (ad g 19)), (1, .int (nI f)), (2, .int (nI p)), (3, .int (nI s))]) [0, 2, 4, 5, 6, 7] rfl ?_
                    exact ih (x + 1) (by omega) (by omega)
                  · exact absurd (Decidable.not_not.mp h86) hp5
            · refine r_aload_n C dX11_isBad_47 3 rfl ?_
              refine r_get C X (k := 19) (R := RX11) (T := TX11) (N := 15) (n := 2) (v := .ref (ad g 20)) (by decide) rfl rfl inw11 (by decide) rfl hw_5_20 rfl dX11_isBad_48 ?_
              refine r_sipush C (v := (nI 1024)) dX11_isBad_51 (by decide) ?_
              refine r_iload_n C dX11_isBad_54 4 rfl ?_
              refine r_imul C (v := (nI (1024 * f))) dX11_isBad_55 (pk_mul _ _) ?_
              refine r_iload_n C dX11_isBad_56 6 rfl ?_
              refine r_iconst C (v := (nI 1)) dX11_isBad_57 rfl ?_
              refine r_iload C dX11_isBad_58 1 rfl ?_
              refine r_ishl C (v := (nI (2 ^ x))) dX11_isBad_60 (nshl1 (by omega)) ?_
              refine r_ixor C (v := (nI (s ^^^ (2 ^ x)))) dX11_isBad_61 (nxor _ _) ?_
              refine r_iadd C (v := (nI (1024 * f + (s ^^^ (2 ^ x))))) dX11_isBad_62 (nI_add _ _) ?_
              refine r_zald C X (k := 20) (v := (bI (F (1024 * f + (s ^^^ (2 ^ x)))))) (by decide) rfl (by omega) (by decide) (bR_at h5 _) dX11_isBad_63 ?_
              refine r_if_ne C 71 dX11_isBad_64 (by decide) (bI_ne _) (fun h64 => ?_) (fun h64 => ?_)
              · refine r_iconst C (v := (nI 0)) dX11_isBad_71 rfl ?_
                refine G_top (y := (bI (ibX F f p s x (ibO F f p s x)))) (b0 (show ibX F f p s x (ibO F f p s x) = false by unfold ibX; rw [Bool.eq_false_iff.mpr h34, Bool.false_or]; rw [h64, Bool.not_true, Bool.and_false, Bool.and_false])) ?_
                refine r_istore C (lv' := [(4, .int (bI (ibX F f p s x (ibO F f p s x)))), (6, .int (bI (decide (s / 2 ^ x &&& 1 = 1)))), (5, .int (nI x)), (0, .ref (ad g 19)), (1, .int (nI f)), (2, .int (nI p)), (3, .int (nI s))]) 4 dX11_isBad_72 (by decide) rfl ?_
                refine r_iconst C (v := (nI 0)) dX11_isBad_74 rfl ?_
                refine r_istore C (lv' := [(7, .int (nI 0)), (4, .int (bI (ibX F f p s x (ibO F f p s x)))), (6, .int (bI (decide (s / 2 ^ x &&& 1 = 1)))), (5, .int (nI x)), (0, .ref (ad g 19)), (1, .int (nI f)), (2, .int (nI p)), (3, .int (nI s))]) 7 dX11_isBad_75 (by decide) rfl ?_
                by_cases hp5 : p = 5
                · refine G_lv (lv' := [(7, .int (nI 0)), (4, .int (bI (ibI F f s x (ibX F f p s x (ibO F f p s x)) 0))), (6, .int (bI (decide (s / 2 ^ x &&& 1 = 1)))), (5, .int (nI x)), (0, .ref (ad g 19)), (1, .int (nI f)), (2, .int (nI p)), (3, .int (nI s))]) rfl ?_
                  refine lp_isBadI C X (b := ibX F f p s x (ibO F f p s x)) h6 hn10 h5 hf hs hp5 (show x < n by omega) ?_ (x + 1) 0 (by omega) (by omega)
                  refine G_lv (lv' := [(4, .int (bI (ibO F f p s (x + 1)))), (5, .int (nI x)), (0, .ref (ad g 19)), (1, .int (nI f)), (2, .int (nI p)), (3, .int (nI s))]) (by rw [ibO, if_pos hp5]) ?_
                  refine r_iinc C (v := (nI (x + 1))) (lv' := [(5, .int (nI (x + 1))), (4, .int (bI (ibO F f p s (x + 1)))), (0, .ref (ad g 19)), (1, .int (nI f)), (2, .int (nI p)), (3, .int (nI s))]) 5 1 dX11_isBad_146 rfl (inc_N _ 1) (by decide) rfl ?_
                  refine r_goto C 6 dX11_isBad_149 (by decide) ?_
                  exact ih (x + 1) (by omega) (by omega)
                · refine G_lv (lv' := [(7, .int (nI 0)), (4, .int (bI (ibO F f p s (x + 1)))), (6, .int (bI (decide (s / 2 ^ x &&& 1 = 1)))), (5, .int (nI x)), (0, .ref (ad g 19)), (1, .int (nI f)), (2, .int (nI p)), (3, .int (nI s))]) (by rw [ibO, if_neg hp5]) ?_
                  refine r_iload C dX11_isBad_77 0 rfl ?_
                  refine r_iload C dX11_isBad_79 3 rfl ?_
                  refine r_icmp_ge C 146 dX11_isBad_81 (by decide) (nI_leI (by omega) (by omega)) (fun h81 => ?_) (fun h81 => ?_)
                  · refine r_iinc C (v := (nI (x + 1))) (lv' := [(5, .int (nI (x + 1))), (7, .int (nI 0)), (4, .int (bI (ibO F f p s (x + 1)))), (6, .int (bI (decide (s / 2 ^ x &&& 1 = 1)))), (0, .ref (ad g 19)), (1, .int (nI f)), (2, .int (nI p)), (3, .int (nI s))]) 5 3 dX11_isBad_146 rfl (inc_N _ 1) (by decide) rfl ?_
                    refine r_goto C 6 dX11_isBad_149 (by decide) ?_
                    refine G_sub (lv' := [(5, .int (nI (x + 1))), (4, .int (bI (ibO F f p s (x + 1)))), (0, .ref (ad g 19)), (1, .int (nI f)), (2, .int (nI p)), (3, .int (nI s))]) [0, 2, 4, 5, 6, 7] rfl ?_
                    exact ih (x + 1) (by omega) (by omega)
                  · refine r_iload_n C dX11_isBad_84 6 rfl ?_
                    refine r_iconst C (v := (nI 5)) dX11_isBad_85 rfl ?_
                    refine r_icmp_ne C 146 dX11_isBad_86 (by decide) (not_congr (nI_eq (by omega) (by omega))) (fun h86 => ?_) (fun h86 => ?_)
                    · refine r_iinc C (v := (nI (x + 1))) (lv' := [(5, .int (nI (x + 1))), (7, .int (nI 0)), (4, .int (bI (ibO F f p s (x + 1)))), (6, .int (bI (decide (s / 2 ^ x &&& 1 = 1)))), (0, .ref (ad g 19)), (1, .int (nI f)), (2, .int (nI p)), (3, .int (nI s))]) 5 3 dX11_isBad_146 rfl (inc_N _ 1) (by decide) rfl ?_
                      refine r_goto C 6 dX11_isBad_149 (by decide) ?_
                      refine G_sub (lv' := [(5, .int (nI (x + 1))), (4, .int (bI (ibO F f p s (x + 1)))), (0, .ref (ad g 19)), (1, .int (nI f)), (2, .int (nI p)), (3, .int (nI s))]) [0, 2, 4, 5, 6, 7] rfl ?_
                      exact ih (x + 1) (by omega) (by omega)
                    · exact absurd (Decidable.not_not.mp h86) hp5
              · refine r_iconst C (v := (nI 1)) dX11_isBad_67 rfl ?_
                refine r_goto C 72 dX11_isBad_68 (by decide) ?_
                refine G_top (y := (bI (ibX F f p s x (ibO F f p s x)))) (b1 (show ibX F f p s x (ibO F f p s x) = true by unfold ibX; rw [Bool.eq_false_iff.mpr h34, Bool.false_or]; rw [decide_eq_true (Decidable.not_not.mp h39), ts_t h44, Bool.eq_false_iff.mpr h64]; rfl)) ?_
                refine r_istore C (lv' := [(4, .int (bI (ibX F f p s x (ibO F f p s x)))), (6, .int (bI (decide (s / 2 ^ x &&& 1 = 1)))), (5, .int (nI x)), (0, .ref (ad g 19)), (1, .int (nI f)), (2, .int (nI p)), (3, .int (nI s))]) 4 dX11_isBad_72 (by decide) rfl ?_
                refine r_iconst C (v := (nI 0)) dX11_isBad_74 rfl ?_
                refine r_istore C (lv' := [(7, .int (nI 0)), (4, .int (bI (ibX F f p s x (ibO F f p s x)))), (6, .int (bI (decide (s / 2 ^ x &&& 1 = 1)))), (5, .int (nI x)), (0, .ref (ad g 19)), (1, .int (nI f)), (2, .int (nI p)), (3, .int (nI s))]) 7 dX11_isBad_75 (by decide) rfl ?_
                by_cases hp5 : p = 5
                · refine G_lv (lv' := [(7, .int (nI 0)), (4, .int (bI (ibI F f s x (ibX F f p s x (ibO F f p s x)) 0))), (6, .int (bI (decide (s / 2 ^ x &&& 1 = 1)))), (5, .int (nI x)), (0, .ref (ad g 19)), (1, .int (nI f)), (2, .int (nI p)), (3, .int (nI s))]) rfl ?_
                  refine lp_isBadI C X (b := ibX F f p s x (ibO F f p s x)) h6 hn10 h5 hf hs hp5 (show x < n by omega) ?_ (x + 1) 0 (by omega) (by omega)
                  refine G_lv (lv' := [(4, .int (bI (ibO F f p s (x + 1)))), (5, .int (nI x)), (0, .ref (ad g 19)), (1, .int (nI f)), (2, .int (nI p)), (3, .int (nI s))]) (by rw [ibO, if_pos hp5]) ?_
                  refine r_iinc C (v := (nI (x + 1))) (lv' := [(5, .int (nI (x + 1))), (4, .int (bI (ibO F f p s (x + 1)))), (0, .ref (ad g 19)), (1, .int (nI f)), (2, .int (nI p)), (3, .int (nI s))]) 5 1 dX11_isBad_146 rfl (inc_N _ 1) (by decide) rfl ?_
                  refine r_goto C 6 dX11_isBad_149 (by decide) ?_
                  exact ih (x + 1) (by omega) (by omega)
                · refine G_lv (lv' := [(7, .int (nI 0)), (4, .int (bI (ibO F f p s (x + 1)))), (6, .int (bI (decide (s / 2 ^ x &&& 1 = 1)))), (5, .int (nI x)), (0, .ref (ad g 19)), (1, .int (nI f)), (2, .int (nI p)), (3, .int (nI s))]) (by rw [ibO, if_neg hp5]) ?_
                  refine r_iload C dX11_isBad_77 0 rfl ?_
                  refine r_iload C dX11_isBad_79 3 rfl ?_
                  refine r_icmp_ge C 146 dX11_isBad_81 (by decide) (nI_leI (by omega) (by omega)) (fun h81 => ?_) (fun h81 => ?_)
                  · refine r_iinc C (v := (nI (x + 1))) (lv' := [(5, .int (nI (x + 1))), (7, .int (nI 0)), (4, .int (bI (ibO F f p s (x + 1)))), (6, .int (bI (decide (s / 2 ^ x &&& 1 = 1)))), (0, .ref (ad g 19)), (1, .int (nI f)), (2, .int (nI p)), (3, .int (nI s))]) 5 3 dX11_isBad_146 rfl (inc_N _ 1) (by decide) rfl ?_
                    refine r_goto C 6 dX11_isBad_149 (by decide) ?_
                    refine G_sub (lv' := [(5, .int (nI (x + 1))), (4, .int (bI (ibO F f p s (x + 1)))), (0, .ref (ad g 19)), (1, .int (nI f)), (2, .int (nI p)), (3, .int (nI s))]) [0, 2, 4, 5, 6, 7] rfl ?_
                    exact ih (x + 1) (by omega) (by omega)
                  · refine r_iload_n C dX11_isBad_84 6 rfl ?_
                    refine r_iconst C (v := (nI 5)) dX11_isBad_85 rfl ?_
                    refine r_icmp_ne C 146 dX11_isBad_86 (by decide) (not_congr (nI_eq (by omega) (by omega))) (fun h86 => ?_) (fun h86 => ?_)
                    · refine r_iinc C (v := (nI (x + 1))) (lv' := [(5, .int (nI (x + 1))), (7, .int (nI 0)), (4, .int (bI (ibO F f p s (x + 1)))), (6, .int (bI (decide (s / 2 ^ x &&& 1 = 1)))), (0, .ref (ad g 19)), (1, .int (nI f)), (2, .int (nI p)), (3, .int (nI s))]) 5 3 dX11_isBad_146 rfl (inc_N _ 1) (by decide) rfl ?_
                      refine r_goto C 6 dX11_isBad_149 (by decide) ?_
                      refine G_sub (lv' := [(5, .int (nI (x + 1))), (4, .int (bI (ibO F f p s (x + 1)))), (0, .ref (ad g 19)), (1, .int (nI f)), (2, .int (nI p)), (3, .int (nI s))]) [0, 2, 4, 5, 6, 7] rfl ?_
                      exact ih (x + 1) (by omega) (by omega)
                    · exact absurd (Decidable.not_not.mp h86) hp5
set_option maxHeartbeats 1000000 in
set_option maxRecDepth 100000 in
theorem c_isBad (l : Launch) (g : Gd) (μ : Mm) {F : Nat → Bool} {n f p s : Nat} (h6 : gI μ 6 = nI n) (hn10 : n ≤ 10) (h5 : gA μ 5 = bR F) (hf : f < 4) (hp : p < 6) (hs : s < 1024) : Ct l yX11_isBad cX11_isBad 8 (some .boolean) (rmk 0 0) g [.ref (ad g 19), .int (nI f), .int (nI p), .int (nI s)] μ (some (.int (bI (ibO F f p s n)))) μ := by
  refine Ct.of (by decide) (Nat.le_of_ble_eq_true rfl) (fun z A C X Rr => ?_)
  refine r_iconst C (v := (nI 0)) dX11_isBad_0 rfl ?_
  refine r_istore C (lv' := [(4, .int (nI 0)), (0, .ref (ad g 19)), (1, .int (nI f)), (2, .int (nI p)), (3, .int (nI s))]) 4 dX11_isBad_1 (by decide) rfl ?_
  refine r_iconst C (v := (nI 0)) dX11_isBad_3 rfl ?_
  refine r_istore C (lv' := [(5, .int (nI 0)), (4, .int (nI 0)), (0, .ref (ad g 19)), (1, .int (nI f)), (2, .int (nI p)), (3, .int (nI s))]) 5 dX11_isBad_4 (by decide) rfl ?_
  refine G_lv (lv' := [(5, .int (nI 0)), (4, .int (bI (ibO F f p s 0))), (0, .ref (ad g 19)), (1, .int (nI f)), (2, .int (nI p)), (3, .int (nI s))]) rfl ?_
  exact lp_isBad C X h6 hn10 h5 hf hp hs Rr (n + 1) 0 (by omega) (by omega)
