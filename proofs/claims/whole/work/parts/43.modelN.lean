theorem gL_shM {μ : Mm} {F : Nat → Bool} {n f e q : Nat} : gL (shM μ F n f e) q = gL μ q := rfl
theorem fsF_fr (F : Nat → Bool) (n f : Nat) : ∀ r s b M, (∀ q, q ≠ 9 → gI (fsF F n f r s b M).1 q = gI M q) ∧ (∀ q, q ≠ 10 → gA (fsF F n f r s b M).1 q = gA M q) ∧ (∀ q, gL (fsF F n f r s b M).1 q = gL M q)
  | 0, _, _, _ => ⟨fun _ _ => rfl, fun _ _ => rfl, fun _ => rfl⟩
  | r + 1, s, b, M => by
    rw [fsF]; split
    · obtain ⟨a, c, d⟩ := fsF_fr F n f r (s + 1) (if shA M F n f s = true then some s else b) (shM M F n f s)
      exact ⟨fun q h => (a q h).trans (gI_shM h), fun q h => (c q h).trans (gA_shM h), fun q => (d q).trans gL_shM⟩
    · exact fsF_fr F n f r (s + 1) b M
theorem fsF_lt (F : Nat → Bool) (n f N : Nat) : ∀ r s b M, s + r ≤ N → (∀ c, b = some c → c < N) → ∀ c, (fsF F n f r s b M).2 = some c → c < N
  | 0, _, _, _, _, hb => hb
  | r + 1, s, b, M, h, hb => by
    rw [fsF]; split
    · refine fsF_lt F n f N r (s + 1) _ _ (by omega) ?_
      split
      · intro c q; cases q; omega
      · exact hb
    · exact fsF_lt F n f N r (s + 1) b M (by omega) hb
def hm1 (F : Nat → Bool) (f : Nat) (h : Int64) : Nat → Int64
  | 0 => h
  | s + 1 => if F (1024 * f + s) = true then mx (hm1 F f h s) (lN s) else hm1 F f h s
def hm2 (F : Nat → Bool) (n f : Nat) (h : Int64) : Nat → Int64
  | 0 => h
  | x + 1 => mx (hm2 F n f h x) (lN (dgF F f x (2 ^ n)))
def hm3 (F : Nat → Bool) (n f : Nat) (h : Int64) : Nat → Int64
  | 0 => h
  | p + 1 => mx (hm3 F n f h p) (lN (if hlO F n f p (2 ^ n) = true then 1 else 0))
def hm4 (r : Nat → Int32) (h : Int64) : Nat → Int64
  | 0 => h
  | k + 1 => mx (hm4 r h k) (r k).toInt64
def hm5 (F : Nat → Bool) (n f : Nat) (h : Int64) : Nat → Int64
  | 0 => h
  | k + 1 => mx (hm5 F n f h k) (exR F n f (k + 1)).toInt64
def fsV (b : Option Nat) : Int64 := match b with | none => -1 | some c => lN (b10 c)
set_option maxHeartbeats 1000000 in
set_option maxRecDepth 100000 in
theorem lp_mixF1 {z : Zt} {A : Nat → Prop} {l : Launch} {g : Gd} (C : Cx z A l (rmk 4 97) cX11_mixesFamily 4 "SetFamiliesModel") (X : Kx z g A) {M : Mm} {F : Nat → Bool} {n f : Nat} {h : Int64} (h6 : gI M 6 = nI n) (hn10 : n ≤ 10) (h5 : gA M 5 = bR F) (hf : f < 4) (h1024 : 2 ^ n ≤ 1024) (h2n : 0 < 2 ^ n) (KK : G z g.1 A 4 (wd g (sL M 2 (hm1 F f h (2 ^ n)))) 0 0 48 [(0, .ref (ad g 19)), (1, .int (nI f))] []) : ∀ (n_ : Nat) (s : Nat), 2 ^ n - s < n_ → s ≤ 2 ^ n → G z g.1 A 4 (wd g (sL M 2 (hm1 F f h s))) 0 0 13 [(2, .int (nI s)), (0, .ref (ad g 19)), (1, .int (nI f))] [] := by
  intro n_
  induction n_ with
  | zero => intro s hm_; exact absurd hm_ (Nat.not_lt_zero _)
  | succ n_ ih =>
    intro s hm_ hs
    refine r_iload_n C dX11_mixesFamily_13 0 rfl ?_
    refine r_aload_n C dX11_mixesFamily_14 1 rfl ?_
    refine r_callV C X (As := []) (rest := [.int (nI s)]) (st1 := [.int (nI (2 ^ n)), .int (nI s)]) (μ' := (sL M 2 (hm1 F f h s))) (k := 19) (T := TX11) miX11_codes mvX11_codes (c_codes l g (sL M 2 (hm1 F f h s)) (n := n) ((gI_L _ _ _ _).trans h6) (by omega)) hw_5_99 (by decide) rfl rfl rfl ⟨by decide, by decide, rfl, rfl, by decide, by decide⟩ rfl (Nat.le_of_ble_eq_true rfl) dX11_mixesFamily_15 rfl ?_
    refine r_icmp_ge C 48 dX11_mixesFamily_18 (by decide) (nI_leI (by omega) (by omega)) (fun h18 => ?_) (fun h18 => ?_)
    · have hv2 : s = 2 ^ n := by omega
      subst hv2
      refine G_sub (lv' := [(0, .ref (ad g 19)), (1, .int (nI f))]) [1, 2] rfl ?_
      exact KK
    · refine r_aload_n C dX11_mixesFamily_21 1 rfl ?_
      refine r_get C X (k := 19) (R := RX11) (T := TX11) (N := 15) (n := 2) (v := .ref (ad g 20)) (by decide) rfl rfl inw11 (by decide) rfl hw_5_20 rfl dX11_mixesFamily_22 ?_
      refine r_sipush C (v := (nI 1024)) dX11_mixesFamily_25 (by decide) ?_
      refine r_iload_n C dX11_mixesFamily_28 2 rfl ?_
      refine r_imul C (v := (nI (1024 * f))) dX11_mixesFamily_29 (pk_mul _ _) ?_
      refine r_iload_n C dX11_mixesFamily_30 0 rfl ?_
      refine r_iadd C (v := (nI (1024 * f + s))) dX11_mixesFamily_31 (nI_add _ _) ?_
      refine r_zald C X (k := 20) (v := (bI (F (1024 * f + s)))) (by decide) rfl (by omega) (by decide) (bR_at ((gA_L _ _ _ _).trans h5) _) dX11_mixesFamily_32 ?_
      refine r_if_eq C 42 dX11_mixesFamily_33 (by decide) (bI_eq _) (fun h33 => ?_) (fun h33 => ?_)
      · refine r_iinc C (v := (nI (s + 1))) (lv' := [(2, .int (nI (s + 1))), (0, .ref (ad g 19)), (1, .int (nI f))]) 2 0 dX11_mixesFamily_42 rfl (inc_N _ 1) (by decide) rfl ?_
        refine r_goto C 13 dX11_mixesFamily_45 (by decide) ?_
        refine G_mem (μ' := (sL M 2 (hm1 F f h (s + 1)))) (by rw [hm1, if_neg (ts_f h33)]) ?_
        exact ih (s + 1) (by omega) (by omega)
      · refine r_aload_n C dX11_mixesFamily_36 1 rfl ?_
        refine r_iload_n C dX11_mixesFamily_37 0 rfl ?_
        refine r_i2l C (v := (lN s)) dX11_mixesFamily_38 (nI_l (by omega)) ?_
        refine r_callV C X (As := [.long (lN s)]) (rest := []) (st1 := []) (μ' := (sL (sL M 2 (hm1 F f h s)) 2 (mx (hm1 F f h s) (lN s)))) (k := 19) (T := TX11) miX11_mixes mvX11_mixes (c_mixes l g (sL M 2 (hm1 F f h s)) (h := hm1 F f h s) (gL_s _ _ _) (lN s)) hw_6_84 (by decide) rfl rfl rfl ⟨by decide, by decide, rfl, rfl, by decide, by decide⟩ rfl (Nat.le_of_ble_eq_true rfl) dX11_mixesFamily_39 rfl ?_
        refine G_mem (μ' := (sL M 2 (mx (hm1 F f h s) (lN s)))) (sL_u _ _ _ _) ?_
        refine r_iinc C (v := (nI (s + 1))) (lv' := [(2, .int (nI (s + 1))), (0, .ref (ad g 19)), (1, .int (nI f))]) 2 0 dX11_mixesFamily_42 rfl (inc_N _ 1) (by decide) rfl ?_
        refine r_goto C 13 dX11_mixesFamily_45 (by decide) ?_
        refine G_mem (μ' := (sL M 2 (hm1 F f h (s + 1)))) (by rw [hm1, if_pos (ts_t h33)]) ?_
        exact ih (s + 1) (by omega) (by omega)
set_option maxHeartbeats 1000000 in
set_option maxRecDepth 100000 in
theorem lp_mixF2 {z : Zt} {A : Nat → Prop} {l : Launch} {g : Gd} (C : Cx z A l (rmk 4 97) cX11_mixesFamily 4 "SetFamiliesModel") (X : Kx z g A) {M : Mm} {F : Nat → Bool} {n f : Nat} {h : Int64} (h6 : gI M 6 = nI n) (hn10 : n ≤ 10) (h5 : gA M 5 = bR F) (hf : f < 4) (h1024 : 2 ^ n ≤ 1024) (h2n : 0 < 2 ^ n) (KK : G z g.1 A 4 (wd g (sL M 2 (hm2 F n f h n))) 0 0 75 [(0, .ref (ad g 19)), (1, .int (nI f))] []) : ∀ (n_ : Nat) (x : Nat), n - x < n_ → x ≤ n → G z g.1 A 4 (wd g (sL M 2 (hm2 F n f h x))) 0 0 50 [(2, .int (nI x)), (0, .ref (ad g 19)), (1, .int (nI f))] [] := by
  intro n_
  induction n_ with
  | zero => intro x hm_; exact absurd hm_ (Nat.not_lt_zero _)
  | succ n_ ih =>
    intro x hm_ hx
    refine r_iload_n C dX11_mixesFamily_50 0 rfl ?_
    refine r_aload_n C dX11_mixesFamily_51 1 rfl ?_
    refine r_get C X (k := 19) (R := RX11) (T := TX11) (N := 15) (n := 1) (v := .int (gI (sL M 2 (hm2 F n f h x)) 6)) (by decide) rfl rfl inw11 (by decide) rfl hw_5_19 rfl dX11_mixesFamily_52 ?_
    refine G_top (y := (nI n)) ((gI_L _ _ _ _).trans h6) ?_
    refine r_icmp_ge C 75 dX11_mixesFamily_55 (by decide) (nI_leI (by omega) (by omega)) (fun h55 => ?_) (fun h55 => ?_)
    · have hv2 : n = x := by omega
      subst hv2
      refine G_sub (lv' := [(0, .ref (ad g 19)), (1, .int (nI f))]) [1, 2] rfl ?_
      exact KK
    · have hdl := dgF_le F f x (2 ^ n)
      refine r_aload_n C dX11_mixesFamily_58 1 rfl ?_
      refine r_aload_n C dX11_mixesFamily_59 1 rfl ?_
      refine r_iload_n C dX11_mixesFamily_60 2 rfl ?_
      refine r_iload_n C dX11_mixesFamily_61 0 rfl ?_
      refine r_callV C X (As := [.int (nI f), .int (nI x)]) (rest := [.ref (ad g 19)]) (st1 := [.int (nI (dgF F f x (2 ^ n))), .ref (ad g 19)]) (μ' := (sL M 2 (hm2 F n f h x))) (k := 19) (T := TX11) miX11_degreeOf mvX11_degreeOf (c_degreeOf l g (sL M 2 (hm2 F n f h x)) (F := F) (n := n) (f := f) (x := x) ((gI_L _ _ _ _).trans h6) (by omega) ((gA_L _ _ _ _).trans h5) (by omega) (by omega)) hw_5_138 (by decide) rfl rfl rfl ⟨by decide, by decide, rfl, rfl, by decide, by decide⟩ rfl (Nat.le_of_ble_eq_true rfl) dX11_mixesFamily_62 rfl ?_
      refine r_i2l C (v := (lN (dgF F f x (2 ^ n)))) dX11_mixesFamily_65 (nI_l (by omega)) ?_
      refine r_callV C X (As := [.long (lN (dgF F f x (2 ^ n)))]) (rest := []) (st1 := []) (μ' := (sL (sL M 2 (hm2 F n f h x)) 2 (mx (hm2 F n f h x) (lN (dgF F f x (2 ^ n)))))) (k := 19) (T := TX11) miX11_mixes mvX11_mixes (c_mixes l g (sL M 2 (hm2 F n f h x)) (h := hm2 F n f h x) (gL_s _ _ _) (lN (dgF F f x (2 ^ n)))) hw_6_84 (by decide) rfl rfl rfl ⟨by decide, by decide, rfl, rfl, by decide, by decide⟩ rfl (Nat.le_of_ble_eq_true rfl) dX11_mixesFamily_66 rfl ?_
      refine G_mem (μ' := (sL M 2 (mx (hm2 F n f h x) (lN (dgF F f x (2 ^ n)))))) (sL_u _ _ _ _) ?_
      refine r_iinc C (v := (nI (x + 1))) (lv' := [(2, .int (nI (x + 1))), (0, .ref (ad g 19)), (1, .int (nI f))]) 2 0 dX11_mixesFamily_69 rfl (inc_N _ 1) (by decide) rfl ?_
      refine r_goto C 50 dX11_mixesFamily_72 (by decide) ?_
      refine G_mem (μ' := (sL M 2 (hm2 F n f h (x + 1)))) rfl ?_
      exact ih (x + 1) (by omega) (by omega)
set_option maxHeartbeats 1000000 in
set_option maxRecDepth 100000 in
theorem lp_mixF3 {z : Zt} {A : Nat → Prop} {l : Launch} {g : Gd} (C : Cx z A l (rmk 4 97) cX11_mixesFamily 4 "SetFamiliesModel") (X : Kx z g A) {M : Mm} {F : Nat → Bool} {n f : Nat} {h : Int64} (h6 : gI M 6 = nI n) (hn10 : n ≤ 10) (h5 : gA M 5 = bR F) (hf : f < 4) (h1024 : 2 ^ n ≤ 1024) (h2n : 0 < 2 ^ n) (KK : G z g.1 A 4 (wd g (sL M 2 (hm3 F n f h 6))) 0 0 107 [(0, .ref (ad g 19)), (1, .int (nI f))] []) : ∀ (n_ : Nat) (p : Nat), 6 - p < n_ → p ≤ 6 → G z g.1 A 4 (wd g (sL M 2 (hm3 F n f h p))) 0 0 77 [(2, .int (nI p)), (0, .ref (ad g 19)), (1, .int (nI f))] [] := by
  intro n_
  induction n_ with
  | zero => intro p hm_; exact absurd hm_ (Nat.not_lt_zero _)
  | succ n_ ih =>
    intro p hm_ hp
    refine r_iload_n C dX11_mixesFamily_77 0 rfl ?_
    refine r_bipush C (v := (nI 6)) dX11_mixesFamily_78 (by decide) ?_
    refine r_icmp_ge C 107 dX11_mixesFamily_80 (by decide) (nI_leI (by omega) (by omega)) (fun h80 => ?_) (fun h80 => ?_)
    · have hv2 : p = 6 := by omega
      subst hv2
      refine G_sub (lv' := [(0, .ref (ad g 19)), (1, .int (nI f))]) [1, 2] rfl ?_
      exact KK
    · refine r_aload_n C dX11_mixesFamily_83 1 rfl ?_
      refine r_aload_n C dX11_mixesFamily_84 1 rfl ?_
      refine r_iload_n C dX11_mixesFamily_85 2 rfl ?_
      refine r_iload_n C dX11_mixesFamily_86 0 rfl ?_
      refine r_callV C X (As := [.int (nI f), .int (nI p)]) (rest := [.ref (ad g 19)]) (st1 := [.int (bI (hlO F n f p (2 ^ n))), .ref (ad g 19)]) (μ' := (sL M 2 (hm3 F n f h p))) (k := 19) (T := TX11) miX11_holds mvX11_holds (c_holdsM l g (sL M 2 (hm3 F n f h p)) (F := F) (n := n) (f := f) (p := p) ((gI_L _ _ _ _).trans h6) (by omega) ((gA_L _ _ _ _).trans h5) (by omega) (by omega)) hw_6_0 (by decide) rfl rfl rfl ⟨by decide, by decide, rfl, rfl, by decide, by decide⟩ rfl (Nat.le_of_ble_eq_true rfl) dX11_mixesFamily_87 rfl ?_
      refine r_if_eq C 97 dX11_mixesFamily_90 (by decide) (bI_eq _) (fun h90 => ?_) (fun h90 => ?_)
      · refine r_lconst C (v := (lN 0)) dX11_mixesFamily_97 rfl ?_
        refine G_topl (y := (lN (if hlO F n f p (2 ^ n) = true then 1 else 0))) (by rw [if_neg (ts_f h90)]) ?_
        refine r_callV C X (As := [.long (lN (if hlO F n f p (2 ^ n) = true then 1 else 0))]) (rest := []) (st1 := []) (μ' := (sL (sL M 2 (hm3 F n f h p)) 2 (mx (hm3 F n f h p) (lN (if hlO F n f p (2 ^ n) = true then 1 else 0))))) (k := 19) (T := TX11) miX11_mixes mvX11_mixes (c_mixes l g (sL M 2 (hm3 F n f h p)) (h := hm3 F n f h p) (gL_s _ _ _) (lN (if hlO F n f p (2 ^ n) = true then 1 else 0))) hw_6_84 (by decide) rfl rfl rfl ⟨by decide, by decide, rfl, rfl, by decide, by decide⟩ rfl (Nat.le_of_ble_eq_true rfl) dX11_mixesFamily_98 rfl ?_
        refine G_mem (μ' := (sL M 2 (mx (hm3 F n f h p) (lN (if hlO F n f p (2 ^ n) = true then 1 else 0))))) (sL_u _ _ _ _) ?_
        refine r_iinc C (v := (nI (p + 1))) (lv' := [(2, .int (nI (p + 1))), (0, .ref (ad g 19)), (1, .int (nI f))]) 2 0 dX11_mixesFamily_101 rfl (inc_N _ 1) (by decide) rfl ?_
        refine r_goto C 77 dX11_mixesFamily_104 (by decide) ?_
        refine G_mem (μ' := (sL M 2 (hm3 F n f h (p + 1)))) rfl ?_
        exact ih (p + 1) (by omega) (by omega)
      · refine r_lconst C (v := (lN 1)) dX11_mixesFamily_93 rfl ?_
        refine r_goto C 98 dX11_mixesFamily_94 (by decide) ?_
        refine G_topl (y := (lN (if hlO F n f p (2 ^ n) = true then 1 else 0))) (by rw [if_pos (ts_t h90)]) ?_
        refine r_callV C X (As := [.long (lN (if hlO F n f p (2 ^ n) = true then 1 else 0))]) (rest := []) (st1 := []) (μ' := (sL (sL M 2 (hm3 F n f h p)) 2 (mx (hm3 F n f h p) (lN (if hlO F n f p (2 ^ n) = true then 1 else 0))))) (k := 19) (T := TX11) miX11_mixes mvX11_mixes (c_mixes l g (sL M 2 (hm3 F n f h p)) (h := hm3 F n f h p) (gL_s _ _ _) (lN (if hlO F n f p (2 ^ n) = true then 1 else 0))) hw_6_84 (by decide) rfl rfl rfl ⟨by decide, by decide, rfl, rfl, by decide, by decide⟩ rfl (Nat.le_of_ble_eq_true rfl) dX11_mixesFamily_98 rfl ?_
        refine G_mem (μ' := (sL M 2 (mx (hm3 F n f h p) (lN (if hlO F n f p (2 ^ n) = true then 1 else 0))))) (sL_u _ _ _ _) ?_
        refine r_iinc C (v := (nI (p + 1))) (lv' := [(2, .int (nI (p + 1))), (0, .ref (ad g 19)), (1, .int (nI f))]) 2 0 dX11_mixesFamily_101 rfl (inc_N _ 1) (by decide) rfl ?_
        refine r_goto C 77 dX11_mixesFamily_104 (by decide) ?_
        refine G_mem (μ' := (sL M 2 (hm3 F n f h (p + 1)))) rfl ?_
        exact ih (p + 1) (by omega) (by omega)
set_option maxHeartbeats 1000000 in
set_option maxRecDepth 100000 in
theorem lp_mixF4 {z : Zt} {A : Nat → Prop} {l : Launch} {g : Gd} (C : Cx z A l (rmk 4 97) cX11_mixesFamily 4 "SetFamiliesModel") (X : Kx z g A) {M : Mm} {F : Nat → Bool} {n f : Nat} {h : Int64} (h6 : gI M 6 = nI n) (hn10 : n ≤ 10) (h5 : gA M 5 = bR F) (hf : f < 4) (h1024 : 2 ^ n ≤ 1024) (h2n : 0 < 2 ^ n) (KK : G z g.1 A 4 (wd g (sL M 2 (hm4 (gA M 11) h (n + 1)))) 0 0 202 [(0, .ref (ad g 19)), (1, .int (nI f))] []) : ∀ (n_ : Nat) (k : Nat), n + 1 - k < n_ → k ≤ n + 1 → G z g.1 A 4 (wd g (sL M 2 (hm4 (gA M 11) h k))) 0 0 177 [(3, .int (nI k)), (0, .ref (ad g 19)), (1, .int (nI f))] [] := by
  intro n_
  induction n_ with
  | zero => intro k hm_; exact absurd hm_ (Nat.not_lt_zero _)
  | succ n_ ih =>
    intro k hm_ hk
    refine r_iload_n C dX11_mixesFamily_177 0 rfl ?_
    refine r_aload_n C dX11_mixesFamily_178 1 rfl ?_
    refine r_get C X (k := 19) (R := RX11) (T := TX11) (N := 15) (n := 1) (v := .int (gI (sL M 2 (hm4 (gA M 11) h k)) 6)) (by decide) rfl rfl inw11 (by decide) rfl hw_5_19 rfl dX11_mixesFamily_179 ?_
    refine G_top (y := (nI n)) ((gI_L _ _ _ _).trans h6) ?_
    refine r_icmp_gt C 202 dX11_mixesFamily_182 (by decide) (nI_ltI (by omega) (by omega)) (fun h182 => ?_) (fun h182 => ?_)
    · have hv2 : k = n + 1 := by omega
      subst hv2
      refine G_sub (lv' := [(0, .ref (ad g 19)), (1, .int (nI f))]) [1, 2] rfl ?_
      exact KK
    · refine r_aload_n C dX11_mixesFamily_185 1 rfl ?_
      refine r_aload_n C dX11_mixesFamily_186 1 rfl ?_
      refine r_get C X (k := 19) (R := RX11) (T := TX11) (N := 15) (n := 13) (v := .ref (ad g 26)) (by decide) rfl rfl inw11 (by decide) rfl hw_5_31 rfl dX11_mixesFamily_187 ?_
      refine r_iload_n C dX11_mixesFamily_190 0 rfl ?_
      refine r_iald C X (k := 26) (v := (gA M 11 k)) (by decide) rfl (by omega) (by decide) (congrFun (gA_L _ _ _ _) _) dX11_mixesFamily_191 ?_
      refine r_i2l C (v := (((gA M 11 k)).toInt64)) dX11_mixesFamily_192 rfl ?_
      refine r_callV C X (As := [.long (((gA M 11 k)).toInt64)]) (rest := []) (st1 := []) (μ' := (sL (sL M 2 (hm4 (gA M 11) h k)) 2 (mx (hm4 (gA M 11) h k) (((gA M 11 k)).toInt64)))) (k := 19) (T := TX11) miX11_mixes mvX11_mixes (c_mixes l g (sL M 2 (hm4 (gA M 11) h k)) (h := hm4 (gA M 11) h k) (gL_s _ _ _) (((gA M 11 k)).toInt64)) hw_6_84 (by decide) rfl rfl rfl ⟨by decide, by decide, rfl, rfl, by decide, by decide⟩ rfl (Nat.le_of_ble_eq_true rfl) dX11_mixesFamily_193 rfl ?_
      refine G_mem (μ' := (sL M 2 (mx (hm4 (gA M 11) h k) (((gA M 11 k)).toInt64)))) (sL_u _ _ _ _) ?_
      refine r_iinc C (v := (nI (k + 1))) (lv' := [(3, .int (nI (k + 1))), (0, .ref (ad g 19)), (1, .int (nI f))]) 3 0 dX11_mixesFamily_196 rfl (inc_N _ 1) (by decide) rfl ?_
      refine r_goto C 177 dX11_mixesFamily_199 (by decide) ?_
      refine G_mem (μ' := (sL M 2 (hm4 (gA M 11) h (k + 1)))) rfl ?_
      exact ih (k + 1) (by omega) (by omega)
set_option maxHeartbeats 1000000 in
set_option maxRecDepth 100000 in
theorem lp_mixF5 {z : Zt} {A : Nat → Prop} {l : Launch} {g : Gd} (C : Cx z A l (rmk 4 97) cX11_mixesFamily 4 "SetFamiliesModel") (X : Kx z g A) {M : Mm} {F : Nat → Bool} {n f : Nat} {h : Int64} (h6 : gI M 6 = nI n) (hn10 : n ≤ 10) (h5 : gA M 5 = bR F) (hf : f < 4) (h1024 : 2 ^ n ≤ 1024) (h2n : 0 < 2 ^ n) (Rr : Rx z g A none none (sL M 2 (hm5 F n f h n))) : ∀ (n_ : Nat) (k : Nat), n - k < n_ → k ≤ n → G z g.1 A 4 (wd g (sL M 2 (hm5 F n f h k))) 0 0 204 [(3, .int (nI (k + 1))), (0, .ref (ad g 19)), (1, .int (nI f))] [] := by
  intro n_
  induction n_ with
  | zero => intro k hm_; exact absurd hm_ (Nat.not_lt_zero _)
  | succ n_ ih =>
    intro k hm_ hk
    refine r_iload_n C dX11_mixesFamily_204 0 rfl ?_
    refine r_aload_n C dX11_mixesFamily_205 1 rfl ?_
    refine r_get C X (k := 19) (R := RX11) (T := TX11) (N := 15) (n := 1) (v := .int (gI (sL M 2 (hm5 F n f h k)) 6)) (by decide) rfl rfl inw11 (by decide) rfl hw_5_19 rfl dX11_mixesFamily_206 ?_
    refine G_top (y := (nI n)) ((gI_L _ _ _ _).trans h6) ?_
    refine r_icmp_gt C 229 dX11_mixesFamily_209 (by decide) (nI_ltI (by omega) (by omega)) (fun h209 => ?_) (fun h209 => ?_)
    · have hv2 : n = k := by omega
      subst hv2
      exact r_vret C dX11_mixesFamily_229 Rr
    · refine r_aload_n C dX11_mixesFamily_212 1 rfl ?_
      refine r_aload_n C dX11_mixesFamily_213 1 rfl ?_
      refine r_iload_n C dX11_mixesFamily_214 2 rfl ?_
      refine r_iload_n C dX11_mixesFamily_215 0 rfl ?_
      refine r_callV C X (As := [.int (nI f), .int (nI (k + 1))]) (rest := [.ref (ad g 19)]) (st1 := [.int (exR F n f (k + 1)), .ref (ad g 19)]) (μ' := (sL M 2 (hm5 F n f h k))) (k := 19) (T := TX11) miX11_excessOf mvX11_excessOf (c_excessOfM l g (sL M 2 (hm5 F n f h k)) (F := F) (n := n) (f := f) (lv := k + 1) ((gI_L _ _ _ _).trans h6) (by omega) ((gA_L _ _ _ _).trans h5) (by omega) (by omega) (by omega)) hw_5_232 (by decide) rfl rfl rfl ⟨by decide, by decide, rfl, rfl, by decide, by decide⟩ rfl (Nat.le_of_ble_eq_true rfl) dX11_mixesFamily_216 rfl ?_
      refine r_i2l C (v := (((exR F n f (k + 1))).toInt64)) dX11_mixesFamily_219 rfl ?_
      refine r_callV C X (As := [.long (((exR F n f (k + 1))).toInt64)]) (rest := []) (st1 := []) (μ' := (sL (sL M 2 (hm5 F n f h k)) 2 (mx (hm5 F n f h k) (((exR F n f (k + 1))).toInt64)))) (k := 19) (T := TX11) miX11_mixes mvX11_mixes (c_mixes l g (sL M 2 (hm5 F n f h k)) (h := hm5 F n f h k) (gL_s _ _ _) (((exR F n f (k + 1))).toInt64)) hw_6_84 (by decide) rfl rfl rfl ⟨by decide, by decide, rfl, rfl, by decide, by decide⟩ rfl (Nat.le_of_ble_eq_true rfl) dX11_mixesFamily_220 rfl ?_
      refine G_mem (μ' := (sL M 2 (mx (hm5 F n f h k) (((exR F n f (k + 1))).toInt64)))) (sL_u _ _ _ _) ?_
      refine r_iinc C (v := (nI (k + 1 + 1))) (lv' := [(3, .int (nI (k + 1 + 1))), (0, .ref (ad g 19)), (1, .int (nI f))]) 3 0 dX11_mixesFamily_223 rfl (inc_N _ 1) (by decide) rfl ?_
      refine r_goto C 204 dX11_mixesFamily_226 (by decide) ?_
      refine G_mem (μ' := (sL M 2 (hm5 F n f h (k + 1)))) rfl ?_
      exact ih (k + 1) (by omega) (by omega)
def mfT (M : Mm) (b : Option Nat) (h : Int64) (F : Nat → Bool) (n f : Nat) : Mm := sL (mCP (sL M 2 (mx (mx (mx h (fsV b)) (oI b).toInt64) (lcM F n f (2 ^ n) 0).toInt64)) F n f) 2 (hm5 F n f (hm4 (gA (mCP (sL M 2 (mx (mx (mx h (fsV b)) (oI b).toInt64) (lcM F n f (2 ^ n) 0).toInt64)) F n f) 11) (mx (mx (mx h (fsV b)) (oI b).toInt64) (lcM F n f (2 ^ n) 0).toInt64) (n + 1)) n)
set_option maxHeartbeats 1000000 in
set_option maxRecDepth 100000 in
theorem tl_mixesFamily {z : Zt} {A : Nat → Prop} {l : Launch} {g : Gd} (C : Cx z A l (rmk 4 97) cX11_mixesFamily 4 "SetFamiliesModel") (X : Kx z g A) {M : Mm} {b : Option Nat} {F : Nat → Bool} {n f : Nat} {h : Int64} (h6 : gI M 6 = nI n) (hn10 : n ≤ 10) (h5 : gA M 5 = bR F) (hf : f < 4) (h1024 : 2 ^ n ≤ 1024) (h2n : 0 < 2 ^ n) (hb : ∀ c, b = some c → c < 1024) (Rr : Rx z g A none none (mfT M b h F n f)) : G z g.1 A 4 (wd g (sL M 2 h)) 0 0 134 [(2, .int (oI b)), (0, .ref (ad g 19)), (1, .int (nI f))] [] := by
  refine r_aload_n C dX11_mixesFamily_134 1 rfl ?_
  refine r_iload_n C dX11_mixesFamily_135 0 rfl ?_
  refine r_iconst C (v := (-1)) dX11_mixesFamily_136 rfl ?_
  refine r_icmp_ne C 146 dX11_mixesFamily_137 (by decide) (not_congr (oI_none hb)) (fun h137 => ?_) (fun h137 => ?_)
  · obtain ⟨c, rfl⟩ : ∃ c, b = some c := by cases b with | none => exact absurd rfl h137 | some c => exact ⟨c, rfl⟩
    have hcl := hb c rfl
    have hbl := b10_lt c
    refine G_lv (lv' := [(2, .int (nI c)), (0, .ref (ad g 19)), (1, .int (nI f))]) rfl ?_
    refine r_iload_n C dX11_mixesFamily_146 0 rfl ?_
    refine r_callP C (As := [.int (nI c)]) (rest := [.ref (ad g 19)]) (st1 := [.int (nI (b10 c)), .ref (ad g 19)]) miX11_bits msX11_bits (c_bits l (c := c) (by omega)) hw_5_123 rfl ⟨by decide, by decide, rfl, rfl, by decide, by decide⟩ rfl (Nat.le_of_ble_eq_true rfl) dX11_mixesFamily_147 rfl ?_
    refine r_i2l C (v := (lN (b10 c))) dX11_mixesFamily_150 (nI_l (by omega)) ?_
    refine G_topl (y := (fsV (some c))) rfl ?_
    refine r_callV C X (As := [.long (fsV (some c))]) (rest := []) (st1 := []) (μ' := (sL (sL M 2 (h)) 2 (mx h (fsV (some c))))) (k := 19) (T := TX11) miX11_mixes mvX11_mixes (c_mixes l g (sL M 2 (h)) (h := h) (gL_s _ _ _) (fsV (some c))) hw_6_84 (by decide) rfl rfl rfl ⟨by decide, by decide, rfl, rfl, by decide, by decide⟩ rfl (Nat.le_of_ble_eq_true rfl) dX11_mixesFamily_151 rfl ?_
    refine G_mem (μ' := (sL M 2 (mx h (fsV (some c))))) (sL_u _ _ _ _) ?_
    refine G_lv (lv' := [(2, .int (oI (some c))), (0, .ref (ad g 19)), (1, .int (nI f))]) rfl ?_
    refine r_aload_n C dX11_mixesFamily_154 1 rfl ?_
    refine r_iload_n C dX11_mixesFamily_155 0 rfl ?_
    refine r_i2l C (v := (((oI (some c))).toInt64)) dX11_mixesFamily_156 rfl ?_
    refine r_callV C X (As := [.long (((oI (some c))).toInt64)]) (rest := []) (st1 := []) (μ' := (sL (sL M 2 (mx h (fsV (some c)))) 2 (mx (mx h (fsV (some c))) (((oI (some c))).toInt64)))) (k := 19) (T := TX11) miX11_mixes mvX11_mixes (c_mixes l g (sL M 2 (mx h (fsV (some c)))) (h := mx h (fsV (some c))) (gL_s _ _ _) (((oI (some c))).toInt64)) hw_6_84 (by decide) rfl rfl rfl ⟨by decide, by decide, rfl, rfl, by decide, by decide⟩ rfl (Nat.le_of_ble_eq_true rfl) dX11_mixesFamily_157 rfl ?_
    refine G_mem (μ' := (sL M 2 (mx (mx h (fsV (some c))) (((oI (some c))).toInt64)))) (sL_u _ _ _ _) ?_
    refine r_aload_n C dX11_mixesFamily_160 1 rfl ?_
    refine r_aload_n C dX11_mixesFamily_161 1 rfl ?_
    refine r_iload_n C dX11_mixesFamily_162 2 rfl ?_
    refine r_callV C X (As := [.int (nI f)]) (rest := [.ref (ad g 19)]) (st1 := [.int (lcM F n f (2 ^ n) 0), .ref (ad g 19)]) (μ' := (sL M 2 (mx (mx h (fsV (some c))) (((oI (some c))).toInt64)))) (k := 19) (T := TX11) miX11_leastCore mvX11_leastCore (c_leastCoreM l g (sL M 2 (mx (mx h (fsV (some c))) (((oI (some c))).toInt64))) (F := F) (n := n) (f := f) ((gI_L _ _ _ _).trans h6) (by omega) ((gA_L _ _ _ _).trans h5) (by omega)) hw_6_51 (by decide) rfl rfl rfl ⟨by decide, by decide, rfl, rfl, by decide, by decide⟩ rfl (Nat.le_of_ble_eq_true rfl) dX11_mixesFamily_163 rfl ?_
    refine r_i2l C (v := (((lcM F n f (2 ^ n) 0)).toInt64)) dX11_mixesFamily_166 rfl ?_
    refine r_callV C X (As := [.long (((lcM F n f (2 ^ n) 0)).toInt64)]) (rest := []) (st1 := []) (μ' := (sL (sL M 2 (mx (mx h (fsV (some c))) (((oI (some c))).toInt64))) 2 (mx (mx (mx h (fsV (some c))) (((oI (some c))).toInt64)) (((lcM F n f (2 ^ n) 0)).toInt64)))) (k := 19) (T := TX11) miX11_mixes mvX11_mixes (c_mixes l g (sL M 2 (mx (mx h (fsV (some c))) (((oI (some c))).toInt64))) (h := mx (mx h (fsV (some c))) (((oI (some c))).toInt64)) (gL_s _ _ _) (((lcM F n f (2 ^ n) 0)).toInt64)) hw_6_84 (by decide) rfl rfl rfl ⟨by decide, by decide, rfl, rfl, by decide, by decide⟩ rfl (Nat.le_of_ble_eq_true rfl) dX11_mixesFamily_167 rfl ?_
    refine G_mem (μ' := (sL M 2 (mx (mx (mx h (fsV (some c))) (((oI (some c))).toInt64)) (((lcM F n f (2 ^ n) 0)).toInt64)))) (sL_u _ _ _ _) ?_
    refine r_aload_n C dX11_mixesFamily_170 1 rfl ?_
    refine r_iload_n C dX11_mixesFamily_171 2 rfl ?_
    refine r_callV C X (As := [.int (nI f)]) (rest := []) (st1 := []) (μ' := (mCP (sL M 2 (mx (mx (mx h (fsV (some c))) (((oI (some c))).toInt64)) (((lcM F n f (2 ^ n) 0)).toInt64))) F n f)) (k := 19) (T := TX11) miX11_countsPairs mvX11_countsPairs (c_countsPairs l g (sL M 2 (mx (mx (mx h (fsV (some c))) (((oI (some c))).toInt64)) (((lcM F n f (2 ^ n) 0)).toInt64))) (F := F) (n := n) (f := f) ((gI_L _ _ _ _).trans h6) hn10 ((gA_L _ _ _ _).trans h5) hf) hw_6_63 (by decide) rfl rfl rfl ⟨by decide, by decide, rfl, rfl, by decide, by decide⟩ rfl (Nat.le_of_ble_eq_true rfl) dX11_mixesFamily_172 rfl ?_
    refine G_mem (μ' := (sL (mCP (sL M 2 (mx (mx (mx h (fsV (some c))) (((oI (some c))).toInt64)) (((lcM F n f (2 ^ n) 0)).toInt64))) F n f) 2 (mx (mx (mx h (fsV (some c))) (((oI (some c))).toInt64)) (((lcM F n f (2 ^ n) 0)).toInt64)))) (show _ = sL _ 2 _ from (sL_i _ 2).symm) ?_
    refine r_iconst C (v := (nI 0)) dX11_mixesFamily_175 rfl ?_
    refine r_istore_n C (lv' := [(3, .int (nI 0)), (2, .int (oI (some c))), (0, .ref (ad g 19)), (1, .int (nI f))]) 3 dX11_mixesFamily_176 rfl (by decide) rfl ?_
    refine G_sub (lv' := [(3, .int (nI 0)), (0, .ref (ad g 19)), (1, .int (nI f))]) [0, 2, 3] rfl ?_
    refine G_mem (μ' := (sL (mCP (sL M 2 (mx (mx (mx h (fsV (some c))) (((oI (some c))).toInt64)) (((lcM F n f (2 ^ n) 0)).toInt64))) F n f) 2 (hm4 (gA (mCP (sL M 2 (mx (mx (mx h (fsV (some c))) (((oI (some c))).toInt64)) (((lcM F n f (2 ^ n) 0)).toInt64))) F n f) 11) (mx (mx (mx h (fsV (some c))) (((oI (some c))).toInt64)) (((lcM F n f (2 ^ n) 0)).toInt64)) 0))) rfl ?_
    refine lp_mixF4 C X (M := (mCP (sL M 2 (mx (mx (mx h (fsV (some c))) (((oI (some c))).toInt64)) (((lcM F n f (2 ^ n) 0)).toInt64))) F n f)) (h := mx (mx (mx h (fsV (some c))) (((oI (some c))).toInt64)) (((lcM F n f (2 ^ n) 0)).toInt64)) ((gI_A _ _ _ _).trans ((gI_L _ _ _ _).trans h6)) hn10 ((gA_n _ _ (by decide)).trans ((gA_L _ _ _ _).trans h5)) hf h1024 h2n ?_ (n + 2) 0 (by omega) (by omega)
    refine r_iconst C (v := (nI 1)) dX11_mixesFamily_202 rfl ?_
    refine r_istore_n C (lv' := [(3, .int (nI 1)), (0, .ref (ad g 19)), (1, .int (nI f))]) 3 dX11_mixesFamily_203 rfl (by decide) rfl ?_
    refine G_lv (lv' := [(3, .int (nI (0 + 1))), (0, .ref (ad g 19)), (1, .int (nI f))]) rfl ?_
    refine G_mem (μ' := (sL (mCP (sL M 2 (mx (mx (mx h (fsV (some c))) (((oI (some c))).toInt64)) (((lcM F n f (2 ^ n) 0)).toInt64))) F n f) 2 (hm5 F n f (hm4 (gA (mCP (sL M 2 (mx (mx (mx h (fsV (some c))) (((oI (some c))).toInt64)) (((lcM F n f (2 ^ n) 0)).toInt64))) F n f) 11) (mx (mx (mx h (fsV (some c))) (((oI (some c))).toInt64)) (((lcM F n f (2 ^ n) 0)).toInt64)) (n + 1)) 0))) rfl ?_
    exact lp_mixF5 C X (M := (mCP (sL M 2 (mx (mx (mx h (fsV (some c))) (((oI (some c))).toInt64)) (((lcM F n f (2 ^ n) 0)).toInt64))) F n f)) (h := hm4 (gA (mCP (sL M 2 (mx (mx (mx h (fsV (some c))) (((oI (some c))).toInt64)) (((lcM F n f (2 ^ n) 0)).toInt64))) F n f) 11) (mx (mx (mx h (fsV (some c))) (((oI (some c))).toInt64)) (((lcM F n f (2 ^ n) 0)).toInt64)) (n + 1)) ((gI_A _ _ _ _).trans ((gI_L _ _ _ _).trans h6)) hn10 ((gA_n _ _ (by decide)).trans ((gA_L _ _ _ _).trans h5)) hf h1024 h2n Rr (n + 1) 0 (by omega) (by omega)
  · have hbn := Decidable.not_not.mp h137
    subst hbn
    refine G_lv (lv' := [(2, .int (oI none)), (0, .ref (ad g 19)), (1, .int (nI f))]) rfl ?_
    refine r_ldc2 C dX11_mixesFamily_140 hw_6_93 ?_
    refine r_goto C 151 dX11_mixesFamily_143 (by decide) ?_
    refine G_topl (y := (fsV none)) rfl ?_
    refine r_callV C X (As := [.long (fsV none)]) (rest := []) (st1 := []) (μ' := (sL (sL M 2 (h)) 2 (mx h (fsV none)))) (k := 19) (T := TX11) miX11_mixes mvX11_mixes (c_mixes l g (sL M 2 (h)) (h := h) (gL_s _ _ _) (fsV none)) hw_6_84 (by decide) rfl rfl rfl ⟨by decide, by decide, rfl, rfl, by decide, by decide⟩ rfl (Nat.le_of_ble_eq_true rfl) dX11_mixesFamily_151 rfl ?_
    refine G_mem (μ' := (sL M 2 (mx h (fsV none)))) (sL_u _ _ _ _) ?_
    refine G_lv (lv' := [(2, .int (oI none)), (0, .ref (ad g 19)), (1, .int (nI f))]) rfl ?_
    refine r_aload_n C dX11_mixesFamily_154 1 rfl ?_
    refine r_iload_n C dX11_mixesFamily_155 0 rfl ?_
    refine r_i2l C (v := (((oI none)).toInt64)) dX11_mixesFamily_156 rfl ?_
    refine r_callV C X (As := [.long (((oI none)).toInt64)]) (rest := []) (st1 := []) (μ' := (sL (sL M 2 (mx h (fsV none))) 2 (mx (mx h (fsV none)) (((oI none)).toInt64)))) (k := 19) (T := TX11) miX11_mixes mvX11_mixes (c_mixes l g (sL M 2 (mx h (fsV none))) (h := mx h (fsV none)) (gL_s _ _ _) (((oI none)).toInt64)) hw_6_84 (by decide) rfl rfl rfl ⟨by decide, by decide, rfl, rfl, by decide, by decide⟩ rfl (Nat.le_of_ble_eq_true rfl) dX11_mixesFamily_157 rfl ?_
    refine G_mem (μ' := (sL M 2 (mx (mx h (fsV none)) (((oI none)).toInt64)))) (sL_u _ _ _ _) ?_
    refine r_aload_n C dX11_mixesFamily_160 1 rfl ?_
    refine r_aload_n C dX11_mixesFamily_161 1 rfl ?_
    refine r_iload_n C dX11_mixesFamily_162 2 rfl ?_
    refine r_callV C X (As := [.int (nI f)]) (rest := [.ref (ad g 19)]) (st1 := [.int (lcM F n f (2 ^ n) 0), .ref (ad g 19)]) (μ' := (sL M 2 (mx (mx h (fsV none)) (((oI none)).toInt64)))) (k := 19) (T := TX11) miX11_leastCore mvX11_leastCore (c_leastCoreM l g (sL M 2 (mx (mx h (fsV none)) (((oI none)).toInt64))) (F := F) (n := n) (f := f) ((gI_L _ _ _ _).trans h6) (by omega) ((gA_L _ _ _ _).trans h5) (by omega)) hw_6_51 (by decide) rfl rfl rfl ⟨by decide, by decide, rfl, rfl, by decide, by decide⟩ rfl (Nat.le_of_ble_eq_true rfl) dX11_mixesFamily_163 rfl ?_
    refine r_i2l C (v := (((lcM F n f (2 ^ n) 0)).toInt64)) dX11_mixesFamily_166 rfl ?_
    refine r_callV C X (As := [.long (((lcM F n f (2 ^ n) 0)).toInt64)]) (rest := []) (st1 := []) (μ' := (sL (sL M 2 (mx (mx h (fsV none)) (((oI none)).toInt64))) 2 (mx (mx (mx h (fsV none)) (((oI none)).toInt64)) (((lcM F n f (2 ^ n) 0)).toInt64)))) (k := 19) (T := TX11) miX11_mixes mvX11_mixes (c_mixes l g (sL M 2 (mx (mx h (fsV none)) (((oI none)).toInt64))) (h := mx (mx h (fsV none)) (((oI none)).toInt64)) (gL_s _ _ _) (((lcM F n f (2 ^ n) 0)).toInt64)) hw_6_84 (by decide) rfl rfl rfl ⟨by decide, by decide, rfl, rfl, by decide, by decide⟩ rfl (Nat.le_of_ble_eq_true rfl) dX11_mixesFamily_167 rfl ?_
    refine G_mem (μ' := (sL M 2 (mx (mx (mx h (fsV none)) (((oI none)).toInt64)) (((lcM F n f (2 ^ n) 0)).toInt64)))) (sL_u _ _ _ _) ?_
    refine r_aload_n C dX11_mixesFamily_170 1 rfl ?_
    refine r_iload_n C dX11_mixesFamily_171 2 rfl ?_
    refine r_callV C X (As := [.int (nI f)]) (rest := []) (st1 := []) (μ' := (mCP (sL M 2 (mx (mx (mx h (fsV none)) (((oI none)).toInt64)) (((lcM F n f (2 ^ n) 0)).toInt64))) F n f)) (k := 19) (T := TX11) miX11_countsPairs mvX11_countsPairs (c_countsPairs l g (sL M 2 (mx (mx (mx h (fsV none)) (((oI none)).toInt64)) (((lcM F n f (2 ^ n) 0)).toInt64))) (F := F) (n := n) (f := f) ((gI_L _ _ _ _).trans h6) hn10 ((gA_L _ _ _ _).trans h5) hf) hw_6_63 (by decide) rfl rfl rfl ⟨by decide, by decide, rfl, rfl, by decide, by decide⟩ rfl (Nat.le_of_ble_eq_true rfl) dX11_mixesFamily_172 rfl ?_
    refine G_mem (μ' := (sL (mCP (sL M 2 (mx (mx (mx h (fsV none)) (((oI none)).toInt64)) (((lcM F n f (2 ^ n) 0)).toInt64))) F n f) 2 (mx (mx (mx h (fsV none)) (((oI none)).toInt64)) (((lcM F n f (2 ^ n) 0)).toInt64)))) (show _ = sL _ 2 _ from (sL_i _ 2).symm) ?_
    refine r_iconst C (v := (nI 0)) dX11_mixesFamily_175 rfl ?_
    refine r_istore_n C (lv' := [(3, .int (nI 0)), (2, .int (oI none)), (0, .ref (ad g 19)), (1, .int (nI f))]) 3 dX11_mixesFamily_176 rfl (by decide) rfl ?_
    refine G_sub (lv' := [(3, .int (nI 0)), (0, .ref (ad g 19)), (1, .int (nI f))]) [0, 2, 3] rfl ?_
    refine G_mem (μ' := (sL (mCP (sL M 2 (mx (mx (mx h (fsV none)) (((oI none)).toInt64)) (((lcM F n f (2 ^ n) 0)).toInt64))) F n f) 2 (hm4 (gA (mCP (sL M 2 (mx (mx (mx h (fsV none)) (((oI none)).toInt64)) (((lcM F n f (2 ^ n) 0)).toInt64))) F n f) 11) (mx (mx (mx h (fsV none)) (((oI none)).toInt64)) (((lcM F n f (2 ^ n) 0)).toInt64)) 0))) rfl ?_
    refine lp_mixF4 C X (M := (mCP (sL M 2 (mx (mx (mx h (fsV none)) (((oI none)).toInt64)) (((lcM F n f (2 ^ n) 0)).toInt64))) F n f)) (h := mx (mx (mx h (fsV none)) (((oI none)).toInt64)) (((lcM F n f (2 ^ n) 0)).toInt64)) ((gI_A _ _ _ _).trans ((gI_L _ _ _ _).trans h6)) hn10 ((gA_n _ _ (by decide)).trans ((gA_L _ _ _ _).trans h5)) hf h1024 h2n ?_ (n + 2) 0 (by omega) (by omega)
    refine r_iconst C (v := (nI 1)) dX11_mixesFamily_202 rfl ?_
    refine r_istore_n C (lv' := [(3, .int (nI 1)), (0, .ref (ad g 19)), (1, .int (nI f))]) 3 dX11_mixesFamily_203 rfl (by decide) rfl ?_
    refine G_lv (lv' := [(3, .int (nI (0 + 1))), (0, .ref (ad g 19)), (1, .int (nI f))]) rfl ?_
    refine G_mem (μ' := (sL (mCP (sL M 2 (mx (mx (mx h (fsV none)) (((oI none)).toInt64)) (((lcM F n f (2 ^ n) 0)).toInt64))) F n f) 2 (hm5 F n f (hm4 (gA (mCP (sL M 2 (mx (mx (mx h (fsV none)) (((oI none)).toInt64)) (((lcM F n f (2 ^ n) 0)).toInt64))) F n f) 11) (mx (mx (mx h (fsV none)) (((oI none)).toInt64)) (((lcM F n f (2 ^ n) 0)).toInt64)) (n + 1)) 0))) rfl ?_
    exact lp_mixF5 C X (M := (mCP (sL M 2 (mx (mx (mx h (fsV none)) (((oI none)).toInt64)) (((lcM F n f (2 ^ n) 0)).toInt64))) F n f)) (h := hm4 (gA (mCP (sL M 2 (mx (mx (mx h (fsV none)) (((oI none)).toInt64)) (((lcM F n f (2 ^ n) 0)).toInt64))) F n f) 11) (mx (mx (mx h (fsV none)) (((oI none)).toInt64)) (((lcM F n f (2 ^ n) 0)).toInt64)) (n + 1)) ((gI_A _ _ _ _).trans ((gI_L _ _ _ _).trans h6)) hn10 ((gA_n _ _ (by decide)).trans ((gA_L _ _ _ _).trans h5)) hf h1024 h2n Rr (n + 1) 0 (by omega) (by omega)
def mfH (F : Nat → Bool) (n f : Nat) (h : Int64) : Int64 := hm3 F n f (hm2 F n f (hm1 F f (mx h (lN (szF F f (-1) (2 ^ n)))) (2 ^ n)) n) 6
def mfW (μ : Mm) (F : Nat → Bool) (n f : Nat) (h : Int64) : Mm := sL (mW (sL μ 2 (mfH F n f h)) (wgF F f n (n + 1)).1 (wgF F f n (n + 1)).2) 2 (mx (mx (mfH F n f h) (lN (wgF F f n (n + 1)).1)) (lN (wgF F f n (n + 1)).2))
def mfM (μ : Mm) (F : Nat → Bool) (n f : Nat) (h : Int64) : Mm := mfT (fsF F n f (2 ^ n) 0 none (mfW μ F n f h)).1 (fsF F n f (2 ^ n) 0 none (mfW μ F n f h)).2 (mx (mx (mfH F n f h) (lN (wgF F f n (n + 1)).1)) (lN (wgF F f n (n + 1)).2)) F n f
set_option maxHeartbeats 1000000 in
set_option maxRecDepth 100000 in
theorem c_mixesFamily (l : Launch) (g : Gd) (μ : Mm) {F : Nat → Bool} {n f : Nat} {h : Int64} (h6 : gI μ 6 = nI n) (hn10 : n ≤ 10) (h5 : gA μ 5 = bR F) (hf : f < 4) (hh : gL μ 2 = h) : Ct l yX11_mixesFamily cX11_mixesFamily 4 none (rmk 4 97) g [.ref (ad g 19), .int (nI f)] μ none (mfM μ F n f h) := by
  have h1024 := pw10 hn10
  have h2n := Nat.two_pow_pos n
  refine Ct.of (by decide) (Nat.le_of_ble_eq_true rfl) (fun z A C X Rr => ?_)
  refine G_mem (μ' := (sL μ 2 h)) (by rw [← hh, sL_i]) ?_
  have hszl := szF_le F f (-1) (2 ^ n)
  refine r_aload_n C dX11_mixesFamily_0 0 rfl ?_
  refine r_aload_n C dX11_mixesFamily_1 0 rfl ?_
  refine r_iload_n C dX11_mixesFamily_2 1 rfl ?_
  refine r_iconst C (v := (-1)) dX11_mixesFamily_3 rfl ?_
  refine r_callV C X (As := [.int (nI f), .int (-1)]) (rest := [.ref (ad g 19)]) (st1 := [.int (nI (szF F f (-1) (2 ^ n))), .ref (ad g 19)]) (μ' := (sL μ 2 h)) (k := 19) (T := TX11) miX11_sizeOf mvX11_sizeOf (c_sizeOf l g (sL μ 2 h) (F := F) (n := n) (f := f) ((gI_L _ _ _ _).trans h6) (by omega) ((gA_L _ _ _ _).trans h5) (by omega) (-1)) hw_5_119 (by decide) rfl rfl rfl ⟨by decide, by decide, rfl, rfl, by decide, by decide⟩ rfl (Nat.le_of_ble_eq_true rfl) dX11_mixesFamily_4 rfl ?_
  refine r_i2l C (v := (lN (szF F f (-1) (2 ^ n)))) dX11_mixesFamily_7 (nI_l (by omega)) ?_
  refine r_callV C X (As := [.long (lN (szF F f (-1) (2 ^ n)))]) (rest := []) (st1 := []) (μ' := (sL (sL μ 2 h) 2 (mx h (lN (szF F f (-1) (2 ^ n)))))) (k := 19) (T := TX11) miX11_mixes mvX11_mixes (c_mixes l g (sL μ 2 h) (h := h) (gL_s _ _ _) (lN (szF F f (-1) (2 ^ n)))) hw_6_84 (by decide) rfl rfl rfl ⟨by decide, by decide, rfl, rfl, by decide, by decide⟩ rfl (Nat.le_of_ble_eq_true rfl) dX11_mixesFamily_8 rfl ?_
  refine G_mem (μ' := (sL μ 2 (mx h (lN (szF F f (-1) (2 ^ n)))))) (sL_u _ _ _ _) ?_
  refine r_iconst C (v := (nI 0)) dX11_mixesFamily_11 rfl ?_
  refine r_istore_n C (lv' := [(2, .int (nI 0)), (0, .ref (ad g 19)), (1, .int (nI f))]) 2 dX11_mixesFamily_12 rfl (by decide) rfl ?_
  refine G_mem (μ' := (sL μ 2 (hm1 F f (mx h (lN (szF F f (-1) (2 ^ n)))) 0))) rfl ?_
  refine lp_mixF1 C X (M := μ) (h := mx h (lN (szF F f (-1) (2 ^ n)))) h6 hn10 h5 hf h1024 h2n ?_ (2 ^ n + 1) 0 (by omega) (by omega)
  refine r_iconst C (v := (nI 0)) dX11_mixesFamily_48 rfl ?_
  refine r_istore_n C (lv' := [(2, .int (nI 0)), (0, .ref (ad g 19)), (1, .int (nI f))]) 2 dX11_mixesFamily_49 rfl (by decide) rfl ?_
  refine G_mem (μ' := (sL μ 2 (hm2 F n f (hm1 F f (mx h (lN (szF F f (-1) (2 ^ n)))) (2 ^ n)) 0))) rfl ?_
  refine lp_mixF2 C X (M := μ) (h := hm1 F f (mx h (lN (szF F f (-1) (2 ^ n)))) (2 ^ n)) h6 hn10 h5 hf h1024 h2n ?_ (n + 1) 0 (by omega) (by omega)
  refine r_iconst C (v := (nI 0)) dX11_mixesFamily_75 rfl ?_
  refine r_istore_n C (lv' := [(2, .int (nI 0)), (0, .ref (ad g 19)), (1, .int (nI f))]) 2 dX11_mixesFamily_76 rfl (by decide) rfl ?_
  refine G_mem (μ' := (sL μ 2 (hm3 F n f (hm2 F n f (hm1 F f (mx h (lN (szF F f (-1) (2 ^ n)))) (2 ^ n)) n) 0))) rfl ?_
  refine lp_mixF3 C X (M := μ) (h := hm2 F n f (hm1 F f (mx h (lN (szF F f (-1) (2 ^ n)))) (2 ^ n)) n) h6 hn10 h5 hf h1024 h2n ?_ (6 + 1) 0 (by omega) (by omega)
  refine r_aload_n C dX11_mixesFamily_107 0 rfl ?_
  refine r_iload_n C dX11_mixesFamily_108 1 rfl ?_
  refine r_callV C X (As := [.int (nI f)]) (rest := []) (st1 := []) (μ' := (mW (sL μ 2 (hm3 F n f (hm2 F n f (hm1 F f (mx h (lN (szF F f (-1) (2 ^ n)))) (2 ^ n)) n) 6)) (wgF F f n (n + 1)).1 (wgF F f n (n + 1)).2)) (k := 19) (T := TX11) miX11_weighs mvX11_weighs (c_weighs l g (sL μ 2 (hm3 F n f (hm2 F n f (hm1 F f (mx h (lN (szF F f (-1) (2 ^ n)))) (2 ^ n)) n) 6)) (F := F) (n := n) (f := f) ((gI_L _ _ _ _).trans h6) hn10 ((gA_L _ _ _ _).trans h5) hf) hw_6_16 (by decide) rfl rfl rfl ⟨by decide, by decide, rfl, rfl, by decide, by decide⟩ rfl (Nat.le_of_ble_eq_true rfl) dX11_mixesFamily_109 rfl ?_
  refine G_mem (μ' := (sL (mW (sL μ 2 (hm3 F n f (hm2 F n f (hm1 F f (mx h (lN (szF F f (-1) (2 ^ n)))) (2 ^ n)) n) 6)) (wgF F f n (n + 1)).1 (wgF F f n (n + 1)).2) 2 (hm3 F n f (hm2 F n f (hm1 F f (mx h (lN (szF F f (-1) (2 ^ n)))) (2 ^ n)) n) 6))) (show _ = sL _ 2 _ from (sL_i _ 2).symm) ?_
  refine r_aload_n C dX11_mixesFamily_112 0 rfl ?_
  refine r_aload_n C dX11_mixesFamily_113 0 rfl ?_
  refine r_get C X (k := 19) (R := RX11) (T := TX11) (N := 15) (n := 9) (v := .long (gL (sL (mW (sL μ 2 (hm3 F n f (hm2 F n f (hm1 F f (mx h (lN (szF F f (-1) (2 ^ n)))) (2 ^ n)) n) 6)) (wgF F f n (n + 1)).1 (wgF F f n (n + 1)).2) 2 (hm3 F n f (hm2 F n f (hm1 F f (mx h (lN (szF F f (-1) (2 ^ n)))) (2 ^ n)) n) 6)) 0)) (by decide) rfl rfl inw11 (by decide) rfl hw_5_27 rfl dX11_mixesFamily_114 ?_
  refine G_topl (y := (lN ((wgF F f n (n + 1)).1))) rfl ?_
  refine r_callV C X (As := [.long (lN ((wgF F f n (n + 1)).1))]) (rest := []) (st1 := []) (μ' := (sL (sL (mW (sL μ 2 (hm3 F n f (hm2 F n f (hm1 F f (mx h (lN (szF F f (-1) (2 ^ n)))) (2 ^ n)) n) 6)) (wgF F f n (n + 1)).1 (wgF F f n (n + 1)).2) 2 (hm3 F n f (hm2 F n f (hm1 F f (mx h (lN (szF F f (-1) (2 ^ n)))) (2 ^ n)) n) 6)) 2 (mx (hm3 F n f (hm2 F n f (hm1 F f (mx h (lN (szF F f (-1) (2 ^ n)))) (2 ^ n)) n) 6) (lN ((wgF F f n (n + 1)).1))))) (k := 19) (T := TX11) miX11_mixes mvX11_mixes (c_mixes l g (sL (mW (sL μ 2 (hm3 F n f (hm2 F n f (hm1 F f (mx h (lN (szF F f (-1) (2 ^ n)))) (2 ^ n)) n) 6)) (wgF F f n (n + 1)).1 (wgF F f n (n + 1)).2) 2 (hm3 F n f (hm2 F n f (hm1 F f (mx h (lN (szF F f (-1) (2 ^ n)))) (2 ^ n)) n) 6)) (h := hm3 F n f (hm2 F n f (hm1 F f (mx h (lN (szF F f (-1) (2 ^ n)))) (2 ^ n)) n) 6) (gL_s _ _ _) (lN ((wgF F f n (n + 1)).1))) hw_6_84 (by decide) rfl rfl rfl ⟨by decide, by decide, rfl, rfl, by decide, by decide⟩ rfl (Nat.le_of_ble_eq_true rfl) dX11_mixesFamily_117 rfl ?_
  refine G_mem (μ' := (sL (mW (sL μ 2 (hm3 F n f (hm2 F n f (hm1 F f (mx h (lN (szF F f (-1) (2 ^ n)))) (2 ^ n)) n) 6)) (wgF F f n (n + 1)).1 (wgF F f n (n + 1)).2) 2 (mx (hm3 F n f (hm2 F n f (hm1 F f (mx h (lN (szF F f (-1) (2 ^ n)))) (2 ^ n)) n) 6) (lN ((wgF F f n (n + 1)).1))))) (sL_u _ _ _ _) ?_
  refine r_aload_n C dX11_mixesFamily_120 0 rfl ?_
  refine r_aload_n C dX11_mixesFamily_121 0 rfl ?_
  refine r_get C X (k := 19) (R := RX11) (T := TX11) (N := 15) (n := 10) (v := .long (gL (sL (mW (sL μ 2 (hm3 F n f (hm2 F n f (hm1 F f (mx h (lN (szF F f (-1) (2 ^ n)))) (2 ^ n)) n) 6)) (wgF F f n (n + 1)).1 (wgF F f n (n + 1)).2) 2 (mx (hm3 F n f (hm2 F n f (hm1 F f (mx h (lN (szF F f (-1) (2 ^ n)))) (2 ^ n)) n) 6) (lN ((wgF F f n (n + 1)).1)))) 1)) (by decide) rfl rfl inw11 (by decide) rfl hw_5_28 rfl dX11_mixesFamily_122 ?_
  refine G_topl (y := (lN ((wgF F f n (n + 1)).2))) rfl ?_
  refine r_callV C X (As := [.long (lN ((wgF F f n (n + 1)).2))]) (rest := []) (st1 := []) (μ' := (sL (sL (mW (sL μ 2 (hm3 F n f (hm2 F n f (hm1 F f (mx h (lN (szF F f (-1) (2 ^ n)))) (2 ^ n)) n) 6)) (wgF F f n (n + 1)).1 (wgF F f n (n + 1)).2) 2 (mx (hm3 F n f (hm2 F n f (hm1 F f (mx h (lN (szF F f (-1) (2 ^ n)))) (2 ^ n)) n) 6) (lN ((wgF F f n (n + 1)).1)))) 2 (mx (mx (hm3 F n f (hm2 F n f (hm1 F f (mx h (lN (szF F f (-1) (2 ^ n)))) (2 ^ n)) n) 6) (lN ((wgF F f n (n + 1)).1))) (lN ((wgF F f n (n + 1)).2))))) (k := 19) (T := TX11) miX11_mixes mvX11_mixes (c_mixes l g (sL (mW (sL μ 2 (hm3 F n f (hm2 F n f (hm1 F f (mx h (lN (szF F f (-1) (2 ^ n)))) (2 ^ n)) n) 6)) (wgF F f n (n + 1)).1 (wgF F f n (n + 1)).2) 2 (mx (hm3 F n f (hm2 F n f (hm1 F f (mx h (lN (szF F f (-1) (2 ^ n)))) (2 ^ n)) n) 6) (lN ((wgF F f n (n + 1)).1)))) (h := mx (hm3 F n f (hm2 F n f (hm1 F f (mx h (lN (szF F f (-1) (2 ^ n)))) (2 ^ n)) n) 6) (lN ((wgF F f n (n + 1)).1))) (gL_s _ _ _) (lN ((wgF F f n (n + 1)).2))) hw_6_84 (by decide) rfl rfl rfl ⟨by decide, by decide, rfl, rfl, by decide, by decide⟩ rfl (Nat.le_of_ble_eq_true rfl) dX11_mixesFamily_125 rfl ?_
  refine G_mem (μ' := (sL (mW (sL μ 2 (hm3 F n f (hm2 F n f (hm1 F f (mx h (lN (szF F f (-1) (2 ^ n)))) (2 ^ n)) n) 6)) (wgF F f n (n + 1)).1 (wgF F f n (n + 1)).2) 2 (mx (mx (hm3 F n f (hm2 F n f (hm1 F f (mx h (lN (szF F f (-1) (2 ^ n)))) (2 ^ n)) n) 6) (lN ((wgF F f n (n + 1)).1))) (lN ((wgF F f n (n + 1)).2))))) (sL_u _ _ _ _) ?_
  refine r_aload_n C dX11_mixesFamily_128 0 rfl ?_
  refine r_iload_n C dX11_mixesFamily_129 1 rfl ?_
  refine r_callV C X (As := [.int (nI f)]) (rest := []) (st1 := [.int (oI (fsF F n f (2 ^ n) 0 none (sL (mW (sL μ 2 (hm3 F n f (hm2 F n f (hm1 F f (mx h (lN (szF F f (-1) (2 ^ n)))) (2 ^ n)) n) 6)) (wgF F f n (n + 1)).1 (wgF F f n (n + 1)).2) 2 (mx (mx (hm3 F n f (hm2 F n f (hm1 F f (mx h (lN (szF F f (-1) (2 ^ n)))) (2 ^ n)) n) 6) (lN ((wgF F f n (n + 1)).1))) (lN ((wgF F f n (n + 1)).2))))).2)]) (μ' := (fsF F n f (2 ^ n) 0 none (sL (mW (sL μ 2 (hm3 F n f (hm2 F n f (hm1 F f (mx h (lN (szF F f (-1) (2 ^ n)))) (2 ^ n)) n) 6)) (wgF F f n (n + 1)).1 (wgF F f n (n + 1)).2) 2 (mx (mx (hm3 F n f (hm2 F n f (hm1 F f (mx h (lN (szF F f (-1) (2 ^ n)))) (2 ^ n)) n) 6) (lN ((wgF F f n (n + 1)).1))) (lN ((wgF F f n (n + 1)).2))))).1) (k := 19) (T := TX11) miX11_firstShattered mvX11_firstShattered (c_firstShattered l g (sL (mW (sL μ 2 (hm3 F n f (hm2 F n f (hm1 F f (mx h (lN (szF F f (-1) (2 ^ n)))) (2 ^ n)) n) 6)) (wgF F f n (n + 1)).1 (wgF F f n (n + 1)).2) 2 (mx (mx (hm3 F n f (hm2 F n f (hm1 F f (mx h (lN (szF F f (-1) (2 ^ n)))) (2 ^ n)) n) 6) (lN ((wgF F f n (n + 1)).1))) (lN ((wgF F f n (n + 1)).2)))) (F := F) (n := n) (f := f) ((gI_L _ _ _ _).trans h6) hn10 ((gA_L _ _ _ _).trans h5) hf) hw_6_27 (by decide) rfl rfl rfl ⟨by decide, by decide, rfl, rfl, by decide, by decide⟩ rfl (Nat.le_of_ble_eq_true rfl) dX11_mixesFamily_130 rfl ?_
  refine G_mem (μ' := (sL (fsF F n f (2 ^ n) 0 none (sL (mW (sL μ 2 (hm3 F n f (hm2 F n f (hm1 F f (mx h (lN (szF F f (-1) (2 ^ n)))) (2 ^ n)) n) 6)) (wgF F f n (n + 1)).1 (wgF F f n (n + 1)).2) 2 (mx (mx (hm3 F n f (hm2 F n f (hm1 F f (mx h (lN (szF F f (-1) (2 ^ n)))) (2 ^ n)) n) 6) (lN ((wgF F f n (n + 1)).1))) (lN ((wgF F f n (n + 1)).2))))).1 2 (mx (mx (hm3 F n f (hm2 F n f (hm1 F f (mx h (lN (szF F f (-1) (2 ^ n)))) (2 ^ n)) n) 6) (lN ((wgF F f n (n + 1)).1))) (lN ((wgF F f n (n + 1)).2))))) ((sL_i _ 2).symm.trans (congrArg (sL _ 2) (((fsF_fr F n f _ _ _ _).2.2 2).trans (gL_s _ _ _)))) ?_
  refine r_istore_n C (lv' := [(2, .int (oI (fsF F n f (2 ^ n) 0 none (sL (mW (sL μ 2 (hm3 F n f (hm2 F n f (hm1 F f (mx h (lN (szF F f (-1) (2 ^ n)))) (2 ^ n)) n) 6)) (wgF F f n (n + 1)).1 (wgF F f n (n + 1)).2) 2 (mx (mx (hm3 F n f (hm2 F n f (hm1 F f (mx h (lN (szF F f (-1) (2 ^ n)))) (2 ^ n)) n) 6) (lN ((wgF F f n (n + 1)).1))) (lN ((wgF F f n (n + 1)).2))))).2)), (0, .ref (ad g 19)), (1, .int (nI f))]) 2 dX11_mixesFamily_133 rfl (by decide) rfl ?_
  exact tl_mixesFamily C X (M := (fsF F n f (2 ^ n) 0 none (sL (mW (sL μ 2 (hm3 F n f (hm2 F n f (hm1 F f (mx h (lN (szF F f (-1) (2 ^ n)))) (2 ^ n)) n) 6)) (wgF F f n (n + 1)).1 (wgF F f n (n + 1)).2) 2 (mx (mx (hm3 F n f (hm2 F n f (hm1 F f (mx h (lN (szF F f (-1) (2 ^ n)))) (2 ^ n)) n) 6) (lN ((wgF F f n (n + 1)).1))) (lN ((wgF F f n (n + 1)).2))))).1) (b := (fsF F n f (2 ^ n) 0 none (sL (mW (sL μ 2 (hm3 F n f (hm2 F n f (hm1 F f (mx h (lN (szF F f (-1) (2 ^ n)))) (2 ^ n)) n) 6)) (wgF F f n (n + 1)).1 (wgF F f n (n + 1)).2) 2 (mx (mx (hm3 F n f (hm2 F n f (hm1 F f (mx h (lN (szF F f (-1) (2 ^ n)))) (2 ^ n)) n) 6) (lN ((wgF F f n (n + 1)).1))) (lN ((wgF F f n (n + 1)).2))))).2) (h := mx (mx (hm3 F n f (hm2 F n f (hm1 F f (mx h (lN (szF F f (-1) (2 ^ n)))) (2 ^ n)) n) 6) (lN ((wgF F f n (n + 1)).1))) (lN ((wgF F f n (n + 1)).2))) (((fsF_fr F n f _ _ _ _).1 6 (by decide)).trans h6) hn10 (((fsF_fr F n f _ _ _ _).2.1 5 (by decide)).trans h5) hf h1024 h2n (fsF_lt F n f 1024 _ _ _ _ (by omega) (fun c q => by cases q)) Rr
