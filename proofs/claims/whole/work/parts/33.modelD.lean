def htF (F : Nat → Bool) (f e : Nat) : Nat → Nat → Bool
  | 0, _ => true
  | r + 1, s => if F (1024 * f + s) = true ∧ s &&& e = 0 then false else htF F f e r (s + 1)
theorem htF_r (F : Nat → Bool) (f e : Nat) (b : Bool) : ∀ r s, b = false → (if b = true then htF F f e r s else false) = false := fun r s h => by rw [h]; rfl
set_option maxHeartbeats 1000000 in
set_option maxRecDepth 100000 in
theorem lp_hits {z : Zt} {A : Nat → Prop} {l : Launch} {g : Gd} {μ : Mm} (C : Cx z A l (rmk 1 20) cX11_hits 5 "SetFamiliesModel") (X : Kx z g A) {F : Nat → Bool} {n f e : Nat} (h6 : gI μ 6 = nI n) (hn10 : n ≤ 10) (h5 : gA μ 5 = bR F) (hf : f < 4) (he : e < 1024) (h1024 : 2 ^ n ≤ 1024) (h2n : 0 < 2 ^ n) : ∀ (n_ : Nat) (s : Nat) (d : Bool), 2 ^ n - s < n_ → s ≤ 2 ^ n → Rx z g A (some .boolean) (some (.int (bI (if d = true then htF F f e (2 ^ n - s) s else false)))) μ → G z g.1 A 5 (wd g μ) 0 0 5 [(4, .int (nI s)), (3, .int (bI d)), (0, .ref (ad g 19)), (1, .int (nI f)), (2, .int (nI e))] [] := by
  intro n_
  induction n_ with
  | zero => intro s d hm_; exact absurd hm_ (Nat.not_lt_zero _)
  | succ n_ ih =>
    intro s d hm_ hs Rr
    refine r_iload C dX11_hits_5 0 rfl ?_
    refine r_aload_n C dX11_hits_7 2 rfl ?_
    refine r_callV C X (As := []) (rest := [.int (nI s)]) (st1 := [.int (nI (2 ^ n)), .int (nI s)]) (μ' := μ) (k := 19) (T := TX11) miX11_codes mvX11_codes (c_codes l g μ (n := n) h6 (by omega)) hw_5_99 (by decide) rfl rfl rfl ⟨by decide, by decide, rfl, rfl, by decide, by decide⟩ rfl (Nat.le_of_ble_eq_true rfl) dX11_hits_8 rfl ?_
    refine r_icmp_ge C 53 dX11_hits_11 (by decide) (nI_leI (by omega) (by omega)) (fun h11 => ?_) (fun h11 => ?_)
    · rw [show 2 ^ n - s = 0 by omega, htF, show (if d = true then true else false) = d by cases d <;> rfl] at Rr
      refine r_iload_n C dX11_hits_53 1 rfl ?_
      exact r_zret C dX11_hits_54 (nar_b _) Rr
    · refine r_iload_n C dX11_hits_14 1 rfl ?_
      refine r_if_eq C 53 dX11_hits_15 (by decide) (bI_eq _) (fun h15 => ?_) (fun h15 => ?_)
      · rw [h15] at Rr
        rw [h15]
        refine r_iload_n C dX11_hits_53 1 rfl ?_
        exact r_zret C dX11_hits_54 (nar_b _) Rr
      · rw [if_pos (ts_t h15), show 2 ^ n - s = (2 ^ n - (s + 1)) + 1 by omega, htF] at Rr
        refine r_aload_n C dX11_hits_18 2 rfl ?_
        refine r_get C X (k := 19) (R := RX11) (T := TX11) (N := 15) (n := 2) (v := .ref (ad g 20)) (by decide) rfl rfl inw11 (by decide) rfl hw_5_20 rfl dX11_hits_19 ?_
        refine r_sipush C (v := (nI 1024)) dX11_hits_22 (by decide) ?_
        refine r_iload_n C dX11_hits_25 3 rfl ?_
        refine r_imul C (v := (nI (1024 * f))) dX11_hits_26 (pk_mul _ _) ?_
        refine r_iload C dX11_hits_27 0 rfl ?_
        refine r_iadd C (v := (nI (1024 * f + s))) dX11_hits_29 (nI_add _ _) ?_
        refine r_zald C X (k := 20) (v := (bI (F (1024 * f + s)))) (by decide) rfl (by omega) (by decide) (bR_at h5 _) dX11_hits_30 ?_
        refine r_if_eq C 41 dX11_hits_31 (by decide) (bI_eq _) (fun h31 => ?_) (fun h31 => ?_)
        · rw [if_neg (fun q => ts_f h31 q.1)] at Rr
          refine r_iconst C (v := (nI 1)) dX11_hits_41 rfl ?_
          refine r_goto C 46 dX11_hits_42 (by decide) ?_
          refine r_istore_n C (lv' := [(3, .int (nI 1)), (4, .int (nI s)), (0, .ref (ad g 19)), (1, .int (nI f)), (2, .int (nI e))]) 3 dX11_hits_46 rfl (by decide) rfl ?_
          refine r_iinc C (v := (nI (s + 1))) (lv' := [(4, .int (nI (s + 1))), (3, .int (nI 1)), (0, .ref (ad g 19)), (1, .int (nI f)), (2, .int (nI e))]) 4 1 dX11_hits_47 rfl (inc_N _ 1) (by decide) rfl ?_
          refine r_goto C 5 dX11_hits_50 (by decide) ?_
          refine G_lv (lv' := [(4, .int (nI (s + 1))), (3, .int (bI true)), (0, .ref (ad g 19)), (1, .int (nI f)), (2, .int (nI e))]) rfl ?_
          exact ih (s + 1) true (by omega) (by omega) Rr
        · refine r_iload C dX11_hits_34 0 rfl ?_
          refine r_iload_n C dX11_hits_36 4 rfl ?_
          refine r_iand C (v := (nI (s &&& e))) dX11_hits_37 (nand _ _) ?_
          refine r_if_eq C 45 dX11_hits_38 (by decide) (zI_eq (Nat.lt_of_le_of_lt Nat.and_le_left (by omega))) (fun h38 => ?_) (fun h38 => ?_)
          · rw [if_pos ⟨ts_t h31, h38⟩] at Rr
            refine r_iconst C (v := (nI 0)) dX11_hits_45 rfl ?_
            refine r_istore_n C (lv' := [(3, .int (nI 0)), (4, .int (nI s)), (0, .ref (ad g 19)), (1, .int (nI f)), (2, .int (nI e))]) 3 dX11_hits_46 rfl (by decide) rfl ?_
            refine r_iinc C (v := (nI (s + 1))) (lv' := [(4, .int (nI (s + 1))), (3, .int (nI 0)), (0, .ref (ad g 19)), (1, .int (nI f)), (2, .int (nI e))]) 4 1 dX11_hits_47 rfl (inc_N _ 1) (by decide) rfl ?_
            refine r_goto C 5 dX11_hits_50 (by decide) ?_
            refine G_lv (lv' := [(4, .int (nI (s + 1))), (3, .int (bI false)), (0, .ref (ad g 19)), (1, .int (nI f)), (2, .int (nI e))]) rfl ?_
            exact ih (s + 1) false (by omega) (by omega) Rr
          · rw [if_neg (fun q => h38 q.2)] at Rr
            refine r_iconst C (v := (nI 1)) dX11_hits_41 rfl ?_
            refine r_goto C 46 dX11_hits_42 (by decide) ?_
            refine r_istore_n C (lv' := [(3, .int (nI 1)), (4, .int (nI s)), (0, .ref (ad g 19)), (1, .int (nI f)), (2, .int (nI e))]) 3 dX11_hits_46 rfl (by decide) rfl ?_
            refine r_iinc C (v := (nI (s + 1))) (lv' := [(4, .int (nI (s + 1))), (3, .int (nI 1)), (0, .ref (ad g 19)), (1, .int (nI f)), (2, .int (nI e))]) 4 1 dX11_hits_47 rfl (inc_N _ 1) (by decide) rfl ?_
            refine r_goto C 5 dX11_hits_50 (by decide) ?_
            refine G_lv (lv' := [(4, .int (nI (s + 1))), (3, .int (bI true)), (0, .ref (ad g 19)), (1, .int (nI f)), (2, .int (nI e))]) rfl ?_
            exact ih (s + 1) true (by omega) (by omega) Rr
set_option maxHeartbeats 1000000 in
set_option maxRecDepth 100000 in
theorem c_hits (l : Launch) (g : Gd) (μ : Mm) {F : Nat → Bool} {n f e : Nat} (h6 : gI μ 6 = nI n) (hn10 : n ≤ 10) (h5 : gA μ 5 = bR F) (hf : f < 4) (he : e < 1024) : Ct l yX11_hits cX11_hits 5 (some .boolean) (rmk 1 20) g [.ref (ad g 19), .int (nI f), .int (nI e)] μ (some (.int (bI (htF F f e (2 ^ n) 0)))) μ := by
  have h1024 := pw10 hn10
  have h2n := Nat.two_pow_pos n
  refine Ct.of (by decide) (Nat.le_of_ble_eq_true rfl) (fun z A C X Rr => ?_)
  refine r_iconst C (v := (nI 1)) dX11_hits_0 rfl ?_
  refine r_istore_n C (lv' := [(3, .int (nI 1)), (0, .ref (ad g 19)), (1, .int (nI f)), (2, .int (nI e))]) 3 dX11_hits_1 rfl (by decide) rfl ?_
  refine r_iconst C (v := (nI 0)) dX11_hits_2 rfl ?_
  refine r_istore C (lv' := [(4, .int (nI 0)), (3, .int (nI 1)), (0, .ref (ad g 19)), (1, .int (nI f)), (2, .int (nI e))]) 4 dX11_hits_3 (by decide) rfl ?_
  refine G_lv (lv' := [(4, .int (nI 0)), (3, .int (bI true)), (0, .ref (ad g 19)), (1, .int (nI f)), (2, .int (nI e))]) rfl ?_
  exact lp_hits C X h6 hn10 h5 hf he h1024 h2n (2 ^ n + 1) 0 true (by omega) (by omega) Rr
def blF (F : Nat → Bool) (n f e : Nat) : Nat → Nat → Bool
  | 0, _ => true
  | r + 1, x => if ¬ e / 2 ^ x &&& 1 = 0 ∧ htF F f (e ^^^ 2 ^ x) (2 ^ n) 0 = true then false else blF F n f e r (x + 1)
theorem x10 {e x : Nat} (he : e < 1024) (hx : x < 10) : e ^^^ 2 ^ x < 1024 := Nat.xor_lt_two_pow (n := 10) he (Nat.pow_lt_pow_right (by decide) hx)
set_option maxHeartbeats 1000000 in
set_option maxRecDepth 100000 in
theorem lp_blocks {z : Zt} {A : Nat → Prop} {l : Launch} {g : Gd} {μ : Mm} (C : Cx z A l (rmk 2 44) cX11_blocks 5 "SetFamiliesModel") (X : Kx z g A) {F : Nat → Bool} {n f e : Nat} (h6 : gI μ 6 = nI n) (hn10 : n ≤ 10) (h5 : gA μ 5 = bR F) (hf : f < 4) (he : e < 1024) : ∀ (n_ : Nat) (x : Nat) (d : Bool), n - x < n_ → x ≤ n → Rx z g A (some .boolean) (some (.int (bI (if d = true then blF F n f e (n - x) x else false)))) μ → G z g.1 A 5 (wd g μ) 0 0 10 [(4, .int (nI x)), (3, .int (bI d)), (0, .ref (ad g 19)), (1, .int (nI f)), (2, .int (nI e))] [] := by
  intro n_
  induction n_ with
  | zero => intro x d hm_; exact absurd hm_ (Nat.not_lt_zero _)
  | succ n_ ih =>
    intro x d hm_ hx Rr
    refine r_iload C dX11_blocks_10 0 rfl ?_
    refine r_aload_n C dX11_blocks_12 2 rfl ?_
    refine r_get C X (k := 19) (R := RX11) (T := TX11) (N := 15) (n := 1) (v := .int (gI μ 6)) (by decide) rfl rfl inw11 (by decide) rfl hw_5_19 rfl dX11_blocks_13 ?_
    refine G_top (y := (nI n)) h6 ?_
    refine r_icmp_ge C 58 dX11_blocks_16 (by decide) (nI_leI (by omega) (by omega)) (fun h16 => ?_) (fun h16 => ?_)
    · rw [show n - x = 0 by omega, blF, show (if d = true then true else false) = d by cases d <;> rfl] at Rr
      refine r_iload_n C dX11_blocks_58 1 rfl ?_
      exact r_zret C dX11_blocks_59 (nar_b _) Rr
    · refine r_iload_n C dX11_blocks_19 1 rfl ?_
      refine r_if_eq C 58 dX11_blocks_20 (by decide) (bI_eq _) (fun h20 => ?_) (fun h20 => ?_)
      · rw [h20] at Rr
        rw [h20]
        refine r_iload_n C dX11_blocks_58 1 rfl ?_
        exact r_zret C dX11_blocks_59 (nar_b _) Rr
      · rw [if_pos (ts_t h20), show n - x = (n - (x + 1)) + 1 by omega, blF] at Rr
        have hx10 := x10 (x := x) he (by omega)
        refine r_iload_n C dX11_blocks_23 4 rfl ?_
        refine r_iload C dX11_blocks_24 0 rfl ?_
        refine r_ishr C (v := (nI (e / 2 ^ x))) dX11_blocks_26 (nshr (by omega) (by omega)) ?_
        refine r_iconst C (v := (nI 1)) dX11_blocks_27 rfl ?_
        refine r_iand C (v := (nI ((e / 2 ^ x) &&& 1))) dX11_blocks_28 (nand _ _) ?_
        refine r_if_eq C 46 dX11_blocks_29 (by decide) (zI_eq (Nat.lt_of_le_of_lt Nat.and_le_right (by decide))) (fun h29 => ?_) (fun h29 => ?_)
        · rw [if_neg (fun q => q.1 h29)] at Rr
          refine r_iconst C (v := (nI 1)) dX11_blocks_46 rfl ?_
          refine r_goto C 51 dX11_blocks_47 (by decide) ?_
          refine r_istore_n C (lv' := [(3, .int (nI 1)), (4, .int (nI x)), (0, .ref (ad g 19)), (1, .int (nI f)), (2, .int (nI e))]) 3 dX11_blocks_51 rfl (by decide) rfl ?_
          refine r_iinc C (v := (nI (x + 1))) (lv' := [(4, .int (nI (x + 1))), (3, .int (nI 1)), (0, .ref (ad g 19)), (1, .int (nI f)), (2, .int (nI e))]) 4 1 dX11_blocks_52 rfl (inc_N _ 1) (by decide) rfl ?_
          refine r_goto C 10 dX11_blocks_55 (by decide) ?_
          refine G_lv (lv' := [(4, .int (nI (x + 1))), (3, .int (bI true)), (0, .ref (ad g 19)), (1, .int (nI f)), (2, .int (nI e))]) rfl ?_
          exact ih (x + 1) true (by omega) (by omega) Rr
        · refine r_aload_n C dX11_blocks_32 2 rfl ?_
          refine r_iload_n C dX11_blocks_33 3 rfl ?_
          refine r_iload_n C dX11_blocks_34 4 rfl ?_
          refine r_iconst C (v := (nI 1)) dX11_blocks_35 rfl ?_
          refine r_iload C dX11_blocks_36 0 rfl ?_
          refine r_ishl C (v := (nI (2 ^ x))) dX11_blocks_38 (nshl1 (by omega)) ?_
          refine r_ixor C (v := (nI (e ^^^ (2 ^ x)))) dX11_blocks_39 (nxor _ _) ?_
          refine r_callV C X (As := [.int (nI f), .int (nI (e ^^^ (2 ^ x)))]) (rest := []) (st1 := [.int (bI (htF F f (e ^^^ (2 ^ x)) (2 ^ n) 0))]) (μ' := μ) (k := 19) (T := TX11) miX11_hits mvX11_hits (c_hits l g μ (F := F) (n := n) (f := f) (e := e ^^^ (2 ^ x)) h6 (by omega) h5 (by omega) (by omega)) hw_5_178 (by decide) rfl rfl rfl ⟨by decide, by decide, rfl, rfl, by decide, by decide⟩ rfl (Nat.le_of_ble_eq_true rfl) dX11_blocks_40 rfl ?_
          refine r_if_ne C 50 dX11_blocks_43 (by decide) (bI_ne _) (fun h43 => ?_) (fun h43 => ?_)
          · rw [if_pos ⟨h29, h43⟩] at Rr
            refine r_iconst C (v := (nI 0)) dX11_blocks_50 rfl ?_
            refine r_istore_n C (lv' := [(3, .int (nI 0)), (4, .int (nI x)), (0, .ref (ad g 19)), (1, .int (nI f)), (2, .int (nI e))]) 3 dX11_blocks_51 rfl (by decide) rfl ?_
            refine r_iinc C (v := (nI (x + 1))) (lv' := [(4, .int (nI (x + 1))), (3, .int (nI 0)), (0, .ref (ad g 19)), (1, .int (nI f)), (2, .int (nI e))]) 4 1 dX11_blocks_52 rfl (inc_N _ 1) (by decide) rfl ?_
            refine r_goto C 10 dX11_blocks_55 (by decide) ?_
            refine G_lv (lv' := [(4, .int (nI (x + 1))), (3, .int (bI false)), (0, .ref (ad g 19)), (1, .int (nI f)), (2, .int (nI e))]) rfl ?_
            exact ih (x + 1) false (by omega) (by omega) Rr
          · rw [if_neg (fun q => h43 q.2)] at Rr
            refine r_iconst C (v := (nI 1)) dX11_blocks_46 rfl ?_
            refine r_goto C 51 dX11_blocks_47 (by decide) ?_
            refine r_istore_n C (lv' := [(3, .int (nI 1)), (4, .int (nI x)), (0, .ref (ad g 19)), (1, .int (nI f)), (2, .int (nI e))]) 3 dX11_blocks_51 rfl (by decide) rfl ?_
            refine r_iinc C (v := (nI (x + 1))) (lv' := [(4, .int (nI (x + 1))), (3, .int (nI 1)), (0, .ref (ad g 19)), (1, .int (nI f)), (2, .int (nI e))]) 4 1 dX11_blocks_52 rfl (inc_N _ 1) (by decide) rfl ?_
            refine r_goto C 10 dX11_blocks_55 (by decide) ?_
            refine G_lv (lv' := [(4, .int (nI (x + 1))), (3, .int (bI true)), (0, .ref (ad g 19)), (1, .int (nI f)), (2, .int (nI e))]) rfl ?_
            exact ih (x + 1) true (by omega) (by omega) Rr
set_option maxHeartbeats 1000000 in
set_option maxRecDepth 100000 in
theorem c_blocks (l : Launch) (g : Gd) (μ : Mm) {F : Nat → Bool} {n f e : Nat} (h6 : gI μ 6 = nI n) (hn10 : n ≤ 10) (h5 : gA μ 5 = bR F) (hf : f < 4) (he : e < 1024) : Ct l yX11_blocks cX11_blocks 5 (some .boolean) (rmk 2 44) g [.ref (ad g 19), .int (nI f), .int (nI e)] μ (some (.int (bI (if htF F f e (2 ^ n) 0 = true then blF F n f e n 0 else false)))) μ := by
  refine Ct.of (by decide) (Nat.le_of_ble_eq_true rfl) (fun z A C X Rr => ?_)
  refine r_aload_n C dX11_blocks_0 0 rfl ?_
  refine r_iload_n C dX11_blocks_1 1 rfl ?_
  refine r_iload_n C dX11_blocks_2 2 rfl ?_
  refine r_callV C X (As := [.int (nI f), .int (nI e)]) (rest := []) (st1 := [.int (bI (htF F f e (2 ^ n) 0))]) (μ' := μ) (k := 19) (T := TX11) miX11_hits mvX11_hits (c_hits l g μ (F := F) (n := n) (f := f) (e := e) h6 (by omega) h5 (by omega) (by omega)) hw_5_178 (by decide) rfl rfl rfl ⟨by decide, by decide, rfl, rfl, by decide, by decide⟩ rfl (Nat.le_of_ble_eq_true rfl) dX11_blocks_3 rfl ?_
  refine r_istore_n C (lv' := [(3, .int (bI (htF F f e (2 ^ n) 0))), (0, .ref (ad g 19)), (1, .int (nI f)), (2, .int (nI e))]) 3 dX11_blocks_6 rfl (by decide) rfl ?_
  refine r_iconst C (v := (nI 0)) dX11_blocks_7 rfl ?_
  refine r_istore C (lv' := [(4, .int (nI 0)), (3, .int (bI (htF F f e (2 ^ n) 0))), (0, .ref (ad g 19)), (1, .int (nI f)), (2, .int (nI e))]) 4 dX11_blocks_8 (by decide) rfl ?_
  exact lp_blocks C X h6 hn10 h5 hf he (n + 1) 0 (htF F f e (2 ^ n) 0) (by omega) (by omega) Rr
def blA (F : Nat → Bool) (n f e : Nat) : Bool := if htF F f e (2 ^ n) 0 = true then blF F n f e n 0 else false
def hbC (F : Nat → Bool) (f e : Nat) (up pr : Bool) (s : Nat) : Bool := F (1024 * f + s) && (if up = true then decide (e &&& s = e) else decide (e &&& s = s)) && (!pr || !decide (s = e))
def hbF (F : Nat → Bool) (f e : Nat) (up pr : Bool) : Nat → Nat → Bool
  | 0, _ => false
  | r + 1, s => if hbC F f e up pr s = true then true else hbF F f e up pr r (s + 1)
set_option maxHeartbeats 1000000 in
set_option maxRecDepth 100000 in
theorem lp_hasBelow {z : Zt} {A : Nat → Prop} {l : Launch} {g : Gd} {μ : Mm} (C : Cx z A l (rmk 1 20) cX11_hasBelow 8 "SetFamiliesModel") (X : Kx z g A) {F : Nat → Bool} {n f e : Nat} {up pr : Bool} (h6 : gI μ 6 = nI n) (hn10 : n ≤ 10) (h5 : gA μ 5 = bR F) (hf : f < 4) (he : e < 1024) (h1024 : 2 ^ n ≤ 1024) (h2n : 0 < 2 ^ n) : ∀ (n_ : Nat) (s : Nat) (d : Bool), 2 ^ n - s < n_ → s ≤ 2 ^ n → Rx z g A (some .boolean) (some (.int (bI (if d = true then true else hbF F f e up pr (2 ^ n - s) s)))) μ → G z g.1 A 8 (wd g μ) 0 0 6 [(6, .int (nI s)), (5, .int (bI d)), (0, .ref (ad g 19)), (1, .int (nI f)), (2, .int (nI e)), (3, .int (bI up)), (4, .int (bI pr))] [] := by
  intro n_
  induction n_ with
  | zero => intro s d hm_; exact absurd hm_ (Nat.not_lt_zero _)
  | succ n_ ih =>
    intro s d hm_ hs Rr
    refine r_iload C dX11_hasBelow_6 0 rfl ?_
    refine r_aload_n C dX11_hasBelow_8 2 rfl ?_
    refine r_callV C X (As := []) (rest := [.int (nI s)]) (st1 := [.int (nI (2 ^ n)), .int (nI s)]) (μ' := μ) (k := 19) (T := TX11) miX11_codes mvX11_codes (c_codes l g μ (n := n) h6 (by omega)) hw_5_99 (by decide) rfl rfl rfl ⟨by decide, by decide, rfl, rfl, by decide, by decide⟩ rfl (Nat.le_of_ble_eq_true rfl) dX11_hasBelow_9 rfl ?_
    refine r_icmp_ge C 101 dX11_hasBelow_12 (by decide) (nI_leI (by omega) (by omega)) (fun h12 => ?_) (fun h12 => ?_)
    · rw [show 2 ^ n - s = 0 by omega, hbF, show (if d = true then true else false) = d by cases d <;> rfl] at Rr
      refine r_iload C dX11_hasBelow_101 1 rfl ?_
      exact r_zret C dX11_hasBelow_103 (nar_b _) Rr
    · refine r_iload C dX11_hasBelow_15 1 rfl ?_
      refine r_if_ne C 101 dX11_hasBelow_17 (by decide) (bI_ne _) (fun h17 => ?_) (fun h17 => ?_)
      · rw [h17] at Rr
        rw [h17]
        refine r_iload C dX11_hasBelow_101 1 rfl ?_
        exact r_zret C dX11_hasBelow_103 (nar_b _) Rr
      · rw [if_neg h17, show 2 ^ n - s = (2 ^ n - (s + 1)) + 1 by omega, hbF] at Rr
        refine r_iload_n C dX11_hasBelow_20 5 rfl ?_
        refine r_if_eq C 40 dX11_hasBelow_21 (by decide) (bI_eq _) (fun h21 => ?_) (fun h21 => ?_)
        · refine r_iload_n C dX11_hasBelow_40 4 rfl ?_
          refine r_iload C dX11_hasBelow_41 0 rfl ?_
          refine r_iand C (v := (nI (e &&& s))) dX11_hasBelow_43 (nand _ _) ?_
          refine r_iload C dX11_hasBelow_44 0 rfl ?_
          refine r_icmp_ne C 53 dX11_hasBelow_46 (by decide) (not_congr (nI_eq (Nat.lt_of_le_of_lt Nat.and_le_left (by omega)) (by omega))) (fun h46 => ?_) (fun h46 => ?_)
          · refine r_iconst C (v := (nI 0)) dX11_hasBelow_53 rfl ?_
            refine G_top (y := (bI (if up = true then decide (e &&& s = e) else decide (e &&& s = s)))) (by rw [if_neg (ts_f h21), decide_eq_false h46]; rfl) ?_
            refine r_istore C (lv' := [(7, .int (bI (if up = true then decide (e &&& s = e) else decide (e &&& s = s)))), (6, .int (nI s)), (5, .int (bI d)), (0, .ref (ad g 19)), (1, .int (nI f)), (2, .int (nI e)), (3, .int (bI up)), (4, .int (bI pr))]) 7 dX11_hasBelow_54 (by decide) rfl ?_
            refine r_aload_n C dX11_hasBelow_56 3 rfl ?_
            refine r_get C X (k := 19) (R := RX11) (T := TX11) (N := 15) (n := 2) (v := .ref (ad g 20)) (by decide) rfl rfl inw11 (by decide) rfl hw_5_20 rfl dX11_hasBelow_57 ?_
            refine r_sipush C (v := (nI 1024)) dX11_hasBelow_60 (by decide) ?_
            refine r_iload_n C dX11_hasBelow_63 4 rfl ?_
            refine r_imul C (v := (nI (1024 * f))) dX11_hasBelow_64 (pk_mul _ _) ?_
            refine r_iload C dX11_hasBelow_65 1 rfl ?_
            refine r_iadd C (v := (nI (1024 * f + s))) dX11_hasBelow_67 (nI_add _ _) ?_
            refine r_zald C X (k := 20) (v := (bI (F (1024 * f + s)))) (by decide) rfl (by omega) (by decide) (bR_at h5 _) dX11_hasBelow_68 ?_
            refine r_if_eq C 92 dX11_hasBelow_69 (by decide) (bI_eq _) (fun h69 => ?_) (fun h69 => ?_)
            · refine r_iconst C (v := (nI 0)) dX11_hasBelow_92 rfl ?_
              refine G_top (y := (bI (hbC F f e up pr s))) (b0 (show hbC F f e up pr s = false by unfold hbC; rw [h69]; rfl)) ?_
              refine r_istore C (lv' := [(5, .int (bI (hbC F f e up pr s))), (7, .int (bI (if up = true then decide (e &&& s = e) else decide (e &&& s = s)))), (6, .int (nI s)), (0, .ref (ad g 19)), (1, .int (nI f)), (2, .int (nI e)), (3, .int (bI up)), (4, .int (bI pr))]) 5 dX11_hasBelow_93 (by decide) rfl ?_
              refine r_iinc C (v := (nI (s + 1))) (lv' := [(6, .int (nI (s + 1))), (5, .int (bI (hbC F f e up pr s))), (7, .int (bI (if up = true then decide (e &&& s = e) else decide (e &&& s = s)))), (0, .ref (ad g 19)), (1, .int (nI f)), (2, .int (nI e)), (3, .int (bI up)), (4, .int (bI pr))]) 6 2 dX11_hasBelow_95 rfl (inc_N _ 1) (by decide) rfl ?_
              refine r_goto C 6 dX11_hasBelow_98 (by decide) ?_
              refine G_sub (lv' := [(6, .int (nI (s + 1))), (5, .int (bI (hbC F f e up pr s))), (0, .ref (ad g 19)), (1, .int (nI f)), (2, .int (nI e)), (3, .int (bI up)), (4, .int (bI pr))]) [0, 1, 3, 4, 5, 6, 7] rfl ?_
              exact ih (s + 1) (hbC F f e up pr s) (by omega) (by omega) Rr
            · refine r_iload C dX11_hasBelow_72 0 rfl ?_
              refine r_if_eq C 92 dX11_hasBelow_74 (by decide) (bI_eq _) (fun h74 => ?_) (fun h74 => ?_)
              · refine r_iconst C (v := (nI 0)) dX11_hasBelow_92 rfl ?_
                refine G_top (y := (bI (hbC F f e up pr s))) (b0 (show hbC F f e up pr s = false by unfold hbC; rw [h74, Bool.and_false]; rfl)) ?_
                refine r_istore C (lv' := [(5, .int (bI (hbC F f e up pr s))), (7, .int (bI (if up = true then decide (e &&& s = e) else decide (e &&& s = s)))), (6, .int (nI s)), (0, .ref (ad g 19)), (1, .int (nI f)), (2, .int (nI e)), (3, .int (bI up)), (4, .int (bI pr))]) 5 dX11_hasBelow_93 (by decide) rfl ?_
                refine r_iinc C (v := (nI (s + 1))) (lv' := [(6, .int (nI (s + 1))), (5, .int (bI (hbC F f e up pr s))), (7, .int (bI (if up = true then decide (e &&& s = e) else decide (e &&& s = s)))), (0, .ref (ad g 19)), (1, .int (nI f)), (2, .int (nI e)), (3, .int (bI up)), (4, .int (bI pr))]) 6 2 dX11_hasBelow_95 rfl (inc_N _ 1) (by decide) rfl ?_
                refine r_goto C 6 dX11_hasBelow_98 (by decide) ?_
                refine G_sub (lv' := [(6, .int (nI (s + 1))), (5, .int (bI (hbC F f e up pr s))), (0, .ref (ad g 19)), (1, .int (nI f)), (2, .int (nI e)), (3, .int (bI up)), (4, .int (bI pr))]) [0, 1, 3, 4, 5, 6, 7] rfl ?_
                exact ih (s + 1) (hbC F f e up pr s) (by omega) (by omega) Rr
              · refine r_iload C dX11_hasBelow_77 7 rfl ?_
                refine r_if_eq C 88 dX11_hasBelow_79 (by decide) (bI_eq _) (fun h79 => ?_) (fun h79 => ?_)
                · refine r_iconst C (v := (nI 1)) dX11_hasBelow_88 rfl ?_
                  refine r_goto C 93 dX11_hasBelow_89 (by decide) ?_
                  refine G_top (y := (bI (hbC F f e up pr s))) (b1 (show hbC F f e up pr s = true by unfold hbC; rw [ts_t h69, ts_t h74, h79]; rfl)) ?_
                  refine r_istore C (lv' := [(5, .int (bI (hbC F f e up pr s))), (7, .int (bI (if up = true then decide (e &&& s = e) else decide (e &&& s = s)))), (6, .int (nI s)), (0, .ref (ad g 19)), (1, .int (nI f)), (2, .int (nI e)), (3, .int (bI up)), (4, .int (bI pr))]) 5 dX11_hasBelow_93 (by decide) rfl ?_
                  refine r_iinc C (v := (nI (s + 1))) (lv' := [(6, .int (nI (s + 1))), (5, .int (bI (hbC F f e up pr s))), (7, .int (bI (if up = true then decide (e &&& s = e) else decide (e &&& s = s)))), (0, .ref (ad g 19)), (1, .int (nI f)), (2, .int (nI e)), (3, .int (bI up)), (4, .int (bI pr))]) 6 2 dX11_hasBelow_95 rfl (inc_N _ 1) (by decide) rfl ?_
                  refine r_goto C 6 dX11_hasBelow_98 (by decide) ?_
                  refine G_sub (lv' := [(6, .int (nI (s + 1))), (5, .int (bI (hbC F f e up pr s))), (0, .ref (ad g 19)), (1, .int (nI f)), (2, .int (nI e)), (3, .int (bI up)), (4, .int (bI pr))]) [0, 1, 3, 4, 5, 6, 7] rfl ?_
                  exact ih (s + 1) (hbC F f e up pr s) (by omega) (by omega) Rr
                · refine r_iload C dX11_hasBelow_82 1 rfl ?_
                  refine r_iload_n C dX11_hasBelow_84 5 rfl ?_
                  refine r_icmp_eq C 92 dX11_hasBelow_85 (by decide) (nI_eq (by omega) (by omega)) (fun h85 => ?_) (fun h85 => ?_)
                  · refine r_iconst C (v := (nI 0)) dX11_hasBelow_92 rfl ?_
                    refine G_top (y := (bI (hbC F f e up pr s))) (b0 (show hbC F f e up pr s = false by unfold hbC; rw [ts_t h69, ts_t h74, ts_t h79, decide_eq_true h85]; rfl)) ?_
                    refine r_istore C (lv' := [(5, .int (bI (hbC F f e up pr s))), (7, .int (bI (if up = true then decide (e &&& s = e) else decide (e &&& s = s)))), (6, .int (nI s)), (0, .ref (ad g 19)), (1, .int (nI f)), (2, .int (nI e)), (3, .int (bI up)), (4, .int (bI pr))]) 5 dX11_hasBelow_93 (by decide) rfl ?_
                    refine r_iinc C (v := (nI (s + 1))) (lv' := [(6, .int (nI (s + 1))), (5, .int (bI (hbC F f e up pr s))), (7, .int (bI (if up = true then decide (e &&& s = e) else decide (e &&& s = s)))), (0, .ref (ad g 19)), (1, .int (nI f)), (2, .int (nI e)), (3, .int (bI up)), (4, .int (bI pr))]) 6 2 dX11_hasBelow_95 rfl (inc_N _ 1) (by decide) rfl ?_
                    refine r_goto C 6 dX11_hasBelow_98 (by decide) ?_
                    refine G_sub (lv' := [(6, .int (nI (s + 1))), (5, .int (bI (hbC F f e up pr s))), (0, .ref (ad g 19)), (1, .int (nI f)), (2, .int (nI e)), (3, .int (bI up)), (4, .int (bI pr))]) [0, 1, 3, 4, 5, 6, 7] rfl ?_
                    exact ih (s + 1) (hbC F f e up pr s) (by omega) (by omega) Rr
                  · refine r_iconst C (v := (nI 1)) dX11_hasBelow_88 rfl ?_
                    refine r_goto C 93 dX11_hasBelow_89 (by decide) ?_
                    refine G_top (y := (bI (hbC F f e up pr s))) (b1 (show hbC F f e up pr s = true by unfold hbC; rw [ts_t h69, ts_t h74, ts_t h79, decide_eq_false h85]; rfl)) ?_
                    refine r_istore C (lv' := [(5, .int (bI (hbC F f e up pr s))), (7, .int (bI (if up = true then decide (e &&& s = e) else decide (e &&& s = s)))), (6, .int (nI s)), (0, .ref (ad g 19)), (1, .int (nI f)), (2, .int (nI e)), (3, .int (bI up)), (4, .int (bI pr))]) 5 dX11_hasBelow_93 (by decide) rfl ?_
                    refine r_iinc C (v := (nI (s + 1))) (lv' := [(6, .int (nI (s + 1))), (5, .int (bI (hbC F f e up pr s))), (7, .int (bI (if up = true then decide (e &&& s = e) else decide (e &&& s = s)))), (0, .ref (ad g 19)), (1, .int (nI f)), (2, .int (nI e)), (3, .int (bI up)), (4, .int (bI pr))]) 6 2 dX11_hasBelow_95 rfl (inc_N _ 1) (by decide) rfl ?_
                    refine r_goto C 6 dX11_hasBelow_98 (by decide) ?_
                    refine G_sub (lv' := [(6, .int (nI (s + 1))), (5, .int (bI (hbC F f e up pr s))), (0, .ref (ad g 19)), (1, .int (nI f)), (2, .int (nI e)), (3, .int (bI up)), (4, .int (bI pr))]) [0, 1, 3, 4, 5, 6, 7] rfl ?_
                    exact ih (s + 1) (hbC F f e up pr s) (by omega) (by omega) Rr
          · refine r_iconst C (v := (nI 1)) dX11_hasBelow_49 rfl ?_
            refine r_goto C 54 dX11_hasBelow_50 (by decide) ?_
            refine G_top (y := (bI (if up = true then decide (e &&& s = e) else decide (e &&& s = s)))) (by rw [if_neg (ts_f h21), decide_eq_true (Decidable.not_not.mp h46)]; rfl) ?_
            refine r_istore C (lv' := [(7, .int (bI (if up = true then decide (e &&& s = e) else decide (e &&& s = s)))), (6, .int (nI s)), (5, .int (bI d)), (0, .ref (ad g 19)), (1, .int (nI f)), (2, .int (nI e)), (3, .int (bI up)), (4, .int (bI pr))]) 7 dX11_hasBelow_54 (by decide) rfl ?_
            refine r_aload_n C dX11_hasBelow_56 3 rfl ?_
            refine r_get C X (k := 19) (R := RX11) (T := TX11) (N := 15) (n := 2) (v := .ref (ad g 20)) (by decide) rfl rfl inw11 (by decide) rfl hw_5_20 rfl dX11_hasBelow_57 ?_
            refine r_sipush C (v := (nI 1024)) dX11_hasBelow_60 (by decide) ?_
            refine r_iload_n C dX11_hasBelow_63 4 rfl ?_
            refine r_imul C (v := (nI (1024 * f))) dX11_hasBelow_64 (pk_mul _ _) ?_
            refine r_iload C dX11_hasBelow_65 1 rfl ?_
            refine r_iadd C (v := (nI (1024 * f + s))) dX11_hasBelow_67 (nI_add _ _) ?_
            refine r_zald C X (k := 20) (v := (bI (F (1024 * f + s)))) (by decide) rfl (by omega) (by decide) (bR_at h5 _) dX11_hasBelow_68 ?_
            refine r_if_eq C 92 dX11_hasBelow_69 (by decide) (bI_eq _) (fun h69 => ?_) (fun h69 => ?_)
            · refine r_iconst C (v := (nI 0)) dX11_hasBelow_92 rfl ?_
              refine G_top (y := (bI (hbC F f e up pr s))) (b0 (show hbC F f e up pr s = false by unfold hbC; rw [h69]; rfl)) ?_
              refine r_istore C (lv' := [(5, .int (bI (hbC F f e up pr s))), (7, .int (bI (if up = true then decide (e &&& s = e) else decide (e &&& s = s)))), (6, .int (nI s)), (0, .ref (ad g 19)), (1, .int (nI f)), (2, .int (nI e)), (3, .int (bI up)), (4, .int (bI pr))]) 5 dX11_hasBelow_93 (by decide) rfl ?_
              refine r_iinc C (v := (nI (s + 1))) (lv' := [(6, .int (nI (s + 1))), (5, .int (bI (hbC F f e up pr s))), (7, .int (bI (if up = true then decide (e &&& s = e) else decide (e &&& s = s)))), (0, .ref (ad g 19)), (1, .int (nI f)), (2, .int (nI e)), (3, .int (bI up)), (4, .int (bI pr))]) 6 2 dX11_hasBelow_95 rfl (inc_N _ 1) (by decide) rfl ?_
              refine r_goto C 6 dX11_hasBelow_98 (by decide) ?_
              refine G_sub (lv' := [(6, .int (nI (s + 1))), (5, .int (bI (hbC F f e up pr s))), (0, .ref (ad g 19)), (1, .int (nI f)), (2, .int (nI e)), (3, .int (bI up)), (4, .int (bI pr))]) [0, 1, 3, 4, 5, 6, 7] rfl ?_
              exact ih (s + 1) (hbC F f e up pr s) (by omega) (by omega) Rr
            · refine r_iload C dX11_hasBelow_72 0 rfl ?_
              refine r_if_eq C 92 dX11_hasBelow_74 (by decide) (bI_eq _) (fun h74 => ?_) (fun h74 => ?_)
              · refine r_iconst C (v := (nI 0)) dX11_hasBelow_92 rfl ?_
                refine G_top (y := (bI (hbC F f e up pr s))) (b0 (show hbC F f e up pr s = false by unfold hbC; rw [h74, Bool.and_false]; rfl)) ?_
                refine r_istore C (lv' := [(5, .int (bI (hbC F f e up pr s))), (7, .int (bI (if up = true then decide (e &&& s = e) else decide (e &&& s = s)))), (6, .int (nI s)), (0, .ref (ad g 19)), (1, .int (nI f)), (2, .int (nI e)), (3, .int (bI up)), (4, .int (bI pr))]) 5 dX11_hasBelow_93 (by decide) rfl ?_
                refine r_iinc C (v := (nI (s + 1))) (lv' := [(6, .int (nI (s + 1))), (5, .int (bI (hbC F f e up pr s))), (7, .int (bI (if up = true then decide (e &&& s = e) else decide (e &&& s = s)))), (0, .ref (ad g 19)), (1, .int (nI f)), (2, .int (nI e)), (3, .int (bI up)), (4, .int (bI pr))]) 6 2 dX11_hasBelow_95 rfl (inc_N _ 1) (by decide) rfl ?_
                refine r_goto C 6 dX11_hasBelow_98 (by decide) ?_
                refine G_sub (lv' := [(6, .int (nI (s + 1))), (5, .int (bI (hbC F f e up pr s))), (0, .ref (ad g 19)), (1, .int (nI f)), (2, .int (nI e)), (3, .int (bI up)), (4, .int (bI pr))]) [0, 1, 3, 4, 5, 6, 7] rfl ?_
                exact ih (s + 1) (hbC F f e up pr s) (by omega) (by omega) Rr
              · refine r_iload C dX11_hasBelow_77 7 rfl ?_
                refine r_if_eq C 88 dX11_hasBelow_79 (by decide) (bI_eq _) (fun h79 => ?_) (fun h79 => ?_)
                · refine r_iconst C (v := (nI 1)) dX11_hasBelow_88 rfl ?_
                  refine r_goto C 93 dX11_hasBelow_89 (by decide) ?_
                  refine G_top (y := (bI (hbC F f e up pr s))) (b1 (show hbC F f e up pr s = true by unfold hbC; rw [ts_t h69, ts_t h74, h79]; rfl)) ?_
                  refine r_istore C (lv' := [(5, .int (bI (hbC F f e up pr s))), (7, .int (bI (if up = true then decide (e &&& s = e) else decide (e &&& s = s)))), (6, .int (nI s)), (0, .ref (ad g 19)), (1, .int (nI f)), (2, .int (nI e)), (3, .int (bI up)), (4, .int (bI pr))]) 5 dX11_hasBelow_93 (by decide) rfl ?_
                  refine r_iinc C (v := (nI (s + 1))) (lv' := [(6, .int (nI (s + 1))), (5, .int (bI (hbC F f e up pr s))), (7, .int (bI (if up = true then decide (e &&& s = e) else decide (e &&& s = s)))), (0, .ref (ad g 19)), (1, .int (nI f)), (2, .int (nI e)), (3, .int (bI up)), (4, .int (bI pr))]) 6 2 dX11_hasBelow_95 rfl (inc_N _ 1) (by decide) rfl ?_
                  refine r_goto C 6 dX11_hasBelow_98 (by decide) ?_
                  refine G_sub (lv' := [(6, .int (nI (s + 1))), (5, .int (bI (hbC F f e up pr s))), (0, .ref (ad g 19)), (1, .int (nI f)), (2, .int (nI e)), (3, .int (bI up)), (4, .int (bI pr))]) [0, 1, 3, 4, 5, 6, 7] rfl ?_
                  exact ih (s + 1) (hbC F f e up pr s) (by omega) (by omega) Rr
                · refine r_iload C dX11_hasBelow_82 1 rfl ?_
                  refine r_iload_n C dX11_hasBelow_84 5 rfl ?_
                  refine r_icmp_eq C 92 dX11_hasBelow_85 (by decide) (nI_eq (by omega) (by omega)) (fun h85 => ?_) (fun h85 => ?_)
                  · refine r_iconst C (v := (nI 0)) dX11_hasBelow_92 rfl ?_
                    refine G_top (y := (bI (hbC F f e up pr s))) (b0 (show hbC F f e up pr s = false by unfold hbC; rw [ts_t h69, ts_t h74, ts_t h79, decide_eq_true h85]; rfl)) ?_
                    refine r_istore C (lv' := [(5, .int (bI (hbC F f e up pr s))), (7, .int (bI (if up = true then decide (e &&& s = e) else decide (e &&& s = s)))), (6, .int (nI s)), (0, .ref (ad g 19)), (1, .int (nI f)), (2, .int (nI e)), (3, .int (bI up)), (4, .int (bI pr))]) 5 dX11_hasBelow_93 (by decide) rfl ?_
                    refine r_iinc C (v := (nI (s + 1))) (lv' := [(6, .int (nI (s + 1))), (5, .int (bI (hbC F f e up pr s))), (7, .int (bI (if up = true then decide (e &&& s = e) else decide (e &&& s = s)))), (0, .ref (ad g 19)), (1, .int (nI f)), (2, .int (nI e)), (3, .int (bI up)), (4, .int (bI pr))]) 6 2 dX11_hasBelow_95 rfl (inc_N _ 1) (by decide) rfl ?_
                    refine r_goto C 6 dX11_hasBelow_98 (by decide) ?_
                    refine G_sub (lv' := [(6, .int (nI (s + 1))), (5, .int (bI (hbC F f e up pr s))), (0, .ref (ad g 19)), (1, .int (nI f)), (2, .int (nI e)), (3, .int (bI up)), (4, .int (bI pr))]) [0, 1, 3, 4, 5, 6, 7] rfl ?_
                    exact ih (s + 1) (hbC F f e up pr s) (by omega) (by omega) Rr
                  · refine r_iconst C (v := (nI 1)) dX11_hasBelow_88 rfl ?_
                    refine r_goto C 93 dX11_hasBelow_89 (by decide) ?_
                    refine G_top (y := (bI (hbC F f e up pr s))) (b1 (show hbC F f e up pr s = true by unfold hbC; rw [ts_t h69, ts_t h74, ts_t h79, decide_eq_false h85]; rfl)) ?_
                    refine r_istore C (lv' := [(5, .int (bI (hbC F f e up pr s))), (7, .int (bI (if up = true then decide (e &&& s = e) else decide (e &&& s = s)))), (6, .int (nI s)), (0, .ref (ad g 19)), (1, .int (nI f)), (2, .int (nI e)), (3, .int (bI up)), (4, .int (bI pr))]) 5 dX11_hasBelow_93 (by decide) rfl ?_
                    refine r_iinc C (v := (nI (s + 1))) (lv' := [(6, .int (nI (s + 1))), (5, .int (bI (hbC F f e up pr s))), (7, .int (bI (if up = true then decide (e &&& s = e) else decide (e &&& s = s)))), (0, .ref (ad g 19)), (1, .int (nI f)), (2, .int (nI e)), (3, .int (bI up)), (4, .int (bI pr))]) 6 2 dX11_hasBelow_95 rfl (inc_N _ 1) (by decide) rfl ?_
                    refine r_goto C 6 dX11_hasBelow_98 (by decide) ?_
                    refine G_sub (lv' := [(6, .int (nI (s + 1))), (5, .int (bI (hbC F f e up pr s))), (0, .ref (ad g 19)), (1, .int (nI f)), (2, .int (nI e)), (3, .int (bI up)), (4, .int (bI pr))]) [0, 1, 3, 4, 5, 6, 7] rfl ?_
                    exact ih (s + 1) (hbC F f e up pr s) (by omega) (by omega) Rr
        · refine r_iload_n C dX11_hasBelow_24 4 rfl ?_
          refine r_iload C dX11_hasBelow_25 0 rfl ?_
          refine r_iand C (v := (nI (e &&& s))) dX11_hasBelow_27 (nand _ _) ?_
          refine r_iload_n C dX11_hasBelow_28 4 rfl ?_
          refine r_icmp_ne C 36 dX11_hasBelow_29 (by decide) (not_congr (nI_eq (Nat.lt_of_le_of_lt Nat.and_le_left (by omega)) (by omega))) (fun h29 => ?_) (fun h29 => ?_)
          · refine r_iconst C (v := (nI 0)) dX11_hasBelow_36 rfl ?_
            refine r_goto C 54 dX11_hasBelow_37 (by decide) ?_
            refine G_top (y := (bI (if up = true then decide (e &&& s = e) else decide (e &&& s = s)))) (by rw [if_pos (ts_t h21), decide_eq_false h29]; rfl) ?_
            refine r_istore C (lv' := [(7, .int (bI (if up = true then decide (e &&& s = e) else decide (e &&& s = s)))), (6, .int (nI s)), (5, .int (bI d)), (0, .ref (ad g 19)), (1, .int (nI f)), (2, .int (nI e)), (3, .int (bI up)), (4, .int (bI pr))]) 7 dX11_hasBelow_54 (by decide) rfl ?_
            refine r_aload_n C dX11_hasBelow_56 3 rfl ?_
            refine r_get C X (k := 19) (R := RX11) (T := TX11) (N := 15) (n := 2) (v := .ref (ad g 20)) (by decide) rfl rfl inw11 (by decide) rfl hw_5_20 rfl dX11_hasBelow_57 ?_
            refine r_sipush C (v := (nI 1024)) dX11_hasBelow_60 (by decide) ?_
            refine r_iload_n C dX11_hasBelow_63 4 rfl ?_
            refine r_imul C (v := (nI (1024 * f))) dX11_hasBelow_64 (pk_mul _ _) ?_
            refine r_iload C dX11_hasBelow_65 1 rfl ?_
            refine r_iadd C (v := (nI (1024 * f + s))) dX11_hasBelow_67 (nI_add _ _) ?_
            refine r_zald C X (k := 20) (v := (bI (F (1024 * f + s)))) (by decide) rfl (by omega) (by decide) (bR_at h5 _) dX11_hasBelow_68 ?_
            refine r_if_eq C 92 dX11_hasBelow_69 (by decide) (bI_eq _) (fun h69 => ?_) (fun h69 => ?_)
            · refine r_iconst C (v := (nI 0)) dX11_hasBelow_92 rfl ?_
              refine G_top (y := (bI (hbC F f e up pr s))) (b0 (show hbC F f e up pr s = false by unfold hbC; rw [h69]; rfl)) ?_
              refine r_istore C (lv' := [(5, .int (bI (hbC F f e up pr s))), (7, .int (bI (if up = true then decide (e &&& s = e) else decide (e &&& s = s)))), (6, .int (nI s)), (0, .ref (ad g 19)), (1, .int (nI f)), (2, .int (nI e)), (3, .int (bI up)), (4, .int (bI pr))]) 5 dX11_hasBelow_93 (by decide) rfl ?_
              refine r_iinc C (v := (nI (s + 1))) (lv' := [(6, .int (nI (s + 1))), (5, .int (bI (hbC F f e up pr s))), (7, .int (bI (if up = true then decide (e &&& s = e) else decide (e &&& s = s)))), (0, .ref (ad g 19)), (1, .int (nI f)), (2, .int (nI e)), (3, .int (bI up)), (4, .int (bI pr))]) 6 2 dX11_hasBelow_95 rfl (inc_N _ 1) (by decide) rfl ?_
              refine r_goto C 6 dX11_hasBelow_98 (by decide) ?_
              refine G_sub (lv' := [(6, .int (nI (s + 1))), (5, .int (bI (hbC F f e up pr s))), (0, .ref (ad g 19)), (1, .int (nI f)), (2, .int (nI e)), (3, .int (bI up)), (4, .int (bI pr))]) [0, 1, 3, 4, 5, 6, 7] rfl ?_
              exact ih (s + 1) (hbC F f e up pr s) (by omega) (by omega) Rr
            · refine r_iload C dX11_hasBelow_72 0 rfl ?_
              refine r_if_eq C 92 dX11_hasBelow_74 (by decide) (bI_eq _) (fun h74 => ?_) (fun h74 => ?_)
              · refine r_iconst C (v := (nI 0)) dX11_hasBelow_92 rfl ?_
                refine G_top (y := (bI (hbC F f e up pr s))) (b0 (show hbC F f e up pr s = false by unfold hbC; rw [h74, Bool.and_false]; rfl)) ?_
                refine r_istore C (lv' := [(5, .int (bI (hbC F f e up pr s))), (7, .int (bI (if up = true then decide (e &&& s = e) else decide (e &&& s = s)))), (6, .int (nI s)), (0, .ref (ad g 19)), (1, .int (nI f)), (2, .int (nI e)), (3, .int (bI up)), (4, .int (bI pr))]) 5 dX11_hasBelow_93 (by decide) rfl ?_
                refine r_iinc C (v := (nI (s + 1))) (lv' := [(6, .int (nI (s + 1))), (5, .int (bI (hbC F f e up pr s))), (7, .int (bI (if up = true then decide (e &&& s = e) else decide (e &&& s = s)))), (0, .ref (ad g 19)), (1, .int (nI f)), (2, .int (nI e)), (3, .int (bI up)), (4, .int (bI pr))]) 6 2 dX11_hasBelow_95 rfl (inc_N _ 1) (by decide) rfl ?_
                refine r_goto C 6 dX11_hasBelow_98 (by decide) ?_
                refine G_sub (lv' := [(6, .int (nI (s + 1))), (5, .int (bI (hbC F f e up pr s))), (0, .ref (ad g 19)), (1, .int (nI f)), (2, .int (nI e)), (3, .int (bI up)), (4, .int (bI pr))]) [0, 1, 3, 4, 5, 6, 7] rfl ?_
                exact ih (s + 1) (hbC F f e up pr s) (by omega) (by omega) Rr
              · refine r_iload C dX11_hasBelow_77 7 rfl ?_
                refine r_if_eq C 88 dX11_hasBelow_79 (by decide) (bI_eq _) (fun h79 => ?_) (fun h79 => ?_)
                · refine r_iconst C (v := (nI 1)) dX11_hasBelow_88 rfl ?_
                  refine r_goto C 93 dX11_hasBelow_89 (by decide) ?_
                  refine G_top (y := (bI (hbC F f e up pr s))) (b1 (show hbC F f e up pr s = true by unfold hbC; rw [ts_t h69, ts_t h74, h79]; rfl)) ?_
                  refine r_istore C (lv' := [(5, .int (bI (hbC F f e up pr s))), (7, .int (bI (if up = true then decide (e &&& s = e) else decide (e &&& s = s)))), (6, .int (nI s)), (0, .ref (ad g 19)), (1, .int (nI f)), (2, .int (nI e)), (3, .int (bI up)), (4, .int (bI pr))]) 5 dX11_hasBelow_93 (by decide) rfl ?_
                  refine r_iinc C (v := (nI (s + 1))) (lv' := [(6, .int (nI (s + 1))), (5, .int (bI (hbC F f e up pr s))), (7, .int (bI (if up = true then decide (e &&& s = e) else decide (e &&& s = s)))), (0, .ref (ad g 19)), (1, .int (nI f)), (2, .int (nI e)), (3, .int (bI up)), (4, .int (bI pr))]) 6 2 dX11_hasBelow_95 rfl (inc_N _ 1) (by decide) rfl ?_
                  refine r_goto C 6 dX11_hasBelow_98 (by decide) ?_
                  refine G_sub (lv' := [(6, .int (nI (s + 1))), (5, .int (bI (hbC F f e up pr s))), (0, .ref (ad g 19)), (1, .int (nI f)), (2, .int (nI e)), (3, .int (bI up)), (4, .int (bI pr))]) [0, 1, 3, 4, 5, 6, 7] rfl ?_
                  exact ih (s + 1) (hbC F f e up pr s) (by omega) (by omega) Rr
                · refine r_iload C dX11_hasBelow_82 1 rfl ?_
                  refine r_iload_n C dX11_hasBelow_84 5 rfl ?_
                  refine r_icmp_eq C 92 dX11_hasBelow_85 (by decide) (nI_eq (by omega) (by omega)) (fun h85 => ?_) (fun h85 => ?_)
                  · refine r_iconst C (v := (nI 0)) dX11_hasBelow_92 rfl ?_
                    refine G_top (y := (bI (hbC F f e up pr s))) (b0 (show hbC F f e up pr s = false by unfold hbC; rw [ts_t h69, ts_t h74, ts_t h79, decide_eq_true h85]; rfl)) ?_
                    refine r_istore C (lv' := [(5, .int (bI (hbC F f e up pr s))), (7, .int (bI (if up = true then decide (e &&& s = e) else decide (e &&& s = s)))), (6, .int (nI s)), (0, .ref (ad g 19)), (1, .int (nI f)), (2, .int (nI e)), (3, .int (bI up)), (4, .int (bI pr))]) 5 dX11_hasBelow_93 (by decide) rfl ?_
                    refine r_iinc C (v := (nI (s + 1))) (lv' := [(6, .int (nI (s + 1))), (5, .int (bI (hbC F f e up pr s))), (7, .int (bI (if up = true then decide (e &&& s = e) else decide (e &&& s = s)))), (0, .ref (ad g 19)), (1, .int (nI f)), (2, .int (nI e)), (3, .int (bI up)), (4, .int (bI pr))]) 6 2 dX11_hasBelow_95 rfl (inc_N _ 1) (by decide) rfl ?_
                    refine r_goto C 6 dX11_hasBelow_98 (by decide) ?_
                    refine G_sub (lv' := [(6, .int (nI (s + 1))), (5, .int (bI (hbC F f e up pr s))), (0, .ref (ad g 19)), (1, .int (nI f)), (2, .int (nI e)), (3, .int (bI up)), (4, .int (bI pr))]) [0, 1, 3, 4, 5, 6, 7] rfl ?_
                    exact ih (s + 1) (hbC F f e up pr s) (by omega) (by omega) Rr
                  · refine r_iconst C (v := (nI 1)) dX11_hasBelow_88 rfl ?_
                    refine r_goto C 93 dX11_hasBelow_89 (by decide) ?_
                    refine G_top (y := (bI (hbC F f e up pr s))) (b1 (show hbC F f e up pr s = true by unfold hbC; rw [ts_t h69, ts_t h74, ts_t h79, decide_eq_false h85]; rfl)) ?_
                    refine r_istore C (lv' := [(5, .int (bI (hbC F f e up pr s))), (7, .int (bI (if up = true then decide (e &&& s = e) else decide (e &&& s = s)))), (6, .int (nI s)), (0, .ref (ad g 19)), (1, .int (nI f)), (2, .int (nI e)), (3, .int (bI up)), (4, .int (bI pr))]) 5 dX11_hasBelow_93 (by decide) rfl ?_
                    refine r_iinc C (v := (nI (s + 1))) (lv' := [(6, .int (nI (s + 1))), (5, .int (bI (hbC F f e up pr s))), (7, .int (bI (if up = true then decide (e &&& s = e) else decide (e &&& s = s)))), (0, .ref (ad g 19)), (1, .int (nI f)), (2, .int (nI e)), (3, .int (bI up)), (4, .int (bI pr))]) 6 2 dX11_hasBelow_95 rfl (inc_N _ 1) (by decide) rfl ?_
                    refine r_goto C 6 dX11_hasBelow_98 (by decide) ?_
                    refine G_sub (lv' := [(6, .int (nI (s + 1))), (5, .int (bI (hbC F f e up pr s))), (0, .ref (ad g 19)), (1, .int (nI f)), (2, .int (nI e)), (3, .int (bI up)), (4, .int (bI pr))]) [0, 1, 3, 4, 5, 6, 7] rfl ?_
                    exact ih (s + 1) (hbC F f e up pr s) (by omega) (by omega) Rr
          · refine r_iconst C (v := (nI 1)) dX11_hasBelow_32 rfl ?_
            refine r_goto C 54 dX11_hasBelow_33 (by decide) ?_
            refine G_top (y := (bI (if up = true then decide (e &&& s = e) else decide (e &&& s = s)))) (by rw [if_pos (ts_t h21), decide_eq_true (Decidable.not_not.mp h29)]; rfl) ?_
            refine r_istore C (lv' := [(7, .int (bI (if up = true then decide (e &&& s = e) else decide (e &&& s = s)))), (6, .int (nI s)), (5, .int (bI d)), (0, .ref (ad g 19)), (1, .int (nI f)), (2, .int (nI e)), (3, .int (bI up)), (4, .int (bI pr))]) 7 dX11_hasBelow_54 (by decide) rfl ?_
            refine r_aload_n C dX11_hasBelow_56 3 rfl ?_
            refine r_get C X (k := 19) (R := RX11) (T := TX11) (N := 15) (n := 2) (v := .ref (ad g 20)) (by decide) rfl rfl inw11 (by decide) rfl hw_5_20 rfl dX11_hasBelow_57 ?_
            refine r_sipush C (v := (nI 1024)) dX11_hasBelow_60 (by decide) ?_
            refine r_iload_n C dX11_hasBelow_63 4 rfl ?_
            refine r_imul C (v := (nI (1024 * f))) dX11_hasBelow_64 (pk_mul _ _) ?_
            refine r_iload C dX11_hasBelow_65 1 rfl ?_
            refine r_iadd C (v := (nI (1024 * f + s))) dX11_hasBelow_67 (nI_add _ _) ?_
            refine r_zald C X (k := 20) (v := (bI (F (1024 * f + s)))) (by decide) rfl (by omega) (by decide) (bR_at h5 _) dX11_hasBelow_68 ?_
            refine r_if_eq C 92 dX11_hasBelow_69 (by decide) (bI_eq _) (fun h69 => ?_) (fun h69 => ?_)
            · refine r_iconst C (v := (nI 0)) dX11_hasBelow_92 rfl ?_
              refine G_top (y := (bI (hbC F f e up pr s))) (b0 (show hbC F f e up pr s = false by unfold hbC; rw [h69]; rfl)) ?_
              refine r_istore C (lv' := [(5, .int (bI (hbC F f e up pr s))), (7, .int (bI (if up = true then decide (e &&& s = e) else decide (e &&& s = s)))), (6, .int (nI s)), (0, .ref (ad g 19)), (1, .int (nI f)), (2, .int (nI e)), (3, .int (bI up)), (4, .int (bI pr))]) 5 dX11_hasBelow_93 (by decide) rfl ?_
              refine r_iinc C (v := (nI (s + 1))) (lv' := [(6, .int (nI (s + 1))), (5, .int (bI (hbC F f e up pr s))), (7, .int (bI (if up = true then decide (e &&& s = e) else decide (e &&& s = s)))), (0, .ref (ad g 19)), (1, .int (nI f)), (2, .int (nI e)), (3, .int (bI up)), (4, .int (bI pr))]) 6 2 dX11_hasBelow_95 rfl (inc_N _ 1) (by decide) rfl ?_
              refine r_goto C 6 dX11_hasBelow_98 (by decide) ?_
              refine G_sub (lv' := [(6, .int (nI (s + 1))), (5, .int (bI (hbC F f e up pr s))), (0, .ref (ad g 19)), (1, .int (nI f)), (2, .int (nI e)), (3, .int (bI up)), (4, .int (bI pr))]) [0, 1, 3, 4, 5, 6, 7] rfl ?_
              exact ih (s + 1) (hbC F f e up pr s) (by omega) (by omega) Rr
            · refine r_iload C dX11_hasBelow_72 0 rfl ?_
              refine r_if_eq C 92 dX11_hasBelow_74 (by decide) (bI_eq _) (fun h74 => ?_) (fun h74 => ?_)
              · refine r_iconst C (v := (nI 0)) dX11_hasBelow_92 rfl ?_
                refine G_top (y := (bI (hbC F f e up pr s))) (b0 (show hbC F f e up pr s = false by unfold hbC; rw [h74, Bool.and_false]; rfl)) ?_
                refine r_istore C (lv' := [(5, .int (bI (hbC F f e up pr s))), (7, .int (bI (if up = true then decide (e &&& s = e) else decide (e &&& s = s)))), (6, .int (nI s)), (0, .ref (ad g 19)), (1, .int (nI f)), (2, .int (nI e)), (3, .int (bI up)), (4, .int (bI pr))]) 5 dX11_hasBelow_93 (by decide) rfl ?_
                refine r_iinc C (v := (nI (s + 1))) (lv' := [(6, .int (nI (s + 1))), (5, .int (bI (hbC F f e up pr s))), (7, .int (bI (if up = true then decide (e &&& s = e) else decide (e &&& s = s)))), (0, .ref (ad g 19)), (1, .int (nI f)), (2, .int (nI e)), (3, .int (bI up)), (4, .int (bI pr))]) 6 2 dX11_hasBelow_95 rfl (inc_N _ 1) (by decide) rfl ?_
                refine r_goto C 6 dX11_hasBelow_98 (by decide) ?_
                refine G_sub (lv' := [(6, .int (nI (s + 1))), (5, .int (bI (hbC F f e up pr s))), (0, .ref (ad g 19)), (1, .int (nI f)), (2, .int (nI e)), (3, .int (bI up)), (4, .int (bI pr))]) [0, 1, 3, 4, 5, 6, 7] rfl ?_
                exact ih (s + 1) (hbC F f e up pr s) (by omega) (by omega) Rr
              · refine r_iload C dX11_hasBelow_77 7 rfl ?_
                refine r_if_eq C 88 dX11_hasBelow_79 (by decide) (bI_eq _) (fun h79 => ?_) (fun h79 => ?_)
                · refine r_iconst C (v := (nI 1)) dX11_hasBelow_88 rfl ?_
                  refine r_goto C 93 dX11_hasBelow_89 (by decide) ?_
                  refine G_top (y := (bI (hbC F f e up pr s))) (b1 (show hbC F f e up pr s = true by unfold hbC; rw [ts_t h69, ts_t h74, h79]; rfl)) ?_
                  refine r_istore C (lv' := [(5, .int (bI (hbC F f e up pr s))), (7, .int (bI (if up = true then decide (e &&& s = e) else decide (e &&& s = s)))), (6, .int (nI s)), (0, .ref (ad g 19)), (1, .int (nI f)), (2, .int (nI e)), (3, .int (bI up)), (4, .int (bI pr))]) 5 dX11_hasBelow_93 (by decide) rfl ?_
                  refine r_iinc C (v := (nI (s + 1))) (lv' := [(6, .int (nI (s + 1))), (5, .int (bI (hbC F f e up pr s))), (7, .int (bI (if up = true then decide (e &&& s = e) else decide (e &&& s = s)))), (0, .ref (ad g 19)), (1, .int (nI f)), (2, .int (nI e)), (3, .int (bI up)), (4, .int (bI pr))]) 6 2 dX11_hasBelow_95 rfl (inc_N _ 1) (by decide) rfl ?_
                  refine r_goto C 6 dX11_hasBelow_98 (by decide) ?_
                  refine G_sub (lv' := [(6, .int (nI (s + 1))), (5, .int (bI (hbC F f e up pr s))), (0, .ref (ad g 19)), (1, .int (nI f)), (2, .int (nI e)), (3, .int (bI up)), (4, .int (bI pr))]) [0, 1, 3, 4, 5, 6, 7] rfl ?_
                  exact ih (s + 1) (hbC F f e up pr s) (by omega) (by omega) Rr
                · refine r_iload C dX11_hasBelow_82 1 rfl ?_
                  refine r_iload_n C dX11_hasBelow_84 5 rfl ?_
                  refine r_icmp_eq C 92 dX11_hasBelow_85 (by decide) (nI_eq (by omega) (by omega)) (fun h85 => ?_) (fun h85 => ?_)
                  · refine r_iconst C (v := (nI 0)) dX11_hasBelow_92 rfl ?_
                    refine G_top (y := (bI (hbC F f e up pr s))) (b0 (show hbC F f e up pr s = false by unfold hbC; rw [ts_t h69, ts_t h74, ts_t h79, decide_eq_true h85]; rfl)) ?_
                    refine r_istore C (lv' := [(5, .int (bI (hbC F f e up pr s))), (7, .int (bI (if up = true then decide (e &&& s = e) else decide (e &&& s = s)))), (6, .int (nI s)), (0, .ref (ad g 19)), (1, .int (nI f)), (2, .int (nI e)), (3, .int (bI up)), (4, .int (bI pr))]) 5 dX11_hasBelow_93 (by decide) rfl ?_
                    refine r_iinc C (v := (nI (s + 1))) (lv' := [(6, .int (nI (s + 1))), (5, .int (bI (hbC F f e up pr s))), (7, .int (bI (if up = true then decide (e &&& s = e) else decide (e &&& s = s)))), (0, .ref (ad g 19)), (1, .int (nI f)), (2, .int (nI e)), (3, .int (bI up)), (4, .int (bI pr))]) 6 2 dX11_hasBelow_95 rfl (inc_N _ 1) (by decide) rfl ?_
                    refine r_goto C 6 dX11_hasBelow_98 (by decide) ?_
                    refine G_sub (lv' := [(6, .int (nI (s + 1))), (5, .int (bI (hbC F f e up pr s))), (0, .ref (ad g 19)), (1, .int (nI f)), (2, .int (nI e)), (3, .int (bI up)), (4, .int (bI pr))]) [0, 1, 3, 4, 5, 6, 7] rfl ?_
                    exact ih (s + 1) (hbC F f e up pr s) (by omega) (by omega) Rr
                  · refine r_iconst C (v := (nI 1)) dX11_hasBelow_88 rfl ?_
                    refine r_goto C 93 dX11_hasBelow_89 (by decide) ?_
                    refine G_top (y := (bI (hbC F f e up pr s))) (b1 (show hbC F f e up pr s = true by unfold hbC; rw [ts_t h69, ts_t h74, ts_t h79, decide_eq_false h85]; rfl)) ?_
                    refine r_istore C (lv' := [(5, .int (bI (hbC F f e up pr s))), (7, .int (bI (if up = true then decide (e &&& s = e) else decide (e &&& s = s)))), (6, .int (nI s)), (0, .ref (ad g 19)), (1, .int (nI f)), (2, .int (nI e)), (3, .int (bI up)), (4, .int (bI pr))]) 5 dX11_hasBelow_93 (by decide) rfl ?_
                    refine r_iinc C (v := (nI (s + 1))) (lv' := [(6, .int (nI (s + 1))), (5, .int (bI (hbC F f e up pr s))), (7, .int (bI (if up = true then decide (e &&& s = e) else decide (e &&& s = s)))), (0, .ref (ad g 19)), (1, .int (nI f)), (2, .int (nI e)), (3, .int (bI up)), (4, .int (bI pr))]) 6 2 dX11_hasBelow_95 rfl (inc_N _ 1) (by decide) rfl ?_
                    refine r_goto C 6 dX11_hasBelow_98 (by decide) ?_
                    refine G_sub (lv' := [(6, .int (nI (s + 1))), (5, .int (bI (hbC F f e up pr s))), (0, .ref (ad g 19)), (1, .int (nI f)), (2, .int (nI e)), (3, .int (bI up)), (4, .int (bI pr))]) [0, 1, 3, 4, 5, 6, 7] rfl ?_
                    exact ih (s + 1) (hbC F f e up pr s) (by omega) (by omega) Rr
set_option maxHeartbeats 1000000 in
set_option maxRecDepth 100000 in
theorem c_hasBelow (l : Launch) (g : Gd) (μ : Mm) {F : Nat → Bool} {n f e : Nat} (h6 : gI μ 6 = nI n) (hn10 : n ≤ 10) (h5 : gA μ 5 = bR F) (hf : f < 4) (he : e < 1024) (up pr : Bool) : Ct l yX11_hasBelow cX11_hasBelow 8 (some .boolean) (rmk 1 20) g [.ref (ad g 19), .int (nI f), .int (nI e), .int (bI up), .int (bI pr)] μ (some (.int (bI (hbF F f e up pr (2 ^ n) 0)))) μ := by
  have h1024 := pw10 hn10
  have h2n := Nat.two_pow_pos n
  refine Ct.of (by decide) (Nat.le_of_ble_eq_true rfl) (fun z A C X Rr => ?_)
  refine r_iconst C (v := (nI 0)) dX11_hasBelow_0 rfl ?_
  refine r_istore C (lv' := [(5, .int (nI 0)), (0, .ref (ad g 19)), (1, .int (nI f)), (2, .int (nI e)), (3, .int (bI up)), (4, .int (bI pr))]) 5 dX11_hasBelow_1 (by decide) rfl ?_
  refine r_iconst C (v := (nI 0)) dX11_hasBelow_3 rfl ?_
  refine r_istore C (lv' := [(6, .int (nI 0)), (5, .int (nI 0)), (0, .ref (ad g 19)), (1, .int (nI f)), (2, .int (nI e)), (3, .int (bI up)), (4, .int (bI pr))]) 6 dX11_hasBelow_4 (by decide) rfl ?_
  refine G_lv (lv' := [(6, .int (nI 0)), (5, .int (bI false)), (0, .ref (ad g 19)), (1, .int (nI f)), (2, .int (nI e)), (3, .int (bI up)), (4, .int (bI pr))]) rfl ?_
  exact lp_hasBelow C X h6 hn10 h5 hf he h1024 h2n (2 ^ n + 1) 0 false (by omega) (by omega) Rr
