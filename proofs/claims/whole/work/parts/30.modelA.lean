/-! THE MODEL (the reference) -/
/-- a row of booleans -/
def bR (F : Nat → Bool) : Nat → Int32 := fun c => bI (F c)
theorem bR_at {r : Nat → Int32} {F : Nat → Bool} (h : r = bR F) (c : Nat) : r c = bI (F c) := by rw [h]; rfl
theorem bR_s (k : Nat) (f x : Nat → Bool) {v : Bool} (hv : v = f k) : upd (bR (rowU k f x)) k (vp_nar .boolean (bI v)) = bR (rowU (k + 1) f x) := by
  subst hv; rw [nar_z]; funext w; unfold upd bR rowU
  by_cases h : w = k
  · subst h; simp
  · by_cases h2 : w < k
    · simp [h, h2, show w < k + 1 by omega]
    · simp [h, h2, show ¬ w < k + 1 by omega]
def upB (F : Nat → Bool) (k : Nat) (b : Bool) : Nat → Bool := fun c => if c = k then b else F c
theorem bR_up (F : Nat → Bool) (k : Nat) (b : Bool) : upd (bR F) k (vp_nar .boolean (bI b)) = bR (upB F k b) := by
  rw [nar_z]; funext w; unfold upd bR upB
  by_cases h : w = k <;> simp [h]
def inI (v a b : Int32) : Bool := decide (a ≤ v ∧ v ≤ b)
def b10 (c : Nat) : Nat := sm (fun x => c / 2 ^ x &&& 1) 10
def b10k (c : Nat) : Nat → Nat := sm (fun x => c / 2 ^ x &&& 1)
theorem b10_le (c : Nat) : ∀ k, b10k c k ≤ k * 1 := sm_le (fun _ => Nat.and_le_right)
def mgT (a b : Bool) : Nat := if a = true then (if b = true then 0 else 2) else 1
def mgM (μ : Mm) (a b : Bool) : Mm := sI μ 5 (nI (mgT a b))
set_option maxHeartbeats 1000000 in
set_option maxRecDepth 100000 in
theorem c_in (l : Launch) (v a b : Int32) : Cp l yX11_in cX11_in 3 (some .boolean) (rmk 0 0) [.int v, .int a, .int b] (some (.int (bI (inI v a b)))) := by
  refine Cp.of (D := (fun _ => 0, fun _ _ => 0)) (by decide) (Nat.le_of_ble_eq_true rfl) (fun z A C Rr => ?_)
  refine r_iload_n C dX11_in_0 0 rfl ?_
  refine r_iload_n C dX11_in_1 1 rfl ?_
  refine r_icmp_lt C 14 dX11_in_2 (by decide) Iff.rfl (fun h2 => ?_) (fun h2 => ?_)
  · refine r_iconst C (v := (nI 0)) dX11_in_14 rfl ?_
    refine G_top (y := (bI (inI v a b))) (bd0 (fun q => Int32.not_le.mpr h2 q.1)) ?_
    exact p_zret C dX11_in_15 (nar_b _) Rr
  · refine r_iload_n C dX11_in_5 0 rfl ?_
    refine r_iload_n C dX11_in_6 2 rfl ?_
    refine r_icmp_gt C 14 dX11_in_7 (by decide) Iff.rfl (fun h7 => ?_) (fun h7 => ?_)
    · refine r_iconst C (v := (nI 0)) dX11_in_14 rfl ?_
      refine G_top (y := (bI (inI v a b))) (bd0 (fun q => Int32.not_le.mpr h7 q.2)) ?_
      exact p_zret C dX11_in_15 (nar_b _) Rr
    · refine r_iconst C (v := (nI 1)) dX11_in_10 rfl ?_
      refine r_goto C 15 dX11_in_11 (by decide) ?_
      refine G_top (y := (bI (inI v a b))) (bd1 ⟨Int32.not_lt.mp h2, Int32.not_lt.mp h7⟩) ?_
      exact p_zret C dX11_in_15 (nar_b _) Rr
set_option maxHeartbeats 1000000 in
set_option maxRecDepth 100000 in
theorem c_codes (l : Launch) (g : Gd) (μ : Mm) {n : Nat} (h6 : gI μ 6 = nI n) (hn10 : n ≤ 10) : Ct l yX11_codes cX11_codes 1 (some .int) (rmk 0 0) g [.ref (ad g 19)] μ (some (.int (nI (2 ^ n)))) μ := by
  refine Ct.of (by decide) (Nat.le_of_ble_eq_true rfl) (fun z A C X Rr => ?_)
  refine r_iconst C (v := (nI 1)) dX11_codes_0 rfl ?_
  refine r_aload_n C dX11_codes_1 0 rfl ?_
  refine r_get C X (k := 19) (R := RX11) (T := TX11) (N := 15) (n := 1) (v := .int (gI μ 6)) (by decide) rfl rfl inw11 (by decide) rfl hw_5_19 rfl dX11_codes_2 ?_
  refine G_top (y := (nI n)) h6 ?_
  refine r_ishl C (v := (nI (2 ^ n))) dX11_codes_5 (nshl1 (by omega)) ?_
  exact r_iret C dX11_codes_6 Rr
set_option maxHeartbeats 1000000 in
set_option maxRecDepth 100000 in
theorem lp_bits {z : Zt} {A : Nat → Prop} {l : Launch} {D : va_G} (C : Cx z A l (rmk 0 0) cX11_bits 3 "SetFamiliesModel") {c : Nat} (hc : c < 2 ^ 31) (Rr : Rp z A (some .int) (some (.int (nI (b10 c))))) : ∀ (n_ : Nat) (x : Nat), 10 - x < n_ → x ≤ 10 → G z D A 3 [] 0 0 4 [(2, .int (nI x)), (1, .int (nI (b10k c x))), (0, .int (nI c))] [] := by
  intro n_
  induction n_ with
  | zero => intro x hm_; exact absurd hm_ (Nat.not_lt_zero _)
  | succ n_ ih =>
    intro x hm_ hx
    refine r_iload_n C dX11_bits_4 0 rfl ?_
    refine r_bipush C (v := (nI 10)) dX11_bits_5 (by decide) ?_
    refine r_icmp_ge C 24 dX11_bits_7 (by decide) (nI_leI (by omega) (by omega)) (fun h7 => ?_) (fun h7 => ?_)
    · have hx : x = 10 := by omega
      subst hx
      refine r_iload_n C dX11_bits_24 1 rfl ?_
      exact p_iret C dX11_bits_25 Rr
    · refine r_iload_n C dX11_bits_10 1 rfl ?_
      refine r_iload_n C dX11_bits_11 2 rfl ?_
      refine r_iload_n C dX11_bits_12 0 rfl ?_
      refine r_ishr C (v := (nI (c / 2 ^ x))) dX11_bits_13 (nshr (by omega) (by omega)) ?_
      refine r_iconst C (v := (nI 1)) dX11_bits_14 rfl ?_
      refine r_iand C (v := (nI ((c / 2 ^ x) &&& 1))) dX11_bits_15 (nand _ _) ?_
      refine r_iadd C (v := (nI (b10k c (x + 1)))) dX11_bits_16 (nI_add _ _) ?_
      refine r_istore_n C (lv' := [(1, .int (nI (b10k c (x + 1)))), (2, .int (nI x)), (0, .int (nI c))]) 1 dX11_bits_17 rfl (by decide) rfl ?_
      refine r_iinc C (v := (nI (x + 1))) (lv' := [(2, .int (nI (x + 1))), (1, .int (nI (b10k c (x + 1)))), (0, .int (nI c))]) 2 1 dX11_bits_18 rfl (inc_N _ 1) (by decide) rfl ?_
      refine r_goto C 4 dX11_bits_21 (by decide) ?_
      exact ih (x + 1) (by omega) (by omega)
set_option maxHeartbeats 1000000 in
set_option maxRecDepth 100000 in
theorem c_bits (l : Launch) {c : Nat} (hc : c < 2 ^ 31) : Cp l yX11_bits cX11_bits 3 (some .int) (rmk 0 0) [.int (nI c)] (some (.int (nI (b10 c)))) := by
  refine Cp.of (D := (fun _ => 0, fun _ _ => 0)) (by decide) (Nat.le_of_ble_eq_true rfl) (fun z A C Rr => ?_)
  refine r_iconst C (v := (nI 0)) dX11_bits_0 rfl ?_
  refine r_istore_n C (lv' := [(1, .int (nI 0)), (0, .int (nI c))]) 1 dX11_bits_1 rfl (by decide) rfl ?_
  refine r_iconst C (v := (nI 0)) dX11_bits_2 rfl ?_
  refine r_istore_n C (lv' := [(2, .int (nI 0)), (1, .int (nI 0)), (0, .int (nI c))]) 2 dX11_bits_3 rfl (by decide) rfl ?_
  exact lp_bits C hc Rr 11 0 (by decide) (by decide)
set_option maxHeartbeats 1000000 in
set_option maxRecDepth 100000 in
theorem c_isPlace (l : Launch) (v : Int32) : Cp l yX11_isPlace cX11_isPlace 1 (some .boolean) (rmk 1 22) [.int v] (some (.int (bI (inI v (nI 0) (nI 3))))) := by
  refine Cp.of (D := (fun _ => 0, fun _ _ => 0)) (by decide) (Nat.le_of_ble_eq_true rfl) (fun z A C Rr => ?_)
  refine r_iload_n C dX11_isPlace_0 0 rfl ?_
  refine r_iconst C (v := (nI 0)) dX11_isPlace_1 rfl ?_
  refine r_iconst C (v := (nI 3)) dX11_isPlace_2 rfl ?_
  refine r_callP C (As := [.int v, .int (nI 0), .int (nI 3)]) (rest := []) (st1 := [.int (bI (inI v (nI 0) (nI 3)))]) miX11_in msX11_in (c_in l v (nI 0) (nI 3)) hw_5_77 rfl ⟨by decide, by decide, rfl, rfl, by decide, by decide⟩ rfl (Nat.le_of_ble_eq_true rfl) dX11_isPlace_3 rfl ?_
  exact p_zret C dX11_isPlace_6 (nar_b _) Rr
set_option maxHeartbeats 1000000 in
set_option maxRecDepth 100000 in
theorem c_isCode (l : Launch) (g : Gd) (μ : Mm) {n : Nat} (h6 : gI μ 6 = nI n) (hn10 : n ≤ 10) (v : Int32) : Ct l yX11_isCode cX11_isCode 2 (some .boolean) (rmk 1 22) g [.ref (ad g 19), .int v] μ (some (.int (bI (inI v (nI 0) (nI (2 ^ n - 1)))))) μ := by
  refine Ct.of (by decide) (Nat.le_of_ble_eq_true rfl) (fun z A C X Rr => ?_)
  have h2n := Nat.two_pow_pos n
  refine r_iload_n C dX11_isCode_0 1 rfl ?_
  refine r_iconst C (v := (nI 0)) dX11_isCode_1 rfl ?_
  refine r_aload_n C dX11_isCode_2 0 rfl ?_
  refine r_callV C X (As := []) (rest := [.int (nI 0), .int v]) (st1 := [.int (nI (2 ^ n)), .int (nI 0), .int v]) (μ' := μ) (k := 19) (T := TX11) miX11_codes mvX11_codes (c_codes l g μ (n := n) h6 (by omega)) hw_5_99 (by decide) rfl rfl rfl ⟨by decide, by decide, rfl, rfl, by decide, by decide⟩ rfl (Nat.le_of_ble_eq_true rfl) dX11_isCode_3 rfl ?_
  refine r_iconst C (v := (nI 1)) dX11_isCode_6 rfl ?_
  refine r_isub C (v := (nI (2 ^ n - 1))) dX11_isCode_7 (pk_sub (by omega)) ?_
  refine r_callP C (As := [.int v, .int (nI 0), .int (nI (2 ^ n - 1))]) (rest := []) (st1 := [.int (bI (inI v (nI 0) (nI (2 ^ n - 1))))]) miX11_in msX11_in (c_in l v (nI 0) (nI (2 ^ n - 1))) hw_5_77 rfl ⟨by decide, by decide, rfl, rfl, by decide, by decide⟩ rfl (Nat.le_of_ble_eq_true rfl) dX11_isCode_8 rfl ?_
  exact r_zret C dX11_isCode_11 (nar_b _) Rr
set_option maxHeartbeats 1000000 in
set_option maxRecDepth 100000 in
theorem c_isElement (l : Launch) (g : Gd) (μ : Mm) {n : Nat} (h6 : gI μ 6 = nI n) (h1n : 1 ≤ n) (v : Int32) : Ct l yX11_isElement cX11_isElement 2 (some .boolean) (rmk 1 22) g [.ref (ad g 19), .int v] μ (some (.int (bI (inI v (nI 0) (nI (n - 1)))))) μ := by
  refine Ct.of (by decide) (Nat.le_of_ble_eq_true rfl) (fun z A C X Rr => ?_)
  refine r_iload_n C dX11_isElement_0 1 rfl ?_
  refine r_iconst C (v := (nI 0)) dX11_isElement_1 rfl ?_
  refine r_aload_n C dX11_isElement_2 0 rfl ?_
  refine r_get C X (k := 19) (R := RX11) (T := TX11) (N := 15) (n := 1) (v := .int (gI μ 6)) (by decide) rfl rfl inw11 (by decide) rfl hw_5_19 rfl dX11_isElement_3 ?_
  refine G_top (y := (nI n)) h6 ?_
  refine r_iconst C (v := (nI 1)) dX11_isElement_6 rfl ?_
  refine r_isub C (v := (nI (n - 1))) dX11_isElement_7 (pk_sub (by omega)) ?_
  refine r_callP C (As := [.int v, .int (nI 0), .int (nI (n - 1))]) (rest := []) (st1 := [.int (bI (inI v (nI 0) (nI (n - 1))))]) miX11_in msX11_in (c_in l v (nI 0) (nI (n - 1))) hw_5_77 rfl ⟨by decide, by decide, rfl, rfl, by decide, by decide⟩ rfl (Nat.le_of_ble_eq_true rfl) dX11_isElement_8 rfl ?_
  exact r_zret C dX11_isElement_11 (nar_b _) Rr
set_option maxHeartbeats 1000000 in
set_option maxRecDepth 100000 in
theorem c_mayGo (l : Launch) (g : Gd) (μ : Mm) (a b : Bool) : Ct l yX11_mayGo cX11_mayGo 3 (some .boolean) (rmk 0 0) g [.ref (ad g 19), .int (bI a), .int (bI b)] μ (some (.int (bI (a && b)))) (mgM μ a b) := by
  refine Ct.of (by decide) (Nat.le_of_ble_eq_true rfl) (fun z A C X Rr => ?_)
  refine r_aload_n C dX11_mayGo_0 0 rfl ?_
  refine r_iload_n C dX11_mayGo_1 1 rfl ?_
  refine r_if_ne C 9 dX11_mayGo_2 (by decide) (bI_ne _) (fun h2 => ?_) (fun h2 => ?_)
  · refine r_iload_n C dX11_mayGo_9 2 rfl ?_
    refine r_if_eq C 17 dX11_mayGo_10 (by decide) (bI_eq _) (fun h10 => ?_) (fun h10 => ?_)
    · refine r_iconst C (v := (nI 2)) dX11_mayGo_17 rfl ?_
      rw [h2, h10] at Rr
      refine r_put C X (μ' := (sI μ 5 (nI 2))) (k := 19) (R := RX11) (T := TX11) (N := 15) (n := 0) (v := .int (nI 2)) (ty := .int) (by decide) rfl rfl inw11 tyX11_ok nmX11 (by decide) rfl hw_5_18 rfl rfl rfl rfl (Nat.le_of_ble_eq_true rfl) dX11_mayGo_18 (WF_sI5_at g _ _) (WF_sI5_ne g _ _) ?_
      refine r_aload_n C dX11_mayGo_21 0 rfl ?_
      refine r_get C X (k := 19) (R := RX11) (T := TX11) (N := 15) (n := 0) (v := .int (gI (sI μ 5 (nI 2)) 5)) (by decide) rfl rfl inw11 (by decide) rfl hw_5_18 rfl dX11_mayGo_22 ?_
      refine G_top (y := (nI 2)) (gI_s _ _ _) ?_
      refine r_if_ne C 32 dX11_mayGo_25 (by decide) (zI_ne (by omega)) (fun h25 => ?_) (fun h25 => ?_)
      · refine r_iconst C (v := (nI 0)) dX11_mayGo_32 rfl ?_
        exact r_zret C dX11_mayGo_33 (by decide) Rr
      · exact absurd (Decidable.not_not.mp h25) (by decide)
    · refine r_iconst C (v := (nI 0)) dX11_mayGo_13 rfl ?_
      refine r_goto C 18 dX11_mayGo_14 (by decide) ?_
      rw [h2, ts_t h10] at Rr
      refine r_put C X (μ' := (sI μ 5 (nI 0))) (k := 19) (R := RX11) (T := TX11) (N := 15) (n := 0) (v := .int (nI 0)) (ty := .int) (by decide) rfl rfl inw11 tyX11_ok nmX11 (by decide) rfl hw_5_18 rfl rfl rfl rfl (Nat.le_of_ble_eq_true rfl) dX11_mayGo_18 (WF_sI5_at g _ _) (WF_sI5_ne g _ _) ?_
      refine r_aload_n C dX11_mayGo_21 0 rfl ?_
      refine r_get C X (k := 19) (R := RX11) (T := TX11) (N := 15) (n := 0) (v := .int (gI (sI μ 5 (nI 0)) 5)) (by decide) rfl rfl inw11 (by decide) rfl hw_5_18 rfl dX11_mayGo_22 ?_
      refine G_top (y := (nI 0)) (gI_s _ _ _) ?_
      refine r_if_ne C 32 dX11_mayGo_25 (by decide) (zI_ne (by omega)) (fun h25 => ?_) (fun h25 => ?_)
      · exact absurd rfl h25
      · refine r_iconst C (v := (nI 1)) dX11_mayGo_28 rfl ?_
        refine r_goto C 33 dX11_mayGo_29 (by decide) ?_
        exact r_zret C dX11_mayGo_33 (by decide) Rr
  · refine r_iconst C (v := (nI 1)) dX11_mayGo_5 rfl ?_
    refine r_goto C 18 dX11_mayGo_6 (by decide) ?_
    rw [Bool.eq_false_iff.mpr h2] at Rr
    refine r_put C X (μ' := (sI μ 5 (nI 1))) (k := 19) (R := RX11) (T := TX11) (N := 15) (n := 0) (v := .int (nI 1)) (ty := .int) (by decide) rfl rfl inw11 tyX11_ok nmX11 (by decide) rfl hw_5_18 rfl rfl rfl rfl (Nat.le_of_ble_eq_true rfl) dX11_mayGo_18 (WF_sI5_at g _ _) (WF_sI5_ne g _ _) ?_
    refine r_aload_n C dX11_mayGo_21 0 rfl ?_
    refine r_get C X (k := 19) (R := RX11) (T := TX11) (N := 15) (n := 0) (v := .int (gI (sI μ 5 (nI 1)) 5)) (by decide) rfl rfl inw11 (by decide) rfl hw_5_18 rfl dX11_mayGo_22 ?_
    refine G_top (y := (nI 1)) (gI_s _ _ _) ?_
    refine r_if_ne C 32 dX11_mayGo_25 (by decide) (zI_ne (by omega)) (fun h25 => ?_) (fun h25 => ?_)
    · refine r_iconst C (v := (nI 0)) dX11_mayGo_32 rfl ?_
      exact r_zret C dX11_mayGo_33 (by decide) Rr
    · exact absurd (Decidable.not_not.mp h25) (by decide)
