theorem rowU_keepi (k : Nat) (f x : Nat → Int32) (h : f k = x k) : rowU k f x = rowU (k + 1) f x := by
  funext w; unfold rowU
  by_cases h1 : w = k
  · subst h1; simp [h]
  · by_cases h2 : w < k
    · simp [h2, show w < k + 1 by omega]
    · simp [h2, show ¬ w < k + 1 by omega]
def abS (all bit : Nat) (r : Nat → Int32) : Nat → Int32 := rowU (all + 1 - bit) (fun w => if w &&& bit = 0 then r w + r (w + bit) else r w) r
def abR (n : Nat) (r : Nat → Int32) : Nat → Nat → Int32
  | 0 => r
  | x + 1 => abS (2 ^ n - 1) (2 ^ x) (abR n r x)
def ab0 (μ : Mm) (n f : Nat) : Nat → Int32 := rowU (2 ^ n) (fun c => bI (bt (gJ μ f) c)) (gA μ 3)
def mAb (μ : Mm) (n f : Nat) : Mm := sA μ 3 (abR n (ab0 μ n f) n)
theorem gI_mAb {μ : Mm} {n f q : Nat} : gI (mAb μ n f) q = gI μ q := rfl
def csF (ab : Nat → Int32) (r : Nat → Int64) : Nat → Nat → Int64
  | 0 => r
  | k + 1 => vp_updL (csF ab r k) (pN k) (csF ab r k (pN k) + ((ab k).toInt64 * ((ab k).toInt64 - lN 1)) / 2)
def mCs (μ : Mm) (n : Nat) : Mm := sJ μ 52 (csF (gA μ 3) (rowU 11 (fun _ => lN 0) (gJ μ 52)) (2 ^ n))
theorem gI_mCs {μ : Mm} {n q : Nat} : gI (mCs μ n) q = gI μ q := rfl
def caI (c : Nat) (r : Nat → Int64) : Nat → Nat → Int64
  | 0 => r
  | j + 1 => vp_updL (caI c r j) c (caI c r j c - lN (ch (c + 1 + j) c) * caI c r j (c + 1 + j))
def caO (n : Nat) (r : Nat → Int64) : Nat → Nat → Int64
  | 0 => r
  | s + 1 => caI (n - s) (caO n r s) s
def mPC (μ : Mm) (n f : Nat) : Mm := sJ (mCs (mAb μ n f) n) 52 (caO n (gJ (mCs (mAb μ n f) n) 52) (n + 1))
theorem gI_mPC {μ : Mm} {n f q : Nat} : gI (mPC μ n f) q = gI μ q := rfl
set_option maxHeartbeats 1000000 in
set_option maxRecDepth 100000 in
theorem lp_fillC {z : Zt} {A : Nat → Prop} {l : Launch} {g : Gd} {μ : Mm} (C : Cx z A l (rmk 0 0) cJ7_fill_d0a16 5 "java/util/Arrays") (X : Kx z g A) {v : Int64} (Rr : Rx z g A none none (sJ μ 52 (rowU 11 (fun _ => v) (gJ μ 52)))) : ∀ (n_ : Nat) (k : Nat), 11 - k < n_ → k ≤ 11 → G z g.1 A 5 (wd g (sJ μ 52 (rowU k (fun _ => v) (gJ μ 52)))) 0 0 6 [(4, .int (nI 11)), (3, .int (nI k)), (0, .ref (ad g 17)), (1, .long v)] [] := by
  intro n_
  induction n_ with
  | zero => intro k hm_; exact absurd hm_ (Nat.not_lt_zero _)
  | succ n_ ih =>
    intro k hm_ hk11
    refine r_iload_n C dJ7_fill_d0a16_6 1 rfl ?_
    refine r_iload C dJ7_fill_d0a16_7 0 rfl ?_
    refine r_icmp_ge C 22 dJ7_fill_d0a16_9 (by decide) (nI_leI (by omega) (by omega)) (fun h9 => ?_) (fun h9 => ?_)
    · have hk : k = 11 := by omega
      subst hk
      exact r_vret C dJ7_fill_d0a16_22 Rr
    · refine r_aload_n C dJ7_fill_d0a16_12 2 rfl ?_
      refine r_iload_n C dJ7_fill_d0a16_13 1 rfl ?_
      refine r_lload_n C dJ7_fill_d0a16_14 3 rfl ?_
      refine r_last C X (k := 17) (f' := rowU (k + 1) (fun _ => v) (gJ μ 52)) (μ' := (sJ (sJ μ 52 (rowU k (fun _ => v) (gJ μ 52))) 52 (rowU (k + 1) (fun _ => v) (gJ μ 52)))) (by decide) rfl (by omega) (by decide) (by rw [gJ_s]; exact rowU_s _ _ _ rfl) dJ7_fill_d0a16_15 (congrArg (jR g 11) (gJ_s _ _ _)) (WF_sJ52_ne g _ _) ?_
      refine G_mem (μ' := (sJ μ 52 (rowU (k + 1) (fun _ => v) (gJ μ 52)))) (sJ_u _ _ _ _) ?_
      refine r_iinc C (v := (nI (k + 1))) (lv' := [(3, .int (nI (k + 1))), (4, .int (nI 11)), (0, .ref (ad g 17)), (1, .long v)]) 3 1 dJ7_fill_d0a16_16 rfl (inc_N _ 1) (by decide) rfl ?_
      refine r_goto C 6 dJ7_fill_d0a16_19 (by decide) ?_
      refine G_sub (lv' := [(4, .int (nI 11)), (3, .int (nI (k + 1))), (0, .ref (ad g 17)), (1, .long v)]) [1, 0, 2, 3] rfl ?_
      exact ih (k + 1) (by omega) (by omega)
set_option maxHeartbeats 1000000 in
set_option maxRecDepth 100000 in
theorem c_fillC (l : Launch) (g : Gd) (μ : Mm) (v : Int64) : Ct l yJ7_fill_d0a16 cJ7_fill_d0a16 5 none (rmk 0 0) g [.ref (ad g 17), .long v] μ none (sJ μ 52 (rowU 11 (fun _ => v) (gJ μ 52))) := by
  refine Ct.of (by decide) (Nat.le_of_ble_eq_true rfl) (fun z A C X Rr => ?_)
  refine r_iconst C (v := (nI 0)) dJ7_fill_d0a16_0 rfl ?_
  refine r_istore_n C (lv' := [(3, .int (nI 0)), (0, .ref (ad g 17)), (1, .long v)]) 3 dJ7_fill_d0a16_1 rfl (by decide) rfl ?_
  refine r_aload_n C dJ7_fill_d0a16_2 1 rfl ?_
  refine r_alen C X (k := 17) (t := 2) (n := 11) (by decide) rfl rfl rfl dJ7_fill_d0a16_3 ?_
  refine r_istore C (lv' := [(4, .int (nI 11)), (3, .int (nI 0)), (0, .ref (ad g 17)), (1, .long v)]) 4 dJ7_fill_d0a16_4 (by decide) rfl ?_
  refine G_mem (show μ = sJ μ 52 (rowU 0 (fun _ => v) (gJ μ 52)) by rw [rowU_0, sJ_i]) ?_
  exact lp_fillC C X Rr 12 0 (by decide) (by decide)
set_option maxHeartbeats 1000000 in
set_option maxRecDepth 100000 in
theorem lp_countAbove1 {z : Zt} {A : Nat → Prop} {l : Launch} {g : Gd} {μ : Mm} (C : Cx z A l (rmk 2 41) cX6_countAbove 6 "SetFamilies$PairCounts") (X : Kx z g A) {n nw f : Nat} (hn : gI μ 0 = nI n) (hw : gI μ 1 = nI nw) (hn10 : n ≤ 10) (hnw : nw ≤ 16) (hf : f < 52) (h1024 : 2 ^ n ≤ 1024) (h2n : 0 < 2 ^ n) (KK : G z g.1 A 6 (wd g (sA μ 3 (ab0 μ n f))) 0 0 40 [(2, .int (nI (2 ^ n - 1))), (0, .ref (ad g 15)), (1, .ref (ad g (fo f)))] []) : ∀ (n_ : Nat) (k : Nat), 2 ^ n - k < n_ → k ≤ 2 ^ n → G z g.1 A 6 (wd g (sA μ 3 (rowU k (fun c => bI (bt (gJ μ f) c)) (gA μ 3)))) 0 0 10 [(3, .int (nI k)), (2, .int (nI (2 ^ n - 1))), (0, .ref (ad g 15)), (1, .ref (ad g (fo f)))] [] := by
  intro n_
  induction n_ with
  | zero => intro k hm_; exact absurd hm_ (Nat.not_lt_zero _)
  | succ n_ ih =>
    intro k hm_ hk
    refine r_iload_n C dX6_countAbove_10 0 rfl ?_
    refine r_iload_n C dX6_countAbove_11 1 rfl ?_
    refine r_icmp_gt C 40 dX6_countAbove_12 (by decide) (nI_ltI (by omega) (by omega)) (fun h12 => ?_) (fun h12 => ?_)
    · have hk2 : k = 2 ^ n := by omega
      subst hk2
      refine G_sub (lv' := [(2, .int (nI (2 ^ n - 1))), (0, .ref (ad g 15)), (1, .ref (ad g (fo f)))]) [1, 2, 3] rfl ?_
      exact KK
    · refine r_aload_n C dX6_countAbove_15 2 rfl ?_
      refine r_get C X (k := 15) (R := RX6) (T := TX6) (N := 3) (n := 1) (v := .ref (ad g 16)) (by decide) rfl rfl inw6 (by decide) rfl hw_1_199 rfl dX6_countAbove_16 ?_
      refine r_iload_n C dX6_countAbove_19 0 rfl ?_
      refine r_aload_n C dX6_countAbove_20 3 rfl ?_
      refine r_iload_n C dX6_countAbove_21 0 rfl ?_
      refine r_callV C X (As := [.int (nI k)]) (rest := [.int (nI k), .ref (ad g 16)]) (st1 := [.int (bI (bt (gJ (sA μ 3 (rowU k (fun c => bI (bt (gJ μ f) c)) (gA μ 3))) f) k)), .int (nI k), .ref (ad g 16)]) (μ' := (sA μ 3 (rowU k (fun c => bI (bt (gJ μ f) c)) (gA μ 3)))) (k := (fo f)) (T := TX3) miX3_contains mvX3_contains (c_contains l g (sA μ 3 (rowU k (fun c => bI (bt (gJ μ f) c)) (gA μ 3))) (i := f) (c := k) (by omega) (by omega)) hw_3_52 (fo_lt (by omega)) (WF_fo g _ f) rfl rfl ⟨by decide, by decide, rfl, rfl, by decide, by decide⟩ rfl (Nat.le_of_ble_eq_true rfl) dX6_countAbove_22 rfl ?_
      refine G_top (y := (bI (bt (gJ μ f) k))) (congrArg (fun r => bI (bt r k)) (gJ_A _ _ _ _)) ?_
      refine r_if_eq C 32 dX6_countAbove_25 (by decide) (bI_eq _) (fun h25 => ?_) (fun h25 => ?_)
      · refine r_iconst C (v := (nI 0)) dX6_countAbove_32 rfl ?_
        refine G_top (y := (bI (bt (gJ μ f) k))) (b0 h25) ?_
        refine r_iast C X (k := 16) (f' := rowU (k + 1) (fun c => bI (bt (gJ μ f) c)) (gA μ 3)) (μ' := (sA (sA μ 3 (rowU k (fun c => bI (bt (gJ μ f) c)) (gA μ 3))) 3 (rowU (k + 1) (fun c => bI (bt (gJ μ f) c)) (gA μ 3)))) (by decide) rfl (by omega) (by decide) (by rw [gA_s]; exact rowU_si _ _ _ rfl) dX6_countAbove_33 (congrArg (iR g 1 1024) (gA_s _ _ _)) (WF_sA3_ne g _ _) ?_
        refine G_mem (μ' := (sA μ 3 (rowU (k + 1) (fun c => bI (bt (gJ μ f) c)) (gA μ 3)))) (sA_u _ _ _ _) ?_
        refine r_iinc C (v := (nI (k + 1))) (lv' := [(3, .int (nI (k + 1))), (2, .int (nI (2 ^ n - 1))), (0, .ref (ad g 15)), (1, .ref (ad g (fo f)))]) 3 0 dX6_countAbove_34 rfl (inc_N _ 1) (by decide) rfl ?_
        refine r_goto C 10 dX6_countAbove_37 (by decide) ?_
        exact ih (k + 1) (by omega) (by omega)
      · refine r_iconst C (v := (nI 1)) dX6_countAbove_28 rfl ?_
        refine r_goto C 33 dX6_countAbove_29 (by decide) ?_
        refine G_top (y := (bI (bt (gJ μ f) k))) (b1 (ts_t h25)) ?_
        refine r_iast C X (k := 16) (f' := rowU (k + 1) (fun c => bI (bt (gJ μ f) c)) (gA μ 3)) (μ' := (sA (sA μ 3 (rowU k (fun c => bI (bt (gJ μ f) c)) (gA μ 3))) 3 (rowU (k + 1) (fun c => bI (bt (gJ μ f) c)) (gA μ 3)))) (by decide) rfl (by omega) (by decide) (by rw [gA_s]; exact rowU_si _ _ _ rfl) dX6_countAbove_33 (congrArg (iR g 1 1024) (gA_s _ _ _)) (WF_sA3_ne g _ _) ?_
        refine G_mem (μ' := (sA μ 3 (rowU (k + 1) (fun c => bI (bt (gJ μ f) c)) (gA μ 3)))) (sA_u _ _ _ _) ?_
        refine r_iinc C (v := (nI (k + 1))) (lv' := [(3, .int (nI (k + 1))), (2, .int (nI (2 ^ n - 1))), (0, .ref (ad g 15)), (1, .ref (ad g (fo f)))]) 3 0 dX6_countAbove_34 rfl (inc_N _ 1) (by decide) rfl ?_
        refine r_goto C 10 dX6_countAbove_37 (by decide) ?_
        exact ih (k + 1) (by omega) (by omega)
set_option maxHeartbeats 1000000 in
set_option maxRecDepth 100000 in
theorem lp_countAbove3 {z : Zt} {A : Nat → Prop} {l : Launch} {g : Gd} {μ : Mm} (C : Cx z A l (rmk 2 41) cX6_countAbove 6 "SetFamilies$PairCounts") (X : Kx z g A) {n f bit x : Nat} {r : Nat → Int32} (h1024 : 2 ^ n ≤ 1024) (hb0 : 0 < bit) (hb : bit ≤ 2 ^ n) (KK : G z g.1 A 6 (wd g (sA μ 3 (abS (2 ^ n - 1) bit r))) 0 0 104 [(3, .int (nI x)), (2, .int (nI (2 ^ n - 1))), (0, .ref (ad g 15)), (1, .ref (ad g (fo f)))] []) : ∀ (n_ : Nat) (k : Nat), 2 ^ n - 1 + 1 - bit - k < n_ → k ≤ 2 ^ n - 1 + 1 - bit → G z g.1 A 6 (wd g (sA μ 3 (rowU k (fun w => if w &&& bit = 0 then r w + r (w + bit) else r w) r))) 0 0 61 [(5, .int (nI k)), (4, .int (nI bit)), (3, .int (nI x)), (2, .int (nI (2 ^ n - 1))), (0, .ref (ad g 15)), (1, .ref (ad g (fo f)))] [] := by
  intro n_
  induction n_ with
  | zero => intro k hm_; exact absurd hm_ (Nat.not_lt_zero _)
  | succ n_ ih =>
    intro k hm_ hk
    refine r_iload C dX6_countAbove_61 0 rfl ?_
    refine r_iload C dX6_countAbove_63 1 rfl ?_
    refine r_iadd C (v := (nI (k + bit))) dX6_countAbove_65 (nI_add _ _) ?_
    refine r_iload_n C dX6_countAbove_66 3 rfl ?_
    refine r_icmp_gt C 104 dX6_countAbove_67 (by decide) (nI_ltI (by omega) (by omega)) (fun h67 => ?_) (fun h67 => ?_)
    · have hk2 : k = 2 ^ n - 1 + 1 - bit := by omega
      subst hk2
      refine G_sub (lv' := [(3, .int (nI x)), (2, .int (nI (2 ^ n - 1))), (0, .ref (ad g 15)), (1, .ref (ad g (fo f)))]) [2, 3, 4, 5] rfl ?_
      exact KK
    · refine r_iload C dX6_countAbove_70 0 rfl ?_
      refine r_iload C dX6_countAbove_72 1 rfl ?_
      refine r_iand C (v := (nI (k &&& bit))) dX6_countAbove_74 (nand _ _) ?_
      refine r_if_ne C 98 dX6_countAbove_75 (by decide) (zI_ne (Nat.lt_of_le_of_lt Nat.and_le_left (by omega))) (fun h75 => ?_) (fun h75 => ?_)
      · refine r_iinc C (v := (nI (k + 1))) (lv' := [(5, .int (nI (k + 1))), (4, .int (nI bit)), (3, .int (nI x)), (2, .int (nI (2 ^ n - 1))), (0, .ref (ad g 15)), (1, .ref (ad g (fo f)))]) 5 0 dX6_countAbove_98 rfl (inc_N _ 1) (by decide) rfl ?_
        refine r_goto C 61 dX6_countAbove_101 (by decide) ?_
        refine G_mem (congrArg (sA μ 3) (rowU_keepi k (fun w => if w &&& bit = 0 then r w + r (w + bit) else r w) r (if_neg h75))) ?_
        exact ih (k + 1) (by omega) (by omega)
      · refine r_aload_n C dX6_countAbove_78 4 rfl ?_
        refine r_get C X (k := 15) (R := RX6) (T := TX6) (N := 3) (n := 1) (v := .ref (ad g 16)) (by decide) rfl rfl inw6 (by decide) rfl hw_1_199 rfl dX6_countAbove_79 ?_
        refine r_iload C dX6_countAbove_82 0 rfl ?_
        refine r_dup2 C dX6_countAbove_84 rfl rfl ?_
        refine r_iald C X (k := 16) (v := (r k)) (by decide) rfl (by omega) (by decide) (by rw [gA_s, rowU_ge _ _ (Nat.le_refl _)]) dX6_countAbove_85 ?_
        refine r_aload_n C dX6_countAbove_86 4 rfl ?_
        refine r_get C X (k := 15) (R := RX6) (T := TX6) (N := 3) (n := 1) (v := .ref (ad g 16)) (by decide) rfl rfl inw6 (by decide) rfl hw_1_199 rfl dX6_countAbove_87 ?_
        refine r_iload C dX6_countAbove_90 0 rfl ?_
        refine r_iload C dX6_countAbove_92 1 rfl ?_
        refine r_iadd C (v := (nI (k + bit))) dX6_countAbove_94 (nI_add _ _) ?_
        refine r_iald C X (k := 16) (v := (r (k + bit))) (by decide) rfl (by omega) (by decide) (by rw [gA_s, rowU_ge _ _ (by omega)]) dX6_countAbove_95 ?_
        refine r_iadd C (v := ((r k) + (r (k + bit)))) dX6_countAbove_96 rfl ?_
        refine r_iast C X (k := 16) (f' := rowU (k + 1) (fun w => if w &&& bit = 0 then r w + r (w + bit) else r w) r) (μ' := (sA (sA μ 3 (rowU k (fun w => if w &&& bit = 0 then r w + r (w + bit) else r w) r)) 3 (rowU (k + 1) (fun w => if w &&& bit = 0 then r w + r (w + bit) else r w) r))) (by decide) rfl (by omega) (by decide) (by rw [gA_s]; exact rowU_si _ _ _ (if_pos (Decidable.not_not.mp h75)).symm) dX6_countAbove_97 (congrArg (iR g 1 1024) (gA_s _ _ _)) (WF_sA3_ne g _ _) ?_
        refine G_mem (μ' := (sA μ 3 (rowU (k + 1) (fun w => if w &&& bit = 0 then r w + r (w + bit) else r w) r))) (sA_u _ _ _ _) ?_
        refine r_iinc C (v := (nI (k + 1))) (lv' := [(5, .int (nI (k + 1))), (4, .int (nI bit)), (3, .int (nI x)), (2, .int (nI (2 ^ n - 1))), (0, .ref (ad g 15)), (1, .ref (ad g (fo f)))]) 5 0 dX6_countAbove_98 rfl (inc_N _ 1) (by decide) rfl ?_
        refine r_goto C 61 dX6_countAbove_101 (by decide) ?_
        exact ih (k + 1) (by omega) (by omega)
set_option maxHeartbeats 1000000 in
set_option maxRecDepth 100000 in
theorem lp_countAbove2 {z : Zt} {A : Nat → Prop} {l : Launch} {g : Gd} {μ : Mm} (C : Cx z A l (rmk 2 41) cX6_countAbove 6 "SetFamilies$PairCounts") (X : Kx z g A) {n f : Nat} {r0 : Nat → Int32} (hn : gI μ 0 = nI n) (h1n : 1 ≤ n) (hn10 : n ≤ 10) (hf : f < 52) (h1024 : 2 ^ n ≤ 1024) (h2n : 0 < 2 ^ n) (Rr : Rx z g A none none (sA μ 3 (abR n r0 n))) : ∀ (n_ : Nat) (x : Nat), n - x < n_ → x ≤ n → G z g.1 A 6 (wd g (sA μ 3 (abR n r0 x))) 0 0 42 [(3, .int (nI x)), (2, .int (nI (2 ^ n - 1))), (0, .ref (ad g 15)), (1, .ref (ad g (fo f)))] [] := by
  intro n_
  induction n_ with
  | zero => intro x hm_; exact absurd hm_ (Nat.not_lt_zero _)
  | succ n_ ih =>
    intro x hm_ hx
    refine r_iload_n C dX6_countAbove_42 0 rfl ?_
    refine r_aload_n C dX6_countAbove_43 2 rfl ?_
    refine r_get C X (k := 15) (R := RX6) (T := TX6) (N := 3) (n := 0) (v := .ref (ad g 1)) (by decide) rfl rfl inw6 (by decide) rfl hw_1_198 rfl dX6_countAbove_44 ?_
    refine r_get C X (k := 1) (R := RX4) (T := TX4) (N := 2) (n := 0) (v := .int (gI (sA μ 3 (abR n r0 x)) 0)) (by decide) rfl rfl inw4 (by decide) rfl hw_1_44 rfl dX6_countAbove_47 ?_
    refine G_top (y := (nI n)) ((gI_A _ _ _ _).trans hn) ?_
    refine r_icmp_ge C 110 dX6_countAbove_50 (by decide) (nI_leI (by omega) (by omega)) (fun h50 => ?_) (fun h50 => ?_)
    · have hkn : x = n := by omega
      subst hkn
      exact r_vret C dX6_countAbove_110 Rr
    · have h2x : 2 ^ x ≤ 2 ^ (n - 1) := Nat.pow_le_pow_right (by decide) (by omega)
      have h2y : 2 ^ n = 2 * 2 ^ (n - 1) := by rw [← Nat.pow_succ']; congr 1; omega
      have h2z := Nat.two_pow_pos x
      refine r_iconst C (v := (nI 1)) dX6_countAbove_53 rfl ?_
      refine r_iload_n C dX6_countAbove_54 0 rfl ?_
      refine r_ishl C (v := (nI (2 ^ x))) dX6_countAbove_55 (nshl1 (by omega)) ?_
      refine r_istore C (lv' := [(4, .int (nI (2 ^ x))), (3, .int (nI x)), (2, .int (nI (2 ^ n - 1))), (0, .ref (ad g 15)), (1, .ref (ad g (fo f)))]) 4 dX6_countAbove_56 (by decide) rfl ?_
      refine r_iconst C (v := (nI 0)) dX6_countAbove_58 rfl ?_
      refine r_istore C (lv' := [(5, .int (nI 0)), (4, .int (nI (2 ^ x))), (3, .int (nI x)), (2, .int (nI (2 ^ n - 1))), (0, .ref (ad g 15)), (1, .ref (ad g (fo f)))]) 5 dX6_countAbove_59 (by decide) rfl ?_
      refine G_mem (show sA μ 3 (abR n r0 x) = sA μ 3 (rowU 0 (fun w => if w &&& 2 ^ x = 0 then abR n r0 x w + abR n r0 x (w + 2 ^ x) else abR n r0 x w) (abR n r0 x)) by rw [rowU_0]) ?_
      refine lp_countAbove3 C X (n := n) (f := f) (r := abR n r0 x) (bit := 2 ^ x) (x := x) h1024 (by omega) (by omega) ?_ (2 ^ n + 1) 0 (by omega) (by omega)
      refine r_iinc C (v := (nI (x + 1))) (lv' := [(3, .int (nI (x + 1))), (2, .int (nI (2 ^ n - 1))), (0, .ref (ad g 15)), (1, .ref (ad g (fo f)))]) 3 0 dX6_countAbove_104 rfl (inc_N _ 1) (by decide) rfl ?_
      refine r_goto C 42 dX6_countAbove_107 (by decide) ?_
      exact ih (x + 1) (by omega) (by omega)
set_option maxHeartbeats 1000000 in
set_option maxRecDepth 100000 in
theorem c_countAbove (l : Launch) (g : Gd) (μ : Mm) {n nw f : Nat} (hO : Ok μ n nw) (hf : f < 52) : Ct l yX6_countAbove cX6_countAbove 6 none (rmk 2 41) g [.ref (ad g 15), .ref (ad g (fo f))] μ none (mAb μ n f) := by
  obtain ⟨hn, hw, hn10, hnw, hs, h1n⟩ := hO
  have h1024 := pw10 hn10
  refine Ct.of (by decide) (Nat.le_of_ble_eq_true rfl) (fun z A C X Rr => ?_)
  have h2n := Nat.two_pow_pos n
  refine r_aload_n C dX6_countAbove_0 0 rfl ?_
  refine r_get C X (k := 15) (R := RX6) (T := TX6) (N := 3) (n := 0) (v := .ref (ad g 1)) (by decide) rfl rfl inw6 (by decide) rfl hw_1_198 rfl dX6_countAbove_1 ?_
  refine r_callV C X (As := []) (rest := []) (st1 := [.int (nI (2 ^ n - 1))]) (μ' := μ) (k := 1) (T := TX4) miX4_everything mvX4_everything (c_everything l g μ (n := n) hn (by omega)) hw_3_51 (by decide) rfl rfl rfl ⟨by decide, by decide, rfl, rfl, by decide, by decide⟩ rfl (Nat.le_of_ble_eq_true rfl) dX6_countAbove_4 rfl ?_
  refine r_istore_n C (lv' := [(2, .int (nI (2 ^ n - 1))), (0, .ref (ad g 15)), (1, .ref (ad g (fo f)))]) 2 dX6_countAbove_7 rfl (by decide) rfl ?_
  refine r_iconst C (v := (nI 0)) dX6_countAbove_8 rfl ?_
  refine r_istore_n C (lv' := [(3, .int (nI 0)), (2, .int (nI (2 ^ n - 1))), (0, .ref (ad g 15)), (1, .ref (ad g (fo f)))]) 3 dX6_countAbove_9 rfl (by decide) rfl ?_
  refine G_mem (show μ = (sA μ 3 (rowU 0 (fun c => bI (bt (gJ μ f) c)) (gA μ 3))) by rw [rowU_0, sA_i]) ?_
  refine lp_countAbove1 C X hn hw hn10 hnw hf h1024 h2n ?_ (2 ^ n + 1) 0 (by omega) (by omega)
  refine r_iconst C (v := (nI 0)) dX6_countAbove_40 rfl ?_
  refine r_istore_n C (lv' := [(3, .int (nI 0)), (2, .int (nI (2 ^ n - 1))), (0, .ref (ad g 15)), (1, .ref (ad g (fo f)))]) 3 dX6_countAbove_41 rfl (by decide) rfl ?_
  exact lp_countAbove2 C X (r0 := ab0 μ n f) hn h1n hn10 hf h1024 h2n Rr (n + 1) 0 (by omega) (by omega)
set_option maxHeartbeats 1000000 in
set_option maxRecDepth 100000 in
theorem lp_countCommonSubsets {z : Zt} {A : Nat → Prop} {l : Launch} {g : Gd} {μ : Mm} (C : Cx z A l (rmk 1 24) cX6_countCommonSubsets 4 "SetFamilies$PairCounts") (X : Kx z g A) {n : Nat} (hn : gI μ 0 = nI n) (hn10 : n ≤ 10) (h1024 : 2 ^ n ≤ 1024) (h2n : 0 < 2 ^ n) (Rr : Rx z g A none none (sJ μ 52 (csF (gA μ 3) (rowU 11 (fun _ => lN 0) (gJ μ 52)) (2 ^ n)))) : ∀ (n_ : Nat) (k : Nat), 2 ^ n - k < n_ → k ≤ 2 ^ n → G z g.1 A 4 (wd g (sJ μ 52 (csF (gA μ 3) (rowU 11 (fun _ => lN 0) (gJ μ 52)) k))) 0 0 10 [(1, .int (nI k)), (0, .ref (ad g 15))] [] := by
  intro n_
  induction n_ with
  | zero => intro k hm_; exact absurd hm_ (Nat.not_lt_zero _)
  | succ n_ ih =>
    intro k hm_ hk
    refine r_iload_n C dX6_countCommonSubsets_10 0 rfl ?_
    refine r_aload_n C dX6_countCommonSubsets_11 1 rfl ?_
    refine r_get C X (k := 15) (R := RX6) (T := TX6) (N := 3) (n := 0) (v := .ref (ad g 1)) (by decide) rfl rfl inw6 (by decide) rfl hw_1_198 rfl dX6_countCommonSubsets_12 ?_
    refine r_callV C X (As := []) (rest := [.int (nI k)]) (st1 := [.int (nI (2 ^ n - 1)), .int (nI k)]) (μ' := (sJ μ 52 (csF (gA μ 3) (rowU 11 (fun _ => lN 0) (gJ μ 52)) k))) (k := 1) (T := TX4) miX4_everything mvX4_everything (c_everything l g (sJ μ 52 (csF (gA μ 3) (rowU 11 (fun _ => lN 0) (gJ μ 52)) k)) (n := n) ((gI_J _ _ _ _).trans hn) (by omega)) hw_3_51 (by decide) rfl rfl rfl ⟨by decide, by decide, rfl, rfl, by decide, by decide⟩ rfl (Nat.le_of_ble_eq_true rfl) dX6_countCommonSubsets_15 rfl ?_
    refine r_icmp_gt C 56 dX6_countCommonSubsets_18 (by decide) (nI_ltI (by omega) (by omega)) (fun h18 => ?_) (fun h18 => ?_)
    · have hk2 : k = 2 ^ n := by omega
      subst hk2
      exact r_vret C dX6_countCommonSubsets_56 Rr
    · have hpn := pN_10 k (by omega)
      refine r_aload_n C dX6_countCommonSubsets_21 1 rfl ?_
      refine r_get C X (k := 15) (R := RX6) (T := TX6) (N := 3) (n := 1) (v := .ref (ad g 16)) (by decide) rfl rfl inw6 (by decide) rfl hw_1_199 rfl dX6_countCommonSubsets_22 ?_
      refine r_iload_n C dX6_countCommonSubsets_25 0 rfl ?_
      refine r_iald C X (k := 16) (v := (gA μ 3 k)) (by decide) rfl (by omega) (by decide) (congrFun (gA_J _ _ _ _) _) dX6_countCommonSubsets_26 ?_
      refine r_i2l C (v := ((gA μ 3 k).toInt64)) dX6_countCommonSubsets_27 rfl ?_
      refine r_lstore_n C (lv' := [(2, .long ((gA μ 3 k).toInt64)), (1, .int (nI k)), (0, .ref (ad g 15))]) 2 dX6_countCommonSubsets_28 rfl (by decide) rfl ?_
      refine r_aload_n C dX6_countCommonSubsets_29 2 rfl ?_
      refine r_get C X (k := 15) (R := RX6) (T := TX6) (N := 3) (n := 2) (v := .ref (ad g 17)) (by decide) rfl rfl inw6 (by decide) rfl hw_1_200 rfl dX6_countCommonSubsets_30 ?_
      refine r_iload_n C dX6_countCommonSubsets_33 1 rfl ?_
      refine r_callP C (As := [.int (nI k)]) (rest := [.ref (ad g 17)]) (st1 := [.int (nI (pN k)), .ref (ad g 17)]) miJ6_bitCount_0f7a4 msJ6_bitCount_0f7a4 (c_bitCountI l (n := k) (by omega)) hw_3_58 rfl ⟨by decide, by decide, rfl, rfl, by decide, by decide⟩ rfl (Nat.le_of_ble_eq_true rfl) dX6_countCommonSubsets_34 rfl ?_
      refine r_dup2 C dX6_countCommonSubsets_37 rfl rfl ?_
      refine r_lald C X (k := 17) (v := (csF (gA μ 3) (rowU 11 (fun _ => lN 0) (gJ μ 52)) k (pN k))) (by decide) rfl (by omega) (by decide) (by rw [gJ_s]) dX6_countCommonSubsets_38 ?_
      refine r_lload_n C dX6_countCommonSubsets_39 0 rfl ?_
      refine r_lload_n C dX6_countCommonSubsets_40 0 rfl ?_
      refine r_lconst C (v := (lN 1)) dX6_countCommonSubsets_41 rfl ?_
      refine r_lsub C (v := (((gA μ 3 k).toInt64) - (lN 1))) dX6_countCommonSubsets_42 rfl ?_
      refine r_lmul C (v := (((gA μ 3 k).toInt64) * (((gA μ 3 k).toInt64) - (lN 1)))) dX6_countCommonSubsets_43 rfl ?_
      refine r_ldc2 C dX6_countCommonSubsets_44 hw_3_59 ?_
      refine r_ldiv C (v := ((gA μ 3 k).toInt64 * ((gA μ 3 k).toInt64 - lN 1) / 2)) dX6_countCommonSubsets_47 (by decide) rfl ?_
      refine r_ladd C (v := ((csF (gA μ 3) (rowU 11 (fun _ => lN 0) (gJ μ 52)) k (pN k)) + ((gA μ 3 k).toInt64 * ((gA μ 3 k).toInt64 - lN 1) / 2))) dX6_countCommonSubsets_48 rfl ?_
      refine r_last C X (k := 17) (f' := csF (gA μ 3) (rowU 11 (fun _ => lN 0) (gJ μ 52)) (k + 1)) (μ' := (sJ (sJ μ 52 (csF (gA μ 3) (rowU 11 (fun _ => lN 0) (gJ μ 52)) k)) 52 (csF (gA μ 3) (rowU 11 (fun _ => lN 0) (gJ μ 52)) (k + 1)))) (by decide) rfl (by omega) (by decide) (by rw [gJ_s]; rfl) dX6_countCommonSubsets_49 (congrArg (jR g 11) (gJ_s _ _ _)) (WF_sJ52_ne g _ _) ?_
      refine G_mem (μ' := (sJ μ 52 (csF (gA μ 3) (rowU 11 (fun _ => lN 0) (gJ μ 52)) (k + 1)))) (sJ_u _ _ _ _) ?_
      refine r_iinc C (v := (nI (k + 1))) (lv' := [(1, .int (nI (k + 1))), (2, .long ((gA μ 3 k).toInt64)), (0, .ref (ad g 15))]) 1 1 dX6_countCommonSubsets_50 rfl (inc_N _ 1) (by decide) rfl ?_
      refine r_goto C 10 dX6_countCommonSubsets_53 (by decide) ?_
      refine G_sub (lv' := [(1, .int (nI (k + 1))), (0, .ref (ad g 15))]) [0, 2] rfl ?_
      exact ih (k + 1) (by omega) (by omega)
set_option maxHeartbeats 1000000 in
set_option maxRecDepth 100000 in
theorem c_countCommonSubsets (l : Launch) (g : Gd) (μ : Mm) {n : Nat} (hn : gI μ 0 = nI n) (hn10 : n ≤ 10) : Ct l yX6_countCommonSubsets cX6_countCommonSubsets 4 none (rmk 1 24) g [.ref (ad g 15)] μ none (mCs μ n) := by
  have h1024 := pw10 hn10
  refine Ct.of (by decide) (Nat.le_of_ble_eq_true rfl) (fun z A C X Rr => ?_)
  have h2n := Nat.two_pow_pos n
  refine r_aload_n C dX6_countCommonSubsets_0 0 rfl ?_
  refine r_get C X (k := 15) (R := RX6) (T := TX6) (N := 3) (n := 2) (v := .ref (ad g 17)) (by decide) rfl rfl inw6 (by decide) rfl hw_1_200 rfl dX6_countCommonSubsets_1 ?_
  refine r_lconst C (v := (lN 0)) dX6_countCommonSubsets_4 rfl ?_
  refine r_callS C X (As := [.ref (ad g 17), .long (lN 0)]) (rest := []) (st1 := []) (μ' := (sJ μ 52 (rowU 11 (fun _ => lN 0) (gJ μ 52)))) miJ7_fill_d0a16 msJ7_fill_d0a16 (c_fillC l g μ (lN 0)) hw_3_57 rfl ⟨by decide, by decide, rfl, rfl, by decide, by decide⟩ rfl (Nat.le_of_ble_eq_true rfl) dX6_countCommonSubsets_5 rfl ?_
  refine r_iconst C (v := (nI 0)) dX6_countCommonSubsets_8 rfl ?_
  refine r_istore_n C (lv' := [(1, .int (nI 0)), (0, .ref (ad g 15))]) 1 dX6_countCommonSubsets_9 rfl (by decide) rfl ?_
  exact lp_countCommonSubsets C X hn hn10 h1024 h2n Rr (2 ^ n + 1) 0 (by omega) (by omega)
set_option maxHeartbeats 1000000 in
set_option maxRecDepth 100000 in
theorem lp_countAllI {z : Zt} {A : Nat → Prop} {l : Launch} {g : Gd} (C : Cx z A l (rmk 3 66) cX6_countAll 4 "SetFamilies$PairCounts") (X : Kx z g A) {M : Mm} {n f c : Nat} {r : Nat → Int64} (hn : gI M 0 = nI n) (hn10 : n ≤ 10) (hc : c ≤ n) (KK : G z g.1 A 4 (wd g (sJ M 52 (caI c r (n - c)))) 0 0 63 [(2, .int (nI c)), (0, .ref (ad g 15)), (1, .ref (ad g (fo f)))] []) : ∀ (n_ : Nat) (j : Nat), n - c - j < n_ → j ≤ n - c → G z g.1 A 4 (wd g (sJ M 52 (caI c r j))) 0 0 25 [(3, .int (nI (c + 1 + j))), (2, .int (nI c)), (0, .ref (ad g 15)), (1, .ref (ad g (fo f)))] [] := by
  intro n_
  induction n_ with
  | zero => intro j hm_; exact absurd hm_ (Nat.not_lt_zero _)
  | succ n_ ih =>
    intro j hm_ hj
    refine r_iload_n C dX6_countAll_25 0 rfl ?_
    refine r_aload_n C dX6_countAll_26 2 rfl ?_
    refine r_get C X (k := 15) (R := RX6) (T := TX6) (N := 3) (n := 0) (v := .ref (ad g 1)) (by decide) rfl rfl inw6 (by decide) rfl hw_1_198 rfl dX6_countAll_27 ?_
    refine r_get C X (k := 1) (R := RX4) (T := TX4) (N := 2) (n := 0) (v := .int (gI (sJ M 52 (caI c r j)) 0)) (by decide) rfl rfl inw4 (by decide) rfl hw_1_44 rfl dX6_countAll_30 ?_
    refine G_top (y := (nI n)) ((gI_J _ _ _ _).trans hn) ?_
    refine r_icmp_gt C 63 dX6_countAll_33 (by decide) (nI_ltI (by omega) (by omega)) (fun h33 => ?_) (fun h33 => ?_)
    · have hjn : j = n - c := by omega
      subst hjn
      refine G_sub (lv' := [(2, .int (nI c)), (0, .ref (ad g 15)), (1, .ref (ad g (fo f)))]) [1, 2, 3] rfl ?_
      exact KK
    · refine r_aload_n C dX6_countAll_36 2 rfl ?_
      refine r_get C X (k := 15) (R := RX6) (T := TX6) (N := 3) (n := 2) (v := .ref (ad g 17)) (by decide) rfl rfl inw6 (by decide) rfl hw_1_200 rfl dX6_countAll_37 ?_
      refine r_iload_n C dX6_countAll_40 1 rfl ?_
      refine r_dup2 C dX6_countAll_41 rfl rfl ?_
      refine r_lald C X (k := 17) (v := (caI c r j c)) (by decide) rfl (by omega) (by decide) (by rw [gJ_s]) dX6_countAll_42 ?_
      refine r_iload_n C dX6_countAll_43 0 rfl ?_
      refine r_iload_n C dX6_countAll_44 1 rfl ?_
      refine r_callP C (As := [.int (nI (c + 1 + j)), .int (nI c)]) (rest := [.long (caI c r j c), .int (nI c), .ref (ad g 17)]) (st1 := [.long (lN (ch (c + 1 + j) c)), .long (caI c r j c), .int (nI c), .ref (ad g 17)]) miX0_binomial msX0_binomial (c_binomial l (a := c + 1 + j) (b := c) (by omega) (by omega) (by have := ch10 (c + 1 + j) (by omega) c (by omega); omega)) hw_3_60 rfl ⟨by decide, by decide, rfl, rfl, by decide, by decide⟩ rfl (Nat.le_of_ble_eq_true rfl) dX6_countAll_45 rfl ?_
      refine r_aload_n C dX6_countAll_48 2 rfl ?_
      refine r_get C X (k := 15) (R := RX6) (T := TX6) (N := 3) (n := 2) (v := .ref (ad g 17)) (by decide) rfl rfl inw6 (by decide) rfl hw_1_200 rfl dX6_countAll_49 ?_
      refine r_iload_n C dX6_countAll_52 0 rfl ?_
      refine r_lald C X (k := 17) (v := (caI c r j (c + 1 + j))) (by decide) rfl (by omega) (by decide) (by rw [gJ_s]) dX6_countAll_53 ?_
      refine r_lmul C (v := ((lN (ch (c + 1 + j) c)) * (caI c r j (c + 1 + j)))) dX6_countAll_54 rfl ?_
      refine r_lsub C (v := ((caI c r j c) - ((lN (ch (c + 1 + j) c)) * (caI c r j (c + 1 + j))))) dX6_countAll_55 rfl ?_
      refine r_last C X (k := 17) (f' := caI c r (j + 1)) (μ' := (sJ (sJ M 52 (caI c r j)) 52 (caI c r (j + 1)))) (by decide) rfl (by omega) (by decide) (by rw [gJ_s]; rfl) dX6_countAll_56 (congrArg (jR g 11) (gJ_s _ _ _)) (WF_sJ52_ne g _ _) ?_
      refine G_mem (μ' := (sJ M 52 (caI c r (j + 1)))) (sJ_u _ _ _ _) ?_
      refine r_iinc C (v := (nI (c + 1 + j + 1))) (lv' := [(3, .int (nI (c + 1 + j + 1))), (2, .int (nI c)), (0, .ref (ad g 15)), (1, .ref (ad g (fo f)))]) 3 0 dX6_countAll_57 rfl (inc_N _ 1) (by decide) rfl ?_
      refine r_goto C 25 dX6_countAll_60 (by decide) ?_
      exact ih (j + 1) (by omega) (by omega)
set_option maxHeartbeats 1000000 in
set_option maxRecDepth 100000 in
theorem lp_countAll {z : Zt} {A : Nat → Prop} {l : Launch} {g : Gd} (C : Cx z A l (rmk 3 66) cX6_countAll 4 "SetFamilies$PairCounts") (X : Kx z g A) {M : Mm} {n f : Nat} {r : Nat → Int64} (hn : gI M 0 = nI n) (hn10 : n ≤ 10) (Rr : Rx z g A none none (sJ M 52 (caO n r (n + 1)))) : ∀ (n_ : Nat) (s : Nat), n + 1 - s < n_ → s ≤ n + 1 → G z g.1 A 4 (wd g (sJ M 52 (caO n r s))) 0 0 17 [(2, .int (pI (n + 1 - s))), (0, .ref (ad g 15)), (1, .ref (ad g (fo f)))] [] := by
  intro n_
  induction n_ with
  | zero => intro s hm_; exact absurd hm_ (Nat.not_lt_zero _)
  | succ n_ ih =>
    intro s hm_ hs
    refine r_iload_n C dX6_countAll_17 0 rfl ?_
    refine r_if_lt C 69 dX6_countAll_18 (by decide) (pI_lt (by omega)) (fun h18 => ?_) (fun h18 => ?_)
    · have hsn : s = n + 1 := by omega
      subst hsn
      exact r_vret C dX6_countAll_69 Rr
    · rw [show n + 1 - s = (n - s) + 1 by omega, pI_s]
      refine r_iload_n C dX6_countAll_21 0 rfl ?_
      refine r_iconst C (v := (nI 1)) dX6_countAll_22 rfl ?_
      refine r_iadd C (v := (nI (n - s + 1))) dX6_countAll_23 (nI_add _ _) ?_
      refine r_istore_n C (lv' := [(3, .int (nI (n - s + 1))), (2, .int (nI (n - s))), (0, .ref (ad g 15)), (1, .ref (ad g (fo f)))]) 3 dX6_countAll_24 rfl (by decide) rfl ?_
      refine lp_countAllI C X (M := M) (r := caO n r s) (c := n - s) hn hn10 (by omega) ?_ (n + 1) 0 (by omega) (by omega)
      rw [show n - (n - s) = s by omega]
      refine r_iinc C (v := (pI (n - s))) (lv' := [(2, .int (pI (n - s))), (0, .ref (ad g 15)), (1, .ref (ad g (fo f)))]) 2 0 dX6_countAll_63 rfl (pI_d _) (by decide) rfl ?_
      refine r_goto C 17 dX6_countAll_66 (by decide) ?_
      refine G_lv (lv' := [(2, .int (pI (n + 1 - (s + 1)))), (0, .ref (ad g 15)), (1, .ref (ad g (fo f)))]) (by rw [show n - s = n + 1 - (s + 1) by omega]) ?_
      exact ih (s + 1) (by omega) (by omega)
set_option maxHeartbeats 1000000 in
set_option maxRecDepth 100000 in
theorem c_countAll (l : Launch) (g : Gd) (μ : Mm) {n nw f : Nat} (hO : Ok μ n nw) (hf : f < 52) : Ct l yX6_countAll cX6_countAll 4 none (rmk 3 66) g [.ref (ad g 15), .ref (ad g (fo f))] μ none (mPC μ n f) := by
  obtain ⟨hn, hw, hn10, hnw, hs, h1n⟩ := hO
  refine Ct.of (by decide) (Nat.le_of_ble_eq_true rfl) (fun z A C X Rr => ?_)
  refine r_aload_n C dX6_countAll_0 0 rfl ?_
  refine r_aload_n C dX6_countAll_1 1 rfl ?_
  refine r_callV C X (As := [.ref (ad g (fo f))]) (rest := []) (st1 := []) (μ' := (mAb μ n f)) (k := 15) (T := TX6) miX6_countAbove mvX6_countAbove (c_countAbove l g μ (n := n) (nw := nw) (f := f) ⟨hn, hw, hn10, hnw, hs, h1n⟩ (by omega)) hw_3_47 (by decide) rfl rfl rfl ⟨by decide, by decide, rfl, rfl, by decide, by decide⟩ rfl (Nat.le_of_ble_eq_true rfl) dX6_countAll_2 rfl ?_
  refine r_aload_n C dX6_countAll_5 0 rfl ?_
  refine r_callV C X (As := []) (rest := []) (st1 := []) (μ' := (mCs (mAb μ n f) n)) (k := 15) (T := TX6) miX6_countCommonSubsets mvX6_countCommonSubsets (c_countCommonSubsets l g (mAb μ n f) (n := n) (gI_mAb.trans hn) (by omega)) hw_3_53 (by decide) rfl rfl rfl ⟨by decide, by decide, rfl, rfl, by decide, by decide⟩ rfl (Nat.le_of_ble_eq_true rfl) dX6_countAll_6 rfl ?_
  refine r_aload_n C dX6_countAll_9 0 rfl ?_
  refine r_get C X (k := 15) (R := RX6) (T := TX6) (N := 3) (n := 0) (v := .ref (ad g 1)) (by decide) rfl rfl inw6 (by decide) rfl hw_1_198 rfl dX6_countAll_10 ?_
  refine r_get C X (k := 1) (R := RX4) (T := TX4) (N := 2) (n := 0) (v := .int (gI (mCs (mAb μ n f) n) 0)) (by decide) rfl rfl inw4 (by decide) rfl hw_1_44 rfl dX6_countAll_13 ?_
  refine G_top (y := (nI n)) (gI_mCs.trans (gI_mAb.trans hn)) ?_
  refine r_istore_n C (lv' := [(2, .int (nI n)), (0, .ref (ad g 15)), (1, .ref (ad g (fo f)))]) 2 dX6_countAll_16 rfl (by decide) rfl ?_
  rw [← pI_s]
  refine G_mem (sJ_i (mCs (mAb μ n f) n) 52).symm ?_
  exact lp_countAll C X (M := (mCs (mAb μ n f) n)) (r := gJ (mCs (mAb μ n f) n) 52) hn hn10 Rr (n + 2) 0 (by omega) (by omega)
set_option maxHeartbeats 1000000 in
set_option maxRecDepth 100000 in
theorem c_withCommon (l : Launch) (g : Gd) (μ : Mm) {c : Nat} (hc : c < 11) : Ct l yX6_withCommon cX6_withCommon 2 (some .int) (rmk 0 0) g [.ref (ad g 15), .int (nI c)] μ (some (.int ((gJ μ 52 c).toInt32))) μ := by
  refine Ct.of (by decide) (Nat.le_of_ble_eq_true rfl) (fun z A C X Rr => ?_)
  refine r_iload_n C dX6_withCommon_0 1 rfl ?_
  refine r_if_lt C 23 dX6_withCommon_1 (by decide) (zI_lt (by omega)) (fun h1 => ?_) (fun h1 => ?_)
  · exact h1.elim
  · refine r_iload_n C dX6_withCommon_4 1 rfl ?_
    refine r_aload_n C dX6_withCommon_5 0 rfl ?_
    refine r_get C X (k := 15) (R := RX6) (T := TX6) (N := 3) (n := 2) (v := .ref (ad g 17)) (by decide) rfl rfl inw6 (by decide) rfl hw_1_200 rfl dX6_withCommon_6 ?_
    refine r_alen C X (k := 17) (t := 2) (n := 11) (by decide) rfl rfl rfl dX6_withCommon_9 ?_
    refine r_icmp_ge C 23 dX6_withCommon_10 (by decide) (nI_leI (by omega) (by omega)) (fun h10 => ?_) (fun h10 => ?_)
    · exact absurd h10 (by omega)
    · refine r_aload_n C dX6_withCommon_13 0 rfl ?_
      refine r_get C X (k := 15) (R := RX6) (T := TX6) (N := 3) (n := 2) (v := .ref (ad g 17)) (by decide) rfl rfl inw6 (by decide) rfl hw_1_200 rfl dX6_withCommon_14 ?_
      refine r_iload_n C dX6_withCommon_17 1 rfl ?_
      refine r_lald C X (k := 17) (v := (gJ μ 52 c)) (by decide) rfl (by omega) (by decide) rfl dX6_withCommon_18 ?_
      refine r_l2i C (v := (((gJ μ 52 c)).toInt32)) dX6_withCommon_19 rfl ?_
      refine r_goto C 24 dX6_withCommon_20 (by decide) ?_
      exact r_iret C dX6_withCommon_24 Rr
