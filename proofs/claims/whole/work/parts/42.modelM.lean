def clN (un : Bool) (s t : Nat) : Nat := if un = true then s ||| t else s &&& t
def clI (F : Nat → Bool) (f : Nat) (un : Bool) (s : Nat) (x : (Nat → Bool) × Bool) : Nat → (Nat → Bool) × Bool
  | 0 => x
  | t + 1 => if F (1024 * f + t) = true ∧ (clI F f un s x t).1 (clN un s t) = false then (upB (clI F f un s x t).1 (clN un s t) true, true) else clI F f un s x t
def clO (F : Nat → Bool) (f : Nat) (un : Bool) (n : Nat) (x : (Nat → Bool) × Bool) : Nat → (Nat → Bool) × Bool
  | 0 => x
  | s + 1 => if (clO F f un n x s).1 s = true then clI F f un s (clO F f un n x s) (2 ^ n) else clO F f un n x s
def clS (F : Nat → Bool) (f : Nat) (un : Bool) (n : Nat) (O : Nat → Bool) : (Nat → Bool) × Bool := clO F f un n (O, false) (2 ^ n)
def clW (F : Nat → Bool) (f : Nat) (un : Bool) (n : Nat) : Nat → (Nat → Bool) → Nat → Bool
  | 0, O => O
  | r + 1, O => if (clS F f un n O).2 = true then clW F f un n r (clS F f un n O).1 else (clS F f un n O).1
def cnB (O : Nat → Bool) : Nat → Nat := sm (fun c => if O c = true then 1 else 0)
theorem cnB_le (O : Nat → Bool) (N : Nat) : cnB O N ≤ N * 1 := sm_le (fun c => by split <;> decide) N
theorem cnB_up {O : Nat → Bool} {k : Nat} (h : O k = false) : ∀ N, cnB (upB O k true) N = cnB O N + (if k < N then 1 else 0)
  | 0 => by rw [if_neg (Nat.not_lt_zero _)]; rfl
  | N + 1 => by
    have ih := cnB_up h N
    have e1 : cnB (upB O k true) (N + 1) = cnB (upB O k true) N + (if upB O k true N = true then 1 else 0) := rfl
    have e2 : cnB O (N + 1) = cnB O N + (if O N = true then 1 else 0) := rfl
    rw [e1, e2, ih]
    by_cases q : N = k
    · subst q
      rw [if_neg (show ¬ N < N from Nat.lt_irrefl _), if_pos (show N < N + 1 from Nat.lt_succ_self _), if_pos (show upB O N true N = true by unfold upB; rw [if_pos rfl]), if_neg (ts_f h)]
    · rw [show upB O k true N = O N by unfold upB; rw [if_neg q]]
      by_cases p : k < N
      · rw [if_pos p, if_pos (show k < N + 1 by omega)]; omega
      · rw [if_neg p, if_neg (show ¬ k < N + 1 by omega), Nat.add_zero, Nat.add_zero]
theorem clN_lt {un : Bool} {s t n : Nat} (hs : s < 2 ^ n) (ht : t < 2 ^ n) : clN un s t < 2 ^ n := by
  unfold clN; split
  · exact Nat.or_lt_two_pow hs ht
  · exact Nat.lt_of_le_of_lt Nat.and_le_left hs
def clG (n : Nat) (x y : (Nat → Bool) × Bool) : Prop := (∀ c, x.1 c = true → y.1 c = true) ∧ cnB x.1 (2 ^ n) ≤ cnB y.1 (2 ^ n) ∧ (y.2 = true → x.2 = true ∨ cnB x.1 (2 ^ n) < cnB y.1 (2 ^ n))
theorem clG_r (n : Nat) (x : (Nat → Bool) × Bool) : clG n x x := ⟨fun _ h => h, Nat.le_refl _, fun h => Or.inl h⟩
theorem clG_t {n : Nat} {x y z : (Nat → Bool) × Bool} (h1 : clG n x y) (h2 : clG n y z) : clG n x z :=
  ⟨fun c h => h2.1 c (h1.1 c h), Nat.le_trans h1.2.1 h2.2.1, fun h => by
    have a := h1.2.1; have b := h2.2.1
    rcases h2.2.2 h with q | q
    · rcases h1.2.2 q with p | p
      · exact Or.inl p
      · exact Or.inr (by omega)
    · exact Or.inr (by omega)⟩
theorem clI_G (F : Nat → Bool) (f : Nat) (un : Bool) {n s : Nat} (hs : s < 2 ^ n) (x : (Nat → Bool) × Bool) : ∀ t, t ≤ 2 ^ n → clG n x (clI F f un s x t)
  | 0, _ => clG_r n x
  | t + 1, h => by
    refine clG_t (clI_G F f un hs x t (by omega)) ?_
    rw [clI]
    by_cases q : F (1024 * f + t) = true ∧ (clI F f un s x t).1 (clN un s t) = false
    · rw [if_pos q]
      have hc := cnB_up q.2 (2 ^ n)
      rw [if_pos (clN_lt hs (by omega))] at hc
      refine ⟨fun c hx => ?_, ?_, fun _ => Or.inr ?_⟩
      · show upB _ _ _ c = true
        unfold upB; split
        · rfl
        · exact hx
      · show _ ≤ cnB (upB _ _ _) _; omega
      · show _ < cnB (upB _ _ _) _; omega
    · rw [if_neg q]; exact clG_r n _
theorem clO_G (F : Nat → Bool) (f : Nat) (un : Bool) (n : Nat) (x : (Nat → Bool) × Bool) : ∀ s, s ≤ 2 ^ n → clG n x (clO F f un n x s)
  | 0, _ => clG_r n x
  | s + 1, h => by
    refine clG_t (clO_G F f un n x s (by omega)) ?_
    rw [clO]; split
    · exact clI_G F f un (by omega) _ _ (Nat.le_refl _)
    · exact clG_r n _
theorem clS_up {F : Nat → Bool} {f : Nat} {un : Bool} {n : Nat} {O : Nat → Bool} (h : (clS F f un n O).2 = true) : cnB O (2 ^ n) < cnB (clS F f un n O).1 (2 ^ n) := by
  rcases (clO_G F f un n (O, false) (2 ^ n) (Nat.le_refl _)).2.2 h with q | q
  · exact absurd q (show ¬ false = true by decide)
  · exact q
set_option maxHeartbeats 1000000 in
set_option maxRecDepth 100000 in
theorem lp_closesC {z : Zt} {A : Nat → Prop} {l : Launch} {g : Gd} {μ : Mm} (C : Cx z A l (rmk 1 20) cX11_closes 7 "SetFamiliesModel") (X : Kx z g A) {F O : Nat → Bool} {n f : Nat} {un : Bool} (h6 : gI μ 6 = nI n) (hn10 : n ≤ 10) (h5 : gA μ 5 = bR F) (hf : f < 4) (h1024 : 2 ^ n ≤ 1024) (h2n : 0 < 2 ^ n) (KK : G z g.1 A 7 (wd g (sA μ 9 (bR (rowU (2 ^ n) (fun c => F (1024 * f + c)) O)))) 0 0 34 [(0, .ref (ad g 19)), (1, .int (nI f)), (2, .int (bI un))] []) : ∀ (n_ : Nat) (s : Nat), 2 ^ n - s < n_ → s ≤ 2 ^ n → G z g.1 A 7 (wd g (sA μ 9 (bR (rowU s (fun c => F (1024 * f + c)) O)))) 0 0 2 [(3, .int (nI s)), (0, .ref (ad g 19)), (1, .int (nI f)), (2, .int (bI un))] [] := by
  intro n_
  induction n_ with
  | zero => intro s hm_; exact absurd hm_ (Nat.not_lt_zero _)
  | succ n_ ih =>
    intro s hm_ hs
    refine r_iload_n C dX11_closes_2 0 rfl ?_
    refine r_aload_n C dX11_closes_3 1 rfl ?_
    refine r_callV C X (As := []) (rest := [.int (nI s)]) (st1 := [.int (nI (2 ^ n)), .int (nI s)]) (μ' := (sA μ 9 (bR (rowU s (fun c => F (1024 * f + c)) O)))) (k := 19) (T := TX11) miX11_codes mvX11_codes (c_codes l g (sA μ 9 (bR (rowU s (fun c => F (1024 * f + c)) O))) (n := n) ((gI_A _ _ _ _).trans h6) (by omega)) hw_5_99 (by decide) rfl rfl rfl ⟨by decide, by decide, rfl, rfl, by decide, by decide⟩ rfl (Nat.le_of_ble_eq_true rfl) dX11_closes_4 rfl ?_
    refine r_icmp_ge C 34 dX11_closes_7 (by decide) (nI_leI (by omega) (by omega)) (fun h7 => ?_) (fun h7 => ?_)
    · have hs2 : s = 2 ^ n := by omega
      subst hs2
      refine G_sub (lv' := [(0, .ref (ad g 19)), (1, .int (nI f)), (2, .int (bI un))]) [1, 2, 3] rfl ?_
      exact KK
    · refine r_aload_n C dX11_closes_10 1 rfl ?_
      refine r_get C X (k := 19) (R := RX11) (T := TX11) (N := 15) (n := 8) (v := .ref (ad g 24)) (by decide) rfl rfl inw11 (by decide) rfl hw_5_26 rfl dX11_closes_11 ?_
      refine r_iload_n C dX11_closes_14 0 rfl ?_
      refine r_aload_n C dX11_closes_15 1 rfl ?_
      refine r_get C X (k := 19) (R := RX11) (T := TX11) (N := 15) (n := 2) (v := .ref (ad g 20)) (by decide) rfl rfl inw11 (by decide) rfl hw_5_20 rfl dX11_closes_16 ?_
      refine r_sipush C (v := (nI 1024)) dX11_closes_19 (by decide) ?_
      refine r_iload_n C dX11_closes_22 2 rfl ?_
      refine r_imul C (v := (nI (1024 * f))) dX11_closes_23 (pk_mul _ _) ?_
      refine r_iload_n C dX11_closes_24 0 rfl ?_
      refine r_iadd C (v := (nI (1024 * f + s))) dX11_closes_25 (nI_add _ _) ?_
      refine r_zald C X (k := 20) (v := (bI (F (1024 * f + s)))) (by decide) rfl (by omega) (by decide) (bR_at ((gA_n _ _ (by decide)).trans h5) _) dX11_closes_26 ?_
      refine r_zast C X (k := 24) (f' := bR (rowU (s + 1) (fun c => F (1024 * f + c)) O)) (μ' := (sA (sA μ 9 (bR (rowU s (fun c => F (1024 * f + c)) O))) 9 (bR (rowU (s + 1) (fun c => F (1024 * f + c)) O)))) (by decide) rfl (by omega) (by decide) (by rw [gA_s]; exact bR_s _ _ _ rfl) dX11_closes_27 (congrArg (iR g 3 1024) (gA_s _ _ _)) (WF_sA9_ne g _ _) ?_
      refine G_mem (μ' := (sA μ 9 (bR (rowU (s + 1) (fun c => F (1024 * f + c)) O)))) (sA_u _ _ _ _) ?_
      refine r_iinc C (v := (nI (s + 1))) (lv' := [(3, .int (nI (s + 1))), (0, .ref (ad g 19)), (1, .int (nI f)), (2, .int (bI un))]) 3 0 dX11_closes_28 rfl (inc_N _ 1) (by decide) rfl ?_
      refine r_goto C 2 dX11_closes_31 (by decide) ?_
      exact ih (s + 1) (by omega) (by omega)
set_option maxHeartbeats 1000000 in
set_option maxRecDepth 100000 in
theorem lp_closesI {z : Zt} {A : Nat → Prop} {l : Launch} {g : Gd} {μ : Mm} (C : Cx z A l (rmk 1 20) cX11_closes 7 "SetFamiliesModel") (X : Kx z g A) {F : Nat → Bool} {n f s : Nat} {un : Bool} {x : (Nat → Bool) × Bool} (h6 : gI μ 6 = nI n) (hn10 : n ≤ 10) (h5 : gA μ 5 = bR F) (hf : f < 4) (hs1 : s < 2 ^ n) (hxs : x.1 s = true) (h1024 : 2 ^ n ≤ 1024) (KK : G z g.1 A 7 (wd g (sA μ 9 (bR (clI F f un s x (2 ^ n)).1))) 0 0 137 [(4, .int (nI s)), (3, .int (bI ((clI F f un s x (2 ^ n)).2))), (0, .ref (ad g 19)), (1, .int (nI f)), (2, .int (bI un))] []) : ∀ (n_ : Nat) (t : Nat), 2 ^ n - t < n_ → t ≤ 2 ^ n → G z g.1 A 7 (wd g (sA μ 9 (bR (clI F f un s x t).1))) 0 0 57 [(5, .int (nI t)), (4, .int (nI s)), (3, .int (bI ((clI F f un s x t).2))), (0, .ref (ad g 19)), (1, .int (nI f)), (2, .int (bI un))] [] := by
  intro n_
  induction n_ with
  | zero => intro t hm_; exact absurd hm_ (Nat.not_lt_zero _)
  | succ n_ ih =>
    intro t hm_ ht
    refine r_iload C dX11_closes_57 0 rfl ?_
    refine r_aload_n C dX11_closes_59 3 rfl ?_
    refine r_callV C X (As := []) (rest := [.int (nI t)]) (st1 := [.int (nI (2 ^ n)), .int (nI t)]) (μ' := (sA μ 9 (bR (clI F f un s x t).1))) (k := 19) (T := TX11) miX11_codes mvX11_codes (c_codes l g (sA μ 9 (bR (clI F f un s x t).1)) (n := n) ((gI_A _ _ _ _).trans h6) (by omega)) hw_5_99 (by decide) rfl rfl rfl ⟨by decide, by decide, rfl, rfl, by decide, by decide⟩ rfl (Nat.le_of_ble_eq_true rfl) dX11_closes_60 rfl ?_
    refine r_icmp_ge C 137 dX11_closes_63 (by decide) (nI_leI (by omega) (by omega)) (fun h63 => ?_) (fun h63 => ?_)
    · have ht2 : t = 2 ^ n := by omega
      subst ht2
      refine G_sub (lv' := [(4, .int (nI s)), (3, .int (bI ((clI F f un s x (2 ^ n)).2))), (0, .ref (ad g 19)), (1, .int (nI f)), (2, .int (bI un))]) [1, 2, 3, 4, 5] rfl ?_
      exact KK
    · have hmo := (clI_G F f un hs1 x t ht).1 s hxs
      have hcn := clN_lt (un := un) hs1 (show t < 2 ^ n by omega)
      refine r_aload_n C dX11_closes_66 3 rfl ?_
      refine r_get C X (k := 19) (R := RX11) (T := TX11) (N := 15) (n := 8) (v := .ref (ad g 24)) (by decide) rfl rfl inw11 (by decide) rfl hw_5_26 rfl dX11_closes_67 ?_
      refine r_iload C dX11_closes_70 1 rfl ?_
      refine r_zald C X (k := 24) (v := (bI (((clI F f un s x t).1) s))) (by decide) rfl (by omega) (by decide) (bR_at (gA_s _ _ _) _) dX11_closes_72 ?_
      refine r_if_eq C 137 dX11_closes_73 (by decide) (bI_eq _) (fun h73 => ?_) (fun h73 => ?_)
      · exact absurd h73 (by rw [hmo]; decide)
      · refine r_iload_n C dX11_closes_76 5 rfl ?_
        refine r_if_eq C 88 dX11_closes_77 (by decide) (bI_eq _) (fun h77 => ?_) (fun h77 => ?_)
        · refine r_iload C dX11_closes_88 1 rfl ?_
          refine r_iload C dX11_closes_90 0 rfl ?_
          refine r_iand C (v := (nI (s &&& t))) dX11_closes_92 (nand _ _) ?_
          refine G_top (y := (nI (clN un s t))) (by rw [clN, if_neg (ts_f h77)]) ?_
          refine r_istore C (lv' := [(6, .int (nI (clN un s t))), (5, .int (nI t)), (4, .int (nI s)), (3, .int (bI ((clI F f un s x t).2))), (0, .ref (ad g 19)), (1, .int (nI f)), (2, .int (bI un))]) 6 dX11_closes_93 (by decide) rfl ?_
          refine r_aload_n C dX11_closes_95 4 rfl ?_
          refine r_get C X (k := 19) (R := RX11) (T := TX11) (N := 15) (n := 2) (v := .ref (ad g 20)) (by decide) rfl rfl inw11 (by decide) rfl hw_5_20 rfl dX11_closes_96 ?_
          refine r_sipush C (v := (nI 1024)) dX11_closes_99 (by decide) ?_
          refine r_iload_n C dX11_closes_102 5 rfl ?_
          refine r_imul C (v := (nI (1024 * f))) dX11_closes_103 (pk_mul _ _) ?_
          refine r_iload C dX11_closes_104 1 rfl ?_
          refine r_iadd C (v := (nI (1024 * f + t))) dX11_closes_106 (nI_add _ _) ?_
          refine r_zald C X (k := 20) (v := (bI (F (1024 * f + t)))) (by decide) rfl (by omega) (by decide) (bR_at ((gA_n _ _ (by decide)).trans h5) _) dX11_closes_107 ?_
          refine r_if_eq C 131 dX11_closes_108 (by decide) (bI_eq _) (fun h108 => ?_) (fun h108 => ?_)
          · refine r_iinc C (v := (nI (t + 1))) (lv' := [(5, .int (nI (t + 1))), (6, .int (nI (clN un s t))), (4, .int (nI s)), (3, .int (bI ((clI F f un s x t).2))), (0, .ref (ad g 19)), (1, .int (nI f)), (2, .int (bI un))]) 5 1 dX11_closes_131 rfl (inc_N _ 1) (by decide) rfl ?_
            refine r_goto C 57 dX11_closes_134 (by decide) ?_
            refine G_mem (μ' := (sA μ 9 (bR (clI F f un s x (t + 1)).1))) (by rw [clI, if_neg (fun q => ts_f h108 q.1)]) ?_
            refine G_lv (lv' := [(5, .int (nI (t + 1))), (6, .int (nI (clN un s t))), (4, .int (nI s)), (3, .int (bI ((clI F f un s x (t + 1)).2))), (0, .ref (ad g 19)), (1, .int (nI f)), (2, .int (bI un))]) (by rw [clI, if_neg (fun q => ts_f h108 q.1)]) ?_
            refine G_sub (lv' := [(5, .int (nI (t + 1))), (4, .int (nI s)), (3, .int (bI ((clI F f un s x (t + 1)).2))), (0, .ref (ad g 19)), (1, .int (nI f)), (2, .int (bI un))]) [0, 2, 3, 4, 5, 6] rfl ?_
            exact ih (t + 1) (by omega) (by omega)
          · refine r_aload_n C dX11_closes_111 4 rfl ?_
            refine r_get C X (k := 19) (R := RX11) (T := TX11) (N := 15) (n := 8) (v := .ref (ad g 24)) (by decide) rfl rfl inw11 (by decide) rfl hw_5_26 rfl dX11_closes_112 ?_
            refine r_iload C dX11_closes_115 0 rfl ?_
            refine r_zald C X (k := 24) (v := (bI (((clI F f un s x t).1) (clN un s t)))) (by decide) rfl (by omega) (by decide) (bR_at (gA_s _ _ _) _) dX11_closes_117 ?_
            refine r_if_ne C 131 dX11_closes_118 (by decide) (bI_ne _) (fun h118 => ?_) (fun h118 => ?_)
            · refine r_iinc C (v := (nI (t + 1))) (lv' := [(5, .int (nI (t + 1))), (6, .int (nI (clN un s t))), (4, .int (nI s)), (3, .int (bI ((clI F f un s x t).2))), (0, .ref (ad g 19)), (1, .int (nI f)), (2, .int (bI un))]) 5 1 dX11_closes_131 rfl (inc_N _ 1) (by decide) rfl ?_
              refine r_goto C 57 dX11_closes_134 (by decide) ?_
              refine G_mem (μ' := (sA μ 9 (bR (clI F f un s x (t + 1)).1))) (by rw [clI, if_neg (fun q => ts_f q.2 h118)]) ?_
              refine G_lv (lv' := [(5, .int (nI (t + 1))), (6, .int (nI (clN un s t))), (4, .int (nI s)), (3, .int (bI ((clI F f un s x (t + 1)).2))), (0, .ref (ad g 19)), (1, .int (nI f)), (2, .int (bI un))]) (by rw [clI, if_neg (fun q => ts_f q.2 h118)]) ?_
              refine G_sub (lv' := [(5, .int (nI (t + 1))), (4, .int (nI s)), (3, .int (bI ((clI F f un s x (t + 1)).2))), (0, .ref (ad g 19)), (1, .int (nI f)), (2, .int (bI un))]) [0, 2, 3, 4, 5, 6] rfl ?_
              exact ih (t + 1) (by omega) (by omega)
            · refine r_aload_n C dX11_closes_121 4 rfl ?_
              refine r_get C X (k := 19) (R := RX11) (T := TX11) (N := 15) (n := 8) (v := .ref (ad g 24)) (by decide) rfl rfl inw11 (by decide) rfl hw_5_26 rfl dX11_closes_122 ?_
              refine r_iload C dX11_closes_125 0 rfl ?_
              refine r_iconst C (v := (nI 1)) dX11_closes_127 rfl ?_
              refine G_top (y := (bI true)) rfl ?_
              refine r_zast C X (k := 24) (f' := bR (clI F f un s x (t + 1)).1) (μ' := (sA (sA μ 9 (bR (clI F f un s x t).1)) 9 (bR (clI F f un s x (t + 1)).1))) (by decide) rfl (by omega) (by decide) (by rw [gA_s, clI, if_pos ⟨ts_t h108, Bool.eq_false_iff.mpr h118⟩]; exact bR_up _ _ _) dX11_closes_128 (congrArg (iR g 3 1024) (gA_s _ _ _)) (WF_sA9_ne g _ _) ?_
              refine G_mem (μ' := (sA μ 9 (bR (clI F f un s x (t + 1)).1))) (sA_u _ _ _ _) ?_
              refine r_iconst C (v := (nI 1)) dX11_closes_129 rfl ?_
              refine r_istore_n C (lv' := [(3, .int (nI 1)), (6, .int (nI (clN un s t))), (5, .int (nI t)), (4, .int (nI s)), (0, .ref (ad g 19)), (1, .int (nI f)), (2, .int (bI un))]) 3 dX11_closes_130 rfl (by decide) rfl ?_
              refine r_iinc C (v := (nI (t + 1))) (lv' := [(5, .int (nI (t + 1))), (3, .int (nI 1)), (6, .int (nI (clN un s t))), (4, .int (nI s)), (0, .ref (ad g 19)), (1, .int (nI f)), (2, .int (bI un))]) 5 2 dX11_closes_131 rfl (inc_N _ 1) (by decide) rfl ?_
              refine r_goto C 57 dX11_closes_134 (by decide) ?_
              refine G_lv (lv' := [(5, .int (nI (t + 1))), (3, .int (bI ((clI F f un s x (t + 1)).2))), (6, .int (nI (clN un s t))), (4, .int (nI s)), (0, .ref (ad g 19)), (1, .int (nI f)), (2, .int (bI un))]) (by rw [clI, if_pos ⟨ts_t h108, Bool.eq_false_iff.mpr h118⟩]; rfl) ?_
              refine G_sub (lv' := [(5, .int (nI (t + 1))), (4, .int (nI s)), (3, .int (bI ((clI F f un s x (t + 1)).2))), (0, .ref (ad g 19)), (1, .int (nI f)), (2, .int (bI un))]) [0, 3, 1, 4, 5, 6] rfl ?_
              exact ih (t + 1) (by omega) (by omega)
        · refine r_iload C dX11_closes_80 1 rfl ?_
          refine r_iload C dX11_closes_82 0 rfl ?_
          refine r_ior C (v := (nI (s ||| t))) dX11_closes_84 (nor _ _) ?_
          refine r_goto C 93 dX11_closes_85 (by decide) ?_
          refine G_top (y := (nI (clN un s t))) (by rw [clN, if_pos (ts_t h77)]) ?_
          refine r_istore C (lv' := [(6, .int (nI (clN un s t))), (5, .int (nI t)), (4, .int (nI s)), (3, .int (bI ((clI F f un s x t).2))), (0, .ref (ad g 19)), (1, .int (nI f)), (2, .int (bI un))]) 6 dX11_closes_93 (by decide) rfl ?_
          refine r_aload_n C dX11_closes_95 4 rfl ?_
          refine r_get C X (k := 19) (R := RX11) (T := TX11) (N := 15) (n := 2) (v := .ref (ad g 20)) (by decide) rfl rfl inw11 (by decide) rfl hw_5_20 rfl dX11_closes_96 ?_
          refine r_sipush C (v := (nI 1024)) dX11_closes_99 (by decide) ?_
          refine r_iload_n C dX11_closes_102 5 rfl ?_
          refine r_imul C (v := (nI (1024 * f))) dX11_closes_103 (pk_mul _ _) ?_
          refine r_iload C dX11_closes_104 1 rfl ?_
          refine r_iadd C (v := (nI (1024 * f + t))) dX11_closes_106 (nI_add _ _) ?_
          refine r_zald C X (k := 20) (v := (bI (F (1024 * f + t)))) (by decide) rfl (by omega) (by decide) (bR_at ((gA_n _ _ (by decide)).trans h5) _) dX11_closes_107 ?_
          refine r_if_eq C 131 dX11_closes_108 (by decide) (bI_eq _) (fun h108 => ?_) (fun h108 => ?_)
          · refine r_iinc C (v := (nI (t + 1))) (lv' := [(5, .int (nI (t + 1))), (6, .int (nI (clN un s t))), (4, .int (nI s)), (3, .int (bI ((clI F f un s x t).2))), (0, .ref (ad g 19)), (1, .int (nI f)), (2, .int (bI un))]) 5 1 dX11_closes_131 rfl (inc_N _ 1) (by decide) rfl ?_
            refine r_goto C 57 dX11_closes_134 (by decide) ?_
            refine G_mem (μ' := (sA μ 9 (bR (clI F f un s x (t + 1)).1))) (by rw [clI, if_neg (fun q => ts_f h108 q.1)]) ?_
            refine G_lv (lv' := [(5, .int (nI (t + 1))), (6, .int (nI (clN un s t))), (4, .int (nI s)), (3, .int (bI ((clI F f un s x (t + 1)).2))), (0, .ref (ad g 19)), (1, .int (nI f)), (2, .int (bI un))]) (by rw [clI, if_neg (fun q => ts_f h108 q.1)]) ?_
            refine G_sub (lv' := [(5, .int (nI (t + 1))), (4, .int (nI s)), (3, .int (bI ((clI F f un s x (t + 1)).2))), (0, .ref (ad g 19)), (1, .int (nI f)), (2, .int (bI un))]) [0, 2, 3, 4, 5, 6] rfl ?_
            exact ih (t + 1) (by omega) (by omega)
          · refine r_aload_n C dX11_closes_111 4 rfl ?_
            refine r_get C X (k := 19) (R := RX11) (T := TX11) (N := 15) (n := 8) (v := .ref (ad g 24)) (by decide) rfl rfl inw11 (by decide) rfl hw_5_26 rfl dX11_closes_112 ?_
            refine r_iload C dX11_closes_115 0 rfl ?_
            refine r_zald C X (k := 24) (v := (bI (((clI F f un s x t).1) (clN un s t)))) (by decide) rfl (by omega) (by decide) (bR_at (gA_s _ _ _) _) dX11_closes_117 ?_
            refine r_if_ne C 131 dX11_closes_118 (by decide) (bI_ne _) (fun h118 => ?_) (fun h118 => ?_)
            · refine r_iinc C (v := (nI (t + 1))) (lv' := [(5, .int (nI (t + 1))), (6, .int (nI (clN un s t))), (4, .int (nI s)), (3, .int (bI ((clI F f un s x t).2))), (0, .ref (ad g 19)), (1, .int (nI f)), (2, .int (bI un))]) 5 1 dX11_closes_131 rfl (inc_N _ 1) (by decide) rfl ?_
              refine r_goto C 57 dX11_closes_134 (by decide) ?_
              refine G_mem (μ' := (sA μ 9 (bR (clI F f un s x (t + 1)).1))) (by rw [clI, if_neg (fun q => ts_f q.2 h118)]) ?_
              refine G_lv (lv' := [(5, .int (nI (t + 1))), (6, .int (nI (clN un s t))), (4, .int (nI s)), (3, .int (bI ((clI F f un s x (t + 1)).2))), (0, .ref (ad g 19)), (1, .int (nI f)), (2, .int (bI un))]) (by rw [clI, if_neg (fun q => ts_f q.2 h118)]) ?_
              refine G_sub (lv' := [(5, .int (nI (t + 1))), (4, .int (nI s)), (3, .int (bI ((clI F f un s x (t + 1)).2))), (0, .ref (ad g 19)), (1, .int (nI f)), (2, .int (bI un))]) [0, 2, 3, 4, 5, 6] rfl ?_
              exact ih (t + 1) (by omega) (by omega)
            · refine r_aload_n C dX11_closes_121 4 rfl ?_
              refine r_get C X (k := 19) (R := RX11) (T := TX11) (N := 15) (n := 8) (v := .ref (ad g 24)) (by decide) rfl rfl inw11 (by decide) rfl hw_5_26 rfl dX11_closes_122 ?_
              refine r_iload C dX11_closes_125 0 rfl ?_
              refine r_iconst C (v := (nI 1)) dX11_closes_127 rfl ?_
              refine G_top (y := (bI true)) rfl ?_
              refine r_zast C X (k := 24) (f' := bR (clI F f un s x (t + 1)).1) (μ' := (sA (sA μ 9 (bR (clI F f un s x t).1)) 9 (bR (clI F f un s x (t + 1)).1))) (by decide) rfl (by omega) (by decide) (by rw [gA_s, clI, if_pos ⟨ts_t h108, Bool.eq_false_iff.mpr h118⟩]; exact bR_up _ _ _) dX11_closes_128 (congrArg (iR g 3 1024) (gA_s _ _ _)) (WF_sA9_ne g _ _) ?_
              refine G_mem (μ' := (sA μ 9 (bR (clI F f un s x (t + 1)).1))) (sA_u _ _ _ _) ?_
              refine r_iconst C (v := (nI 1)) dX11_closes_129 rfl ?_
              refine r_istore_n C (lv' := [(3, .int (nI 1)), (6, .int (nI (clN un s t))), (5, .int (nI t)), (4, .int (nI s)), (0, .ref (ad g 19)), (1, .int (nI f)), (2, .int (bI un))]) 3 dX11_closes_130 rfl (by decide) rfl ?_
              refine r_iinc C (v := (nI (t + 1))) (lv' := [(5, .int (nI (t + 1))), (3, .int (nI 1)), (6, .int (nI (clN un s t))), (4, .int (nI s)), (0, .ref (ad g 19)), (1, .int (nI f)), (2, .int (bI un))]) 5 2 dX11_closes_131 rfl (inc_N _ 1) (by decide) rfl ?_
              refine r_goto C 57 dX11_closes_134 (by decide) ?_
              refine G_lv (lv' := [(5, .int (nI (t + 1))), (3, .int (bI ((clI F f un s x (t + 1)).2))), (6, .int (nI (clN un s t))), (4, .int (nI s)), (0, .ref (ad g 19)), (1, .int (nI f)), (2, .int (bI un))]) (by rw [clI, if_pos ⟨ts_t h108, Bool.eq_false_iff.mpr h118⟩]; rfl) ?_
              refine G_sub (lv' := [(5, .int (nI (t + 1))), (4, .int (nI s)), (3, .int (bI ((clI F f un s x (t + 1)).2))), (0, .ref (ad g 19)), (1, .int (nI f)), (2, .int (bI un))]) [0, 3, 1, 4, 5, 6] rfl ?_
              exact ih (t + 1) (by omega) (by omega)
set_option maxHeartbeats 1000000 in
set_option maxRecDepth 100000 in
theorem lp_closesO {z : Zt} {A : Nat → Prop} {l : Launch} {g : Gd} {μ : Mm} (C : Cx z A l (rmk 1 20) cX11_closes 7 "SetFamiliesModel") (X : Kx z g A) {F : Nat → Bool} {n f : Nat} {un : Bool} {x : (Nat → Bool) × Bool} (h6 : gI μ 6 = nI n) (hn10 : n ≤ 10) (h5 : gA μ 5 = bR F) (hf : f < 4) (h1024 : 2 ^ n ≤ 1024) (h2n : 0 < 2 ^ n) (KK : G z g.1 A 7 (wd g (sA μ 9 (bR (clO F f un n x (2 ^ n)).1))) 0 0 143 [(3, .int (bI ((clO F f un n x (2 ^ n)).2))), (0, .ref (ad g 19)), (1, .int (nI f)), (2, .int (bI un))] []) : ∀ (n_ : Nat) (s : Nat), 2 ^ n - s < n_ → s ≤ 2 ^ n → G z g.1 A 7 (wd g (sA μ 9 (bR (clO F f un n x s).1))) 0 0 45 [(4, .int (nI s)), (3, .int (bI ((clO F f un n x s).2))), (0, .ref (ad g 19)), (1, .int (nI f)), (2, .int (bI un))] [] := by
  intro n_
  induction n_ with
  | zero => intro s hm_; exact absurd hm_ (Nat.not_lt_zero _)
  | succ n_ ih =>
    intro s hm_ hs
    refine r_iload C dX11_closes_45 0 rfl ?_
    refine r_aload_n C dX11_closes_47 2 rfl ?_
    refine r_callV C X (As := []) (rest := [.int (nI s)]) (st1 := [.int (nI (2 ^ n)), .int (nI s)]) (μ' := (sA μ 9 (bR (clO F f un n x s).1))) (k := 19) (T := TX11) miX11_codes mvX11_codes (c_codes l g (sA μ 9 (bR (clO F f un n x s).1)) (n := n) ((gI_A _ _ _ _).trans h6) (by omega)) hw_5_99 (by decide) rfl rfl rfl ⟨by decide, by decide, rfl, rfl, by decide, by decide⟩ rfl (Nat.le_of_ble_eq_true rfl) dX11_closes_48 rfl ?_
    refine r_icmp_ge C 143 dX11_closes_51 (by decide) (nI_leI (by omega) (by omega)) (fun h51 => ?_) (fun h51 => ?_)
    · have hs2 : s = 2 ^ n := by omega
      subst hs2
      refine G_sub (lv' := [(3, .int (bI ((clO F f un n x (2 ^ n)).2))), (0, .ref (ad g 19)), (1, .int (nI f)), (2, .int (bI un))]) [1, 2, 3, 4] rfl ?_
      exact KK
    · have hs1 : s < 2 ^ n := by omega
      refine r_iconst C (v := (nI 0)) dX11_closes_54 rfl ?_
      refine r_istore C (lv' := [(5, .int (nI 0)), (4, .int (nI s)), (3, .int (bI ((clO F f un n x s).2))), (0, .ref (ad g 19)), (1, .int (nI f)), (2, .int (bI un))]) 5 dX11_closes_55 (by decide) rfl ?_
      by_cases hxs : (clO F f un n x s).1 s = true
      · refine G_lv (lv' := [(5, .int (nI 0)), (4, .int (nI s)), (3, .int (bI ((clI F f un s (clO F f un n x s) 0).2))), (0, .ref (ad g 19)), (1, .int (nI f)), (2, .int (bI un))]) rfl ?_
        refine G_mem (μ' := (sA μ 9 (bR (clI F f un s (clO F f un n x s) 0).1))) rfl ?_
        refine lp_closesI C X (x := (clO F f un n x s)) h6 hn10 h5 hf hs1 hxs h1024 ?_ (2 ^ n + 1) 0 (by omega) (by omega)
        refine G_mem (μ' := (sA μ 9 (bR (clO F f un n x (s + 1)).1))) (by rw [clO, if_pos hxs]) ?_
        refine G_lv (lv' := [(4, .int (nI s)), (3, .int (bI ((clO F f un n x (s + 1)).2))), (0, .ref (ad g 19)), (1, .int (nI f)), (2, .int (bI un))]) (by rw [clO, if_pos hxs]) ?_
        refine r_iinc C (v := (nI (s + 1))) (lv' := [(4, .int (nI (s + 1))), (3, .int (bI ((clO F f un n x (s + 1)).2))), (0, .ref (ad g 19)), (1, .int (nI f)), (2, .int (bI un))]) 4 0 dX11_closes_137 rfl (inc_N _ 1) (by decide) rfl ?_
        refine r_goto C 45 dX11_closes_140 (by decide) ?_
        exact ih (s + 1) (by omega) (by omega)
      · refine r_iload C dX11_closes_57 0 rfl ?_
        refine r_aload_n C dX11_closes_59 3 rfl ?_
        refine r_callV C X (As := []) (rest := [.int (nI 0)]) (st1 := [.int (nI (2 ^ n)), .int (nI 0)]) (μ' := (sA μ 9 (bR (clO F f un n x s).1))) (k := 19) (T := TX11) miX11_codes mvX11_codes (c_codes l g (sA μ 9 (bR (clO F f un n x s).1)) (n := n) ((gI_A _ _ _ _).trans h6) (by omega)) hw_5_99 (by decide) rfl rfl rfl ⟨by decide, by decide, rfl, rfl, by decide, by decide⟩ rfl (Nat.le_of_ble_eq_true rfl) dX11_closes_60 rfl ?_
        refine r_icmp_ge C 137 dX11_closes_63 (by decide) (nI_leI (by omega) (by omega)) (fun h63 => ?_) (fun h63 => ?_)
        · refine G_mem (μ' := (sA μ 9 (bR (clO F f un n x (s + 1)).1))) (by rw [clO, if_neg hxs]) ?_
          refine G_lv (lv' := [(5, .int (nI 0)), (4, .int (nI s)), (3, .int (bI ((clO F f un n x (s + 1)).2))), (0, .ref (ad g 19)), (1, .int (nI f)), (2, .int (bI un))]) (by rw [clO, if_neg hxs]) ?_
          refine r_iinc C (v := (nI (s + 1))) (lv' := [(4, .int (nI (s + 1))), (5, .int (nI 0)), (3, .int (bI ((clO F f un n x (s + 1)).2))), (0, .ref (ad g 19)), (1, .int (nI f)), (2, .int (bI un))]) 4 1 dX11_closes_137 rfl (inc_N _ 1) (by decide) rfl ?_
          refine r_goto C 45 dX11_closes_140 (by decide) ?_
          refine G_sub (lv' := [(4, .int (nI (s + 1))), (3, .int (bI ((clO F f un n x (s + 1)).2))), (0, .ref (ad g 19)), (1, .int (nI f)), (2, .int (bI un))]) [0, 2, 3, 4, 5] rfl ?_
          exact ih (s + 1) (by omega) (by omega)
        · refine r_aload_n C dX11_closes_66 3 rfl ?_
          refine r_get C X (k := 19) (R := RX11) (T := TX11) (N := 15) (n := 8) (v := .ref (ad g 24)) (by decide) rfl rfl inw11 (by decide) rfl hw_5_26 rfl dX11_closes_67 ?_
          refine r_iload C dX11_closes_70 1 rfl ?_
          refine r_zald C X (k := 24) (v := (bI (((clO F f un n x s).1) s))) (by decide) rfl (by omega) (by decide) (bR_at (gA_s _ _ _) _) dX11_closes_72 ?_
          refine r_if_eq C 137 dX11_closes_73 (by decide) (bI_eq _) (fun h73 => ?_) (fun h73 => ?_)
          · refine G_mem (μ' := (sA μ 9 (bR (clO F f un n x (s + 1)).1))) (by rw [clO, if_neg hxs]) ?_
            refine G_lv (lv' := [(5, .int (nI 0)), (4, .int (nI s)), (3, .int (bI ((clO F f un n x (s + 1)).2))), (0, .ref (ad g 19)), (1, .int (nI f)), (2, .int (bI un))]) (by rw [clO, if_neg hxs]) ?_
            refine r_iinc C (v := (nI (s + 1))) (lv' := [(4, .int (nI (s + 1))), (5, .int (nI 0)), (3, .int (bI ((clO F f un n x (s + 1)).2))), (0, .ref (ad g 19)), (1, .int (nI f)), (2, .int (bI un))]) 4 1 dX11_closes_137 rfl (inc_N _ 1) (by decide) rfl ?_
            refine r_goto C 45 dX11_closes_140 (by decide) ?_
            refine G_sub (lv' := [(4, .int (nI (s + 1))), (3, .int (bI ((clO F f un n x (s + 1)).2))), (0, .ref (ad g 19)), (1, .int (nI f)), (2, .int (bI un))]) [0, 2, 3, 4, 5] rfl ?_
            exact ih (s + 1) (by omega) (by omega)
          · exact absurd (ts_t h73) hxs
set_option maxHeartbeats 1000000 in
set_option maxRecDepth 100000 in
theorem lp_closes {z : Zt} {A : Nat → Prop} {l : Launch} {g : Gd} {μ : Mm} (C : Cx z A l (rmk 1 20) cX11_closes 7 "SetFamiliesModel") (X : Kx z g A) {F : Nat → Bool} {n f : Nat} {un : Bool} (h6 : gI μ 6 = nI n) (hn10 : n ≤ 10) (h5 : gA μ 5 = bR F) (hf : f < 4) (h1024 : 2 ^ n ≤ 1024) (h2n : 0 < 2 ^ n) : ∀ (n_ : Nat) (O : Nat → Bool), 2 ^ n - cnB O (2 ^ n) < n_ → Rx z g A none none (sA μ 9 (bR (clW F f un n n_ O))) → G z g.1 A 7 (wd g (sA μ 9 (bR O))) 0 0 36 [(3, .int (bI true)), (0, .ref (ad g 19)), (1, .int (nI f)), (2, .int (bI un))] [] := by
  intro n_
  induction n_ with
  | zero => intro O hm_; exact absurd hm_ (Nat.not_lt_zero _)
  | succ n_ ih =>
    intro O hm_ Rr
    refine r_iload_n C dX11_closes_36 0 rfl ?_
    refine r_if_eq C 146 dX11_closes_37 (by decide) (bI_eq _) (fun h37 => ?_) (fun h37 => ?_)
    · exact absurd h37 (by decide)
    · refine r_iconst C (v := (nI 0)) dX11_closes_40 rfl ?_
      refine r_istore_n C (lv' := [(3, .int (nI 0)), (0, .ref (ad g 19)), (1, .int (nI f)), (2, .int (bI un))]) 3 dX11_closes_41 rfl (by decide) rfl ?_
      refine r_iconst C (v := (nI 0)) dX11_closes_42 rfl ?_
      refine r_istore C (lv' := [(4, .int (nI 0)), (3, .int (nI 0)), (0, .ref (ad g 19)), (1, .int (nI f)), (2, .int (bI un))]) 4 dX11_closes_43 (by decide) rfl ?_
      refine G_lv (lv' := [(4, .int (nI 0)), (3, .int (bI ((clO F f un n (O, false) 0).2))), (0, .ref (ad g 19)), (1, .int (nI f)), (2, .int (bI un))]) rfl ?_
      refine G_mem (μ' := (sA μ 9 (bR (clO F f un n (O, false) 0).1))) rfl ?_
      refine lp_closesO C X (x := (O, false)) h6 hn10 h5 hf h1024 h2n ?_ (2 ^ n + 1) 0 (by omega) (by omega)
      refine G_mem (μ' := (sA μ 9 (bR (clS F f un n O).1))) rfl ?_
      refine G_lv (lv' := [(3, .int (bI ((clS F f un n O).2))), (0, .ref (ad g 19)), (1, .int (nI f)), (2, .int (bI un))]) rfl ?_
      refine r_goto C 36 dX11_closes_143 (by decide) ?_
      have hcl := cnB_le (clS F f un n O).1 (2 ^ n)
      by_cases hy : (clS F f un n O).2 = true
      · have hup := clS_up hy
        rw [clW, if_pos hy] at Rr
        refine G_lv (lv' := [(3, .int (bI true)), (0, .ref (ad g 19)), (1, .int (nI f)), (2, .int (bI un))]) (by rw [hy]) ?_
        exact ih (clS F f un n O).1 (by omega) Rr
      · rw [clW, if_neg hy] at Rr
        refine G_lv (lv' := [(3, .int (bI false)), (0, .ref (ad g 19)), (1, .int (nI f)), (2, .int (bI un))]) (by rw [Bool.eq_false_iff.mpr hy]) ?_
        refine r_iload_n C dX11_closes_36 0 rfl ?_
        refine r_if_eq C 146 dX11_closes_37 (by decide) (bI_eq _) (fun h37 => ?_) (fun h37 => ?_)
        · exact r_vret C dX11_closes_146 Rr
        · exact absurd rfl h37
set_option maxHeartbeats 1000000 in
set_option maxRecDepth 100000 in
theorem c_closes (l : Launch) (g : Gd) (μ : Mm) {F O : Nat → Bool} {n f : Nat} (h6 : gI μ 6 = nI n) (hn10 : n ≤ 10) (h5 : gA μ 5 = bR F) (hf : f < 4) (h9 : gA μ 9 = bR O) (un : Bool) : Ct l yX11_closes cX11_closes 7 none (rmk 1 20) g [.ref (ad g 19), .int (nI f), .int (bI un)] μ none (sA μ 9 (bR (clW F f un n (2 ^ n + 1) (rowU (2 ^ n) (fun c => F (1024 * f + c)) O)))) := by
  have h1024 := pw10 hn10
  have h2n := Nat.two_pow_pos n
  refine Ct.of (by decide) (Nat.le_of_ble_eq_true rfl) (fun z A C X Rr => ?_)
  refine r_iconst C (v := (nI 0)) dX11_closes_0 rfl ?_
  refine r_istore_n C (lv' := [(3, .int (nI 0)), (0, .ref (ad g 19)), (1, .int (nI f)), (2, .int (bI un))]) 3 dX11_closes_1 rfl (by decide) rfl ?_
  refine G_mem (show μ = (sA μ 9 (bR (rowU 0 (fun c => F (1024 * f + c)) O))) by rw [rowU_0, ← h9, sA_i]) ?_
  refine lp_closesC C X (O := O) h6 hn10 h5 hf h1024 h2n ?_ (2 ^ n + 1) 0 (by omega) (by omega)
  refine r_iconst C (v := (nI 1)) dX11_closes_34 rfl ?_
  refine r_istore_n C (lv' := [(3, .int (nI 1)), (0, .ref (ad g 19)), (1, .int (nI f)), (2, .int (bI un))]) 3 dX11_closes_35 rfl (by decide) rfl ?_
  refine G_lv (lv' := [(3, .int (bI true)), (0, .ref (ad g 19)), (1, .int (nI f)), (2, .int (bI un))]) rfl ?_
  exact lp_closes C X h6 hn10 h5 hf h1024 h2n (2 ^ n + 1) (rowU (2 ^ n) (fun c => F (1024 * f + c)) O) (by omega) Rr
