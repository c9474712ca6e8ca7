def shF (F : Nat → Bool) (f e : Nat) (v : Int32) (r : Nat → Int32) : Nat → (Nat → Int32) × Nat
  | 0 => (r, 0)
  | s + 1 => let t := shF F f e v r s; if F (1024 * f + s) = true ∧ ¬ t.1 (s &&& e) = v then (upd t.1 (s &&& e) v, t.2 + 1) else t
theorem shF_le (F : Nat → Bool) (f e : Nat) (v : Int32) (r : Nat → Int32) : ∀ s, (shF F f e v r s).2 ≤ s
  | 0 => Nat.le_refl _
  | s + 1 => by
    have := shF_le F f e v r s
    rw [shF]
    split
    · exact Nat.succ_le_succ this
    · exact Nat.le_succ_of_le this
def shM (μ : Mm) (F : Nat → Bool) (n f e : Nat) : Mm := sA (sI μ 9 (gI μ 9 + nI 1)) 10 (shF F f e (gI μ 9 + nI 1) (gA μ 10) (2 ^ n)).1
def shA (μ : Mm) (F : Nat → Bool) (n f e : Nat) : Bool := decide ((shF F f e (gI μ 9 + nI 1) (gA μ 10) (2 ^ n)).2 = 2 ^ b10 e)
theorem p2b (e : Nat) : 2 ^ b10 e ≤ 1024 := Nat.pow_le_pow_right (n := 2) (by decide) (b10_lt e)
set_option maxHeartbeats 1000000 in
set_option maxRecDepth 100000 in
theorem lp_shatters {z : Zt} {A : Nat → Prop} {l : Launch} {g : Gd} (C : Cx z A l (rmk 1 22) cX11_shatters 5 "SetFamiliesModel") (X : Kx z g A) {M : Mm} {F : Nat → Bool} {n f e : Nat} {v : Int32} {r : Nat → Int32} (h6 : gI M 6 = nI n) (hn10 : n ≤ 10) (h5 : gA M 5 = bR F) (hf : f < 4) (he : e < 1024) (h9 : gI M 9 = v) (h1024 : 2 ^ n ≤ 1024) (h2n : 0 < 2 ^ n) (Rr : Rx z g A (some .boolean) (some (.int (bI (decide ((shF F f e v r (2 ^ n)).2 = 2 ^ b10 e))))) (sA M 10 (shF F f e v r (2 ^ n)).1)) : ∀ (n_ : Nat) (s : Nat), 2 ^ n - s < n_ → s ≤ 2 ^ n → G z g.1 A 5 (wd g (sA M 10 (shF F f e v r s).1)) 0 0 15 [(4, .int (nI s)), (3, .int (nI ((shF F f e v r s).2))), (0, .ref (ad g 19)), (1, .int (nI f)), (2, .int (nI e))] [] := by
  intro n_
  induction n_ with
  | zero => intro s hm_; exact absurd hm_ (Nat.not_lt_zero _)
  | succ n_ ih =>
    intro s hm_ hs
    refine r_iload C dX11_shatters_15 0 rfl ?_
    refine r_aload_n C dX11_shatters_17 2 rfl ?_
    refine r_callV C X (As := []) (rest := [.int (nI s)]) (st1 := [.int (nI (2 ^ n)), .int (nI s)]) (μ' := (sA M 10 (shF F f e v r s).1)) (k := 19) (T := TX11) miX11_codes mvX11_codes (c_codes l g (sA M 10 (shF F f e v r s).1) (n := n) ((gI_A _ _ _ _).trans h6) (by omega)) hw_5_99 (by decide) rfl rfl rfl ⟨by decide, by decide, rfl, rfl, by decide, by decide⟩ rfl (Nat.le_of_ble_eq_true rfl) dX11_shatters_18 rfl ?_
    refine r_icmp_ge C 78 dX11_shatters_21 (by decide) (nI_leI (by omega) (by omega)) (fun h21 => ?_) (fun h21 => ?_)
    · have hs2 : s = 2 ^ n := by omega
      subst hs2
      have hle := shF_le F f e v r (2 ^ n)
      have hp2 := p2b e
      have hbl := b10_lt e
      refine r_iload_n C dX11_shatters_78 1 rfl ?_
      refine r_iconst C (v := (nI 1)) dX11_shatters_79 rfl ?_
      refine r_iload_n C dX11_shatters_80 4 rfl ?_
      refine r_callP C (As := [.int (nI e)]) (rest := [.int (nI 1), .int (nI ((shF F f e v r (2 ^ n)).2))]) (st1 := [.int (nI (b10 e)), .int (nI 1), .int (nI ((shF F f e v r (2 ^ n)).2))]) miX11_bits msX11_bits (c_bits l (c := e) (by omega)) hw_5_123 rfl ⟨by decide, by decide, rfl, rfl, by decide, by decide⟩ rfl (Nat.le_of_ble_eq_true rfl) dX11_shatters_81 rfl ?_
      refine r_ishl C (v := (nI (2 ^ (b10 e)))) dX11_shatters_84 (nshl1 (by omega)) ?_
      refine r_icmp_ne C 92 dX11_shatters_85 (by decide) (not_congr (nI_eq (by omega) (by omega))) (fun h85 => ?_) (fun h85 => ?_)
      · refine r_iconst C (v := (nI 0)) dX11_shatters_92 rfl ?_
        refine G_top (y := (bI (decide ((shF F f e v r (2 ^ n)).2 = 2 ^ b10 e)))) (bd0 h85) ?_
        exact r_zret C dX11_shatters_93 (nar_b _) Rr
      · refine r_iconst C (v := (nI 1)) dX11_shatters_88 rfl ?_
        refine r_goto C 93 dX11_shatters_89 (by decide) ?_
        refine G_top (y := (bI (decide ((shF F f e v r (2 ^ n)).2 = 2 ^ b10 e)))) (bd1 (Decidable.not_not.mp h85)) ?_
        exact r_zret C dX11_shatters_93 (nar_b _) Rr
    · have hle := shF_le F f e v r s
      have hse : s &&& e < 1024 := and1024 (by omega)
      refine r_aload_n C dX11_shatters_24 2 rfl ?_
      refine r_get C X (k := 19) (R := RX11) (T := TX11) (N := 15) (n := 2) (v := .ref (ad g 20)) (by decide) rfl rfl inw11 (by decide) rfl hw_5_20 rfl dX11_shatters_25 ?_
      refine r_sipush C (v := (nI 1024)) dX11_shatters_28 (by decide) ?_
      refine r_iload_n C dX11_shatters_31 3 rfl ?_
      refine r_imul C (v := (nI (1024 * f))) dX11_shatters_32 (pk_mul _ _) ?_
      refine r_iload C dX11_shatters_33 0 rfl ?_
      refine r_iadd C (v := (nI (1024 * f + s))) dX11_shatters_35 (nI_add _ _) ?_
      refine r_zald C X (k := 20) (v := (bI (F (1024 * f + s)))) (by decide) rfl (by omega) (by decide) (bR_at ((gA_n _ _ (by decide)).trans h5) _) dX11_shatters_36 ?_
      refine r_if_eq C 72 dX11_shatters_37 (by decide) (bI_eq _) (fun h37 => ?_) (fun h37 => ?_)
      · refine r_iinc C (v := (nI (s + 1))) (lv' := [(4, .int (nI (s + 1))), (3, .int (nI ((shF F f e v r s).2))), (0, .ref (ad g 19)), (1, .int (nI f)), (2, .int (nI e))]) 4 0 dX11_shatters_72 rfl (inc_N _ 1) (by decide) rfl ?_
        refine r_goto C 15 dX11_shatters_75 (by decide) ?_
        refine G_mem (μ' := (sA M 10 (shF F f e v r (s + 1)).1)) (by rw [shF, if_neg (fun q => ts_f h37 q.1)]) ?_
        refine G_lv (lv' := [(4, .int (nI (s + 1))), (3, .int (nI ((shF F f e v r (s + 1)).2))), (0, .ref (ad g 19)), (1, .int (nI f)), (2, .int (nI e))]) (by rw [shF, if_neg (fun q => ts_f h37 q.1)]) ?_
        exact ih (s + 1) (by omega) (by omega)
      · refine r_aload_n C dX11_shatters_40 2 rfl ?_
        refine r_get C X (k := 19) (R := RX11) (T := TX11) (N := 15) (n := 11) (v := .ref (ad g 25)) (by decide) rfl rfl inw11 (by decide) rfl hw_5_29 rfl dX11_shatters_41 ?_
        refine r_iload C dX11_shatters_44 0 rfl ?_
        refine r_iload_n C dX11_shatters_46 4 rfl ?_
        refine r_iand C (v := (nI (s &&& e))) dX11_shatters_47 (nand _ _) ?_
        refine r_iald C X (k := 25) (v := ((shF F f e v r s).1 (s &&& e))) (by decide) rfl (by omega) (by decide) (by rw [gA_s]) dX11_shatters_48 ?_
        refine r_aload_n C dX11_shatters_49 2 rfl ?_
        refine r_get C X (k := 19) (R := RX11) (T := TX11) (N := 15) (n := 12) (v := .int (gI (sA M 10 (shF F f e v r s).1) 9)) (by decide) rfl rfl inw11 (by decide) rfl hw_5_30 rfl dX11_shatters_50 ?_
        refine G_top (y := v) ((gI_A _ _ _ _).trans h9) ?_
        refine r_icmp_eq C 72 dX11_shatters_53 (by decide) Iff.rfl (fun h53 => ?_) (fun h53 => ?_)
        · refine r_iinc C (v := (nI (s + 1))) (lv' := [(4, .int (nI (s + 1))), (3, .int (nI ((shF F f e v r s).2))), (0, .ref (ad g 19)), (1, .int (nI f)), (2, .int (nI e))]) 4 0 dX11_shatters_72 rfl (inc_N _ 1) (by decide) rfl ?_
          refine r_goto C 15 dX11_shatters_75 (by decide) ?_
          refine G_mem (μ' := (sA M 10 (shF F f e v r (s + 1)).1)) (by rw [shF, if_neg (fun q => q.2 h53)]) ?_
          refine G_lv (lv' := [(4, .int (nI (s + 1))), (3, .int (nI ((shF F f e v r (s + 1)).2))), (0, .ref (ad g 19)), (1, .int (nI f)), (2, .int (nI e))]) (by rw [shF, if_neg (fun q => q.2 h53)]) ?_
          exact ih (s + 1) (by omega) (by omega)
        · refine r_aload_n C dX11_shatters_56 2 rfl ?_
          refine r_get C X (k := 19) (R := RX11) (T := TX11) (N := 15) (n := 11) (v := .ref (ad g 25)) (by decide) rfl rfl inw11 (by decide) rfl hw_5_29 rfl dX11_shatters_57 ?_
          refine r_iload C dX11_shatters_60 0 rfl ?_
          refine r_iload_n C dX11_shatters_62 4 rfl ?_
          refine r_iand C (v := (nI (s &&& e))) dX11_shatters_63 (nand _ _) ?_
          refine r_aload_n C dX11_shatters_64 2 rfl ?_
          refine r_get C X (k := 19) (R := RX11) (T := TX11) (N := 15) (n := 12) (v := .int (gI (sA M 10 (shF F f e v r s).1) 9)) (by decide) rfl rfl inw11 (by decide) rfl hw_5_30 rfl dX11_shatters_65 ?_
          refine G_top (y := v) ((gI_A _ _ _ _).trans h9) ?_
          refine r_iast C X (k := 25) (f' := upd (shF F f e v r s).1 (s &&& e) v) (μ' := (sA (sA M 10 (shF F f e v r s).1) 10 (upd (shF F f e v r s).1 (s &&& e) v))) (by decide) rfl (by omega) (by decide) (by rw [gA_s]) dX11_shatters_68 (congrArg (iR g 1 1024) (gA_s _ _ _)) (WF_sA10_ne g _ _) ?_
          refine G_mem (μ' := (sA M 10 (upd (shF F f e v r s).1 (s &&& e) v))) (sA_u _ _ _ _) ?_
          refine r_iinc C (v := (nI ((shF F f e v r s).2 + 1))) (lv' := [(3, .int (nI ((shF F f e v r s).2 + 1))), (4, .int (nI s)), (0, .ref (ad g 19)), (1, .int (nI f)), (2, .int (nI e))]) 3 1 dX11_shatters_69 rfl (inc_N _ 1) (by decide) rfl ?_
          refine r_iinc C (v := (nI (s + 1))) (lv' := [(4, .int (nI (s + 1))), (3, .int (nI ((shF F f e v r s).2 + 1))), (0, .ref (ad g 19)), (1, .int (nI f)), (2, .int (nI e))]) 4 1 dX11_shatters_72 rfl (inc_N _ 1) (by decide) rfl ?_
          refine r_goto C 15 dX11_shatters_75 (by decide) ?_
          refine G_mem (μ' := (sA M 10 (shF F f e v r (s + 1)).1)) (by rw [shF, if_pos ⟨ts_t h37, h53⟩]) ?_
          refine G_lv (lv' := [(4, .int (nI (s + 1))), (3, .int (nI ((shF F f e v r (s + 1)).2))), (0, .ref (ad g 19)), (1, .int (nI f)), (2, .int (nI e))]) (by rw [shF, if_pos ⟨ts_t h37, h53⟩]) ?_
          exact ih (s + 1) (by omega) (by omega)
set_option maxHeartbeats 1000000 in
set_option maxRecDepth 100000 in
theorem c_shatters (l : Launch) (g : Gd) (μ : Mm) {F : Nat → Bool} {n f e : Nat} (h6 : gI μ 6 = nI n) (hn10 : n ≤ 10) (h5 : gA μ 5 = bR F) (hf : f < 4) (he : e < 1024) : Ct l yX11_shatters cX11_shatters 5 (some .boolean) (rmk 1 22) g [.ref (ad g 19), .int (nI f), .int (nI e)] μ (some (.int (bI (shA μ F n f e)))) (shM μ F n f e) := by
  have h1024 := pw10 hn10
  have h2n := Nat.two_pow_pos n
  refine Ct.of (by decide) (Nat.le_of_ble_eq_true rfl) (fun z A C X Rr => ?_)
  refine r_aload_n C dX11_shatters_0 0 rfl ?_
  refine r_dup C dX11_shatters_1 rfl ?_
  refine r_get C X (k := 19) (R := RX11) (T := TX11) (N := 15) (n := 12) (v := .int (gI μ 9)) (by decide) rfl rfl inw11 (by decide) rfl hw_5_30 rfl dX11_shatters_2 ?_
  refine r_iconst C (v := (nI 1)) dX11_shatters_5 rfl ?_
  refine r_iadd C (v := ((gI μ 9) + (nI 1))) dX11_shatters_6 rfl ?_
  refine r_put C X (μ' := (sI μ 9 ((gI μ 9) + (nI 1)))) (k := 19) (R := RX11) (T := TX11) (N := 15) (n := 12) (v := .int ((gI μ 9) + (nI 1))) (ty := .int) (by decide) rfl rfl inw11 tyX11_ok nmX11 (by decide) rfl hw_5_30 rfl rfl rfl rfl (Nat.le_of_ble_eq_true rfl) dX11_shatters_7 (WF_sI9_at g _ _) (WF_sI9_ne g _ _) ?_
  refine r_iconst C (v := (nI 0)) dX11_shatters_10 rfl ?_
  refine r_istore_n C (lv' := [(3, .int (nI 0)), (0, .ref (ad g 19)), (1, .int (nI f)), (2, .int (nI e))]) 3 dX11_shatters_11 rfl (by decide) rfl ?_
  refine r_iconst C (v := (nI 0)) dX11_shatters_12 rfl ?_
  refine r_istore C (lv' := [(4, .int (nI 0)), (3, .int (nI 0)), (0, .ref (ad g 19)), (1, .int (nI f)), (2, .int (nI e))]) 4 dX11_shatters_13 (by decide) rfl ?_
  refine G_mem (show sI μ 9 (gI μ 9 + nI 1) = sA (sI μ 9 (gI μ 9 + nI 1)) 10 (shF F f e (gI μ 9 + nI 1) (gA μ 10) 0).1 from (sA_i _ 10).symm) ?_
  exact lp_shatters C X (M := sI μ 9 (gI μ 9 + nI 1)) (v := (gI μ 9 + nI 1)) (r := gA μ 10) ((gI_n _ _ (by decide)).trans h6) hn10 ((gA_I _ _ _ _).trans h5) hf he (gI_s _ _ _) h1024 h2n Rr (2 ^ n + 1) 0 (by omega) (by omega)
theorem gI_shM {μ : Mm} {F : Nat → Bool} {n f e q : Nat} (h : q ≠ 9) : gI (shM μ F n f e) q = gI μ q := (gI_A _ _ _ _).trans (gI_n _ _ h)
theorem gA_shM {μ : Mm} {F : Nat → Bool} {n f e q : Nat} (h : q ≠ 10) : gA (shM μ F n f e) q = gA μ q := (gA_n _ _ h).trans (gA_I _ _ _ _)
def oI (b : Option Nat) : Int32 := match b with | none => -1 | some c => nI c
/-- whether s is asked at all -/
def fsQ (b : Option Nat) (s : Nat) : Bool := match b with | none => true | some c => decide (b10 c < b10 s)
def fsF (F : Nat → Bool) (n f : Nat) : Nat → Nat → Option Nat → Mm → Mm × Option Nat
  | 0, _, b, M => (M, b)
  | r + 1, s, b, M => if fsQ b s = true then fsF F n f r (s + 1) (if shA M F n f s = true then some s else b) (shM M F n f s) else fsF F n f r (s + 1) b M
theorem oI_none {b : Option Nat} (hb : ∀ c, b = some c → c < 1024) : oI b = -1 ↔ b = none := by
  cases b with
  | none => exact ⟨fun _ => rfl, fun _ => rfl⟩
  | some c => exact ⟨fun q => absurd q (m1_ne c (by have := hb c rfl; omega)), fun q => by cases q⟩
set_option maxHeartbeats 1000000 in
set_option maxRecDepth 100000 in
theorem lp_firstShattered {z : Zt} {A : Nat → Prop} {l : Launch} {g : Gd} (C : Cx z A l (rmk 2 46) cX11_firstShattered 4 "SetFamiliesModel") (X : Kx z g A) {F : Nat → Bool} {n f : Nat} (hn10 : n ≤ 10) (hf : f < 4) (h1024 : 2 ^ n ≤ 1024) (h2n : 0 < 2 ^ n) : ∀ (n_ : Nat) (s : Nat) (b : Option Nat) (M : Mm), 2 ^ n - s < n_ → s ≤ 2 ^ n → (∀ c, b = some c → c < 1024) → gI M 6 = nI n → gA M 5 = bR F → Rx z g A (some .int) (some (.int (oI (fsF F n f (2 ^ n - s) s b M).2))) (fsF F n f (2 ^ n - s) s b M).1 → G z g.1 A 4 (wd g M) 0 0 4 [(3, .int (nI s)), (2, .int (oI b)), (0, .ref (ad g 19)), (1, .int (nI f))] [] := by
  intro n_
  induction n_ with
  | zero => intro s b M hm_; exact absurd hm_ (Nat.not_lt_zero _)
  | succ n_ ih =>
    intro s b M hm_ hs hb h6 h5 Rr
    refine r_iload_n C dX11_firstShattered_4 0 rfl ?_
    refine r_aload_n C dX11_firstShattered_5 2 rfl ?_
    refine r_callV C X (As := []) (rest := [.int (nI s)]) (st1 := [.int (nI (2 ^ n)), .int (nI s)]) (μ' := M) (k := 19) (T := TX11) miX11_codes mvX11_codes (c_codes l g M (n := n) h6 (by omega)) hw_5_99 (by decide) rfl rfl rfl ⟨by decide, by decide, rfl, rfl, by decide, by decide⟩ rfl (Nat.le_of_ble_eq_true rfl) dX11_firstShattered_6 rfl ?_
    refine r_icmp_ge C 49 dX11_firstShattered_9 (by decide) (nI_leI (by omega) (by omega)) (fun h9 => ?_) (fun h9 => ?_)
    · rw [show 2 ^ n - s = 0 by omega, fsF] at Rr
      refine r_iload_n C dX11_firstShattered_49 1 rfl ?_
      exact r_iret C dX11_firstShattered_50 Rr
    · rw [show 2 ^ n - s = (2 ^ n - (s + 1)) + 1 by omega, fsF] at Rr
      refine r_iload_n C dX11_firstShattered_12 1 rfl ?_
      refine r_iconst C (v := (-1)) dX11_firstShattered_13 rfl ?_
      refine r_icmp_eq C 28 dX11_firstShattered_14 (by decide) (oI_none hb) (fun h14 => ?_) (fun h14 => ?_)
      · subst h14
        rw [if_pos (show fsQ none s = true from rfl)] at Rr
        refine r_aload_n C dX11_firstShattered_28 2 rfl ?_
        refine r_iload_n C dX11_firstShattered_29 3 rfl ?_
        refine r_iload_n C dX11_firstShattered_30 0 rfl ?_
        refine r_callV C X (As := [.int (nI f), .int (nI s)]) (rest := []) (st1 := [.int (bI (shA M F n f s))]) (μ' := (shM M F n f s)) (k := 19) (T := TX11) miX11_shatters mvX11_shatters (c_shatters l g M (F := F) (n := n) (f := f) (e := s) h6 (by omega) h5 (by omega) (by omega)) hw_6_31 (by decide) rfl rfl rfl ⟨by decide, by decide, rfl, rfl, by decide, by decide⟩ rfl (Nat.le_of_ble_eq_true rfl) dX11_firstShattered_31 rfl ?_
        refine r_if_eq C 41 dX11_firstShattered_34 (by decide) (bI_eq _) (fun h34 => ?_) (fun h34 => ?_)
        · rw [if_neg (ts_f h34)] at Rr
          refine r_iload_n C dX11_firstShattered_41 1 rfl ?_
          refine r_istore_n C (lv' := [(2, .int (oI none)), (3, .int (nI s)), (0, .ref (ad g 19)), (1, .int (nI f))]) 2 dX11_firstShattered_42 rfl (by decide) rfl ?_
          refine r_iinc C (v := (nI (s + 1))) (lv' := [(3, .int (nI (s + 1))), (2, .int (oI none)), (0, .ref (ad g 19)), (1, .int (nI f))]) 3 1 dX11_firstShattered_43 rfl (inc_N _ 1) (by decide) rfl ?_
          refine r_goto C 4 dX11_firstShattered_46 (by decide) ?_
          refine G_lv (lv' := [(3, .int (nI (s + 1))), (2, .int (oI none)), (0, .ref (ad g 19)), (1, .int (nI f))]) rfl ?_
          exact ih (s + 1) none (shM M F n f s) (by omega) (by omega) (fun c q => by cases q) ((gI_shM (by decide)).trans h6) ((gA_shM (by decide)).trans h5) Rr
        · rw [if_pos (ts_t h34)] at Rr
          refine r_iload_n C dX11_firstShattered_37 0 rfl ?_
          refine r_goto C 42 dX11_firstShattered_38 (by decide) ?_
          refine r_istore_n C (lv' := [(2, .int (nI s)), (3, .int (nI s)), (0, .ref (ad g 19)), (1, .int (nI f))]) 2 dX11_firstShattered_42 rfl (by decide) rfl ?_
          refine r_iinc C (v := (nI (s + 1))) (lv' := [(3, .int (nI (s + 1))), (2, .int (nI s)), (0, .ref (ad g 19)), (1, .int (nI f))]) 3 1 dX11_firstShattered_43 rfl (inc_N _ 1) (by decide) rfl ?_
          refine r_goto C 4 dX11_firstShattered_46 (by decide) ?_
          refine G_lv (lv' := [(3, .int (nI (s + 1))), (2, .int (oI (some s))), (0, .ref (ad g 19)), (1, .int (nI f))]) rfl ?_
          exact ih (s + 1) (some s) (shM M F n f s) (by omega) (by omega) (fun c q => by cases q; omega) ((gI_shM (by decide)).trans h6) ((gA_shM (by decide)).trans h5) Rr
      · obtain ⟨c, rfl⟩ : ∃ c, b = some c := by cases b with | none => exact absurd rfl h14 | some c => exact ⟨c, rfl⟩
        have hc := hb c rfl
        have hb1 := b10_lt c
        have hb2 := b10_lt s
        refine G_lv (lv' := [(3, .int (nI s)), (2, .int (nI c)), (0, .ref (ad g 19)), (1, .int (nI f))]) rfl ?_
        refine r_iload_n C dX11_firstShattered_17 0 rfl ?_
        refine r_callP C (As := [.int (nI s)]) (rest := []) (st1 := [.int (nI (b10 s))]) miX11_bits msX11_bits (c_bits l (c := s) (by omega)) hw_5_123 rfl ⟨by decide, by decide, rfl, rfl, by decide, by decide⟩ rfl (Nat.le_of_ble_eq_true rfl) dX11_firstShattered_18 rfl ?_
        refine r_iload_n C dX11_firstShattered_21 1 rfl ?_
        refine r_callP C (As := [.int (nI c)]) (rest := [.int (nI (b10 s))]) (st1 := [.int (nI (b10 c)), .int (nI (b10 s))]) miX11_bits msX11_bits (c_bits l (c := c) (by omega)) hw_5_123 rfl ⟨by decide, by decide, rfl, rfl, by decide, by decide⟩ rfl (Nat.le_of_ble_eq_true rfl) dX11_firstShattered_22 rfl ?_
        refine r_icmp_le C 41 dX11_firstShattered_25 (by decide) (nI_leI (by omega) (by omega)) (fun h25 => ?_) (fun h25 => ?_)
        · rw [if_neg (show ¬ fsQ (some c) s = true from fun q => by have q2 : b10 c < b10 s := of_decide_eq_true q; omega)] at Rr
          refine r_iload_n C dX11_firstShattered_41 1 rfl ?_
          refine r_istore_n C (lv' := [(2, .int (nI c)), (3, .int (nI s)), (0, .ref (ad g 19)), (1, .int (nI f))]) 2 dX11_firstShattered_42 rfl (by decide) rfl ?_
          refine r_iinc C (v := (nI (s + 1))) (lv' := [(3, .int (nI (s + 1))), (2, .int (nI c)), (0, .ref (ad g 19)), (1, .int (nI f))]) 3 1 dX11_firstShattered_43 rfl (inc_N _ 1) (by decide) rfl ?_
          refine r_goto C 4 dX11_firstShattered_46 (by decide) ?_
          refine G_lv (lv' := [(3, .int (nI (s + 1))), (2, .int (oI (some c))), (0, .ref (ad g 19)), (1, .int (nI f))]) rfl ?_
          exact ih (s + 1) (some c) M (by omega) (by omega) (fun c2 q => by cases q; exact hc) h6 h5 Rr
        · rw [if_pos (show fsQ (some c) s = true from decide_eq_true (by omega))] at Rr
          refine r_aload_n C dX11_firstShattered_28 2 rfl ?_
          refine r_iload_n C dX11_firstShattered_29 3 rfl ?_
          refine r_iload_n C dX11_firstShattered_30 0 rfl ?_
          refine r_callV C X (As := [.int (nI f), .int (nI s)]) (rest := []) (st1 := [.int (bI (shA M F n f s))]) (μ' := (shM M F n f s)) (k := 19) (T := TX11) miX11_shatters mvX11_shatters (c_shatters l g M (F := F) (n := n) (f := f) (e := s) h6 (by omega) h5 (by omega) (by omega)) hw_6_31 (by decide) rfl rfl rfl ⟨by decide, by decide, rfl, rfl, by decide, by decide⟩ rfl (Nat.le_of_ble_eq_true rfl) dX11_firstShattered_31 rfl ?_
          refine r_if_eq C 41 dX11_firstShattered_34 (by decide) (bI_eq _) (fun h34 => ?_) (fun h34 => ?_)
          · rw [if_neg (ts_f h34)] at Rr
            refine r_iload_n C dX11_firstShattered_41 1 rfl ?_
            refine r_istore_n C (lv' := [(2, .int (nI c)), (3, .int (nI s)), (0, .ref (ad g 19)), (1, .int (nI f))]) 2 dX11_firstShattered_42 rfl (by decide) rfl ?_
            refine r_iinc C (v := (nI (s + 1))) (lv' := [(3, .int (nI (s + 1))), (2, .int (nI c)), (0, .ref (ad g 19)), (1, .int (nI f))]) 3 1 dX11_firstShattered_43 rfl (inc_N _ 1) (by decide) rfl ?_
            refine r_goto C 4 dX11_firstShattered_46 (by decide) ?_
            refine G_lv (lv' := [(3, .int (nI (s + 1))), (2, .int (oI (some c))), (0, .ref (ad g 19)), (1, .int (nI f))]) rfl ?_
            exact ih (s + 1) (some c) (shM M F n f s) (by omega) (by omega) (fun c2 q => by cases q; exact hc) ((gI_shM (by decide)).trans h6) ((gA_shM (by decide)).trans h5) Rr
          · rw [if_pos (ts_t h34)] at Rr
            refine r_iload_n C dX11_firstShattered_37 0 rfl ?_
            refine r_goto C 42 dX11_firstShattered_38 (by decide) ?_
            refine r_istore_n C (lv' := [(2, .int (nI s)), (3, .int (nI s)), (0, .ref (ad g 19)), (1, .int (nI f))]) 2 dX11_firstShattered_42 rfl (by decide) rfl ?_
            refine r_iinc C (v := (nI (s + 1))) (lv' := [(3, .int (nI (s + 1))), (2, .int (nI s)), (0, .ref (ad g 19)), (1, .int (nI f))]) 3 1 dX11_firstShattered_43 rfl (inc_N _ 1) (by decide) rfl ?_
            refine r_goto C 4 dX11_firstShattered_46 (by decide) ?_
            refine G_lv (lv' := [(3, .int (nI (s + 1))), (2, .int (oI (some s))), (0, .ref (ad g 19)), (1, .int (nI f))]) rfl ?_
            exact ih (s + 1) (some s) (shM M F n f s) (by omega) (by omega) (fun c q => by cases q; omega) ((gI_shM (by decide)).trans h6) ((gA_shM (by decide)).trans h5) Rr
set_option maxHeartbeats 1000000 in
set_option maxRecDepth 100000 in
theorem c_firstShattered (l : Launch) (g : Gd) (μ : Mm) {F : Nat → Bool} {n f : Nat} (h6 : gI μ 6 = nI n) (hn10 : n ≤ 10) (h5 : gA μ 5 = bR F) (hf : f < 4) : Ct l yX11_firstShattered cX11_firstShattered 4 (some .int) (rmk 2 46) g [.ref (ad g 19), .int (nI f)] μ (some (.int (oI (fsF F n f (2 ^ n) 0 none μ).2))) ((fsF F n f (2 ^ n) 0 none μ).1) := by
  have h1024 := pw10 hn10
  have h2n := Nat.two_pow_pos n
  refine Ct.of (by decide) (Nat.le_of_ble_eq_true rfl) (fun z A C X Rr => ?_)
  refine r_iconst C (v := (-1)) dX11_firstShattered_0 rfl ?_
  refine r_istore_n C (lv' := [(2, .int (-1)), (0, .ref (ad g 19)), (1, .int (nI f))]) 2 dX11_firstShattered_1 rfl (by decide) rfl ?_
  refine r_iconst C (v := (nI 0)) dX11_firstShattered_2 rfl ?_
  refine r_istore_n C (lv' := [(3, .int (nI 0)), (2, .int (-1)), (0, .ref (ad g 19)), (1, .int (nI f))]) 3 dX11_firstShattered_3 rfl (by decide) rfl ?_
  refine G_lv (lv' := [(3, .int (nI 0)), (2, .int (oI none)), (0, .ref (ad g 19)), (1, .int (nI f))]) rfl ?_
  exact lp_firstShattered C X hn10 hf h1024 h2n (2 ^ n + 1) 0 none μ (by omega) (by omega) (fun c q => by cases q) h6 h5 Rr
