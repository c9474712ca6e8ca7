/-- firstLargest: answer and memory -/
def flA (μ : Mm) (n nw f : Nat) : Int32 := if ct μ nw f = 0 then (-1) else nI (flF n nw f (2 ^ n) 0 0 0 0 μ).2
def flM (μ : Mm) (n nw f : Nat) : Mm := if ct μ nw f = 0 then μ else (flF n nw f (2 ^ n) 0 0 0 0 μ).1
theorem gI_flM {μ : Mm} {n nw f q : Nat} : gI (flM μ n nw f) q = gI μ q := by
  unfold flM; split
  · rfl
  · exact gI_flF _ _ _ _ _ _
/-- one of the codes from i on misses what is taken -/
def h1F (cd : Nat → Int32) (tk : Int32) : Nat → Nat → Bool
  | 0, _ => false
  | r + 1, i => if cd i &&& tk = 0 then true else h1F cd tk r (i + 1)
def h2F (cd : Nat → Int32) (cn : Nat) (tk : Int32) : Nat → Nat → Bool
  | 0, _ => false
  | r + 1, i => if cd i &&& tk = 0 ∧ h1F cd (tk ||| cd i) (cn - (i + 1)) (i + 1) = true then true else h2F cd cn tk r (i + 1)
def h3F (cd : Nat → Int32) (cn : Nat) : Nat → Nat → Bool
  | 0, _ => false
  | r + 1, i => if h2F cd cn (cd i) (cn - (i + 1)) (i + 1) = true then true else h3F cd cn r (i + 1)
set_option maxHeartbeats 1000000 in
set_option maxRecDepth 100000 in
theorem lp_hasOne {z : Zt} {A : Nat → Prop} {l : Launch} {g : Gd} {μ : Mm} (C : Cx z A l (rmk 0 0) cX8_hasOne 5 "SetFamilies$SunflowerSearch") (X : Kx z g A) {a cn : Nat} {tk : Int32} (hcn : cn ≤ 1024) : ∀ (n_ : Nat) (i : Nat), cn - i < n_ → i ≤ cn → Rx z g A (some .boolean) (some (.int (bI (h1F (gA μ 2) tk (cn - i) i)))) μ → G z g.1 A 5 (wd g μ) 0 0 3 [(4, .int (nI i)), (0, .ref (ad g 12)), (1, .int (nI a)), (2, .int (nI cn)), (3, .int tk)] [] := by
  intro n_
  induction n_ with
  | zero => intro i hm_; exact absurd hm_ (Nat.not_lt_zero _)
  | succ n_ ih =>
    intro i hm_ hi Rr
    refine r_iload C dX8_hasOne_3 0 rfl ?_
    refine r_iload_n C dX8_hasOne_5 3 rfl ?_
    refine r_icmp_ge C 29 dX8_hasOne_6 (by decide) (nI_leI (by omega) (by omega)) (fun h6 => ?_) (fun h6 => ?_)
    · rw [show cn - i = 0 by omega, h1F] at Rr
      refine r_iconst C (v := (nI 0)) dX8_hasOne_29 rfl ?_
      refine G_top (y := (bI false)) rfl ?_
      exact r_zret C dX8_hasOne_30 (nar_b _) Rr
    · rw [show cn - i = (cn - (i + 1)) + 1 by omega, h1F] at Rr
      refine r_aload_n C dX8_hasOne_9 1 rfl ?_
      refine r_get C X (k := 12) (R := RX8) (T := TX8) (N := 6) (n := 5) (v := .ref (ad g 14)) (by decide) rfl rfl inw8 (by decide) rfl hw_1_178 rfl dX8_hasOne_10 ?_
      refine r_iload C dX8_hasOne_13 0 rfl ?_
      refine r_iald C X (k := 14) (v := (gA μ 2 i)) (by decide) rfl (by omega) (by decide) rfl dX8_hasOne_15 ?_
      refine r_iload_n C dX8_hasOne_16 4 rfl ?_
      refine r_iand C (v := ((gA μ 2 i) &&& tk)) dX8_hasOne_17 rfl ?_
      refine r_if_ne C 23 dX8_hasOne_18 (by decide) Iff.rfl (fun h18 => ?_) (fun h18 => ?_)
      · rw [if_neg h18] at Rr
        refine r_iinc C (v := (nI (i + 1))) (lv' := [(4, .int (nI (i + 1))), (0, .ref (ad g 12)), (1, .int (nI a)), (2, .int (nI cn)), (3, .int tk)]) 4 0 dX8_hasOne_23 rfl (inc_N _ 1) (by decide) rfl ?_
        refine r_goto C 3 dX8_hasOne_26 (by decide) ?_
        exact ih (i + 1) (by omega) (by omega) Rr
      · rw [if_pos (Decidable.not_not.mp h18)] at Rr
        refine r_iconst C (v := (nI 1)) dX8_hasOne_21 rfl ?_
        refine G_top (y := (bI true)) rfl ?_
        exact r_zret C dX8_hasOne_22 (nar_b _) Rr
set_option maxHeartbeats 1000000 in
set_option maxRecDepth 100000 in
theorem c_hasOne (l : Launch) (g : Gd) (μ : Mm) {a cn : Nat} (tk : Int32) (hcn : cn ≤ 1024) (hac : a ≤ cn) : Ct l yX8_hasOne cX8_hasOne 5 (some .boolean) (rmk 0 0) g [.ref (ad g 12), .int (nI a), .int (nI cn), .int tk] μ (some (.int (bI (h1F (gA μ 2) tk (cn - a) a)))) μ := by
  refine Ct.of (by decide) (Nat.le_of_ble_eq_true rfl) (fun z A C X Rr => ?_)
  refine r_iload_n C dX8_hasOne_0 1 rfl ?_
  refine r_istore C (lv' := [(4, .int (nI a)), (0, .ref (ad g 12)), (1, .int (nI a)), (2, .int (nI cn)), (3, .int tk)]) 4 dX8_hasOne_1 (by decide) rfl ?_
  exact lp_hasOne C X hcn (cn + 1) a (by omega) hac Rr
set_option maxHeartbeats 1000000 in
set_option maxRecDepth 100000 in
theorem lp_hasPair {z : Zt} {A : Nat → Prop} {l : Launch} {g : Gd} {μ : Mm} (C : Cx z A l (rmk 1 24) cX8_hasPair 5 "SetFamilies$SunflowerSearch") (X : Kx z g A) {a cn : Nat} {tk : Int32} (hcn : cn ≤ 1024) : ∀ (n_ : Nat) (i : Nat), cn - i < n_ → i ≤ cn → Rx z g A (some .boolean) (some (.int (bI (h2F (gA μ 2) cn tk (cn - i) i)))) μ → G z g.1 A 5 (wd g μ) 0 0 3 [(4, .int (nI i)), (0, .ref (ad g 12)), (1, .int (nI a)), (2, .int (nI cn)), (3, .int tk)] [] := by
  intro n_
  induction n_ with
  | zero => intro i hm_; exact absurd hm_ (Nat.not_lt_zero _)
  | succ n_ ih =>
    intro i hm_ hi Rr
    refine r_iload C dX8_hasPair_3 0 rfl ?_
    refine r_iload_n C dX8_hasPair_5 3 rfl ?_
    refine r_icmp_ge C 50 dX8_hasPair_6 (by decide) (nI_leI (by omega) (by omega)) (fun h6 => ?_) (fun h6 => ?_)
    · rw [show cn - i = 0 by omega, h2F] at Rr
      refine r_iconst C (v := (nI 0)) dX8_hasPair_50 rfl ?_
      refine G_top (y := (bI false)) rfl ?_
      exact r_zret C dX8_hasPair_51 (nar_b _) Rr
    · rw [show cn - i = (cn - (i + 1)) + 1 by omega, h2F] at Rr
      refine r_aload_n C dX8_hasPair_9 1 rfl ?_
      refine r_get C X (k := 12) (R := RX8) (T := TX8) (N := 6) (n := 5) (v := .ref (ad g 14)) (by decide) rfl rfl inw8 (by decide) rfl hw_1_178 rfl dX8_hasPair_10 ?_
      refine r_iload C dX8_hasPair_13 0 rfl ?_
      refine r_iald C X (k := 14) (v := (gA μ 2 i)) (by decide) rfl (by omega) (by decide) rfl dX8_hasPair_15 ?_
      refine r_iload_n C dX8_hasPair_16 4 rfl ?_
      refine r_iand C (v := ((gA μ 2 i) &&& tk)) dX8_hasPair_17 rfl ?_
      refine r_if_ne C 44 dX8_hasPair_18 (by decide) Iff.rfl (fun h18 => ?_) (fun h18 => ?_)
      · rw [if_neg (fun q => h18 q.1)] at Rr
        refine r_iinc C (v := (nI (i + 1))) (lv' := [(4, .int (nI (i + 1))), (0, .ref (ad g 12)), (1, .int (nI a)), (2, .int (nI cn)), (3, .int tk)]) 4 0 dX8_hasPair_44 rfl (inc_N _ 1) (by decide) rfl ?_
        refine r_goto C 3 dX8_hasPair_47 (by decide) ?_
        exact ih (i + 1) (by omega) (by omega) Rr
      · refine r_aload_n C dX8_hasPair_21 1 rfl ?_
        refine r_iload C dX8_hasPair_22 0 rfl ?_
        refine r_iconst C (v := (nI 1)) dX8_hasPair_24 rfl ?_
        refine r_iadd C (v := (nI (i + 1))) dX8_hasPair_25 (nI_add _ _) ?_
        refine r_iload_n C dX8_hasPair_26 3 rfl ?_
        refine r_iload_n C dX8_hasPair_27 4 rfl ?_
        refine r_aload_n C dX8_hasPair_28 1 rfl ?_
        refine r_get C X (k := 12) (R := RX8) (T := TX8) (N := 6) (n := 5) (v := .ref (ad g 14)) (by decide) rfl rfl inw8 (by decide) rfl hw_1_178 rfl dX8_hasPair_29 ?_
        refine r_iload C dX8_hasPair_32 0 rfl ?_
        refine r_iald C X (k := 14) (v := (gA μ 2 i)) (by decide) rfl (by omega) (by decide) rfl dX8_hasPair_34 ?_
        refine r_ior C (v := (tk ||| (gA μ 2 i))) dX8_hasPair_35 rfl ?_
        refine r_callV C X (As := [.int (nI (i + 1)), .int (nI cn), .int (tk ||| (gA μ 2 i))]) (rest := []) (st1 := [.int (bI (h1F (gA μ 2) (tk ||| (gA μ 2 i)) (cn - (i + 1)) (i + 1)))]) (μ' := μ) (k := 12) (T := TX8) miX8_hasOne mvX8_hasOne (c_hasOne l g μ (a := i + 1) (cn := cn) (tk ||| (gA μ 2 i)) (by omega) (by omega)) hw_3_34 (by decide) rfl rfl rfl ⟨by decide, by decide, rfl, rfl, by decide, by decide⟩ rfl (Nat.le_of_ble_eq_true rfl) dX8_hasPair_36 rfl ?_
        refine r_if_eq C 44 dX8_hasPair_39 (by decide) (bI_eq _) (fun h39 => ?_) (fun h39 => ?_)
        · rw [if_neg (fun q => ts_f h39 q.2)] at Rr
          refine r_iinc C (v := (nI (i + 1))) (lv' := [(4, .int (nI (i + 1))), (0, .ref (ad g 12)), (1, .int (nI a)), (2, .int (nI cn)), (3, .int tk)]) 4 0 dX8_hasPair_44 rfl (inc_N _ 1) (by decide) rfl ?_
          refine r_goto C 3 dX8_hasPair_47 (by decide) ?_
          exact ih (i + 1) (by omega) (by omega) Rr
        · rw [if_pos ⟨Decidable.not_not.mp h18, ts_t h39⟩] at Rr
          refine r_iconst C (v := (nI 1)) dX8_hasPair_42 rfl ?_
          refine G_top (y := (bI true)) rfl ?_
          exact r_zret C dX8_hasPair_43 (nar_b _) Rr
set_option maxHeartbeats 1000000 in
set_option maxRecDepth 100000 in
theorem c_hasPair (l : Launch) (g : Gd) (μ : Mm) {a cn : Nat} (tk : Int32) (hcn : cn ≤ 1024) (hac : a ≤ cn) : Ct l yX8_hasPair cX8_hasPair 5 (some .boolean) (rmk 1 24) g [.ref (ad g 12), .int (nI a), .int (nI cn), .int tk] μ (some (.int (bI (h2F (gA μ 2) cn tk (cn - a) a)))) μ := by
  refine Ct.of (by decide) (Nat.le_of_ble_eq_true rfl) (fun z A C X Rr => ?_)
  refine r_iload_n C dX8_hasPair_0 1 rfl ?_
  refine r_istore C (lv' := [(4, .int (nI a)), (0, .ref (ad g 12)), (1, .int (nI a)), (2, .int (nI cn)), (3, .int tk)]) 4 dX8_hasPair_1 (by decide) rfl ?_
  exact lp_hasPair C X hcn (cn + 1) a (by omega) hac Rr
set_option maxHeartbeats 1000000 in
set_option maxRecDepth 100000 in
theorem lp_hasTriple {z : Zt} {A : Nat → Prop} {l : Launch} {g : Gd} {μ : Mm} (C : Cx z A l (rmk 2 48) cX8_hasTriple 3 "SetFamilies$SunflowerSearch") (X : Kx z g A) {cn : Nat} (hcn : cn ≤ 1024) : ∀ (n_ : Nat) (i : Nat), cn - i < n_ → i ≤ cn → Rx z g A (some .boolean) (some (.int (bI (h3F (gA μ 2) cn (cn - i) i)))) μ → G z g.1 A 3 (wd g μ) 0 0 2 [(2, .int (nI i)), (0, .ref (ad g 12)), (1, .int (nI cn))] [] := by
  intro n_
  induction n_ with
  | zero => intro i hm_; exact absurd hm_ (Nat.not_lt_zero _)
  | succ n_ ih =>
    intro i hm_ hi Rr
    refine r_iload_n C dX8_hasTriple_2 0 rfl ?_
    refine r_iload_n C dX8_hasTriple_3 2 rfl ?_
    refine r_icmp_ge C 32 dX8_hasTriple_4 (by decide) (nI_leI (by omega) (by omega)) (fun h4 => ?_) (fun h4 => ?_)
    · rw [show cn - i = 0 by omega, h3F] at Rr
      refine r_iconst C (v := (nI 0)) dX8_hasTriple_32 rfl ?_
      refine G_top (y := (bI false)) rfl ?_
      exact r_zret C dX8_hasTriple_33 (nar_b _) Rr
    · rw [show cn - i = (cn - (i + 1)) + 1 by omega, h3F] at Rr
      refine r_aload_n C dX8_hasTriple_7 1 rfl ?_
      refine r_iload_n C dX8_hasTriple_8 0 rfl ?_
      refine r_iconst C (v := (nI 1)) dX8_hasTriple_9 rfl ?_
      refine r_iadd C (v := (nI (i + 1))) dX8_hasTriple_10 (nI_add _ _) ?_
      refine r_iload_n C dX8_hasTriple_11 2 rfl ?_
      refine r_aload_n C dX8_hasTriple_12 1 rfl ?_
      refine r_get C X (k := 12) (R := RX8) (T := TX8) (N := 6) (n := 5) (v := .ref (ad g 14)) (by decide) rfl rfl inw8 (by decide) rfl hw_1_178 rfl dX8_hasTriple_13 ?_
      refine r_iload_n C dX8_hasTriple_16 0 rfl ?_
      refine r_iald C X (k := 14) (v := (gA μ 2 i)) (by decide) rfl (by omega) (by decide) rfl dX8_hasTriple_17 ?_
      refine r_callV C X (As := [.int (nI (i + 1)), .int (nI cn), .int (gA μ 2 i)]) (rest := []) (st1 := [.int (bI (h2F (gA μ 2) cn (gA μ 2 i) (cn - (i + 1)) (i + 1)))]) (μ' := μ) (k := 12) (T := TX8) miX8_hasPair mvX8_hasPair (c_hasPair l g μ (a := i + 1) (cn := cn) (gA μ 2 i) (by omega) (by omega)) hw_3_30 (by decide) rfl rfl rfl ⟨by decide, by decide, rfl, rfl, by decide, by decide⟩ rfl (Nat.le_of_ble_eq_true rfl) dX8_hasTriple_18 rfl ?_
      refine r_if_eq C 26 dX8_hasTriple_21 (by decide) (bI_eq _) (fun h21 => ?_) (fun h21 => ?_)
      · rw [if_neg (ts_f h21)] at Rr
        refine r_iinc C (v := (nI (i + 1))) (lv' := [(2, .int (nI (i + 1))), (0, .ref (ad g 12)), (1, .int (nI cn))]) 2 0 dX8_hasTriple_26 rfl (inc_N _ 1) (by decide) rfl ?_
        refine r_goto C 2 dX8_hasTriple_29 (by decide) ?_
        exact ih (i + 1) (by omega) (by omega) Rr
      · rw [if_pos (ts_t h21)] at Rr
        refine r_iconst C (v := (nI 1)) dX8_hasTriple_24 rfl ?_
        refine G_top (y := (bI true)) rfl ?_
        exact r_zret C dX8_hasTriple_25 (nar_b _) Rr
set_option maxHeartbeats 1000000 in
set_option maxRecDepth 100000 in
theorem c_hasTriple (l : Launch) (g : Gd) (μ : Mm) {cn : Nat} (hcn : cn ≤ 1024) : Ct l yX8_hasTriple cX8_hasTriple 3 (some .boolean) (rmk 2 48) g [.ref (ad g 12), .int (nI cn)] μ (some (.int (bI (h3F (gA μ 2) cn cn 0)))) μ := by
  refine Ct.of (by decide) (Nat.le_of_ble_eq_true rfl) (fun z A C X Rr => ?_)
  refine r_iconst C (v := (nI 0)) dX8_hasTriple_0 rfl ?_
  refine r_istore_n C (lv' := [(2, .int (nI 0)), (0, .ref (ad g 12)), (1, .int (nI cn))]) 2 dX8_hasTriple_1 rfl (by decide) rfl ?_
  exact lp_hasTriple C X hcn (cn + 1) 0 (by omega) (by omega) Rr
def mLI2 (μ : Mm) (nw i : Nat) : Mm := sA μ 2 (rowU (ct μ nw i) (fun p => atR (gJ μ i) nw 0 p) (gA μ 2))
def mHD (μ : Mm) (n nw i : Nat) : Mm := mLI2 (mLMin (mDrp (mCpy μ 48 i) 48 0) n nw 49 48) nw 49
def hdA (μ : Mm) (n nw i : Nat) : Bool := let M := mHD μ n nw i; let cn := ct (mLMin (mDrp (mCpy μ 48 i) 48 0) n nw 49 48) nw 49; if bt (gJ M i) 0 = true then h2F (gA M 2) cn (nI 0) cn 0 else h3F (gA M 2) cn cn 0
theorem gI_mHD {μ : Mm} {n nw i q : Nat} : gI (mHD μ n nw i) q = gI μ q := (gI_A _ _ _ _).trans (gI_mLMin.trans (gI_mDrp.trans gI_mCpy))
theorem min1024 {a : Nat} (h : a ≤ 1024) : (if nI 1024 < nI a then nI 1024 else nI a) = nI a := if_neg (fun q => by have := (nI_ltI (by decide) (by omega)).mp q; omega)
set_option maxHeartbeats 1000000 in
set_option maxRecDepth 100000 in
theorem c_hasDisjointSets (l : Launch) (g : Gd) (μ : Mm) {n nw i : Nat} (hO : Ok μ n nw) (hi : i < 52) : Ct l yX8_hasDisjointSets cX8_hasDisjointSets 3 (some .boolean) (rmk 4 88) g [.ref (ad g 12), .ref (ad g (fo i))] μ (some (.int (bI (hdA μ n nw i)))) (mHD μ n nw i) := by
  obtain ⟨hn, hw, hn10, hnw, hs, h1n⟩ := hO
  refine Ct.of (by decide) (Nat.le_of_ble_eq_true rfl) (fun z A C X Rr => ?_)
  refine r_aload_n C dX8_hasDisjointSets_0 0 rfl ?_
  refine r_get C X (k := 12) (R := RX8) (T := TX8) (N := 6) (n := 3) (v := .ref (ad g (fo 48))) (by decide) rfl rfl inw8 (by decide) rfl hw_1_176 rfl dX8_hasDisjointSets_1 ?_
  refine r_aload_n C dX8_hasDisjointSets_4 1 rfl ?_
  refine r_callV C X (As := [.ref (ad g (fo i))]) (rest := []) (st1 := []) (μ' := (mCpy μ 48 i)) (k := (fo 48)) (T := TX3) miX3_copy mvX3_copy (c_copy l g μ (i := 48) (j := i) (by omega) (by omega)) hw_3_17 (fo_lt (by omega)) (WF_fo g _ 48) rfl rfl ⟨by decide, by decide, rfl, rfl, by decide, by decide⟩ rfl (Nat.le_of_ble_eq_true rfl) dX8_hasDisjointSets_5 rfl ?_
  refine r_aload_n C dX8_hasDisjointSets_8 0 rfl ?_
  refine r_get C X (k := 12) (R := RX8) (T := TX8) (N := 6) (n := 3) (v := .ref (ad g (fo 48))) (by decide) rfl rfl inw8 (by decide) rfl hw_1_176 rfl dX8_hasDisjointSets_9 ?_
  refine r_iconst C (v := (nI 0)) dX8_hasDisjointSets_12 rfl ?_
  refine r_callV C X (As := [.int (nI 0)]) (rest := []) (st1 := []) (μ' := (mDrp (mCpy μ 48 i) 48 0)) (k := (fo 48)) (T := TX3) miX3_drop mvX3_drop (c_drop l g (mCpy μ 48 i) (i := 48) (c := 0) (by omega) (by omega)) hw_3_26 (fo_lt (by omega)) (WF_fo g _ 48) rfl rfl ⟨by decide, by decide, rfl, rfl, by decide, by decide⟩ rfl (Nat.le_of_ble_eq_true rfl) dX8_hasDisjointSets_13 rfl ?_
  refine r_aload_n C dX8_hasDisjointSets_16 0 rfl ?_
  refine r_get C X (k := 12) (R := RX8) (T := TX8) (N := 6) (n := 1) (v := .ref (ad g 8)) (by decide) rfl rfl inw8 (by decide) rfl hw_1_174 rfl dX8_hasDisjointSets_17 ?_
  refine r_aload_n C dX8_hasDisjointSets_20 0 rfl ?_
  refine r_get C X (k := 12) (R := RX8) (T := TX8) (N := 6) (n := 4) (v := .ref (ad g (fo 49))) (by decide) rfl rfl inw8 (by decide) rfl hw_1_177 rfl dX8_hasDisjointSets_21 ?_
  refine r_aload_n C dX8_hasDisjointSets_24 0 rfl ?_
  refine r_get C X (k := 12) (R := RX8) (T := TX8) (N := 6) (n := 3) (v := .ref (ad g (fo 48))) (by decide) rfl rfl inw8 (by decide) rfl hw_1_176 rfl dX8_hasDisjointSets_25 ?_
  refine r_callV C X (As := [.ref (ad g (fo 49)), .ref (ad g (fo 48))]) (rest := []) (st1 := []) (μ' := (mLMin (mDrp (mCpy μ 48 i) 48 0) n nw 49 48)) (k := 8) (T := TX2) miX2_layMinimal mvX2_layMinimal (c_layMinimal l g (mDrp (mCpy μ 48 i) 48 0) (n := n) (nw := nw) (t := 49) (s := 48) ⟨(gI_mDrp.trans (gI_mCpy.trans hn)), (gI_mDrp.trans (gI_mCpy.trans hw)), hn10, hnw, hs, h1n⟩ (by omega) (by omega)) hw_3_27 (by decide) rfl rfl rfl ⟨by decide, by decide, rfl, rfl, by decide, by decide⟩ rfl (Nat.le_of_ble_eq_true rfl) dX8_hasDisjointSets_28 rfl ?_
  refine r_aload_n C dX8_hasDisjointSets_31 0 rfl ?_
  refine r_get C X (k := 12) (R := RX8) (T := TX8) (N := 6) (n := 4) (v := .ref (ad g (fo 49))) (by decide) rfl rfl inw8 (by decide) rfl hw_1_177 rfl dX8_hasDisjointSets_32 ?_
  refine r_aload_n C dX8_hasDisjointSets_35 0 rfl ?_
  refine r_get C X (k := 12) (R := RX8) (T := TX8) (N := 6) (n := 5) (v := .ref (ad g 14)) (by decide) rfl rfl inw8 (by decide) rfl hw_1_178 rfl dX8_hasDisjointSets_36 ?_
  refine r_callV C X (As := [.ref (ad g 14)]) (rest := []) (st1 := [.int (nI (sm (fun w => bc (gJ (mLMin (mDrp (mCpy μ 48 i) 48 0) n nw 49 48) 49 w)) nw))]) (μ' := (sA (mLMin (mDrp (mCpy μ 48 i) 48 0) n nw 49 48) 2 (rowU (sm (fun w => bc (gJ (mLMin (mDrp (mCpy μ 48 i) 48 0) n nw 49 48) 49 w)) nw) (fun p => atR (gJ (mLMin (mDrp (mCpy μ 48 i) 48 0) n nw 49 48) 49) nw 0 p) (gA (mLMin (mDrp (mCpy μ 48 i) 48 0) n nw 49 48) 2)))) (k := (fo 49)) (T := TX3) miX3_listInto mvX3_listInto (c_listInto_14 l g (mLMin (mDrp (mCpy μ 48 i) 48 0) n nw 49 48) (i := 49) (nw := nw) (gI_mLMin.trans (gI_mDrp.trans (gI_mCpy.trans hw))) (by omega) (by omega)) hw_3_28 (fo_lt (by omega)) (WF_fo g _ 49) rfl rfl ⟨by decide, by decide, rfl, rfl, by decide, by decide⟩ rfl (Nat.le_of_ble_eq_true rfl) dX8_hasDisjointSets_39 rfl ?_
  have hct := ct_le (μ := (mLMin (mDrp (mCpy μ 48 i) 48 0) n nw 49 48)) (i := 49) hnw
  refine G_top (y := (nI (ct (mLMin (mDrp (mCpy μ 48 i) 48 0) n nw 49 48) nw 49))) rfl ?_
  refine G_mem (μ' := mHD μ n nw i) rfl ?_
  refine r_aload_n C dX8_hasDisjointSets_42 0 rfl ?_
  refine r_get C X (k := 12) (R := RX8) (T := TX8) (N := 6) (n := 5) (v := .ref (ad g 14)) (by decide) rfl rfl inw8 (by decide) rfl hw_1_178 rfl dX8_hasDisjointSets_43 ?_
  refine r_alen C X (k := 14) (t := 1) (n := 1024) (by decide) rfl rfl rfl dX8_hasDisjointSets_46 ?_
  refine r_mmin C (v := (nI (ct (mLMin (mDrp (mCpy μ 48 i) 48 0) n nw 49 48) nw 49))) hw_3_16 ⟨by decide, Nat.le_of_ble_eq_true rfl, by decide, by decide⟩ dX8_hasDisjointSets_47 (min1024 hct) ?_
  refine r_istore_n C (lv' := [(2, .int (nI (ct (mLMin (mDrp (mCpy μ 48 i) 48 0) n nw 49 48) nw 49))), (0, .ref (ad g 12)), (1, .ref (ad g (fo i)))]) 2 dX8_hasDisjointSets_50 rfl (by decide) rfl ?_
  refine r_aload_n C dX8_hasDisjointSets_51 2 rfl ?_
  refine r_iconst C (v := (nI 0)) dX8_hasDisjointSets_52 rfl ?_
  refine r_callV C X (As := [.int (nI 0)]) (rest := []) (st1 := [.int (bI (bt (gJ (mHD μ n nw i) i) 0))]) (μ' := (mHD μ n nw i)) (k := (fo i)) (T := TX3) miX3_contains mvX3_contains (c_contains l g (mHD μ n nw i) (i := i) (c := 0) (by omega) (by omega)) hw_3_29 (fo_lt (by omega)) (WF_fo g _ i) rfl rfl ⟨by decide, by decide, rfl, rfl, by decide, by decide⟩ rfl (Nat.le_of_ble_eq_true rfl) dX8_hasDisjointSets_53 rfl ?_
  refine r_if_eq C 69 dX8_hasDisjointSets_56 (by decide) (bI_eq _) (fun h56 => ?_) (fun h56 => ?_)
  · rw [hdA, if_neg (ts_f h56)] at Rr
    refine r_aload_n C dX8_hasDisjointSets_69 1 rfl ?_
    refine r_iload_n C dX8_hasDisjointSets_70 0 rfl ?_
    refine r_callV C X (As := [.int (nI (ct (mLMin (mDrp (mCpy μ 48 i) 48 0) n nw 49 48) nw 49))]) (rest := []) (st1 := [.int (bI (h3F (gA (mHD μ n nw i) 2) (ct (mLMin (mDrp (mCpy μ 48 i) 48 0) n nw 49 48) nw 49) (ct (mLMin (mDrp (mCpy μ 48 i) 48 0) n nw 49 48) nw 49) 0))]) (μ' := (mHD μ n nw i)) (k := 12) (T := TX8) miX8_hasTriple mvX8_hasTriple (c_hasTriple l g (mHD μ n nw i) (cn := ct (mLMin (mDrp (mCpy μ 48 i) 48 0) n nw 49 48) nw 49) (by omega)) hw_3_38 (by decide) rfl rfl rfl ⟨by decide, by decide, rfl, rfl, by decide, by decide⟩ rfl (Nat.le_of_ble_eq_true rfl) dX8_hasDisjointSets_71 rfl ?_
    exact r_zret C dX8_hasDisjointSets_74 (nar_b _) Rr
  · rw [hdA, if_pos (ts_t h56)] at Rr
    refine r_aload_n C dX8_hasDisjointSets_59 1 rfl ?_
    refine r_iconst C (v := (nI 0)) dX8_hasDisjointSets_60 rfl ?_
    refine r_iload_n C dX8_hasDisjointSets_61 0 rfl ?_
    refine r_iconst C (v := (nI 0)) dX8_hasDisjointSets_62 rfl ?_
    refine r_callV C X (As := [.int (nI 0), .int (nI (ct (mLMin (mDrp (mCpy μ 48 i) 48 0) n nw 49 48) nw 49)), .int (nI 0)]) (rest := []) (st1 := [.int (bI (h2F (gA (mHD μ n nw i) 2) (ct (mLMin (mDrp (mCpy μ 48 i) 48 0) n nw 49 48) nw 49) (nI 0) ((ct (mLMin (mDrp (mCpy μ 48 i) 48 0) n nw 49 48) nw 49) - 0) 0))]) (μ' := (mHD μ n nw i)) (k := 12) (T := TX8) miX8_hasPair mvX8_hasPair (c_hasPair l g (mHD μ n nw i) (a := 0) (cn := ct (mLMin (mDrp (mCpy μ 48 i) 48 0) n nw 49 48) nw 49) (nI 0) (by omega) (by omega)) hw_3_30 (by decide) rfl rfl rfl ⟨by decide, by decide, rfl, rfl, by decide, by decide⟩ rfl (Nat.le_of_ble_eq_true rfl) dX8_hasDisjointSets_63 rfl ?_
    refine r_goto C 74 dX8_hasDisjointSets_66 (by decide) ?_
    exact r_zret C dX8_hasDisjointSets_74 (nar_b _) Rr
def lcF (n nw f : Nat) : Nat → Nat → Nat → Mm → Mm × Int32
  | 0, _, _, M => (M, -1)
  | r + 1, k, nx, M =>
    if k < nx then lcF n nw f r (k + 1) nx M
    else if ct (mLk M nw f k) nw (37 + pN k) < 3 then lcF n nw f r (k + 1) (be k (2 ^ n - 1)) (mLk M nw f k)
    else if hdA (mLk M nw f k) n nw (37 + pN k) = true then (mHD (mLk M nw f k) n nw (37 + pN k), nI k)
    else lcF n nw f r (k + 1) (k + 1) (mHD (mLk M nw f k) n nw (37 + pN k))
theorem gI_lcF {n nw f q : Nat} : ∀ (r k nx : Nat) (M : Mm), gI (lcF n nw f r k nx M).1 q = gI M q
  | 0, _, _, _ => rfl
  | r + 1, k, nx, M => by
    rw [lcF]
    split
    · exact gI_lcF _ _ _ _
    · split
      · exact (gI_lcF _ _ _ _).trans gI_mLk
      · split
        · exact gI_mHD.trans gI_mLk
        · exact (gI_lcF _ _ _ _).trans (gI_mHD.trans gI_mLk)
set_option maxHeartbeats 1000000 in
set_option maxRecDepth 100000 in
theorem lp_leastCore {z : Zt} {A : Nat → Prop} {l : Launch} {g : Gd} (C : Cx z A l (rmk 5 110) cX8_leastCore 7 "SetFamilies$SunflowerSearch") (X : Kx z g A) {n nw f : Nat} (hn10 : n ≤ 10) (hnw : nw ≤ 16) (hs : ∀ e, e < n → 6 ≤ e → 2 ^ (e - 6) ≤ nw) (h1n : 1 ≤ n) (hf : f < 52) (h1024 : 2 ^ n ≤ 1024) (h2n : 0 < 2 ^ n) : ∀ (n_ : Nat) (k nx : Nat) (M : Mm), 2 ^ n - k < n_ → k ≤ 2 ^ n → nx ≤ 2048 → gI M 0 = nI n → gI M 1 = nI nw → Rx z g A (some .int) (some (.int (lcF n nw f (2 ^ n - k) k nx M).2)) (lcF n nw f (2 ^ n - k) k nx M).1 → G z g.1 A 7 (wd g M) 0 0 13 [(4, .int (nI k)), (3, .int (nI nx)), (2, .int (nI (2 ^ n - 1))), (0, .ref (ad g 12)), (1, .ref (ad g (fo f)))] [] := by
  intro n_
  induction n_ with
  | zero => intro k nx M hm_; exact absurd hm_ (Nat.not_lt_zero _)
  | succ n_ ih =>
    intro k nx M hm_ hk hnx hn hw Rr
    refine r_iload C dX8_leastCore_13 0 rfl ?_
    refine r_iload_n C dX8_leastCore_15 2 rfl ?_
    refine r_icmp_gt C 95 dX8_leastCore_16 (by decide) (nI_ltI (by omega) (by omega)) (fun h16 => ?_) (fun h16 => ?_)
    · rw [show 2 ^ n - k = 0 by omega, lcF] at Rr
      refine r_iconst C (v := (-1)) dX8_leastCore_95 rfl ?_
      exact r_iret C dX8_leastCore_96 Rr
    · rw [show 2 ^ n - k = (2 ^ n - (k + 1)) + 1 by omega, lcF] at Rr
      refine r_iload C dX8_leastCore_19 0 rfl ?_
      refine r_iload_n C dX8_leastCore_21 1 rfl ?_
      refine r_icmp_ge C 28 dX8_leastCore_22 (by decide) (nI_leI (by omega) (by omega)) (fun h22 => ?_) (fun h22 => ?_)
      · rw [if_neg (by omega)] at Rr
        have hpn := pN_10 k (by omega)
        have hbe := be_le (c := k) (all := 2 ^ n - 1) (by omega) (by omega)
        have hct := ct_le (μ := mLk M nw f k) (i := 37 + pN k) hnw
        refine r_aload_n C dX8_leastCore_28 3 rfl ?_
        refine r_aload_n C dX8_leastCore_29 4 rfl ?_
        refine r_iload C dX8_leastCore_30 0 rfl ?_
        refine r_callV C X (As := [.ref (ad g (fo f)), .int (nI k)]) (rest := []) (st1 := [.ref (ad g (fo (37 + pN k)))]) (μ' := (mLk M nw f k)) (k := 12) (T := TX8) miX8_layLink mvX8_layLink (c_layLink l g M (n := n) (nw := nw) (f := f) (c := k) ⟨hn, hw, hn10, hnw, hs, h1n⟩ (by omega) (by omega)) hw_3_11 (by decide) rfl rfl rfl ⟨by decide, by decide, rfl, rfl, by decide, by decide⟩ rfl (Nat.le_of_ble_eq_true rfl) dX8_leastCore_32 rfl ?_
        refine r_astore C (lv' := [(5, .ref (ad g (fo (37 + pN k)))), (4, .int (nI k)), (3, .int (nI nx)), (2, .int (nI (2 ^ n - 1))), (0, .ref (ad g 12)), (1, .ref (ad g (fo f)))]) 5 dX8_leastCore_35 (by decide) rfl ?_
        refine r_aload C dX8_leastCore_37 0 rfl ?_
        refine r_callV C X (As := []) (rest := []) (st1 := [.int (nI (sm (fun w => bc (gJ (mLk M nw f k) (37 + pN k) w)) nw))]) (μ' := (mLk M nw f k)) (k := (fo (37 + pN k))) (T := TX3) miX3_count mvX3_count (c_count l g (mLk M nw f k) (i := (37 + pN k)) (nw := nw) (gI_mLk.trans hw) (by omega) (by omega)) hw_3_21 (fo_lt (by omega)) (WF_fo g _ (37 + pN k)) rfl rfl ⟨by decide, by decide, rfl, rfl, by decide, by decide⟩ rfl (Nat.le_of_ble_eq_true rfl) dX8_leastCore_39 rfl ?_
        refine G_top (y := (nI (ct (mLk M nw f k) nw (37 + pN k)))) rfl ?_
        refine r_iconst C (v := (nI 3)) dX8_leastCore_42 rfl ?_
        refine r_icmp_lt C 50 dX8_leastCore_43 (by decide) (nI_ltI (by omega) (by omega)) (fun h43 => ?_) (fun h43 => ?_)
        · rw [if_pos (by omega)] at Rr
          refine r_iconst C (v := (nI 0)) dX8_leastCore_50 rfl ?_
          refine r_istore C (lv' := [(6, .int (nI 0)), (5, .ref (ad g (fo (37 + pN k)))), (4, .int (nI k)), (3, .int (nI nx)), (2, .int (nI (2 ^ n - 1))), (0, .ref (ad g 12)), (1, .ref (ad g (fo f)))]) 6 dX8_leastCore_51 (by decide) rfl ?_
          refine r_iload C dX8_leastCore_53 0 rfl ?_
          refine r_if_eq C 70 dX8_leastCore_55 (by decide) (zI_eq (by omega)) (fun h55 => ?_) (fun h55 => ?_)
          · refine r_iload C dX8_leastCore_70 0 rfl ?_
            refine r_if_eq C 82 dX8_leastCore_72 (by decide) (zI_eq (by omega)) (fun h72 => ?_) (fun h72 => ?_)
            · refine r_iload C dX8_leastCore_82 2 rfl ?_
              refine r_iload_n C dX8_leastCore_84 4 rfl ?_
              refine r_callPN C (As := [.int (nI k), .int (nI (2 ^ n - 1))]) (rest := []) (st1 := [.int (nI (be k (2 ^ n - 1)))]) miX10_branchEnd msX10_branchEnd (c_branchEnd l (c := k) (a := 2 ^ n - 1) (by omega) (by omega)) X.2.2.2.2.2.2.1 rfl ⟨by decide, by decide, rfl, rfl, by decide, by decide⟩ rfl (Nat.le_of_ble_eq_true rfl) dX8_leastCore_85 rfl ?_
              refine r_istore_n C (lv' := [(3, .int (nI (be k (2 ^ n - 1)))), (6, .int (nI 0)), (5, .ref (ad g (fo (37 + pN k)))), (4, .int (nI k)), (2, .int (nI (2 ^ n - 1))), (0, .ref (ad g 12)), (1, .ref (ad g (fo f)))]) 3 dX8_leastCore_88 rfl (by decide) rfl ?_
              refine r_iinc C (v := (nI (k + 1))) (lv' := [(4, .int (nI (k + 1))), (3, .int (nI (be k (2 ^ n - 1)))), (6, .int (nI 0)), (5, .ref (ad g (fo (37 + pN k)))), (2, .int (nI (2 ^ n - 1))), (0, .ref (ad g 12)), (1, .ref (ad g (fo f)))]) 4 3 dX8_leastCore_89 rfl (inc_N _ 1) (by decide) rfl ?_
              refine r_goto C 13 dX8_leastCore_92 (by decide) ?_
              refine G_sub (lv' := [(4, .int (nI (k + 1))), (3, .int (nI (be k (2 ^ n - 1)))), (2, .int (nI (2 ^ n - 1))), (0, .ref (ad g 12)), (1, .ref (ad g (fo f)))]) [0, 1, 4, 5, 6] rfl ?_
              exact ih (k + 1) (be k (2 ^ n - 1)) (mLk M nw f k) (by omega) (by omega) (by omega) (gI_mLk.trans hn) (gI_mLk.trans hw) Rr
            · exact absurd rfl h72
          · exact absurd rfl h55
        · rw [if_neg (by omega)] at Rr
          refine r_iconst C (v := (nI 1)) dX8_leastCore_46 rfl ?_
          refine r_goto C 51 dX8_leastCore_47 (by decide) ?_
          refine r_istore C (lv' := [(6, .int (nI 1)), (5, .ref (ad g (fo (37 + pN k)))), (4, .int (nI k)), (3, .int (nI nx)), (2, .int (nI (2 ^ n - 1))), (0, .ref (ad g 12)), (1, .ref (ad g (fo f)))]) 6 dX8_leastCore_51 (by decide) rfl ?_
          refine r_iload C dX8_leastCore_53 0 rfl ?_
          refine r_if_eq C 70 dX8_leastCore_55 (by decide) (zI_eq (by omega)) (fun h55 => ?_) (fun h55 => ?_)
          · exact absurd h55 (by decide)
          · refine r_aload_n C dX8_leastCore_58 5 rfl ?_
            refine r_aload C dX8_leastCore_59 1 rfl ?_
            refine r_callV C X (As := [.ref (ad g (fo (37 + pN k)))]) (rest := []) (st1 := [.int (bI (hdA (mLk M nw f k) n nw (37 + pN k)))]) (μ' := (mHD (mLk M nw f k) n nw (37 + pN k))) (k := 12) (T := TX8) miX8_hasDisjointSets mvX8_hasDisjointSets (c_hasDisjointSets l g (mLk M nw f k) (n := n) (nw := nw) (i := (37 + pN k)) ⟨(gI_mLk.trans hn), (gI_mLk.trans hw), hn10, hnw, hs, h1n⟩ (by omega)) hw_3_22 (by decide) rfl rfl rfl ⟨by decide, by decide, rfl, rfl, by decide, by decide⟩ rfl (Nat.le_of_ble_eq_true rfl) dX8_leastCore_61 rfl ?_
            refine r_if_eq C 70 dX8_leastCore_64 (by decide) (bI_eq _) (fun h64 => ?_) (fun h64 => ?_)
            · rw [if_neg (ts_f h64)] at Rr
              refine r_iload C dX8_leastCore_70 0 rfl ?_
              refine r_if_eq C 82 dX8_leastCore_72 (by decide) (zI_eq (by omega)) (fun h72 => ?_) (fun h72 => ?_)
              · exact absurd h72 (by decide)
              · refine r_iload C dX8_leastCore_75 2 rfl ?_
                refine r_iconst C (v := (nI 1)) dX8_leastCore_77 rfl ?_
                refine r_iadd C (v := (nI (k + 1))) dX8_leastCore_78 (nI_add _ _) ?_
                refine r_goto C 88 dX8_leastCore_79 (by decide) ?_
                refine r_istore_n C (lv' := [(3, .int (nI (k + 1))), (6, .int (nI 1)), (5, .ref (ad g (fo (37 + pN k)))), (4, .int (nI k)), (2, .int (nI (2 ^ n - 1))), (0, .ref (ad g 12)), (1, .ref (ad g (fo f)))]) 3 dX8_leastCore_88 rfl (by decide) rfl ?_
                refine r_iinc C (v := (nI (k + 1))) (lv' := [(4, .int (nI (k + 1))), (3, .int (nI (k + 1))), (6, .int (nI 1)), (5, .ref (ad g (fo (37 + pN k)))), (2, .int (nI (2 ^ n - 1))), (0, .ref (ad g 12)), (1, .ref (ad g (fo f)))]) 4 3 dX8_leastCore_89 rfl (inc_N _ 1) (by decide) rfl ?_
                refine r_goto C 13 dX8_leastCore_92 (by decide) ?_
                refine G_sub (lv' := [(4, .int (nI (k + 1))), (3, .int (nI (k + 1))), (2, .int (nI (2 ^ n - 1))), (0, .ref (ad g 12)), (1, .ref (ad g (fo f)))]) [0, 1, 4, 5, 6] rfl ?_
                exact ih (k + 1) (k + 1) (mHD (mLk M nw f k) n nw (37 + pN k)) (by omega) (by omega) (by omega) (gI_mHD.trans (gI_mLk.trans hn)) (gI_mHD.trans (gI_mLk.trans hw)) Rr
            · rw [if_pos (ts_t h64)] at Rr
              refine r_iload C dX8_leastCore_67 2 rfl ?_
              exact r_iret C dX8_leastCore_69 Rr
      · rw [if_pos (by omega)] at Rr
        refine r_goto C 89 dX8_leastCore_25 (by decide) ?_
        refine r_iinc C (v := (nI (k + 1))) (lv' := [(4, .int (nI (k + 1))), (3, .int (nI nx)), (2, .int (nI (2 ^ n - 1))), (0, .ref (ad g 12)), (1, .ref (ad g (fo f)))]) 4 0 dX8_leastCore_89 rfl (inc_N _ 1) (by decide) rfl ?_
        refine r_goto C 13 dX8_leastCore_92 (by decide) ?_
        exact ih (k + 1) nx M (by omega) (by omega) (by omega) hn hw Rr
set_option maxHeartbeats 1000000 in
set_option maxRecDepth 100000 in
theorem c_leastCore (l : Launch) (g : Gd) (μ : Mm) {n nw f : Nat} (hO : Ok μ n nw) (hf : f < 52) : Ct l yX8_leastCore cX8_leastCore 7 (some .int) (rmk 5 110) g [.ref (ad g 12), .ref (ad g (fo f))] μ (some (.int ((lcF n nw f (2 ^ n) 0 0 μ).2))) ((lcF n nw f (2 ^ n) 0 0 μ).1) := by
  obtain ⟨hn, hw, hn10, hnw, hs, h1n⟩ := hO
  have h1024 := pw10 hn10
  refine Ct.of (by decide) (Nat.le_of_ble_eq_true rfl) (fun z A C X Rr => ?_)
  have h2n := Nat.two_pow_pos n
  refine r_aload_n C dX8_leastCore_0 0 rfl ?_
  refine r_get C X (k := 12) (R := RX8) (T := TX8) (N := 6) (n := 0) (v := .ref (ad g 1)) (by decide) rfl rfl inw8 (by decide) rfl hw_1_173 rfl dX8_leastCore_1 ?_
  refine r_callV C X (As := []) (rest := []) (st1 := [.int (nI (2 ^ n - 1))]) (μ' := μ) (k := 1) (T := TX4) miX4_everything mvX4_everything (c_everything l g μ (n := n) hn (by omega)) hw_3_10 (by decide) rfl rfl rfl ⟨by decide, by decide, rfl, rfl, by decide, by decide⟩ rfl (Nat.le_of_ble_eq_true rfl) dX8_leastCore_4 rfl ?_
  refine r_istore_n C (lv' := [(2, .int (nI (2 ^ n - 1))), (0, .ref (ad g 12)), (1, .ref (ad g (fo f)))]) 2 dX8_leastCore_7 rfl (by decide) rfl ?_
  refine r_iconst C (v := (nI 0)) dX8_leastCore_8 rfl ?_
  refine r_istore_n C (lv' := [(3, .int (nI 0)), (2, .int (nI (2 ^ n - 1))), (0, .ref (ad g 12)), (1, .ref (ad g (fo f)))]) 3 dX8_leastCore_9 rfl (by decide) rfl ?_
  refine r_iconst C (v := (nI 0)) dX8_leastCore_10 rfl ?_
  refine r_istore C (lv' := [(4, .int (nI 0)), (3, .int (nI 0)), (2, .int (nI (2 ^ n - 1))), (0, .ref (ad g 12)), (1, .ref (ad g (fo f)))]) 4 dX8_leastCore_11 (by decide) rfl ?_
  exact lp_leastCore C X hn10 hnw hs h1n hf h1024 h2n (2 ^ n + 1) 0 0 μ (by omega) (by omega) (by omega) hn hw Rr
