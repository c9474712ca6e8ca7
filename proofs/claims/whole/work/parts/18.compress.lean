def mLX (μ : Mm) (nw t s a b : Nat) : Mm := mJR (mClr (mJL (mClr μ 23) nw 23 s a) t) nw t 23 b
theorem gI_mLX {μ : Mm} {nw t s a b q : Nat} : gI (mLX μ nw t s a b) q = gI μ q := gI_mJR.trans (gI_mClr.trans (gI_mJL.trans gI_mClr))
/-- the sets that come by a compression from j to i, in family 24 -/
def mArr (μ : Mm) (nw f j i : Nat) : Mm := mSub (mLX μ nw 24 f j i) nw 24 f
def mRep (μ : Mm) (nw f j i : Nat) : Mm := mJoin (mSub (mLX (mArr μ nw f j i) nw 25 24 i j) nw f 25) nw f 24
theorem gI_mArr {μ : Mm} {nw f j i q : Nat} : gI (mArr μ nw f j i) q = gI μ q := gI_mSub.trans gI_mLX
theorem gI_mRep {μ : Mm} {nw f j i q : Nat} : gI (mRep μ nw f j i) q = gI μ q := gI_mJoin.trans (gI_mSub.trans (gI_mLX.trans gI_mArr))
/-- how many sets family i has in nw words -/
def ct (μ : Mm) (nw i : Nat) : Nat := sm (fun w => bc (gJ μ i w)) nw
theorem ct_le {μ : Mm} {nw i : Nat} (h : nw ≤ 16) : ct μ nw i ≤ 1024 := Nat.le_trans (sm_le (fun w => bc_le _) nw) (by omega)
set_option maxHeartbeats 1000000 in
set_option maxRecDepth 100000 in
theorem c_layExchanged (l : Launch) (g : Gd) (μ : Mm) {n nw t s a b : Nat} (hO : Ok μ n nw) (ht : t < 52) (hs_ : s < 52) (ha : a < n) (hb : b < n) : Ct l yX1_layExchanged cX1_layExchanged 5 none (rmk 2 44) g [.ref (ad g 9), .ref (ad g (fo t)), .ref (ad g (fo s)), .int (nI a), .int (nI b)] μ none (mLX μ nw t s a b) := by
  obtain ⟨hn, hw, hn10, hnw, hs, h1n⟩ := hO
  refine Ct.of (by decide) (Nat.le_of_ble_eq_true rfl) (fun z A C X Rr => ?_)
  unfold mLX at Rr
  refine r_aload_n C dX1_layExchanged_0 0 rfl ?_
  refine r_get C X (k := 9) (R := RX1) (T := TX1) (N := 4) (n := 1) (v := .ref (ad g (fo 23))) (by decide) rfl rfl inw1 (by decide) rfl hw_1_138 rfl dX1_layExchanged_1 ?_
  refine r_callV C X (As := []) (rest := []) (st1 := []) (μ' := (mClr μ 23)) (k := (fo 23)) (T := TX3) miX3_clear mvX3_clear (c_clear l g μ (i := 23) (by omega)) hw_2_177 (fo_lt (by omega)) (WF_fo g _ 23) rfl rfl ⟨by decide, by decide, rfl, rfl, by decide, by decide⟩ rfl (Nat.le_of_ble_eq_true rfl) dX1_layExchanged_4 rfl ?_
  refine r_aload_n C dX1_layExchanged_7 0 rfl ?_
  refine r_get C X (k := 9) (R := RX1) (T := TX1) (N := 4) (n := 1) (v := .ref (ad g (fo 23))) (by decide) rfl rfl inw1 (by decide) rfl hw_1_138 rfl dX1_layExchanged_8 ?_
  refine r_aload_n C dX1_layExchanged_11 2 rfl ?_
  refine r_iload_n C dX1_layExchanged_12 3 rfl ?_
  refine r_callV C X (As := [.ref (ad g (fo s)), .int (nI a)]) (rest := []) (st1 := []) (μ' := (mJL (mClr μ 23) nw 23 s a)) (k := (fo 23)) (T := TX3) miX3_joinLowered mvX3_joinLowered (c_joinLowered l g (mClr μ 23) (i := 23) (j := s) (e := a) (nw := nw) (gI_mClr.trans hw) (by omega) (by omega) (by omega) (by omega) (hs a (by omega))) hw_2_178 (fo_lt (by omega)) (WF_fo g _ 23) rfl rfl ⟨by decide, by decide, rfl, rfl, by decide, by decide⟩ rfl (Nat.le_of_ble_eq_true rfl) dX1_layExchanged_13 rfl ?_
  refine r_aload_n C dX1_layExchanged_16 1 rfl ?_
  refine r_callV C X (As := []) (rest := []) (st1 := []) (μ' := (mClr (mJL (mClr μ 23) nw 23 s a) t)) (k := (fo t)) (T := TX3) miX3_clear mvX3_clear (c_clear l g (mJL (mClr μ 23) nw 23 s a) (i := t) (by omega)) hw_2_177 (fo_lt (by omega)) (WF_fo g _ t) rfl rfl ⟨by decide, by decide, rfl, rfl, by decide, by decide⟩ rfl (Nat.le_of_ble_eq_true rfl) dX1_layExchanged_17 rfl ?_
  refine r_aload_n C dX1_layExchanged_20 1 rfl ?_
  refine r_aload_n C dX1_layExchanged_21 0 rfl ?_
  refine r_get C X (k := 9) (R := RX1) (T := TX1) (N := 4) (n := 1) (v := .ref (ad g (fo 23))) (by decide) rfl rfl inw1 (by decide) rfl hw_1_138 rfl dX1_layExchanged_22 ?_
  refine r_iload C dX1_layExchanged_25 4 rfl ?_
  refine r_callV C X (As := [.ref (ad g (fo 23)), .int (nI b)]) (rest := []) (st1 := []) (μ' := (mJR (mClr (mJL (mClr μ 23) nw 23 s a) t) nw t 23 b)) (k := (fo t)) (T := TX3) miX3_joinRaised mvX3_joinRaised (c_joinRaised l g (mClr (mJL (mClr μ 23) nw 23 s a) t) (i := t) (j := 23) (e := b) (nw := nw) (gI_mClr.trans (gI_mJL.trans (gI_mClr.trans hw))) (by omega) (by omega) (by omega) (by omega) (hs b (by omega))) hw_2_179 (fo_lt (by omega)) (WF_fo g _ t) rfl rfl ⟨by decide, by decide, rfl, rfl, by decide, by decide⟩ rfl (Nat.le_of_ble_eq_true rfl) dX1_layExchanged_27 rfl ?_
  exact r_vret C dX1_layExchanged_30 Rr
set_option maxHeartbeats 1000000 in
set_option maxRecDepth 100000 in
theorem c_replace (l : Launch) (g : Gd) (μ : Mm) {n nw f j i : Nat} (hO : Ok μ n nw) (hf : f < 52) (hj : j < n) (hi : i < n) : Ct l yX1_replace cX1_replace 4 (some .int) (rmk 3 68) g [.ref (ad g 9), .ref (ad g (fo f)), .int (nI j), .int (nI i)] μ (some (.int (nI (ct (mRep μ nw f j i) nw 24)))) (mRep μ nw f j i) := by
  obtain ⟨hn, hw, hn10, hnw, hs, h1n⟩ := hO
  refine Ct.of (by decide) (Nat.le_of_ble_eq_true rfl) (fun z A C X Rr => ?_)
  unfold mRep mArr at Rr
  refine r_aload_n C dX1_replace_0 0 rfl ?_
  refine r_aload_n C dX1_replace_1 0 rfl ?_
  refine r_get C X (k := 9) (R := RX1) (T := TX1) (N := 4) (n := 2) (v := .ref (ad g (fo 24))) (by decide) rfl rfl inw1 (by decide) rfl hw_1_139 rfl dX1_replace_2 ?_
  refine r_aload_n C dX1_replace_5 1 rfl ?_
  refine r_iload_n C dX1_replace_6 2 rfl ?_
  refine r_iload_n C dX1_replace_7 3 rfl ?_
  refine r_callV C X (As := [.ref (ad g (fo 24)), .ref (ad g (fo f)), .int (nI j), .int (nI i)]) (rest := []) (st1 := []) (μ' := (mLX μ nw 24 f j i)) (k := 9) (T := TX1) miX1_layExchanged mvX1_layExchanged (c_layExchanged l g μ (n := n) (nw := nw) (t := 24) (s := f) (a := j) (b := i) ⟨hn, hw, hn10, hnw, hs, h1n⟩ (by omega) (by omega) (by omega) (by omega)) hw_2_173 (by decide) rfl rfl rfl ⟨by decide, by decide, rfl, rfl, by decide, by decide⟩ rfl (Nat.le_of_ble_eq_true rfl) dX1_replace_8 rfl ?_
  refine r_aload_n C dX1_replace_11 0 rfl ?_
  refine r_get C X (k := 9) (R := RX1) (T := TX1) (N := 4) (n := 2) (v := .ref (ad g (fo 24))) (by decide) rfl rfl inw1 (by decide) rfl hw_1_139 rfl dX1_replace_12 ?_
  refine r_aload_n C dX1_replace_15 1 rfl ?_
  refine r_callV C X (As := [.ref (ad g (fo f))]) (rest := []) (st1 := []) (μ' := (mSub (mLX μ nw 24 f j i) nw 24 f)) (k := (fo 24)) (T := TX3) miX3_subtract mvX3_subtract (c_subtract l g (mLX μ nw 24 f j i) (i := 24) (j := f) (nw := nw) (gI_mLX.trans hw) (by omega) (by omega) (by omega)) hw_2_180 (fo_lt (by omega)) (WF_fo g _ 24) rfl rfl ⟨by decide, by decide, rfl, rfl, by decide, by decide⟩ rfl (Nat.le_of_ble_eq_true rfl) dX1_replace_16 rfl ?_
  refine r_aload_n C dX1_replace_19 0 rfl ?_
  refine r_aload_n C dX1_replace_20 0 rfl ?_
  refine r_get C X (k := 9) (R := RX1) (T := TX1) (N := 4) (n := 3) (v := .ref (ad g (fo 25))) (by decide) rfl rfl inw1 (by decide) rfl hw_1_140 rfl dX1_replace_21 ?_
  refine r_aload_n C dX1_replace_24 0 rfl ?_
  refine r_get C X (k := 9) (R := RX1) (T := TX1) (N := 4) (n := 2) (v := .ref (ad g (fo 24))) (by decide) rfl rfl inw1 (by decide) rfl hw_1_139 rfl dX1_replace_25 ?_
  refine r_iload_n C dX1_replace_28 3 rfl ?_
  refine r_iload_n C dX1_replace_29 2 rfl ?_
  refine r_callV C X (As := [.ref (ad g (fo 25)), .ref (ad g (fo 24)), .int (nI i), .int (nI j)]) (rest := []) (st1 := []) (μ' := (mLX (mSub (mLX μ nw 24 f j i) nw 24 f) nw 25 24 i j)) (k := 9) (T := TX1) miX1_layExchanged mvX1_layExchanged (c_layExchanged l g (mSub (mLX μ nw 24 f j i) nw 24 f) (n := n) (nw := nw) (t := 25) (s := 24) (a := i) (b := j) ⟨(gI_mSub.trans (gI_mLX.trans hn)), (gI_mSub.trans (gI_mLX.trans hw)), hn10, hnw, hs, h1n⟩ (by omega) (by omega) (by omega) (by omega)) hw_2_173 (by decide) rfl rfl rfl ⟨by decide, by decide, rfl, rfl, by decide, by decide⟩ rfl (Nat.le_of_ble_eq_true rfl) dX1_replace_30 rfl ?_
  refine r_aload_n C dX1_replace_33 1 rfl ?_
  refine r_aload_n C dX1_replace_34 0 rfl ?_
  refine r_get C X (k := 9) (R := RX1) (T := TX1) (N := 4) (n := 3) (v := .ref (ad g (fo 25))) (by decide) rfl rfl inw1 (by decide) rfl hw_1_140 rfl dX1_replace_35 ?_
  refine r_callV C X (As := [.ref (ad g (fo 25))]) (rest := []) (st1 := []) (μ' := (mSub (mLX (mSub (mLX μ nw 24 f j i) nw 24 f) nw 25 24 i j) nw f 25)) (k := (fo f)) (T := TX3) miX3_subtract mvX3_subtract (c_subtract l g (mLX (mSub (mLX μ nw 24 f j i) nw 24 f) nw 25 24 i j) (i := f) (j := 25) (nw := nw) (gI_mLX.trans (gI_mSub.trans (gI_mLX.trans hw))) (by omega) (by omega) (by omega)) hw_2_180 (fo_lt (by omega)) (WF_fo g _ f) rfl rfl ⟨by decide, by decide, rfl, rfl, by decide, by decide⟩ rfl (Nat.le_of_ble_eq_true rfl) dX1_replace_38 rfl ?_
  refine r_aload_n C dX1_replace_41 1 rfl ?_
  refine r_aload_n C dX1_replace_42 0 rfl ?_
  refine r_get C X (k := 9) (R := RX1) (T := TX1) (N := 4) (n := 2) (v := .ref (ad g (fo 24))) (by decide) rfl rfl inw1 (by decide) rfl hw_1_139 rfl dX1_replace_43 ?_
  refine r_callV C X (As := [.ref (ad g (fo 24))]) (rest := []) (st1 := []) (μ' := (mJoin (mSub (mLX (mSub (mLX μ nw 24 f j i) nw 24 f) nw 25 24 i j) nw f 25) nw f 24)) (k := (fo f)) (T := TX3) miX3_join mvX3_join (c_join l g (mSub (mLX (mSub (mLX μ nw 24 f j i) nw 24 f) nw 25 24 i j) nw f 25) (i := f) (j := 24) (nw := nw) (gI_mSub.trans (gI_mLX.trans (gI_mSub.trans (gI_mLX.trans hw)))) (by omega) (by omega) (by omega)) hw_4_70 (fo_lt (by omega)) (WF_fo g _ f) rfl rfl ⟨by decide, by decide, rfl, rfl, by decide, by decide⟩ rfl (Nat.le_of_ble_eq_true rfl) dX1_replace_46 rfl ?_
  refine r_aload_n C dX1_replace_49 0 rfl ?_
  refine r_get C X (k := 9) (R := RX1) (T := TX1) (N := 4) (n := 2) (v := .ref (ad g (fo 24))) (by decide) rfl rfl inw1 (by decide) rfl hw_1_139 rfl dX1_replace_50 ?_
  refine r_callV C X (As := []) (rest := []) (st1 := [.int (nI (sm (fun w => bc (gJ (mJoin (mSub (mLX (mSub (mLX μ nw 24 f j i) nw 24 f) nw 25 24 i j) nw f 25) nw f 24) 24 w)) nw))]) (μ' := (mJoin (mSub (mLX (mSub (mLX μ nw 24 f j i) nw 24 f) nw 25 24 i j) nw f 25) nw f 24)) (k := (fo 24)) (T := TX3) miX3_count mvX3_count (c_count l g (mJoin (mSub (mLX (mSub (mLX μ nw 24 f j i) nw 24 f) nw 25 24 i j) nw f 25) nw f 24) (i := 24) (nw := nw) (gI_mJoin.trans (gI_mSub.trans (gI_mLX.trans (gI_mSub.trans (gI_mLX.trans hw))))) (by omega) (by omega)) hw_2_181 (fo_lt (by omega)) (WF_fo g _ 24) rfl rfl ⟨by decide, by decide, rfl, rfl, by decide, by decide⟩ rfl (Nat.le_of_ble_eq_true rfl) dX1_replace_53 rfl ?_
  exact r_iret C dX1_replace_56 Rr
/-- the compressions from j to i for j from i + 1 on, t of them: memory and count -/
def roI (nw f i : Nat) (s : Mm × Nat) : Nat → Mm × Nat
  | 0 => s
  | t + 1 => let m := mRep (roI nw f i s t).1 nw f (i + 1 + t) i; (m, (roI nw f i s t).2 + ct m nw 24)
def roO (n nw f : Nat) (μ : Mm) : Nat → Mm × Nat
  | 0 => (μ, 0)
  | i + 1 => roI nw f i (roO n nw f μ i) (n - (i + 1))
theorem gI_roI {nw f i q : Nat} {s : Mm × Nat} : ∀ t, gI (roI nw f i s t).1 q = gI s.1 q
  | 0 => rfl
  | t + 1 => gI_mRep.trans (gI_roI t)
theorem gI_roO {n nw f q : Nat} {μ : Mm} : ∀ i, gI (roO n nw f μ i).1 q = gI μ q
  | 0 => rfl
  | i + 1 => (gI_roI _).trans (gI_roO i)
theorem roI_le {nw f i : Nat} (h : nw ≤ 16) {s : Mm × Nat} : ∀ t, (roI nw f i s t).2 ≤ s.2 + t * 1024
  | 0 => by simp [roI]
  | t + 1 => by have h1 := roI_le (f := f) (i := i) h (s := s) t; have h2 := ct_le (μ := (mRep (roI nw f i s t).1 nw f (i + 1 + t) i)) (i := 24) h; show (roI nw f i s t).2 + ct _ nw 24 ≤ _; omega
theorem roO_le {n nw f : Nat} (h : nw ≤ 16) (hn : n ≤ 10) {μ : Mm} : ∀ i, (roO n nw f μ i).2 ≤ i * 10240
  | 0 => by simp [roO]
  | i + 1 => by have h1 := roO_le (f := f) h hn (μ := μ) i; have h2 := roI_le (f := f) (i := i) h (s := roO n nw f μ i) (n - (i + 1)); show (roI nw f i _ _).2 ≤ _; omega
set_option maxHeartbeats 1000000 in
set_option maxRecDepth 100000 in
theorem lp_replaceOnceI {z : Zt} {A : Nat → Prop} {l : Launch} {g : Gd} (C : Cx z A l (rmk 4 91) cX1_replaceOnce 5 "SetFamilies$Compression") (X : Kx z g A) {n nw f i : Nat} {s : Mm × Nat} (hn : gI s.1 0 = nI n) (hw : gI s.1 1 = nI nw) (hn10 : n ≤ 10) (hnw : nw ≤ 16) (hs : ∀ e, e < n → 6 ≤ e → 2 ^ (e - 6) ≤ nw) (h1n : 1 ≤ n) (hf : f < 52) (hi : i + 1 ≤ n) (KK : G z g.1 A 5 (wd g (roI nw f i s (n - (i + 1))).1) 0 0 51 [(3, .int (nI i)), (2, .int (nI ((roI nw f i s (n - (i + 1))).2))), (0, .ref (ad g 9)), (1, .ref (ad g (fo f)))] []) : ∀ (n_ : Nat) (t : Nat), n - (i + 1) - t < n_ → t ≤ n - (i + 1) → G z g.1 A 5 (wd g ((roI nw f i s t).1)) 0 0 22 [(4, .int (nI (i + 1 + t))), (3, .int (nI i)), (2, .int (nI ((roI nw f i s t).2))), (0, .ref (ad g 9)), (1, .ref (ad g (fo f)))] [] := by
  intro n_
  induction n_ with
  | zero => intro t hm_; exact absurd hm_ (Nat.not_lt_zero _)
  | succ n_ ih =>
    intro t hm_ ht
    refine r_iload C dX1_replaceOnce_22 0 rfl ?_
    refine r_aload_n C dX1_replaceOnce_24 3 rfl ?_
    refine r_get C X (k := 9) (R := RX1) (T := TX1) (N := 4) (n := 0) (v := .ref (ad g 1)) (by decide) rfl rfl inw1 (by decide) rfl hw_1_137 rfl dX1_replaceOnce_25 ?_
    refine r_get C X (k := 1) (R := RX4) (T := TX4) (N := 2) (n := 0) (v := .int (gI ((roI nw f i s t).1) 0)) (by decide) rfl rfl inw4 (by decide) rfl hw_1_45 rfl dX1_replaceOnce_28 ?_
    refine G_top (y := (nI n)) ((gI_roI _).trans hn) ?_
    refine r_icmp_ge C 51 dX1_replaceOnce_31 (by decide) (nI_leI (by omega) (by omega)) (fun h31 => ?_) (fun h31 => ?_)
    · have htn : t = n - (i + 1) := by omega
      subst htn
      refine G_sub (lv' := [(3, .int (nI i)), (2, .int (nI ((roI nw f i s (n - (i + 1))).2))), (0, .ref (ad g 9)), (1, .ref (ad g (fo f)))]) [1, 2, 3, 4] rfl ?_
      exact KK
    · refine r_iload_n C dX1_replaceOnce_34 2 rfl ?_
      refine r_aload_n C dX1_replaceOnce_35 3 rfl ?_
      refine r_aload_n C dX1_replaceOnce_36 4 rfl ?_
      refine r_iload C dX1_replaceOnce_37 0 rfl ?_
      refine r_iload_n C dX1_replaceOnce_39 1 rfl ?_
      refine r_callV C X (As := [.ref (ad g (fo f)), .int (nI (i + 1 + t)), .int (nI i)]) (rest := [.int (nI ((roI nw f i s t).2))]) (st1 := [.int (nI (ct (mRep ((roI nw f i s t).1) nw f (i + 1 + t) i) nw 24)), .int (nI ((roI nw f i s t).2))]) (μ' := (mRep ((roI nw f i s t).1) nw f (i + 1 + t) i)) (k := 9) (T := TX1) miX1_replace mvX1_replace (c_replace l g ((roI nw f i s t).1) (n := n) (nw := nw) (f := f) (j := i + 1 + t) (i := i) ⟨((gI_roI _).trans hn), ((gI_roI _).trans hw), hn10, hnw, hs, h1n⟩ (by omega) (by omega) (by omega)) hw_4_87 (by decide) rfl rfl rfl ⟨by decide, by decide, rfl, rfl, by decide, by decide⟩ rfl (Nat.le_of_ble_eq_true rfl) dX1_replaceOnce_40 rfl ?_
      refine r_iadd C (v := (nI ((roI nw f i s (t + 1)).2))) dX1_replaceOnce_43 (nI_add _ _) ?_
      refine r_istore_n C (lv' := [(2, .int (nI ((roI nw f i s (t + 1)).2))), (4, .int (nI (i + 1 + t))), (3, .int (nI i)), (0, .ref (ad g 9)), (1, .ref (ad g (fo f)))]) 2 dX1_replaceOnce_44 rfl (by decide) rfl ?_
      refine r_iinc C (v := (nI (i + 1 + t + 1))) (lv' := [(4, .int (nI (i + 1 + t + 1))), (2, .int (nI ((roI nw f i s (t + 1)).2))), (3, .int (nI i)), (0, .ref (ad g 9)), (1, .ref (ad g (fo f)))]) 4 1 dX1_replaceOnce_45 rfl (inc_N _ 1) (by decide) rfl ?_
      refine r_goto C 22 dX1_replaceOnce_48 (by decide) ?_
      refine G_sub (lv' := [(4, .int (nI (i + 1 + (t + 1)))), (3, .int (nI i)), (2, .int (nI ((roI nw f i s (t + 1)).2))), (0, .ref (ad g 9)), (1, .ref (ad g (fo f)))]) [0, 2, 1, 3, 4] rfl ?_
      exact ih (t + 1) (by omega) (by omega)
set_option maxHeartbeats 1000000 in
set_option maxRecDepth 100000 in
theorem lp_replaceOnce {z : Zt} {A : Nat → Prop} {l : Launch} {g : Gd} {μ : Mm} (C : Cx z A l (rmk 4 91) cX1_replaceOnce 5 "SetFamilies$Compression") (X : Kx z g A) {n nw f : Nat} (hn : gI μ 0 = nI n) (hw : gI μ 1 = nI nw) (hn10 : n ≤ 10) (hnw : nw ≤ 16) (hs : ∀ e, e < n → 6 ≤ e → 2 ^ (e - 6) ≤ nw) (h1n : 1 ≤ n) (hf : f < 52) (Rr : Rx z g A (some .int) (some (.int (nI (roO n nw f μ (n - 1)).2))) (roO n nw f μ (n - 1)).1) : ∀ (n_ : Nat) (i : Nat), n - 1 - i < n_ → i ≤ n - 1 → G z g.1 A 5 (wd g ((roO n nw f μ i).1)) 0 0 4 [(3, .int (nI i)), (2, .int (nI ((roO n nw f μ i).2))), (0, .ref (ad g 9)), (1, .ref (ad g (fo f)))] [] := by
  intro n_
  induction n_ with
  | zero => intro i hm_; exact absurd hm_ (Nat.not_lt_zero _)
  | succ n_ ih =>
    intro i hm_ hi
    refine r_iload_n C dX1_replaceOnce_4 0 rfl ?_
    refine r_aload_n C dX1_replaceOnce_5 2 rfl ?_
    refine r_get C X (k := 9) (R := RX1) (T := TX1) (N := 4) (n := 0) (v := .ref (ad g 1)) (by decide) rfl rfl inw1 (by decide) rfl hw_1_137 rfl dX1_replaceOnce_6 ?_
    refine r_get C X (k := 1) (R := RX4) (T := TX4) (N := 2) (n := 0) (v := .int (gI ((roO n nw f μ i).1) 0)) (by decide) rfl rfl inw4 (by decide) rfl hw_1_45 rfl dX1_replaceOnce_9 ?_
    refine G_top (y := (nI n)) ((gI_roO _).trans hn) ?_
    refine r_iconst C (v := (nI 1)) dX1_replaceOnce_12 rfl ?_
    refine r_isub C (v := (nI (n - 1))) dX1_replaceOnce_13 (pk_sub (by omega)) ?_
    refine r_icmp_ge C 57 dX1_replaceOnce_14 (by decide) (nI_leI (by omega) (by omega)) (fun h14 => ?_) (fun h14 => ?_)
    · have hin : i = n - 1 := by omega
      subst hin
      refine r_iload_n C dX1_replaceOnce_57 1 rfl ?_
      exact r_iret C dX1_replaceOnce_58 Rr
    · refine r_iload_n C dX1_replaceOnce_17 0 rfl ?_
      refine r_iconst C (v := (nI 1)) dX1_replaceOnce_18 rfl ?_
      refine r_iadd C (v := (nI (i + 1))) dX1_replaceOnce_19 (nI_add _ _) ?_
      refine r_istore C (lv' := [(4, .int (nI (i + 1))), (3, .int (nI i)), (2, .int (nI ((roO n nw f μ i).2))), (0, .ref (ad g 9)), (1, .ref (ad g (fo f)))]) 4 dX1_replaceOnce_20 (by decide) rfl ?_
      refine lp_replaceOnceI C X (s := roO n nw f μ i) ((gI_roO _).trans hn) ((gI_roO _).trans hw) hn10 hnw hs h1n hf (by omega) ?_ (n + 1) 0 (by omega) (by omega)
      refine r_iinc C (v := (nI (i + 1))) (lv' := [(3, .int (nI (i + 1))), (2, .int (nI ((roO n nw f μ (i + 1)).2))), (0, .ref (ad g 9)), (1, .ref (ad g (fo f)))]) 3 0 dX1_replaceOnce_51 rfl (inc_N _ 1) (by decide) rfl ?_
      refine r_goto C 4 dX1_replaceOnce_54 (by decide) ?_
      exact ih (i + 1) (by omega) (by omega)
set_option maxHeartbeats 1000000 in
set_option maxRecDepth 100000 in
theorem c_replaceOnce (l : Launch) (g : Gd) (μ : Mm) {n nw f : Nat} (hO : Ok μ n nw) (hf : f < 52) : Ct l yX1_replaceOnce cX1_replaceOnce 5 (some .int) (rmk 4 91) g [.ref (ad g 9), .ref (ad g (fo f))] μ (some (.int (nI ((roO n nw f μ (n - 1)).2)))) ((roO n nw f μ (n - 1)).1) := by
  obtain ⟨hn, hw, hn10, hnw, hs, h1n⟩ := hO
  refine Ct.of (by decide) (Nat.le_of_ble_eq_true rfl) (fun z A C X Rr => ?_)
  refine r_iconst C (v := (nI 0)) dX1_replaceOnce_0 rfl ?_
  refine r_istore_n C (lv' := [(2, .int (nI 0)), (0, .ref (ad g 9)), (1, .ref (ad g (fo f)))]) 2 dX1_replaceOnce_1 rfl (by decide) rfl ?_
  refine r_iconst C (v := (nI 0)) dX1_replaceOnce_2 rfl ?_
  refine r_istore_n C (lv' := [(3, .int (nI 0)), (2, .int (nI 0)), (0, .ref (ad g 9)), (1, .ref (ad g (fo f)))]) 3 dX1_replaceOnce_3 rfl (by decide) rfl ?_
  exact lp_replaceOnce C X hn hw hn10 hnw hs h1n hf Rr (n + 1) 0 (by omega) (by omega)
/-- rounds of compressions, at most r of them: memory and count -/
def raR (n nw f : Nat) : Nat → Mm → Nat → Mm × Nat
  | 0, μ, c => (μ, c)
  | r + 1, μ, c => let s := roO n nw f μ (n - 1); if s.2 = 0 then (s.1, c) else raR n nw f r s.1 (c + s.2)
theorem gI_raR {n nw f q : Nat} : ∀ (r : Nat) (μ : Mm) (c : Nat), gI (raR n nw f r μ c).1 q = gI μ q
  | 0, _, _ => rfl
  | r + 1, μ, c => by
    rw [raR]
    by_cases h : (roO n nw f μ (n - 1)).2 = 0
    · simp only [h, if_true]; exact gI_roO _
    · simp only [h, if_false]; exact (gI_raR r _ _).trans (gI_roO _)
set_option maxHeartbeats 1000000 in
set_option maxRecDepth 100000 in
theorem lp_replaceAll {z : Zt} {A : Nat → Prop} {l : Launch} {g : Gd} (C : Cx z A l (rmk 5 115) cX1_replaceAll 5 "SetFamilies$Compression") (X : Kx z g A) {n nw f : Nat} (hn10 : n ≤ 10) (hnw : nw ≤ 16) (hs : ∀ e, e < n → 6 ≤ e → 2 ^ (e - 6) ≤ nw) (h1n : 1 ≤ n) (hf : f < 52) : ∀ (n_ : Nat) (r c : Nat) (M : Mm), 100000 - r < n_ → r ≤ 100000 → gI M 0 = nI n → gI M 1 = nI nw → Rx z g A (some .int) (some (.int (nI (raR n nw f (100000 - r) M c).2))) (raR n nw f (100000 - r) M c).1 → G z g.1 A 5 (wd g M) 0 0 4 [(3, .int (nI r)), (2, .int (nI c)), (0, .ref (ad g 9)), (1, .ref (ad g (fo f)))] [] := by
  intro n_
  induction n_ with
  | zero => intro r c M hm_; exact absurd hm_ (Nat.not_lt_zero _)
  | succ n_ ih =>
    intro r c M hm_ hr hn hw Rr
    refine r_iload_n C dX1_replaceAll_4 0 rfl ?_
    refine r_ldc C dX1_replaceAll_5 hw_4_82 ?_
    refine G_top (y := (nI 100000)) (by decide) ?_
    refine r_icmp_ge C 36 dX1_replaceAll_7 (by decide) (nI_leI (by omega) (by omega)) (fun h7 => ?_) (fun h7 => ?_)
    · rw [show 100000 - r = 0 by omega, raR] at Rr
      refine r_iload_n C dX1_replaceAll_36 1 rfl ?_
      exact r_iret C dX1_replaceAll_37 Rr
    · have hle := roO_le (f := f) hnw hn10 (μ := M) (n - 1)
      rw [show 100000 - r = (100000 - (r + 1)) + 1 by omega, raR] at Rr
      refine r_aload_n C dX1_replaceAll_10 2 rfl ?_
      refine r_aload_n C dX1_replaceAll_11 3 rfl ?_
      refine r_callV C X (As := [.ref (ad g (fo f))]) (rest := []) (st1 := [.int (nI ((roO n nw f M (n - 1)).2))]) (μ' := ((roO n nw f M (n - 1)).1)) (k := 9) (T := TX1) miX1_replaceOnce mvX1_replaceOnce (c_replaceOnce l g M (n := n) (nw := nw) (f := f) ⟨hn, hw, hn10, hnw, hs, h1n⟩ (by omega)) hw_4_83 (by decide) rfl rfl rfl ⟨by decide, by decide, rfl, rfl, by decide, by decide⟩ rfl (Nat.le_of_ble_eq_true rfl) dX1_replaceAll_12 rfl ?_
      refine r_istore C (lv' := [(4, .int (nI ((roO n nw f M (n - 1)).2))), (3, .int (nI r)), (2, .int (nI c)), (0, .ref (ad g 9)), (1, .ref (ad g (fo f)))]) 4 dX1_replaceAll_15 (by decide) rfl ?_
      refine r_iload_n C dX1_replaceAll_17 2 rfl ?_
      refine r_iload C dX1_replaceAll_18 0 rfl ?_
      refine r_iadd C (v := (nI (c + ((roO n nw f M (n - 1)).2)))) dX1_replaceAll_20 (nI_add _ _) ?_
      refine r_istore_n C (lv' := [(2, .int (nI (c + ((roO n nw f M (n - 1)).2)))), (4, .int (nI ((roO n nw f M (n - 1)).2))), (3, .int (nI r)), (0, .ref (ad g 9)), (1, .ref (ad g (fo f)))]) 2 dX1_replaceAll_21 rfl (by decide) rfl ?_
      refine r_iload C dX1_replaceAll_22 1 rfl ?_
      refine r_if_ne C 30 dX1_replaceAll_24 (by decide) (zI_ne (by omega)) (fun h24 => ?_) (fun h24 => ?_)
      · simp only [h24, if_false] at Rr
        refine r_iinc C (v := (nI (r + 1))) (lv' := [(3, .int (nI (r + 1))), (2, .int (nI (c + ((roO n nw f M (n - 1)).2)))), (4, .int (nI ((roO n nw f M (n - 1)).2))), (0, .ref (ad g 9)), (1, .ref (ad g (fo f)))]) 3 2 dX1_replaceAll_30 rfl (inc_N _ 1) (by decide) rfl ?_
        refine r_goto C 4 dX1_replaceAll_33 (by decide) ?_
        refine G_sub (lv' := [(3, .int (nI (r + 1))), (2, .int (nI (c + ((roO n nw f M (n - 1)).2)))), (0, .ref (ad g 9)), (1, .ref (ad g (fo f)))]) [0, 1, 3, 4] rfl ?_
        exact ih (r + 1) (c + (roO n nw f M (n - 1)).2) (roO n nw f M (n - 1)).1 (by omega) (by omega) ((gI_roO _).trans hn) ((gI_roO _).trans hw) Rr
      · simp only [Decidable.not_not.mp h24, if_true] at Rr
        refine G_lv (lv' := [(2, .int (nI c)), (4, .int (nI ((roO n nw f M (n - 1)).2))), (3, .int (nI r)), (0, .ref (ad g 9)), (1, .ref (ad g (fo f)))]) (by rw [Decidable.not_not.mp h24, Nat.add_zero]) ?_
        refine r_goto C 36 dX1_replaceAll_27 (by decide) ?_
        refine r_iload_n C dX1_replaceAll_36 0 rfl ?_
        exact r_iret C dX1_replaceAll_37 Rr
set_option maxHeartbeats 1000000 in
set_option maxRecDepth 100000 in
theorem c_replaceAll (l : Launch) (g : Gd) (μ : Mm) {n nw f : Nat} (hO : Ok μ n nw) (hf : f < 52) : Ct l yX1_replaceAll cX1_replaceAll 5 (some .int) (rmk 5 115) g [.ref (ad g 9), .ref (ad g (fo f))] μ (some (.int (nI ((raR n nw f 100000 μ 0).2)))) ((raR n nw f 100000 μ 0).1) := by
  obtain ⟨hn, hw, hn10, hnw, hs, h1n⟩ := hO
  refine Ct.of (by decide) (Nat.le_of_ble_eq_true rfl) (fun z A C X Rr => ?_)
  refine r_iconst C (v := (nI 0)) dX1_replaceAll_0 rfl ?_
  refine r_istore_n C (lv' := [(2, .int (nI 0)), (0, .ref (ad g 9)), (1, .ref (ad g (fo f)))]) 2 dX1_replaceAll_1 rfl (by decide) rfl ?_
  refine r_iconst C (v := (nI 0)) dX1_replaceAll_2 rfl ?_
  refine r_istore_n C (lv' := [(3, .int (nI 0)), (2, .int (nI 0)), (0, .ref (ad g 9)), (1, .ref (ad g (fo f)))]) 3 dX1_replaceAll_3 rfl (by decide) rfl ?_
  exact lp_replaceAll C X hn10 hnw hs h1n hf 100001 0 0 μ (by decide) (by decide) hn hw Rr
/-- the first compression that would change something ends the search: memory and answer -/
def cnI (nw f i : Nat) : Nat → Nat → Mm → Mm × Bool
  | 0, _, μ => (μ, true)
  | r + 1, t, μ => let m := mArr μ nw f (i + 1 + t) i; if ct m nw 24 = 0 then cnI nw f i r (t + 1) m else (m, false)
def cnO (n nw f : Nat) : Nat → Nat → Mm → Mm × Bool
  | 0, _, μ => (μ, true)
  | r + 1, i, μ => let s := cnI nw f i (n - (i + 1)) 0 μ; if s.2 = true then cnO n nw f r (i + 1) s.1 else (s.1, false)
theorem gI_cnI {nw f i q : Nat} : ∀ (r t : Nat) (μ : Mm), gI (cnI nw f i r t μ).1 q = gI μ q
  | 0, _, _ => rfl
  | r + 1, t, μ => by
    rw [cnI]
    by_cases h : ct (mArr μ nw f (i + 1 + t) i) nw 24 = 0
    · simp only [h, if_true]; exact (gI_cnI r _ _).trans gI_mArr
    · simp only [h, if_false]; exact gI_mArr
theorem gI_cnO {n nw f q : Nat} : ∀ (r i : Nat) (μ : Mm), gI (cnO n nw f r i μ).1 q = gI μ q
  | 0, _, _ => rfl
  | r + 1, i, μ => by
    rw [cnO]
    by_cases h : (cnI nw f i (n - (i + 1)) 0 μ).2 = true
    · simp only [h, if_true]; exact (gI_cnO r _ _).trans (gI_cnI _ _ _)
    · simp only [h]; exact gI_cnI _ _ _
set_option maxHeartbeats 1000000 in
set_option maxRecDepth 100000 in
theorem lp_changesNothingI {z : Zt} {A : Nat → Prop} {l : Launch} {g : Gd} (C : Cx z A l (rmk 3 68) cX1_changesNothing 4 "SetFamilies$Compression") (X : Kx z g A) {n nw f i : Nat} (hn10 : n ≤ 10) (hnw : nw ≤ 16) (hs : ∀ e, e < n → 6 ≤ e → 2 ^ (e - 6) ≤ nw) (h1n : 1 ≤ n) (hf : f < 52) (hi : i + 1 ≤ n) : ∀ (n_ : Nat) (t : Nat) (M : Mm), n - (i + 1) - t < n_ → t ≤ n - (i + 1) → gI M 0 = nI n → gI M 1 = nI nw → ((cnI nw f i (n - (i + 1) - t) t M).2 = true → G z g.1 A 4 (wd g (cnI nw f i (n - (i + 1) - t) t M).1) 0 0 67 [(2, .int (nI i)), (0, .ref (ad g 9)), (1, .ref (ad g (fo f)))] []) → ((cnI nw f i (n - (i + 1) - t) t M).2 = false → Rx z g A (some .boolean) (some (.int (nI 0))) (cnI nw f i (n - (i + 1) - t) t M).1) → G z g.1 A 4 (wd g M) 0 0 19 [(3, .int (nI (i + 1 + t))), (2, .int (nI i)), (0, .ref (ad g 9)), (1, .ref (ad g (fo f)))] [] := by
  intro n_
  induction n_ with
  | zero => intro t M hm_; exact absurd hm_ (Nat.not_lt_zero _)
  | succ n_ ih =>
    intro t M hm_ ht hn hw KK KR
    refine r_iload_n C dX1_changesNothing_19 0 rfl ?_
    refine r_aload_n C dX1_changesNothing_20 2 rfl ?_
    refine r_get C X (k := 9) (R := RX1) (T := TX1) (N := 4) (n := 0) (v := .ref (ad g 1)) (by decide) rfl rfl inw1 (by decide) rfl hw_1_137 rfl dX1_changesNothing_21 ?_
    refine r_get C X (k := 1) (R := RX4) (T := TX4) (N := 2) (n := 0) (v := .int (gI M 0)) (by decide) rfl rfl inw4 (by decide) rfl hw_1_45 rfl dX1_changesNothing_24 ?_
    refine G_top (y := (nI n)) hn ?_
    refine r_icmp_ge C 67 dX1_changesNothing_27 (by decide) (nI_leI (by omega) (by omega)) (fun h27 => ?_) (fun h27 => ?_)
    · rw [show n - (i + 1) - t = 0 by omega, cnI] at KK
      refine G_sub (lv' := [(2, .int (nI i)), (0, .ref (ad g 9)), (1, .ref (ad g (fo f)))]) [1, 2, 3] rfl ?_
      exact KK rfl
    · rw [show n - (i + 1) - t = (n - (i + 1) - (t + 1)) + 1 by omega, cnI] at KK KR
      refine r_aload_n C dX1_changesNothing_30 2 rfl ?_
      refine r_aload_n C dX1_changesNothing_31 2 rfl ?_
      refine r_get C X (k := 9) (R := RX1) (T := TX1) (N := 4) (n := 2) (v := .ref (ad g (fo 24))) (by decide) rfl rfl inw1 (by decide) rfl hw_1_139 rfl dX1_changesNothing_32 ?_
      refine r_aload_n C dX1_changesNothing_35 3 rfl ?_
      refine r_iload_n C dX1_changesNothing_36 0 rfl ?_
      refine r_iload_n C dX1_changesNothing_37 1 rfl ?_
      refine r_callV C X (As := [.ref (ad g (fo 24)), .ref (ad g (fo f)), .int (nI (i + 1 + t)), .int (nI i)]) (rest := []) (st1 := []) (μ' := (mLX M nw 24 f (i + 1 + t) i)) (k := 9) (T := TX1) miX1_layExchanged mvX1_layExchanged (c_layExchanged l g M (n := n) (nw := nw) (t := 24) (s := f) (a := i + 1 + t) (b := i) ⟨hn, hw, hn10, hnw, hs, h1n⟩ (by omega) (by omega) (by omega) (by omega)) hw_2_173 (by decide) rfl rfl rfl ⟨by decide, by decide, rfl, rfl, by decide, by decide⟩ rfl (Nat.le_of_ble_eq_true rfl) dX1_changesNothing_38 rfl ?_
      refine r_aload_n C dX1_changesNothing_41 2 rfl ?_
      refine r_get C X (k := 9) (R := RX1) (T := TX1) (N := 4) (n := 2) (v := .ref (ad g (fo 24))) (by decide) rfl rfl inw1 (by decide) rfl hw_1_139 rfl dX1_changesNothing_42 ?_
      refine r_aload_n C dX1_changesNothing_45 3 rfl ?_
      refine r_callV C X (As := [.ref (ad g (fo f))]) (rest := []) (st1 := []) (μ' := (mSub (mLX M nw 24 f (i + 1 + t) i) nw 24 f)) (k := (fo 24)) (T := TX3) miX3_subtract mvX3_subtract (c_subtract l g (mLX M nw 24 f (i + 1 + t) i) (i := 24) (j := f) (nw := nw) (gI_mLX.trans hw) (by omega) (by omega) (by omega)) hw_2_180 (fo_lt (by omega)) (WF_fo g _ 24) rfl rfl ⟨by decide, by decide, rfl, rfl, by decide, by decide⟩ rfl (Nat.le_of_ble_eq_true rfl) dX1_changesNothing_46 rfl ?_
      have hct := ct_le (μ := mArr M nw f (i + 1 + t) i) (i := 24) hnw
      refine r_aload_n C dX1_changesNothing_49 2 rfl ?_
      refine r_get C X (k := 9) (R := RX1) (T := TX1) (N := 4) (n := 2) (v := .ref (ad g (fo 24))) (by decide) rfl rfl inw1 (by decide) rfl hw_1_139 rfl dX1_changesNothing_50 ?_
      refine r_callV C X (As := []) (rest := []) (st1 := [.int (nI (sm (fun w => bc (gJ (mSub (mLX M nw 24 f (i + 1 + t) i) nw 24 f) 24 w)) nw))]) (μ' := (mSub (mLX M nw 24 f (i + 1 + t) i) nw 24 f)) (k := (fo 24)) (T := TX3) miX3_count mvX3_count (c_count l g (mSub (mLX M nw 24 f (i + 1 + t) i) nw 24 f) (i := 24) (nw := nw) (gI_mSub.trans (gI_mLX.trans hw)) (by omega) (by omega)) hw_2_181 (fo_lt (by omega)) (WF_fo g _ 24) rfl rfl ⟨by decide, by decide, rfl, rfl, by decide, by decide⟩ rfl (Nat.le_of_ble_eq_true rfl) dX1_changesNothing_53 rfl ?_
      refine G_top (y := (nI (ct (mArr M nw f (i + 1 + t) i) nw 24))) rfl ?_
      refine r_if_le C 61 dX1_changesNothing_56 (by decide) (zI_le (by omega)) (fun h56 => ?_) (fun h56 => ?_)
      · simp only [h56, if_true] at KK KR
        refine r_iinc C (v := (nI (i + 1 + t + 1))) (lv' := [(3, .int (nI (i + 1 + t + 1))), (2, .int (nI i)), (0, .ref (ad g 9)), (1, .ref (ad g (fo f)))]) 3 0 dX1_changesNothing_61 rfl (inc_N _ 1) (by decide) rfl ?_
        refine r_goto C 19 dX1_changesNothing_64 (by decide) ?_
        exact ih (t + 1) (mArr M nw f (i + 1 + t) i) (by omega) (by omega) (gI_mArr.trans hn) (gI_mArr.trans hw) KK KR
      · simp only [h56, if_false] at KR
        refine r_iconst C (v := (nI 0)) dX1_changesNothing_59 rfl ?_
        exact r_zret C dX1_changesNothing_60 (by decide) (KR trivial)
set_option maxHeartbeats 1000000 in
set_option maxRecDepth 100000 in
theorem lp_changesNothing {z : Zt} {A : Nat → Prop} {l : Launch} {g : Gd} (C : Cx z A l (rmk 3 68) cX1_changesNothing 4 "SetFamilies$Compression") (X : Kx z g A) {n nw f : Nat} (hn10 : n ≤ 10) (hnw : nw ≤ 16) (hs : ∀ e, e < n → 6 ≤ e → 2 ^ (e - 6) ≤ nw) (h1n : 1 ≤ n) (hf : f < 52) : ∀ (n_ : Nat) (i : Nat) (M : Mm), n - 1 - i < n_ → i ≤ n - 1 → gI M 0 = nI n → gI M 1 = nI nw → Rx z g A (some .boolean) (some (.int (bI (cnO n nw f (n - 1 - i) i M).2))) (cnO n nw f (n - 1 - i) i M).1 → G z g.1 A 4 (wd g M) 0 0 2 [(2, .int (nI i)), (0, .ref (ad g 9)), (1, .ref (ad g (fo f)))] [] := by
  intro n_
  induction n_ with
  | zero => intro i M hm_; exact absurd hm_ (Nat.not_lt_zero _)
  | succ n_ ih =>
    intro i M hm_ hi hn hw Rr
    refine r_iload_n C dX1_changesNothing_2 0 rfl ?_
    refine r_aload_n C dX1_changesNothing_3 1 rfl ?_
    refine r_get C X (k := 9) (R := RX1) (T := TX1) (N := 4) (n := 0) (v := .ref (ad g 1)) (by decide) rfl rfl inw1 (by decide) rfl hw_1_137 rfl dX1_changesNothing_4 ?_
    refine r_get C X (k := 1) (R := RX4) (T := TX4) (N := 2) (n := 0) (v := .int (gI M 0)) (by decide) rfl rfl inw4 (by decide) rfl hw_1_45 rfl dX1_changesNothing_7 ?_
    refine G_top (y := (nI n)) hn ?_
    refine r_iconst C (v := (nI 1)) dX1_changesNothing_10 rfl ?_
    refine r_isub C (v := (nI (n - 1))) dX1_changesNothing_11 (pk_sub (by omega)) ?_
    refine r_icmp_ge C 73 dX1_changesNothing_12 (by decide) (nI_leI (by omega) (by omega)) (fun h12 => ?_) (fun h12 => ?_)
    · rw [show n - 1 - i = 0 by omega, cnO] at Rr
      refine r_iconst C (v := (nI 1)) dX1_changesNothing_73 rfl ?_
      refine G_top (y := (bI true)) rfl ?_
      exact r_zret C dX1_changesNothing_74 (nar_b _) Rr
    · refine r_iload_n C dX1_changesNothing_15 0 rfl ?_
      refine r_iconst C (v := (nI 1)) dX1_changesNothing_16 rfl ?_
      refine r_iadd C (v := (nI (i + 1))) dX1_changesNothing_17 (nI_add _ _) ?_
      refine r_istore_n C (lv' := [(3, .int (nI (i + 1))), (2, .int (nI i)), (0, .ref (ad g 9)), (1, .ref (ad g (fo f)))]) 3 dX1_changesNothing_18 rfl (by decide) rfl ?_
      rw [show n - 1 - i = (n - 1 - (i + 1)) + 1 by omega, cnO] at Rr
      refine lp_changesNothingI C X hn10 hnw hs h1n hf (n := n) (i := i) (by omega) (n + 1) 0 M (by omega) (by omega) hn hw (fun hT => ?_) (fun hF => by simp only [show n - (i + 1) - 0 = n - (i + 1) from rfl] at hF; rw [show (cnI nw f i (n - (i + 1)) 0 M).2 = false from hF] at Rr; exact Rr)
      simp only [show n - (i + 1) - 0 = n - (i + 1) from rfl] at hT ⊢
      simp only [hT, if_true] at Rr
      refine r_iinc C (v := (nI (i + 1))) (lv' := [(2, .int (nI (i + 1))), (0, .ref (ad g 9)), (1, .ref (ad g (fo f)))]) 2 0 dX1_changesNothing_67 rfl (inc_N _ 1) (by decide) rfl ?_
      refine r_goto C 2 dX1_changesNothing_70 (by decide) ?_
      exact ih (i + 1) (cnI nw f i (n - (i + 1)) 0 M).1 (by omega) (by omega) ((gI_cnI _ _ _).trans hn) ((gI_cnI _ _ _).trans hw) Rr
set_option maxHeartbeats 1000000 in
set_option maxRecDepth 100000 in
theorem c_changesNothing (l : Launch) (g : Gd) (μ : Mm) {n nw f : Nat} (hO : Ok μ n nw) (hf : f < 52) : Ct l yX1_changesNothing cX1_changesNothing 4 (some .boolean) (rmk 3 68) g [.ref (ad g 9), .ref (ad g (fo f))] μ (some (.int (bI ((cnO n nw f (n - 1) 0 μ).2)))) ((cnO n nw f (n - 1) 0 μ).1) := by
  obtain ⟨hn, hw, hn10, hnw, hs, h1n⟩ := hO
  refine Ct.of (by decide) (Nat.le_of_ble_eq_true rfl) (fun z A C X Rr => ?_)
  refine r_iconst C (v := (nI 0)) dX1_changesNothing_0 rfl ?_
  refine r_istore_n C (lv' := [(2, .int (nI 0)), (0, .ref (ad g 9)), (1, .ref (ad g (fo f)))]) 2 dX1_changesNothing_1 rfl (by decide) rfl ?_
  exact lp_changesNothing C X hn10 hnw hs h1n hf (n + 1) 0 μ (by omega) (by omega) hn hw Rr
