def wf (n : Nat) : Nat := if n ≤ 6 then 1 else 2 ^ (n - 6)
/-- n elements, nw words -/
def Ok (μ : Mm) (n nw : Nat) : Prop := gI μ 0 = nI n ∧ gI μ 1 = nI nw ∧ n ≤ 10 ∧ nw ≤ 16 ∧ (∀ e, e < n → 6 ≤ e → 2 ^ (e - 6) ≤ nw) ∧ 1 ≤ n
section TAB
variable {z : Zt} {D : va_G} {A : Nat → Prop} {nL : Nat} {ws : va_W} {ce sl pc : Nat} {lv : List (Nat × Value)} {st : List Value} {l : Launch} {rm : Room} {cc : ByteArray} {own : String}
theorem r_tabIn (C : Cx z A l rm cc nL own) {dflt lo hi : Int} {offs : Array Int} {len : Nat} {x : Int32} {off : Int} (tgt : Nat) (hd : decode cc pc = .ok (.tableswitch dflt lo hi offs, len)) (h1 : ¬ x.toInt < lo) (h2 : ¬ hi < x.toInt) (ho : offs[(x.toInt - lo).toNat]? = some off) (ht : (pc : Int) + off = (tgt : Int)) (K : G z D A nL ws ce sl tgt lv st) : G z D A nL ws ce sl pc lv (.int x :: st) := fun H locs ls hP hD hS hl => lv_tableIn C.hx C.hb hd h1 h2 ho ht (K H locs ls hP hD hS hl)
theorem r_tabOut (C : Cx z A l rm cc nL own) {dflt lo hi : Int} {offs : Array Int} {len : Nat} {x : Int32} (tgt : Nat) (hd : decode cc pc = .ok (.tableswitch dflt lo hi offs, len)) (h : x.toInt < lo ∨ hi < x.toInt) (ht : (pc : Int) + dflt = (tgt : Int)) (K : G z D A nL ws ce sl tgt lv st) : G z D A nL ws ce sl pc lv (.int x :: st) := fun H locs ls hP hD hS hl => lv_tableOut C.hx C.hb hd h ht (K H locs ls hP hD hS hl)
end TAB
theorem pw10 {n : Nat} (h : n ≤ 10) : 2 ^ n ≤ 1024 := Nat.pow_le_pow_right (by decide) h
theorem wf_le {n : Nat} (h : n ≤ 10) : wf n ≤ 16 := by
  unfold wf; split
  · decide
  · exact Nat.pow_le_pow_right (n := 2) (by decide) (show n - 6 ≤ 4 by omega)
set_option maxHeartbeats 1000000 in
set_option maxRecDepth 100000 in
theorem c_everything (l : Launch) (g : Gd) (μ : Mm) {n : Nat} (hn : gI μ 0 = nI n) (hn10 : n ≤ 10) : Ct l yX4_everything cX4_everything 1 (some .int) (rmk 0 0) g [.ref (ad g 1)] μ (some (.int (nI (2 ^ n - 1)))) μ := by
  refine Ct.of (by decide) (Nat.le_of_ble_eq_true rfl) (fun z A C X Rr => ?_)
  refine r_iconst C (v := (nI 1)) dX4_everything_0 rfl ?_
  refine r_aload_n C dX4_everything_1 0 rfl ?_
  refine r_get C X (k := 1) (R := RX4) (T := TX4) (N := 2) (n := 0) (v := .int (gI μ 0)) (by decide) rfl rfl inw4 (by decide) rfl hw_1_41 rfl dX4_everything_2 ?_
  refine G_top (y := (nI n)) hn ?_
  refine r_ishl C (v := (nI (2 ^ n))) dX4_everything_5 (nshl1 (by omega)) ?_
  refine r_iconst C (v := (nI 1)) dX4_everything_6 rfl ?_
  have hp := Nat.two_pow_pos n
  refine r_isub C (v := (nI (2 ^ n - 1))) dX4_everything_7 (pk_sub (by omega)) ?_
  exact r_iret C dX4_everything_8 Rr
set_option maxHeartbeats 1000000 in
set_option maxRecDepth 100000 in
theorem c_wordsFor (l : Launch) {n : Nat} (h : n ≤ 10) : Cp l yX4_wordsFor cX4_wordsFor 1 (some .int) (rmk 0 0) [.int (nI n)] (some (.int (nI (wf n)))) := by
  refine Cp.of (D := (fun _ => 0, fun _ _ => 0)) (by decide) (Nat.le_of_ble_eq_true rfl) (fun z A C Rr => ?_)
  refine r_iload_n C dX4_wordsFor_0 0 rfl ?_
  refine r_bipush C (v := (nI 6)) dX4_wordsFor_1 (by decide) ?_
  refine r_icmp_gt C 10 dX4_wordsFor_3 (by decide) (nI_ltI (by omega) (by omega)) (fun h3 => ?_) (fun h3 => ?_)
  · refine r_iconst C (v := (nI 1)) dX4_wordsFor_10 rfl ?_
    refine r_iload_n C dX4_wordsFor_11 0 rfl ?_
    refine r_bipush C (v := (nI 6)) dX4_wordsFor_12 (by decide) ?_
    refine r_isub C (v := (nI (n - 6))) dX4_wordsFor_14 (pk_sub (by omega)) ?_
    refine r_ishl C (v := (nI (2 ^ (n - 6)))) dX4_wordsFor_15 (nshl1 (by omega)) ?_
    refine G_top (y := (nI (wf n))) (by rw [wf, if_neg (by omega)]) ?_
    exact p_iret C dX4_wordsFor_16 Rr
  · refine r_iconst C (v := (nI 1)) dX4_wordsFor_6 rfl ?_
    refine r_goto C 16 dX4_wordsFor_7 (by decide) ?_
    refine G_top (y := (nI (wf n))) (by rw [wf, if_pos (by omega)]) ?_
    exact p_iret C dX4_wordsFor_16 Rr
set_option maxHeartbeats 1000000 in
set_option maxRecDepth 100000 in
theorem c_become (l : Launch) (g : Gd) (μ : Mm) {n : Nat} (h : n ≤ 10) : Ct l yX4_become cX4_become 2 none (rmk 1 20) g [.ref (ad g 1), .int (nI n)] μ none (sI (sI μ 0 (nI n)) 1 (nI (wf n))) := by
  refine Ct.of (by decide) (Nat.le_of_ble_eq_true rfl) (fun z A C X Rr => ?_)
  refine r_aload_n C dX4_become_0 0 rfl ?_
  refine r_iload_n C dX4_become_1 1 rfl ?_
  refine r_put C X (μ' := (sI μ 0 (nI n))) (k := 1) (R := RX4) (T := TX4) (N := 2) (n := 0) (v := .int (nI n)) (ty := .int) (by decide) rfl rfl inw4 tyX4_ok nmX4 (by decide) rfl hw_1_41 rfl rfl rfl rfl (Nat.le_of_ble_eq_true rfl) dX4_become_2 (WF_sI0_at g _ _) (WF_sI0_ne g _ _) ?_
  refine r_aload_n C dX4_become_5 0 rfl ?_
  refine r_iload_n C dX4_become_6 1 rfl ?_
  refine r_callP C (As := [.int (nI n)]) (rest := [.ref (ad g 1)]) (st1 := [.int (nI (wf n)), .ref (ad g 1)]) miX4_wordsFor msX4_wordsFor (c_wordsFor l (n := n) (by omega)) hw_1_38 rfl ⟨by decide, by decide, rfl, rfl, by decide, by decide⟩ rfl (Nat.le_of_ble_eq_true rfl) dX4_become_7 rfl ?_
  refine r_put C X (μ' := (sI (sI μ 0 (nI n)) 1 (nI (wf n)))) (k := 1) (R := RX4) (T := TX4) (N := 2) (n := 1) (v := .int (nI (wf n))) (ty := .int) (by decide) rfl rfl inw4 tyX4_ok nmX4 (by decide) rfl hw_1_48 rfl rfl rfl rfl (Nat.le_of_ble_eq_true rfl) dX4_become_10 (WF_sI1_at g _ _) (WF_sI1_ne g _ _) ?_
  exact r_vret C dX4_become_13 Rr
def mLMin (μ : Mm) (n nw t s : Nat) : Mm := mSub (mCpy (mUp (mUS μ nw 20 s n) nw 20 n) t s) nw t 20
def mLMax (μ : Mm) (n nw t s : Nat) : Mm := mSub (mCpy (mDn (mSh μ nw 20 s n) nw 20 n) t s) nw t 20
def mLUs (n nw t s : Nat) (m : Mm) (x : Nat) : Mm := mSub (mKH (mInv (mUp (mKH (mCpy m 21 s) nw 21 x) nw 21 n) n nw 21) nw 21 x) nw t 21
def mLUi (μ : Mm) (n nw t s : Nat) : Nat → Mm := itM (mLUs n nw t s) (mInv (mClr μ t) n nw t)
def mLU (μ : Mm) (n nw t s : Nat) : Mm := if bt (gJ (mLUi μ n nw t s n) s) 0 = true then mLUi μ n nw t s n else mDrp (mLUi μ n nw t s n) t 0
def mLI (μ : Mm) (n nw t s : Nat) : Mm := mMir (mLU (mMir (mCpy μ 22 s) nw 22 n) n nw t 22) nw t n
def mLB (μ : Mm) (n nw t s : Nat) : Mm := mLMin (mMir (mInv (mUp (mCpy μ 22 s) nw 22 n) n nw 22) nw 22 n) n nw t 22
theorem gI_mLMin {μ : Mm} {n nw t s q : Nat} : gI (mLMin μ n nw t s) q = gI μ q := gI_mSub.trans (gI_mCpy.trans (gI_mUp.trans gI_mUS))
theorem gI_mLMax {μ : Mm} {n nw t s q : Nat} : gI (mLMax μ n nw t s) q = gI μ q := gI_mSub.trans (gI_mCpy.trans (gI_mDn.trans gI_mSh))
theorem gI_mLUs {μ : Mm} {n nw t s x q : Nat} : gI (mLUs n nw t s μ x) q = gI μ q := gI_mSub.trans (gI_mKH.trans (gI_mInv.trans (gI_mUp.trans (gI_mKH.trans gI_mCpy))))
theorem gI_mLUi {μ : Mm} {n nw t s k q : Nat} : gI (mLUi μ n nw t s k) q = gI μ q := (gI_it (f := mLUs n nw t s) (fun _ _ _ => gI_mLUs) k).trans (gI_mInv.trans gI_mClr)
theorem gI_mLU {μ : Mm} {n nw t s q : Nat} : gI (mLU μ n nw t s) q = gI μ q := by
  unfold mLU; split
  · exact gI_mLUi
  · exact gI_mDrp.trans gI_mLUi
theorem gI_mLI {μ : Mm} {n nw t s q : Nat} : gI (mLI μ n nw t s) q = gI μ q := gI_mMir.trans (gI_mLU.trans (gI_mMir.trans gI_mCpy))
theorem gI_mLB {μ : Mm} {n nw t s q : Nat} : gI (mLB μ n nw t s) q = gI μ q := gI_mLMin.trans (gI_mMir.trans (gI_mInv.trans (gI_mUp.trans gI_mCpy)))
def mLay (μ : Mm) (n nw t op s : Nat) : Mm := match op with
  | 0 => mSh μ nw t s n
  | 1 => mUS μ nw t s n
  | 2 => mDn (mCpy μ t s) nw t n
  | 3 => mUp (mCpy μ t s) nw t n
  | 4 => mLMin μ n nw t s
  | 5 => mLMax μ n nw t s
  | 6 => mMir (mCpy μ t s) nw t n
  | 7 => mLB μ n nw t s
  | 8 => mLU μ n nw t s
  | _ => mLI μ n nw t s
set_option maxHeartbeats 1000000 in
set_option maxRecDepth 100000 in
theorem c_layMinimal (l : Launch) (g : Gd) (μ : Mm) {n nw t s : Nat} (hO : Ok μ n nw) (ht : t < 52) (hs_ : s < 52) : Ct l yX2_layMinimal cX2_layMinimal 3 none (rmk 3 66) g [.ref (ad g 8), .ref (ad g (fo t)), .ref (ad g (fo s))] μ none (mLMin μ n nw t s) := by
  obtain ⟨hn, hw, hn10, hnw, hs, h1n⟩ := hO
  refine Ct.of (by decide) (Nat.le_of_ble_eq_true rfl) (fun z A C X Rr => ?_)
  unfold mLMin at Rr
  refine r_aload_n C dX2_layMinimal_0 0 rfl ?_
  refine r_get C X (k := 8) (R := RX2) (T := TX2) (N := 4) (n := 1) (v := .ref (ad g (fo 20))) (by decide) rfl rfl inw2 (by decide) rfl hw_1_117 rfl dX2_layMinimal_1 ?_
  refine r_aload_n C dX2_layMinimal_4 2 rfl ?_
  refine r_callV C X (As := [.ref (ad g (fo s))]) (rest := []) (st1 := []) (μ' := (mUS μ nw 20 s n)) (k := (fo 20)) (T := TX3) miX3_becomeUpperShadow mvX3_becomeUpperShadow (c_becomeUpperShadow l g μ (i := 20) (j := s) (n := n) (nw := nw) hn (by omega) hw (by omega) (by omega) (by omega) hs) hw_2_57 (fo_lt (by omega)) (WF_fo g _ 20) rfl rfl ⟨by decide, by decide, rfl, rfl, by decide, by decide⟩ rfl (Nat.le_of_ble_eq_true rfl) dX2_layMinimal_5 rfl ?_
  refine r_aload_n C dX2_layMinimal_8 0 rfl ?_
  refine r_get C X (k := 8) (R := RX2) (T := TX2) (N := 4) (n := 1) (v := .ref (ad g (fo 20))) (by decide) rfl rfl inw2 (by decide) rfl hw_1_117 rfl dX2_layMinimal_9 ?_
  refine r_callV C X (As := []) (rest := []) (st1 := []) (μ' := (mUp (mUS μ nw 20 s n) nw 20 n)) (k := (fo 20)) (T := TX3) miX3_closeUpwards mvX3_closeUpwards (c_closeUpwards l g (mUS μ nw 20 s n) (i := 20) (n := n) (nw := nw) (gI_mUS.trans hn) (by omega) (gI_mUS.trans hw) (by omega) (by omega) hs) hw_2_72 (fo_lt (by omega)) (WF_fo g _ 20) rfl rfl ⟨by decide, by decide, rfl, rfl, by decide, by decide⟩ rfl (Nat.le_of_ble_eq_true rfl) dX2_layMinimal_12 rfl ?_
  refine r_aload_n C dX2_layMinimal_15 1 rfl ?_
  refine r_aload_n C dX2_layMinimal_16 2 rfl ?_
  refine r_callV C X (As := [.ref (ad g (fo s))]) (rest := []) (st1 := []) (μ' := (mCpy (mUp (mUS μ nw 20 s n) nw 20 n) t s)) (k := (fo t)) (T := TX3) miX3_copy mvX3_copy (c_copy l g (mUp (mUS μ nw 20 s n) nw 20 n) (i := t) (j := s) (by omega) (by omega)) hw_2_76 (fo_lt (by omega)) (WF_fo g _ t) rfl rfl ⟨by decide, by decide, rfl, rfl, by decide, by decide⟩ rfl (Nat.le_of_ble_eq_true rfl) dX2_layMinimal_17 rfl ?_
  refine r_aload_n C dX2_layMinimal_20 1 rfl ?_
  refine r_aload_n C dX2_layMinimal_21 0 rfl ?_
  refine r_get C X (k := 8) (R := RX2) (T := TX2) (N := 4) (n := 1) (v := .ref (ad g (fo 20))) (by decide) rfl rfl inw2 (by decide) rfl hw_1_117 rfl dX2_layMinimal_22 ?_
  refine r_callV C X (As := [.ref (ad g (fo 20))]) (rest := []) (st1 := []) (μ' := (mSub (mCpy (mUp (mUS μ nw 20 s n) nw 20 n) t s) nw t 20)) (k := (fo t)) (T := TX3) miX3_subtract mvX3_subtract (c_subtract l g (mCpy (mUp (mUS μ nw 20 s n) nw 20 n) t s) (i := t) (j := 20) (nw := nw) (gI_mCpy.trans (gI_mUp.trans (gI_mUS.trans hw))) (by omega) (by omega) (by omega)) hw_2_83 (fo_lt (by omega)) (WF_fo g _ t) rfl rfl ⟨by decide, by decide, rfl, rfl, by decide, by decide⟩ rfl (Nat.le_of_ble_eq_true rfl) dX2_layMinimal_25 rfl ?_
  exact r_vret C dX2_layMinimal_28 Rr
set_option maxHeartbeats 1000000 in
set_option maxRecDepth 100000 in
theorem c_layMaximal (l : Launch) (g : Gd) (μ : Mm) {n nw t s : Nat} (hO : Ok μ n nw) (ht : t < 52) (hs_ : s < 52) : Ct l yX2_layMaximal cX2_layMaximal 3 none (rmk 3 66) g [.ref (ad g 8), .ref (ad g (fo t)), .ref (ad g (fo s))] μ none (mLMax μ n nw t s) := by
  obtain ⟨hn, hw, hn10, hnw, hs, h1n⟩ := hO
  refine Ct.of (by decide) (Nat.le_of_ble_eq_true rfl) (fun z A C X Rr => ?_)
  unfold mLMax at Rr
  refine r_aload_n C dX2_layMaximal_0 0 rfl ?_
  refine r_get C X (k := 8) (R := RX2) (T := TX2) (N := 4) (n := 1) (v := .ref (ad g (fo 20))) (by decide) rfl rfl inw2 (by decide) rfl hw_1_117 rfl dX2_layMaximal_1 ?_
  refine r_aload_n C dX2_layMaximal_4 2 rfl ?_
  refine r_callV C X (As := [.ref (ad g (fo s))]) (rest := []) (st1 := []) (μ' := (mSh μ nw 20 s n)) (k := (fo 20)) (T := TX3) miX3_becomeShadow mvX3_becomeShadow (c_becomeShadow l g μ (i := 20) (j := s) (n := n) (nw := nw) hn (by omega) hw (by omega) (by omega) (by omega) hs) hw_4_43 (fo_lt (by omega)) (WF_fo g _ 20) rfl rfl ⟨by decide, by decide, rfl, rfl, by decide, by decide⟩ rfl (Nat.le_of_ble_eq_true rfl) dX2_layMaximal_5 rfl ?_
  refine r_aload_n C dX2_layMaximal_8 0 rfl ?_
  refine r_get C X (k := 8) (R := RX2) (T := TX2) (N := 4) (n := 1) (v := .ref (ad g (fo 20))) (by decide) rfl rfl inw2 (by decide) rfl hw_1_117 rfl dX2_layMaximal_9 ?_
  refine r_callV C X (As := []) (rest := []) (st1 := []) (μ' := (mDn (mSh μ nw 20 s n) nw 20 n)) (k := (fo 20)) (T := TX3) miX3_closeDownwards mvX3_closeDownwards (c_closeDownwards l g (mSh μ nw 20 s n) (i := 20) (n := n) (nw := nw) (gI_mSh.trans hn) (by omega) (gI_mSh.trans hw) (by omega) (by omega) hs) hw_4_44 (fo_lt (by omega)) (WF_fo g _ 20) rfl rfl ⟨by decide, by decide, rfl, rfl, by decide, by decide⟩ rfl (Nat.le_of_ble_eq_true rfl) dX2_layMaximal_12 rfl ?_
  refine r_aload_n C dX2_layMaximal_15 1 rfl ?_
  refine r_aload_n C dX2_layMaximal_16 2 rfl ?_
  refine r_callV C X (As := [.ref (ad g (fo s))]) (rest := []) (st1 := []) (μ' := (mCpy (mDn (mSh μ nw 20 s n) nw 20 n) t s)) (k := (fo t)) (T := TX3) miX3_copy mvX3_copy (c_copy l g (mDn (mSh μ nw 20 s n) nw 20 n) (i := t) (j := s) (by omega) (by omega)) hw_2_76 (fo_lt (by omega)) (WF_fo g _ t) rfl rfl ⟨by decide, by decide, rfl, rfl, by decide, by decide⟩ rfl (Nat.le_of_ble_eq_true rfl) dX2_layMaximal_17 rfl ?_
  refine r_aload_n C dX2_layMaximal_20 1 rfl ?_
  refine r_aload_n C dX2_layMaximal_21 0 rfl ?_
  refine r_get C X (k := 8) (R := RX2) (T := TX2) (N := 4) (n := 1) (v := .ref (ad g (fo 20))) (by decide) rfl rfl inw2 (by decide) rfl hw_1_117 rfl dX2_layMaximal_22 ?_
  refine r_callV C X (As := [.ref (ad g (fo 20))]) (rest := []) (st1 := []) (μ' := (mSub (mCpy (mDn (mSh μ nw 20 s n) nw 20 n) t s) nw t 20)) (k := (fo t)) (T := TX3) miX3_subtract mvX3_subtract (c_subtract l g (mCpy (mDn (mSh μ nw 20 s n) nw 20 n) t s) (i := t) (j := 20) (nw := nw) (gI_mCpy.trans (gI_mDn.trans (gI_mSh.trans hw))) (by omega) (by omega) (by omega)) hw_2_83 (fo_lt (by omega)) (WF_fo g _ t) rfl rfl ⟨by decide, by decide, rfl, rfl, by decide, by decide⟩ rfl (Nat.le_of_ble_eq_true rfl) dX2_layMaximal_25 rfl ?_
  exact r_vret C dX2_layMaximal_28 Rr
set_option maxHeartbeats 1000000 in
set_option maxRecDepth 100000 in
theorem lp_layUnions {z : Zt} {A : Nat → Prop} {l : Launch} {g : Gd} {μ : Mm} (C : Cx z A l (rmk 2 61) cX2_layUnions 4 "SetFamilies$Derivation") (X : Kx z g A) {n nw t s : Nat} (hn : gI μ 0 = nI n) (hw : gI μ 1 = nI nw) (hn10 : n ≤ 10) (hnw : nw ≤ 16) (hs : ∀ e, e < n → 6 ≤ e → 2 ^ (e - 6) ≤ nw) (ht : t < 52) (hs_ : s < 52) (Rr : Rx z g A none none (mLU μ n nw t s)) : ∀ (n_ : Nat) (k : Nat), n - k < n_ → k ≤ n → G z g.1 A 4 (wd g (mLUi μ n nw t s k)) 0 0 10 [(3, .int (nI k)), (0, .ref (ad g 8)), (1, .ref (ad g (fo t))), (2, .ref (ad g (fo s)))] [] := by
  intro n_
  induction n_ with
  | zero => intro k hm_; exact absurd hm_ (Nat.not_lt_zero _)
  | succ n_ ih =>
    intro k hm_ hk
    refine r_iload_n C dX2_layUnions_10 0 rfl ?_
    refine r_aload_n C dX2_layUnions_11 1 rfl ?_
    refine r_get C X (k := 8) (R := RX2) (T := TX2) (N := 4) (n := 0) (v := .ref (ad g 1)) (by decide) rfl rfl inw2 (by decide) rfl hw_1_116 rfl dX2_layUnions_12 ?_
    refine r_get C X (k := 1) (R := RX4) (T := TX4) (N := 2) (n := 0) (v := .int (gI (mLUi μ n nw t s k) 0)) (by decide) rfl rfl inw4 (by decide) rfl hw_1_46 rfl dX2_layUnions_15 ?_
    refine G_top (y := (nI n)) (gI_mLUi.trans hn) ?_
    refine r_icmp_ge C 73 dX2_layUnions_18 (by decide) (nI_leI (by omega) (by omega)) (fun h18 => ?_) (fun h18 => ?_)
    · have hkn : k = n := by omega
      subst hkn
      refine r_aload_n C dX2_layUnions_73 3 rfl ?_
      refine r_iconst C (v := (nI 0)) dX2_layUnions_74 rfl ?_
      refine r_callV C X (As := [.int (nI 0)]) (rest := []) (st1 := [.int (bI (bt (gJ (mLUi μ k nw t s k) s) 0))]) (μ' := (mLUi μ k nw t s k)) (k := (fo s)) (T := TX3) miX3_contains mvX3_contains (c_contains l g (mLUi μ k nw t s k) (i := s) (c := 0) (by omega) (by omega)) hw_2_136 (fo_lt (by omega)) (WF_fo g _ s) rfl rfl ⟨by decide, by decide, rfl, rfl, by decide, by decide⟩ rfl (Nat.le_of_ble_eq_true rfl) dX2_layUnions_75 rfl ?_
      refine r_if_ne C 86 dX2_layUnions_78 (by decide) (bI_ne _) (fun h78 => ?_) (fun h78 => ?_)
      · rw [mLU, if_pos h78] at Rr
        exact r_vret C dX2_layUnions_86 Rr
      · rw [mLU, if_neg h78] at Rr
        refine r_aload_n C dX2_layUnions_81 2 rfl ?_
        refine r_iconst C (v := (nI 0)) dX2_layUnions_82 rfl ?_
        refine r_callV C X (As := [.int (nI 0)]) (rest := []) (st1 := []) (μ' := (mDrp (mLUi μ k nw t s k) t 0)) (k := (fo t)) (T := TX3) miX3_drop mvX3_drop (c_drop l g (mLUi μ k nw t s k) (i := t) (c := 0) (by omega) (by omega)) hw_2_146 (fo_lt (by omega)) (WF_fo g _ t) rfl rfl ⟨by decide, by decide, rfl, rfl, by decide, by decide⟩ rfl (Nat.le_of_ble_eq_true rfl) dX2_layUnions_83 rfl ?_
        exact r_vret C dX2_layUnions_86 Rr
    · refine r_aload_n C dX2_layUnions_21 1 rfl ?_
      refine r_get C X (k := 8) (R := RX2) (T := TX2) (N := 4) (n := 2) (v := .ref (ad g (fo 21))) (by decide) rfl rfl inw2 (by decide) rfl hw_1_118 rfl dX2_layUnions_22 ?_
      refine r_aload_n C dX2_layUnions_25 3 rfl ?_
      refine r_callV C X (As := [.ref (ad g (fo s))]) (rest := []) (st1 := []) (μ' := (mCpy (mLUi μ n nw t s k) 21 s)) (k := (fo 21)) (T := TX3) miX3_copy mvX3_copy (c_copy l g (mLUi μ n nw t s k) (i := 21) (j := s) (by omega) (by omega)) hw_2_76 (fo_lt (by omega)) (WF_fo g _ 21) rfl rfl ⟨by decide, by decide, rfl, rfl, by decide, by decide⟩ rfl (Nat.le_of_ble_eq_true rfl) dX2_layUnions_26 rfl ?_
      refine r_aload_n C dX2_layUnions_29 1 rfl ?_
      refine r_get C X (k := 8) (R := RX2) (T := TX2) (N := 4) (n := 2) (v := .ref (ad g (fo 21))) (by decide) rfl rfl inw2 (by decide) rfl hw_1_118 rfl dX2_layUnions_30 ?_
      refine r_iload_n C dX2_layUnions_33 0 rfl ?_
      refine r_callV C X (As := [.int (nI k)]) (rest := []) (st1 := []) (μ' := (mKH (mCpy (mLUi μ n nw t s k) 21 s) nw 21 k)) (k := (fo 21)) (T := TX3) miX3_keepHolding mvX3_keepHolding (c_keepHolding l g (mCpy (mLUi μ n nw t s k) 21 s) (i := 21) (nw := nw) (e := k) (gI_mCpy.trans (gI_mLUi.trans hw)) (by omega) (by omega) (by omega)) hw_2_132 (fo_lt (by omega)) (WF_fo g _ 21) rfl rfl ⟨by decide, by decide, rfl, rfl, by decide, by decide⟩ rfl (Nat.le_of_ble_eq_true rfl) dX2_layUnions_34 rfl ?_
      refine r_aload_n C dX2_layUnions_37 1 rfl ?_
      refine r_get C X (k := 8) (R := RX2) (T := TX2) (N := 4) (n := 2) (v := .ref (ad g (fo 21))) (by decide) rfl rfl inw2 (by decide) rfl hw_1_118 rfl dX2_layUnions_38 ?_
      refine r_callV C X (As := []) (rest := []) (st1 := []) (μ' := (mUp (mKH (mCpy (mLUi μ n nw t s k) 21 s) nw 21 k) nw 21 n)) (k := (fo 21)) (T := TX3) miX3_closeUpwards mvX3_closeUpwards (c_closeUpwards l g (mKH (mCpy (mLUi μ n nw t s k) 21 s) nw 21 k) (i := 21) (n := n) (nw := nw) (gI_mKH.trans (gI_mCpy.trans (gI_mLUi.trans hn))) (by omega) (gI_mKH.trans (gI_mCpy.trans (gI_mLUi.trans hw))) (by omega) (by omega) hs) hw_2_72 (fo_lt (by omega)) (WF_fo g _ 21) rfl rfl ⟨by decide, by decide, rfl, rfl, by decide, by decide⟩ rfl (Nat.le_of_ble_eq_true rfl) dX2_layUnions_41 rfl ?_
      refine r_aload_n C dX2_layUnions_44 1 rfl ?_
      refine r_get C X (k := 8) (R := RX2) (T := TX2) (N := 4) (n := 2) (v := .ref (ad g (fo 21))) (by decide) rfl rfl inw2 (by decide) rfl hw_1_118 rfl dX2_layUnions_45 ?_
      refine r_callV C X (As := []) (rest := []) (st1 := []) (μ' := (mInv (mUp (mKH (mCpy (mLUi μ n nw t s k) 21 s) nw 21 k) nw 21 n) n nw 21)) (k := (fo 21)) (T := TX3) miX3_invert mvX3_invert (c_invert l g (mUp (mKH (mCpy (mLUi μ n nw t s k) 21 s) nw 21 k) nw 21 n) (i := 21) (n := n) (nw := nw) (gI_mUp.trans (gI_mKH.trans (gI_mCpy.trans (gI_mLUi.trans hn)))) (by omega) (gI_mUp.trans (gI_mKH.trans (gI_mCpy.trans (gI_mLUi.trans hw)))) (by omega) (by omega)) hw_2_128 (fo_lt (by omega)) (WF_fo g _ 21) rfl rfl ⟨by decide, by decide, rfl, rfl, by decide, by decide⟩ rfl (Nat.le_of_ble_eq_true rfl) dX2_layUnions_48 rfl ?_
      refine r_aload_n C dX2_layUnions_51 1 rfl ?_
      refine r_get C X (k := 8) (R := RX2) (T := TX2) (N := 4) (n := 2) (v := .ref (ad g (fo 21))) (by decide) rfl rfl inw2 (by decide) rfl hw_1_118 rfl dX2_layUnions_52 ?_
      refine r_iload_n C dX2_layUnions_55 0 rfl ?_
      refine r_callV C X (As := [.int (nI k)]) (rest := []) (st1 := []) (μ' := (mKH (mInv (mUp (mKH (mCpy (mLUi μ n nw t s k) 21 s) nw 21 k) nw 21 n) n nw 21) nw 21 k)) (k := (fo 21)) (T := TX3) miX3_keepHolding mvX3_keepHolding (c_keepHolding l g (mInv (mUp (mKH (mCpy (mLUi μ n nw t s k) 21 s) nw 21 k) nw 21 n) n nw 21) (i := 21) (nw := nw) (e := k) (gI_mInv.trans (gI_mUp.trans (gI_mKH.trans (gI_mCpy.trans (gI_mLUi.trans hw))))) (by omega) (by omega) (by omega)) hw_2_132 (fo_lt (by omega)) (WF_fo g _ 21) rfl rfl ⟨by decide, by decide, rfl, rfl, by decide, by decide⟩ rfl (Nat.le_of_ble_eq_true rfl) dX2_layUnions_56 rfl ?_
      refine r_aload_n C dX2_layUnions_59 2 rfl ?_
      refine r_aload_n C dX2_layUnions_60 1 rfl ?_
      refine r_get C X (k := 8) (R := RX2) (T := TX2) (N := 4) (n := 2) (v := .ref (ad g (fo 21))) (by decide) rfl rfl inw2 (by decide) rfl hw_1_118 rfl dX2_layUnions_61 ?_
      refine r_callV C X (As := [.ref (ad g (fo 21))]) (rest := []) (st1 := []) (μ' := (mSub (mKH (mInv (mUp (mKH (mCpy (mLUi μ n nw t s k) 21 s) nw 21 k) nw 21 n) n nw 21) nw 21 k) nw t 21)) (k := (fo t)) (T := TX3) miX3_subtract mvX3_subtract (c_subtract l g (mKH (mInv (mUp (mKH (mCpy (mLUi μ n nw t s k) 21 s) nw 21 k) nw 21 n) n nw 21) nw 21 k) (i := t) (j := 21) (nw := nw) (gI_mKH.trans (gI_mInv.trans (gI_mUp.trans (gI_mKH.trans (gI_mCpy.trans (gI_mLUi.trans hw)))))) (by omega) (by omega) (by omega)) hw_2_83 (fo_lt (by omega)) (WF_fo g _ t) rfl rfl ⟨by decide, by decide, rfl, rfl, by decide, by decide⟩ rfl (Nat.le_of_ble_eq_true rfl) dX2_layUnions_64 rfl ?_
      refine r_iinc C (v := (nI (k + 1))) (lv' := [(3, .int (nI (k + 1))), (0, .ref (ad g 8)), (1, .ref (ad g (fo t))), (2, .ref (ad g (fo s)))]) 3 0 dX2_layUnions_67 rfl (inc_N _ 1) (by decide) rfl ?_
      refine r_goto C 10 dX2_layUnions_70 (by decide) ?_
      exact ih (k + 1) (by omega) (by omega)
set_option maxHeartbeats 1000000 in
set_option maxRecDepth 100000 in
theorem c_layUnions (l : Launch) (g : Gd) (μ : Mm) {n nw t s : Nat} (hO : Ok μ n nw) (ht : t < 52) (hs_ : s < 52) : Ct l yX2_layUnions cX2_layUnions 4 none (rmk 2 61) g [.ref (ad g 8), .ref (ad g (fo t)), .ref (ad g (fo s))] μ none (mLU μ n nw t s) := by
  obtain ⟨hn, hw, hn10, hnw, hs, h1n⟩ := hO
  refine Ct.of (by decide) (Nat.le_of_ble_eq_true rfl) (fun z A C X Rr => ?_)
  refine r_aload_n C dX2_layUnions_0 1 rfl ?_
  refine r_callV C X (As := []) (rest := []) (st1 := []) (μ' := (mClr μ t)) (k := (fo t)) (T := TX3) miX3_clear mvX3_clear (c_clear l g μ (i := t) (by omega)) hw_2_127 (fo_lt (by omega)) (WF_fo g _ t) rfl rfl ⟨by decide, by decide, rfl, rfl, by decide, by decide⟩ rfl (Nat.le_of_ble_eq_true rfl) dX2_layUnions_1 rfl ?_
  refine r_aload_n C dX2_layUnions_4 1 rfl ?_
  refine r_callV C X (As := []) (rest := []) (st1 := []) (μ' := (mInv (mClr μ t) n nw t)) (k := (fo t)) (T := TX3) miX3_invert mvX3_invert (c_invert l g (mClr μ t) (i := t) (n := n) (nw := nw) (gI_mClr.trans hn) (by omega) (gI_mClr.trans hw) (by omega) (by omega)) hw_2_128 (fo_lt (by omega)) (WF_fo g _ t) rfl rfl ⟨by decide, by decide, rfl, rfl, by decide, by decide⟩ rfl (Nat.le_of_ble_eq_true rfl) dX2_layUnions_5 rfl ?_
  refine r_iconst C (v := (nI 0)) dX2_layUnions_8 rfl ?_
  refine r_istore_n C (lv' := [(3, .int (nI 0)), (0, .ref (ad g 8)), (1, .ref (ad g (fo t))), (2, .ref (ad g (fo s)))]) 3 dX2_layUnions_9 rfl (by decide) rfl ?_
  exact lp_layUnions C X hn hw hn10 hnw hs ht hs_ Rr (n + 1) 0 (by omega) (by omega)
set_option maxHeartbeats 1000000 in
set_option maxRecDepth 100000 in
theorem c_layIntersections (l : Launch) (g : Gd) (μ : Mm) {n nw t s : Nat} (hO : Ok μ n nw) (ht : t < 52) (hs_ : s < 52) : Ct l yX2_layIntersections cX2_layIntersections 3 none (rmk 3 84) g [.ref (ad g 8), .ref (ad g (fo t)), .ref (ad g (fo s))] μ none (mLI μ n nw t s) := by
  obtain ⟨hn, hw, hn10, hnw, hs, h1n⟩ := hO
  refine Ct.of (by decide) (Nat.le_of_ble_eq_true rfl) (fun z A C X Rr => ?_)
  unfold mLI at Rr
  refine r_aload_n C dX2_layIntersections_0 0 rfl ?_
  refine r_get C X (k := 8) (R := RX2) (T := TX2) (N := 4) (n := 3) (v := .ref (ad g (fo 22))) (by decide) rfl rfl inw2 (by decide) rfl hw_1_119 rfl dX2_layIntersections_1 ?_
  refine r_aload_n C dX2_layIntersections_4 2 rfl ?_
  refine r_callV C X (As := [.ref (ad g (fo s))]) (rest := []) (st1 := []) (μ' := (mCpy μ 22 s)) (k := (fo 22)) (T := TX3) miX3_copy mvX3_copy (c_copy l g μ (i := 22) (j := s) (by omega) (by omega)) hw_2_76 (fo_lt (by omega)) (WF_fo g _ 22) rfl rfl ⟨by decide, by decide, rfl, rfl, by decide, by decide⟩ rfl (Nat.le_of_ble_eq_true rfl) dX2_layIntersections_5 rfl ?_
  refine r_aload_n C dX2_layIntersections_8 0 rfl ?_
  refine r_get C X (k := 8) (R := RX2) (T := TX2) (N := 4) (n := 3) (v := .ref (ad g (fo 22))) (by decide) rfl rfl inw2 (by decide) rfl hw_1_119 rfl dX2_layIntersections_9 ?_
  refine r_callV C X (As := []) (rest := []) (st1 := []) (μ' := (mMir (mCpy μ 22 s) nw 22 n)) (k := (fo 22)) (T := TX3) miX3_mirror mvX3_mirror (c_mirror l g (mCpy μ 22 s) (i := 22) (n := n) (nw := nw) (gI_mCpy.trans hn) (by omega) (gI_mCpy.trans hw) (by omega) (by omega) hs) hw_2_154 (fo_lt (by omega)) (WF_fo g _ 22) rfl rfl ⟨by decide, by decide, rfl, rfl, by decide, by decide⟩ rfl (Nat.le_of_ble_eq_true rfl) dX2_layIntersections_12 rfl ?_
  refine r_aload_n C dX2_layIntersections_15 0 rfl ?_
  refine r_aload_n C dX2_layIntersections_16 1 rfl ?_
  refine r_aload_n C dX2_layIntersections_17 0 rfl ?_
  refine r_get C X (k := 8) (R := RX2) (T := TX2) (N := 4) (n := 3) (v := .ref (ad g (fo 22))) (by decide) rfl rfl inw2 (by decide) rfl hw_1_119 rfl dX2_layIntersections_18 ?_
  refine r_callV C X (As := [.ref (ad g (fo t)), .ref (ad g (fo 22))]) (rest := []) (st1 := []) (μ' := (mLU (mMir (mCpy μ 22 s) nw 22 n) n nw t 22)) (k := 8) (T := TX2) miX2_layUnions mvX2_layUnions (c_layUnions l g (mMir (mCpy μ 22 s) nw 22 n) (n := n) (nw := nw) (t := t) (s := 22) ⟨(gI_mMir.trans (gI_mCpy.trans hn)), (gI_mMir.trans (gI_mCpy.trans hw)), hn10, hnw, hs, h1n⟩ (by omega) (by omega)) hw_2_155 (by decide) rfl rfl rfl ⟨by decide, by decide, rfl, rfl, by decide, by decide⟩ rfl (Nat.le_of_ble_eq_true rfl) dX2_layIntersections_21 rfl ?_
  refine r_aload_n C dX2_layIntersections_24 1 rfl ?_
  refine r_callV C X (As := []) (rest := []) (st1 := []) (μ' := (mMir (mLU (mMir (mCpy μ 22 s) nw 22 n) n nw t 22) nw t n)) (k := (fo t)) (T := TX3) miX3_mirror mvX3_mirror (c_mirror l g (mLU (mMir (mCpy μ 22 s) nw 22 n) n nw t 22) (i := t) (n := n) (nw := nw) (gI_mLU.trans (gI_mMir.trans (gI_mCpy.trans hn))) (by omega) (gI_mLU.trans (gI_mMir.trans (gI_mCpy.trans hw))) (by omega) (by omega) hs) hw_2_154 (fo_lt (by omega)) (WF_fo g _ t) rfl rfl ⟨by decide, by decide, rfl, rfl, by decide, by decide⟩ rfl (Nat.le_of_ble_eq_true rfl) dX2_layIntersections_25 rfl ?_
  exact r_vret C dX2_layIntersections_28 Rr
set_option maxHeartbeats 1000000 in
set_option maxRecDepth 100000 in
theorem c_layBlocker (l : Launch) (g : Gd) (μ : Mm) {n nw t s : Nat} (hO : Ok μ n nw) (ht : t < 52) (hs_ : s < 52) : Ct l yX2_layBlocker cX2_layBlocker 3 none (rmk 4 88) g [.ref (ad g 8), .ref (ad g (fo t)), .ref (ad g (fo s))] μ none (mLB μ n nw t s) := by
  obtain ⟨hn, hw, hn10, hnw, hs, h1n⟩ := hO
  refine Ct.of (by decide) (Nat.le_of_ble_eq_true rfl) (fun z A C X Rr => ?_)
  unfold mLB at Rr
  refine r_aload_n C dX2_layBlocker_0 0 rfl ?_
  refine r_get C X (k := 8) (R := RX2) (T := TX2) (N := 4) (n := 3) (v := .ref (ad g (fo 22))) (by decide) rfl rfl inw2 (by decide) rfl hw_1_119 rfl dX2_layBlocker_1 ?_
  refine r_aload_n C dX2_layBlocker_4 2 rfl ?_
  refine r_callV C X (As := [.ref (ad g (fo s))]) (rest := []) (st1 := []) (μ' := (mCpy μ 22 s)) (k := (fo 22)) (T := TX3) miX3_copy mvX3_copy (c_copy l g μ (i := 22) (j := s) (by omega) (by omega)) hw_2_76 (fo_lt (by omega)) (WF_fo g _ 22) rfl rfl ⟨by decide, by decide, rfl, rfl, by decide, by decide⟩ rfl (Nat.le_of_ble_eq_true rfl) dX2_layBlocker_5 rfl ?_
  refine r_aload_n C dX2_layBlocker_8 0 rfl ?_
  refine r_get C X (k := 8) (R := RX2) (T := TX2) (N := 4) (n := 3) (v := .ref (ad g (fo 22))) (by decide) rfl rfl inw2 (by decide) rfl hw_1_119 rfl dX2_layBlocker_9 ?_
  refine r_callV C X (As := []) (rest := []) (st1 := []) (μ' := (mUp (mCpy μ 22 s) nw 22 n)) (k := (fo 22)) (T := TX3) miX3_closeUpwards mvX3_closeUpwards (c_closeUpwards l g (mCpy μ 22 s) (i := 22) (n := n) (nw := nw) (gI_mCpy.trans hn) (by omega) (gI_mCpy.trans hw) (by omega) (by omega) hs) hw_2_72 (fo_lt (by omega)) (WF_fo g _ 22) rfl rfl ⟨by decide, by decide, rfl, rfl, by decide, by decide⟩ rfl (Nat.le_of_ble_eq_true rfl) dX2_layBlocker_12 rfl ?_
  refine r_aload_n C dX2_layBlocker_15 0 rfl ?_
  refine r_get C X (k := 8) (R := RX2) (T := TX2) (N := 4) (n := 3) (v := .ref (ad g (fo 22))) (by decide) rfl rfl inw2 (by decide) rfl hw_1_119 rfl dX2_layBlocker_16 ?_
  refine r_callV C X (As := []) (rest := []) (st1 := []) (μ' := (mInv (mUp (mCpy μ 22 s) nw 22 n) n nw 22)) (k := (fo 22)) (T := TX3) miX3_invert mvX3_invert (c_invert l g (mUp (mCpy μ 22 s) nw 22 n) (i := 22) (n := n) (nw := nw) (gI_mUp.trans (gI_mCpy.trans hn)) (by omega) (gI_mUp.trans (gI_mCpy.trans hw)) (by omega) (by omega)) hw_2_128 (fo_lt (by omega)) (WF_fo g _ 22) rfl rfl ⟨by decide, by decide, rfl, rfl, by decide, by decide⟩ rfl (Nat.le_of_ble_eq_true rfl) dX2_layBlocker_19 rfl ?_
  refine r_aload_n C dX2_layBlocker_22 0 rfl ?_
  refine r_get C X (k := 8) (R := RX2) (T := TX2) (N := 4) (n := 3) (v := .ref (ad g (fo 22))) (by decide) rfl rfl inw2 (by decide) rfl hw_1_119 rfl dX2_layBlocker_23 ?_
  refine r_callV C X (As := []) (rest := []) (st1 := []) (μ' := (mMir (mInv (mUp (mCpy μ 22 s) nw 22 n) n nw 22) nw 22 n)) (k := (fo 22)) (T := TX3) miX3_mirror mvX3_mirror (c_mirror l g (mInv (mUp (mCpy μ 22 s) nw 22 n) n nw 22) (i := 22) (n := n) (nw := nw) (gI_mInv.trans (gI_mUp.trans (gI_mCpy.trans hn))) (by omega) (gI_mInv.trans (gI_mUp.trans (gI_mCpy.trans hw))) (by omega) (by omega) hs) hw_2_154 (fo_lt (by omega)) (WF_fo g _ 22) rfl rfl ⟨by decide, by decide, rfl, rfl, by decide, by decide⟩ rfl (Nat.le_of_ble_eq_true rfl) dX2_layBlocker_26 rfl ?_
  refine r_aload_n C dX2_layBlocker_29 0 rfl ?_
  refine r_aload_n C dX2_layBlocker_30 1 rfl ?_
  refine r_aload_n C dX2_layBlocker_31 0 rfl ?_
  refine r_get C X (k := 8) (R := RX2) (T := TX2) (N := 4) (n := 3) (v := .ref (ad g (fo 22))) (by decide) rfl rfl inw2 (by decide) rfl hw_1_119 rfl dX2_layBlocker_32 ?_
  refine r_callV C X (As := [.ref (ad g (fo t)), .ref (ad g (fo 22))]) (rest := []) (st1 := []) (μ' := (mLMin (mMir (mInv (mUp (mCpy μ 22 s) nw 22 n) n nw 22) nw 22 n) n nw t 22)) (k := 8) (T := TX2) miX2_layMinimal mvX2_layMinimal (c_layMinimal l g (mMir (mInv (mUp (mCpy μ 22 s) nw 22 n) n nw 22) nw 22 n) (n := n) (nw := nw) (t := t) (s := 22) ⟨(gI_mMir.trans (gI_mInv.trans (gI_mUp.trans (gI_mCpy.trans hn)))), (gI_mMir.trans (gI_mInv.trans (gI_mUp.trans (gI_mCpy.trans hw)))), hn10, hnw, hs, h1n⟩ (by omega) (by omega)) hw_4_48 (by decide) rfl rfl rfl ⟨by decide, by decide, rfl, rfl, by decide, by decide⟩ rfl (Nat.le_of_ble_eq_true rfl) dX2_layBlocker_35 rfl ?_
  exact r_vret C dX2_layBlocker_38 Rr
set_option maxHeartbeats 1000000 in
set_option maxRecDepth 100000 in
theorem c_lay (l : Launch) (g : Gd) (μ : Mm) {n nw t op s : Nat} (hO : Ok μ n nw) (ht : t < 52) (hs_ : s < 52) (hop : op < 10) : Ct l yX2_lay cX2_lay 4 none (rmk 5 110) g [.ref (ad g 8), .ref (ad g (fo t)), .int (nI op), .ref (ad g (fo s))] μ none (mLay μ n nw t op s) := by
  obtain ⟨hn, hw, hn10, hnw, hs, h1n⟩ := hO
  refine Ct.of (by decide) (Nat.le_of_ble_eq_true rfl) (fun z A C X Rr => ?_)
  refine r_iload_n C dX2_lay_0 2 rfl ?_
  rcases (show op = 0 ∨ op = 1 ∨ op = 2 ∨ op = 3 ∨ op = 4 ∨ op = 5 ∨ op = 6 ∨ op = 7 ∨ op = 8 ∨ op = 9 by omega) with rfl | rfl | rfl | rfl | rfl | rfl | rfl | rfl | rfl | rfl
  · refine r_tabIn C 52 dX2_lay_1 (by decide) (by decide) rfl (by decide) ?_
    refine r_aload_n C dX2_lay_52 1 rfl ?_
    refine r_aload_n C dX2_lay_53 3 rfl ?_
    refine r_callV C X (As := [.ref (ad g (fo s))]) (rest := []) (st1 := []) (μ' := (mSh μ nw t s n)) (k := (fo t)) (T := TX3) miX3_becomeShadow mvX3_becomeShadow (c_becomeShadow l g μ (i := t) (j := s) (n := n) (nw := nw) hn (by omega) hw (by omega) (by omega) (by omega) hs) hw_4_43 (fo_lt (by omega)) (WF_fo g _ t) rfl rfl ⟨by decide, by decide, rfl, rfl, by decide, by decide⟩ rfl (Nat.le_of_ble_eq_true rfl) dX2_lay_54 rfl ?_
    refine r_goto C 146 dX2_lay_57 (by decide) ?_
    exact r_vret C dX2_lay_146 Rr
  · refine r_tabIn C 60 dX2_lay_1 (by decide) (by decide) rfl (by decide) ?_
    refine r_aload_n C dX2_lay_60 1 rfl ?_
    refine r_aload_n C dX2_lay_61 3 rfl ?_
    refine r_callV C X (As := [.ref (ad g (fo s))]) (rest := []) (st1 := []) (μ' := (mUS μ nw t s n)) (k := (fo t)) (T := TX3) miX3_becomeUpperShadow mvX3_becomeUpperShadow (c_becomeUpperShadow l g μ (i := t) (j := s) (n := n) (nw := nw) hn (by omega) hw (by omega) (by omega) (by omega) hs) hw_2_57 (fo_lt (by omega)) (WF_fo g _ t) rfl rfl ⟨by decide, by decide, rfl, rfl, by decide, by decide⟩ rfl (Nat.le_of_ble_eq_true rfl) dX2_lay_62 rfl ?_
    refine r_goto C 146 dX2_lay_65 (by decide) ?_
    exact r_vret C dX2_lay_146 Rr
  · refine r_tabIn C 68 dX2_lay_1 (by decide) (by decide) rfl (by decide) ?_
    refine r_aload_n C dX2_lay_68 1 rfl ?_
    refine r_aload_n C dX2_lay_69 3 rfl ?_
    refine r_callV C X (As := [.ref (ad g (fo s))]) (rest := []) (st1 := []) (μ' := (mCpy μ t s)) (k := (fo t)) (T := TX3) miX3_copy mvX3_copy (c_copy l g μ (i := t) (j := s) (by omega) (by omega)) hw_2_76 (fo_lt (by omega)) (WF_fo g _ t) rfl rfl ⟨by decide, by decide, rfl, rfl, by decide, by decide⟩ rfl (Nat.le_of_ble_eq_true rfl) dX2_lay_70 rfl ?_
    refine r_aload_n C dX2_lay_73 1 rfl ?_
    refine r_callV C X (As := []) (rest := []) (st1 := []) (μ' := (mDn (mCpy μ t s) nw t n)) (k := (fo t)) (T := TX3) miX3_closeDownwards mvX3_closeDownwards (c_closeDownwards l g (mCpy μ t s) (i := t) (n := n) (nw := nw) (gI_mCpy.trans hn) (by omega) (gI_mCpy.trans hw) (by omega) (by omega) hs) hw_4_44 (fo_lt (by omega)) (WF_fo g _ t) rfl rfl ⟨by decide, by decide, rfl, rfl, by decide, by decide⟩ rfl (Nat.le_of_ble_eq_true rfl) dX2_lay_74 rfl ?_
    refine r_goto C 146 dX2_lay_77 (by decide) ?_
    exact r_vret C dX2_lay_146 Rr
  · refine r_tabIn C 80 dX2_lay_1 (by decide) (by decide) rfl (by decide) ?_
    refine r_aload_n C dX2_lay_80 1 rfl ?_
    refine r_aload_n C dX2_lay_81 3 rfl ?_
    refine r_callV C X (As := [.ref (ad g (fo s))]) (rest := []) (st1 := []) (μ' := (mCpy μ t s)) (k := (fo t)) (T := TX3) miX3_copy mvX3_copy (c_copy l g μ (i := t) (j := s) (by omega) (by omega)) hw_2_76 (fo_lt (by omega)) (WF_fo g _ t) rfl rfl ⟨by decide, by decide, rfl, rfl, by decide, by decide⟩ rfl (Nat.le_of_ble_eq_true rfl) dX2_lay_82 rfl ?_
    refine r_aload_n C dX2_lay_85 1 rfl ?_
    refine r_callV C X (As := []) (rest := []) (st1 := []) (μ' := (mUp (mCpy μ t s) nw t n)) (k := (fo t)) (T := TX3) miX3_closeUpwards mvX3_closeUpwards (c_closeUpwards l g (mCpy μ t s) (i := t) (n := n) (nw := nw) (gI_mCpy.trans hn) (by omega) (gI_mCpy.trans hw) (by omega) (by omega) hs) hw_2_72 (fo_lt (by omega)) (WF_fo g _ t) rfl rfl ⟨by decide, by decide, rfl, rfl, by decide, by decide⟩ rfl (Nat.le_of_ble_eq_true rfl) dX2_lay_86 rfl ?_
    refine r_goto C 146 dX2_lay_89 (by decide) ?_
    exact r_vret C dX2_lay_146 Rr
  · refine r_tabIn C 92 dX2_lay_1 (by decide) (by decide) rfl (by decide) ?_
    refine r_aload_n C dX2_lay_92 0 rfl ?_
    refine r_aload_n C dX2_lay_93 1 rfl ?_
    refine r_aload_n C dX2_lay_94 3 rfl ?_
    refine r_callV C X (As := [.ref (ad g (fo t)), .ref (ad g (fo s))]) (rest := []) (st1 := []) (μ' := (mLMin μ n nw t s)) (k := 8) (T := TX2) miX2_layMinimal mvX2_layMinimal (c_layMinimal l g μ (n := n) (nw := nw) (t := t) (s := s) ⟨hn, hw, hn10, hnw, hs, h1n⟩ (by omega) (by omega)) hw_4_48 (by decide) rfl rfl rfl ⟨by decide, by decide, rfl, rfl, by decide, by decide⟩ rfl (Nat.le_of_ble_eq_true rfl) dX2_lay_95 rfl ?_
    refine r_goto C 146 dX2_lay_98 (by decide) ?_
    exact r_vret C dX2_lay_146 Rr
  · refine r_tabIn C 101 dX2_lay_1 (by decide) (by decide) rfl (by decide) ?_
    refine r_aload_n C dX2_lay_101 0 rfl ?_
    refine r_aload_n C dX2_lay_102 1 rfl ?_
    refine r_aload_n C dX2_lay_103 3 rfl ?_
    refine r_callV C X (As := [.ref (ad g (fo t)), .ref (ad g (fo s))]) (rest := []) (st1 := []) (μ' := (mLMax μ n nw t s)) (k := 8) (T := TX2) miX2_layMaximal mvX2_layMaximal (c_layMaximal l g μ (n := n) (nw := nw) (t := t) (s := s) ⟨hn, hw, hn10, hnw, hs, h1n⟩ (by omega) (by omega)) hw_4_49 (by decide) rfl rfl rfl ⟨by decide, by decide, rfl, rfl, by decide, by decide⟩ rfl (Nat.le_of_ble_eq_true rfl) dX2_lay_104 rfl ?_
    refine r_goto C 146 dX2_lay_107 (by decide) ?_
    exact r_vret C dX2_lay_146 Rr
  · refine r_tabIn C 110 dX2_lay_1 (by decide) (by decide) rfl (by decide) ?_
    refine r_aload_n C dX2_lay_110 1 rfl ?_
    refine r_aload_n C dX2_lay_111 3 rfl ?_
    refine r_callV C X (As := [.ref (ad g (fo s))]) (rest := []) (st1 := []) (μ' := (mCpy μ t s)) (k := (fo t)) (T := TX3) miX3_copy mvX3_copy (c_copy l g μ (i := t) (j := s) (by omega) (by omega)) hw_2_76 (fo_lt (by omega)) (WF_fo g _ t) rfl rfl ⟨by decide, by decide, rfl, rfl, by decide, by decide⟩ rfl (Nat.le_of_ble_eq_true rfl) dX2_lay_112 rfl ?_
    refine r_aload_n C dX2_lay_115 1 rfl ?_
    refine r_callV C X (As := []) (rest := []) (st1 := []) (μ' := (mMir (mCpy μ t s) nw t n)) (k := (fo t)) (T := TX3) miX3_mirror mvX3_mirror (c_mirror l g (mCpy μ t s) (i := t) (n := n) (nw := nw) (gI_mCpy.trans hn) (by omega) (gI_mCpy.trans hw) (by omega) (by omega) hs) hw_2_154 (fo_lt (by omega)) (WF_fo g _ t) rfl rfl ⟨by decide, by decide, rfl, rfl, by decide, by decide⟩ rfl (Nat.le_of_ble_eq_true rfl) dX2_lay_116 rfl ?_
    refine r_goto C 146 dX2_lay_119 (by decide) ?_
    exact r_vret C dX2_lay_146 Rr
  · refine r_tabIn C 122 dX2_lay_1 (by decide) (by decide) rfl (by decide) ?_
    refine r_aload_n C dX2_lay_122 0 rfl ?_
    refine r_aload_n C dX2_lay_123 1 rfl ?_
    refine r_aload_n C dX2_lay_124 3 rfl ?_
    refine r_callV C X (As := [.ref (ad g (fo t)), .ref (ad g (fo s))]) (rest := []) (st1 := []) (μ' := (mLB μ n nw t s)) (k := 8) (T := TX2) miX2_layBlocker mvX2_layBlocker (c_layBlocker l g μ (n := n) (nw := nw) (t := t) (s := s) ⟨hn, hw, hn10, hnw, hs, h1n⟩ (by omega) (by omega)) hw_4_53 (by decide) rfl rfl rfl ⟨by decide, by decide, rfl, rfl, by decide, by decide⟩ rfl (Nat.le_of_ble_eq_true rfl) dX2_lay_125 rfl ?_
    refine r_goto C 146 dX2_lay_128 (by decide) ?_
    exact r_vret C dX2_lay_146 Rr
  · refine r_tabIn C 131 dX2_lay_1 (by decide) (by decide) rfl (by decide) ?_
    refine r_aload_n C dX2_lay_131 0 rfl ?_
    refine r_aload_n C dX2_lay_132 1 rfl ?_
    refine r_aload_n C dX2_lay_133 3 rfl ?_
    refine r_callV C X (As := [.ref (ad g (fo t)), .ref (ad g (fo s))]) (rest := []) (st1 := []) (μ' := (mLU μ n nw t s)) (k := 8) (T := TX2) miX2_layUnions mvX2_layUnions (c_layUnions l g μ (n := n) (nw := nw) (t := t) (s := s) ⟨hn, hw, hn10, hnw, hs, h1n⟩ (by omega) (by omega)) hw_2_155 (by decide) rfl rfl rfl ⟨by decide, by decide, rfl, rfl, by decide, by decide⟩ rfl (Nat.le_of_ble_eq_true rfl) dX2_lay_134 rfl ?_
    refine r_goto C 146 dX2_lay_137 (by decide) ?_
    exact r_vret C dX2_lay_146 Rr
  · refine r_tabOut C 140 dX2_lay_1 (by decide) (by decide) ?_
    refine r_aload_n C dX2_lay_140 0 rfl ?_
    refine r_aload_n C dX2_lay_141 1 rfl ?_
    refine r_aload_n C dX2_lay_142 3 rfl ?_
    refine r_callV C X (As := [.ref (ad g (fo t)), .ref (ad g (fo s))]) (rest := []) (st1 := []) (μ' := (mLI μ n nw t s)) (k := 8) (T := TX2) miX2_layIntersections mvX2_layIntersections (c_layIntersections l g μ (n := n) (nw := nw) (t := t) (s := s) ⟨hn, hw, hn10, hnw, hs, h1n⟩ (by omega) (by omega)) hw_4_57 (by decide) rfl rfl rfl ⟨by decide, by decide, rfl, rfl, by decide, by decide⟩ rfl (Nat.le_of_ble_eq_true rfl) dX2_lay_143 rfl ?_
    exact r_vret C dX2_lay_146 Rr
theorem gI_mLay {μ : Mm} {n nw t op s q : Nat} : gI (mLay μ n nw t op s) q = gI μ q := by
  unfold mLay
  split
  · exact gI_mSh
  · exact gI_mUS
  · exact gI_mDn.trans gI_mCpy
  · exact gI_mUp.trans gI_mCpy
  · exact gI_mLMin
  · exact gI_mLMax
  · exact gI_mMir.trans gI_mCpy
  · exact gI_mLB
  · exact gI_mLU
  · exact gI_mLI
