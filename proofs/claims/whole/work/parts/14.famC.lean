def itM (f : Mm → Nat → Mm) (μ : Mm) : Nat → Mm
  | 0 => μ
  | k + 1 => f (itM f μ k) k
theorem gI_it {f : Mm → Nat → Mm} (h : ∀ m e j, gI (f m e) j = gI m j) {μ : Mm} {j : Nat} : ∀ k, gI (itM f μ k) j = gI μ j
  | 0 => rfl
  | k + 1 => (h _ _ _).trans (gI_it h k)
def mClr (μ : Mm) (i : Nat) : Mm := sJ μ i (rowU 16 (fun _ => lN 0) (gJ μ i))
def mCpy (μ : Mm) (i j : Nat) : Mm := sJ μ i (rowU 16 (gJ μ j) (gJ μ i))
def mPut (μ : Mm) (i c : Nat) : Mm := sJ μ i (putW (gJ μ i) c)
def mDrp (μ : Mm) (i c : Nat) : Mm := sJ μ i (dropW (gJ μ i) c)
def mJoin (μ : Mm) (nw i j : Nat) : Mm := sJ μ i (rowU nw (fun w => gJ μ i w ||| gJ μ j w) (gJ μ i))
def mMeet (μ : Mm) (nw i j : Nat) : Mm := sJ μ i (rowU nw (fun w => gJ μ i w &&& gJ μ j w) (gJ μ i))
def mSub (μ : Mm) (nw i j : Nat) : Mm := sJ μ i (rowU nw (fun w => gJ μ i w &&& (gJ μ j w ^^^ (-1))) (gJ μ i))
def mDif (μ : Mm) (nw i j : Nat) : Mm := sJ μ i (rowU nw (fun w => gJ μ i w ^^^ gJ μ j w) (gJ μ i))
def mKS (μ : Mm) (nw i m : Nat) : Mm := sJ μ i (rowU nw (fun w => gJ μ i w &&& oz w m) (gJ μ i))
def mKL (μ : Mm) (nw i e : Nat) : Mm := sJ μ i (rowU nw (fun w => gJ μ i w &&& lk w e) (gJ μ i))
def mKH (μ : Mm) (nw i e : Nat) : Mm := sJ μ i (rowU nw (fun w => gJ μ i w &&& (lk w e ^^^ (-1))) (gJ μ i))
def allW (n : Nat) : Int64 := if n < 6 then shlW (lN 1) (2 ^ n) - lN 1 else -1
def mInv (μ : Mm) (n nw i : Nat) : Mm := sJ μ i (rowU nw (fun w => (gJ μ i w ^^^ (-1)) &&& allW n) (gJ μ i))
def jlow (e nw : Nat) (x y : Nat → Int64) : Nat → Int64 := if e < 6 then rowU nw (fun w => x w ||| (shrW (y w) (2 ^ e) &&& lackT e)) x else rowU (nw - 2 ^ (e - 6)) (fun w => if w &&& 2 ^ (e - 6) = 0 then x w ||| y (w + 2 ^ (e - 6)) else x w) x
def jrai (e nw : Nat) (x y : Nat → Int64) : Nat → Int64 := if e < 6 then rowU nw (fun w => x w ||| shlW (y w &&& lackT e) (2 ^ e)) x else rowU nw (fun w => if w &&& 2 ^ (e - 6) = 0 then x w else x w ||| y (w - 2 ^ (e - 6))) x
def swp (sp : Nat) (x : Nat → Int64) (k : Nat) : Nat → Int64 := fun w => if w &&& sp = 0 then (if w < k then x (w + sp) else x w) else (if w - sp < k then x (w - sp) else x w)
def exch (e nw : Nat) (x : Nat → Int64) : Nat → Int64 := if e < 6 then rowU nw (fun w => (shrW (x w) (2 ^ e) &&& lackT e) ||| shlW (x w &&& lackT e) (2 ^ e)) x else swp (2 ^ (e - 6)) x (nw - 2 ^ (e - 6))
def mJL (μ : Mm) (nw i j e : Nat) : Mm := sJ μ i (jlow e nw (gJ μ i) (gJ μ j))
def mJR (μ : Mm) (nw i j e : Nat) : Mm := sJ μ i (jrai e nw (gJ μ i) (gJ μ j))
def mEx (μ : Mm) (nw i e : Nat) : Mm := sJ μ i (exch e nw (gJ μ i))
def mFgt (μ : Mm) (nw i e : Nat) : Mm := mKL (mJL μ nw i i e) nw i e
def mUp (μ : Mm) (nw i : Nat) : Nat → Mm := itM (fun m e => mJR m nw i i e) μ
def mDn (μ : Mm) (nw i : Nat) : Nat → Mm := itM (fun m e => mJL m nw i i e) μ
def mSh (μ : Mm) (nw i j : Nat) : Nat → Mm := itM (fun m e => mJL m nw i j e) (mClr μ i)
def mUS (μ : Mm) (nw i j : Nat) : Nat → Mm := itM (fun m e => mJR m nw i j e) (mClr μ i)
def mMir (μ : Mm) (nw i : Nat) : Nat → Mm := itM (fun m e => mEx m nw i e) μ
theorem sp_k : ∀ t, t < 4 → ∀ k, k < 16 → (¬ k &&& 2 ^ t = 0 → (k - 2 ^ t) &&& 2 ^ t = 0 ∧ 2 ^ t ≤ k ∧ (k + 2 ^ t) &&& 2 ^ t = 0) ∧ (k &&& 2 ^ t = 0 → ¬ (k + 2 ^ t) &&& 2 ^ t = 0) ∧ (k < 2 ^ t → k &&& 2 ^ t = 0) := by decide +kernel
theorem sw_keep {sp k : Nat} {x : Nat → Int64} (h : ¬ k &&& sp = 0) (h2 : (k + sp) &&& sp = 0) (hp : ∀ w, ¬ w &&& sp = 0 → sp ≤ w) : swp sp x k = swp sp x (k + 1) := by
  funext w
  unfold swp
  by_cases hw : w &&& sp = 0
  · have : w ≠ k := fun q => h (q ▸ hw)
    simp only [hw, if_true]
    by_cases hk : w < k
    · rw [if_pos hk, if_pos (by omega)]
    · rw [if_neg hk, if_neg (by omega)]
  · have h3 := hp w hw
    have : w ≠ k + sp := fun q => hw (q ▸ h2)
    simp only [hw, if_false]
    by_cases hk : w - sp < k
    · rw [if_pos hk, if_pos (by omega)]
    · rw [if_neg hk, if_neg (by omega)]
theorem sw_step {sp k : Nat} {x : Nat → Int64} (h : k &&& sp = 0) (h2 : ¬ (k + sp) &&& sp = 0) (hp : ∀ w, ¬ w &&& sp = 0 → sp ≤ w) (h0 : 0 < sp) : vp_updL (vp_updL (swp sp x k) k (x (k + sp))) (k + sp) (x k) = swp sp x (k + 1) := by
  funext w
  unfold vp_updL
  by_cases e1 : w = k + sp
  · subst e1; simp only [if_true]; unfold swp; rw [if_neg h2, if_pos (by omega), Nat.add_sub_cancel]
  · rw [if_neg e1]
    by_cases e2 : w = k
    · subst e2; simp only [if_true]; unfold swp; rw [if_pos h, if_pos (by omega)]
    · rw [if_neg e2]
      unfold swp
      by_cases hw : w &&& sp = 0
      · simp only [hw, if_true]
        by_cases hk : w < k
        · rw [if_pos hk, if_pos (by omega)]
        · rw [if_neg hk, if_neg (by omega)]
      · have h3 := hp w hw
        simp only [hw, if_false]
        by_cases hk : w - sp < k
        · rw [if_pos hk, if_pos (by omega)]
        · rw [if_neg hk, if_neg (by omega)]
theorem sw_0 {sp : Nat} {x : Nat → Int64} (hp : ∀ w, ¬ w &&& sp = 0 → sp ≤ w) : swp sp x 0 = x := by
  funext w
  unfold swp
  by_cases hw : w &&& sp = 0
  · simp only [hw, if_true]; rw [if_neg (by omega)]
  · simp only [hw, if_false]; rw [if_neg (by omega)]
theorem hp2 (t w : Nat) (h : ¬ w &&& 2 ^ t = 0) : 2 ^ t ≤ w := by
  rcases Nat.lt_or_ge w (2 ^ t) with q | q
  · exfalso; apply h; rw [Nat.and_comm]; apply Nat.eq_of_testBit_eq; intro j; rw [Nat.testBit_and, Nat.testBit_two_pow, Nat.zero_testBit]
    by_cases e : t = j
    · subst e; rw [Nat.testBit_lt_two_pow q]; simp
    · simp [e]
  · exact q
theorem gI_mClr {μ : Mm} {i q : Nat} : gI (mClr μ i) q = gI μ q := rfl
theorem gI_mCpy {μ : Mm} {i j q : Nat} : gI (mCpy μ i j) q = gI μ q := rfl
theorem gI_mPut {μ : Mm} {i c q : Nat} : gI (mPut μ i c) q = gI μ q := rfl
theorem gI_mDrp {μ : Mm} {i c q : Nat} : gI (mDrp μ i c) q = gI μ q := rfl
theorem gI_mJoin {μ : Mm} {nw i j q : Nat} : gI (mJoin μ nw i j) q = gI μ q := rfl
theorem gI_mMeet {μ : Mm} {nw i j q : Nat} : gI (mMeet μ nw i j) q = gI μ q := rfl
theorem gI_mSub {μ : Mm} {nw i j q : Nat} : gI (mSub μ nw i j) q = gI μ q := rfl
theorem gI_mDif {μ : Mm} {nw i j q : Nat} : gI (mDif μ nw i j) q = gI μ q := rfl
theorem gI_mKS {μ : Mm} {nw i m q : Nat} : gI (mKS μ nw i m) q = gI μ q := rfl
theorem gI_mKL {μ : Mm} {nw i e q : Nat} : gI (mKL μ nw i e) q = gI μ q := rfl
theorem gI_mKH {μ : Mm} {nw i e q : Nat} : gI (mKH μ nw i e) q = gI μ q := rfl
theorem gI_mInv {μ : Mm} {n nw i q : Nat} : gI (mInv μ n nw i) q = gI μ q := rfl
theorem gI_mJL {μ : Mm} {nw i j e q : Nat} : gI (mJL μ nw i j e) q = gI μ q := rfl
theorem gI_mJR {μ : Mm} {nw i j e q : Nat} : gI (mJR μ nw i j e) q = gI μ q := rfl
theorem gI_mEx {μ : Mm} {nw i e q : Nat} : gI (mEx μ nw i e) q = gI μ q := rfl
theorem gI_mFgt {μ : Mm} {nw i e q : Nat} : gI (mFgt μ nw i e) q = gI μ q := rfl
theorem gI_mUp {μ : Mm} {nw i k q : Nat} : gI (mUp μ nw i k) q = gI μ q := gI_it (f := fun m e => mJR m nw i i e) (fun _ _ _ => rfl) k
theorem gI_mDn {μ : Mm} {nw i k q : Nat} : gI (mDn μ nw i k) q = gI μ q := gI_it (f := fun m e => mJL m nw i i e) (fun _ _ _ => rfl) k
theorem gI_mSh {μ : Mm} {nw i j k q : Nat} : gI (mSh μ nw i j k) q = gI μ q := (gI_it (f := fun m e => mJL m nw i j e) (fun _ _ _ => rfl) k).trans gI_mClr
theorem gI_mUS {μ : Mm} {nw i j k q : Nat} : gI (mUS μ nw i j k) q = gI μ q := (gI_it (f := fun m e => mJR m nw i j e) (fun _ _ _ => rfl) k).trans gI_mClr
theorem gI_mMir {μ : Mm} {nw i k q : Nat} : gI (mMir μ nw i k) q = gI μ q := gI_it (f := fun m e => mEx m nw i e) (fun _ _ _ => rfl) k
set_option maxHeartbeats 1000000 in
set_option maxRecDepth 100000 in
theorem lp_invert {z : Zt} {A : Nat → Prop} {l : Launch} {g : Gd} {μ : Mm} (C : Cx z A l (rmk 0 0) cX3_invert 4 "SetFamilies$Family") (X : Kx z g A) {i nw : Nat} (hw : gI μ 1 = nI nw) (hnw : nw ≤ 16) (hi : i < 52) {n : Nat} (Rr : Rx z g A none none (sJ μ i (rowU nw (fun w => (gJ μ i w ^^^ (-1)) &&& allW n) (gJ μ i)))) : ∀ (n_ : Nat) (k : Nat), nw - k < n_ → k ≤ nw → G z g.1 A 4 (wd g (sJ μ i (rowU k (fun w => (gJ μ i w ^^^ (-1)) &&& allW n) (gJ μ i)))) 0 0 34 [(3, .int (nI k)), (1, .long (allW n)), (0, .ref (ad g (fo i)))] [] := by
  intro n_
  induction n_ with
  | zero => intro k hm_; exact absurd hm_ (Nat.not_lt_zero _)
  | succ n_ ih =>
    intro k hm_ hk
    refine r_iload_n C dX3_invert_34 0 rfl ?_
    refine r_aload_n C dX3_invert_35 2 rfl ?_
    refine r_get C X (k := (fo i)) (R := RX3) (T := TX3) (N := 2) (n := 0) (v := .ref (ad g 1)) (fo_lt (by omega)) (WF_fo g _ i) rfl inw3 (by decide) rfl hw_1_62 rfl dX3_invert_36 ?_
    refine r_get C X (k := 1) (R := RX4) (T := TX4) (N := 2) (n := 1) (v := .int (gI (sJ μ i (rowU k (fun w => (gJ μ i w ^^^ (-1)) &&& allW n) (gJ μ i))) 1)) (by decide) rfl rfl inw4 (by decide) rfl hw_1_49 rfl dX3_invert_39 ?_
    refine G_top (y := (nI nw)) ((gI_J _ _ _ _).trans hw) ?_
    refine r_icmp_ge C 69 dX3_invert_42 (by decide) (nI_leI (by omega) (by omega)) (fun h42 => ?_) (fun h42 => ?_)
    · have hkn : k = nw := by omega
      subst hkn
      exact r_vret C dX3_invert_69 Rr
    · refine r_aload_n C dX3_invert_45 2 rfl ?_
      refine r_get C X (k := (fo i)) (R := RX3) (T := TX3) (N := 2) (n := 1) (v := .ref (ad g (fw i))) (fo_lt (by omega)) (WF_fo g _ i) rfl inw3 (by decide) rfl hw_1_63 rfl dX3_invert_46 ?_
      refine r_iload_n C dX3_invert_49 0 rfl ?_
      refine r_aload_n C dX3_invert_50 2 rfl ?_
      refine r_get C X (k := (fo i)) (R := RX3) (T := TX3) (N := 2) (n := 1) (v := .ref (ad g (fw i))) (fo_lt (by omega)) (WF_fo g _ i) rfl inw3 (by decide) rfl hw_1_63 rfl dX3_invert_51 ?_
      refine r_iload_n C dX3_invert_54 0 rfl ?_
      refine r_lald C X (k := (fw i)) (v := (gJ μ i k)) (fw_lt (by omega)) (WF_fw g _ i) (by omega) (by decide) (ldU (by omega)) dX3_invert_55 ?_
      refine r_ldc2 C dX3_invert_56 hw_2_44 ?_
      refine r_lxor C (v := ((gJ μ i k) ^^^ (-1))) dX3_invert_59 rfl ?_
      refine r_lload_n C dX3_invert_60 1 rfl ?_
      refine r_land C (v := (((gJ μ i k) ^^^ (-1)) &&& (allW n))) dX3_invert_61 rfl ?_
      refine r_lastF C X (f' := rowU (k + 1) (fun w => (gJ μ i w ^^^ (-1)) &&& allW n) (gJ μ i)) (by omega) (by omega) (rowU_s _ _ _ rfl) dX3_invert_62 ?_
      refine r_iinc C (v := (nI (k + 1))) (lv' := [(3, .int (nI (k + 1))), (1, .long (allW n)), (0, .ref (ad g (fo i)))]) 3 0 dX3_invert_63 rfl (inc_N _ 1) (by decide) rfl ?_
      refine r_goto C 34 dX3_invert_66 (by decide) ?_
      exact ih (k + 1) (by omega) (by omega)
set_option maxHeartbeats 1000000 in
set_option maxRecDepth 100000 in
theorem c_invert (l : Launch) (g : Gd) (μ : Mm) {i n nw : Nat} (hn : gI μ 0 = nI n) (hn10 : n ≤ 10) (hw : gI μ 1 = nI nw) (hnw : nw ≤ 16) (hi : i < 52) : Ct l yX3_invert cX3_invert 4 none (rmk 0 0) g [.ref (ad g (fo i))] μ none (mInv μ n nw i) := by
  refine Ct.of (by decide) (Nat.le_of_ble_eq_true rfl) (fun z A C X Rr => ?_)
  refine r_aload_n C dX3_invert_0 0 rfl ?_
  refine r_get C X (k := (fo i)) (R := RX3) (T := TX3) (N := 2) (n := 0) (v := .ref (ad g 1)) (fo_lt (by omega)) (WF_fo g _ i) rfl inw3 (by decide) rfl hw_1_62 rfl dX3_invert_1 ?_
  refine r_get C X (k := 1) (R := RX4) (T := TX4) (N := 2) (n := 0) (v := .int (gI μ 0)) (by decide) rfl rfl inw4 (by decide) rfl hw_1_47 rfl dX3_invert_4 ?_
  refine G_top (y := (nI n)) hn ?_
  refine r_bipush C (v := (nI 6)) dX3_invert_7 (by decide) ?_
  refine r_icmp_ge C 28 dX3_invert_9 (by decide) (nI_leI (by omega) (by omega)) (fun h9 => ?_) (fun h9 => ?_)
  · refine r_ldc2 C dX3_invert_28 hw_2_44 ?_
    refine G_topl (y := (allW n)) (by rw [allW, if_neg (by omega)]) ?_
    refine r_lstore_n C (lv' := [(1, .long (allW n)), (0, .ref (ad g (fo i)))]) 1 dX3_invert_31 rfl (by decide) rfl ?_
    refine r_iconst C (v := (nI 0)) dX3_invert_32 rfl ?_
    refine r_istore_n C (lv' := [(3, .int (nI 0)), (1, .long (allW n)), (0, .ref (ad g (fo i)))]) 3 dX3_invert_33 rfl (by decide) rfl ?_
    refine G_mem (show μ = sJ μ i (rowU 0 (fun w => (gJ μ i w ^^^ (-1)) &&& allW n) (gJ μ i)) by rw [rowU_0, sJ_i]) ?_
    exact lp_invert C X hw hnw hi Rr (nw + 1) 0 (by omega) (by omega)
  · refine r_lconst C (v := (lN 1)) dX3_invert_12 rfl ?_
    refine r_iconst C (v := (nI 1)) dX3_invert_13 rfl ?_
    refine r_aload_n C dX3_invert_14 0 rfl ?_
    refine r_get C X (k := (fo i)) (R := RX3) (T := TX3) (N := 2) (n := 0) (v := .ref (ad g 1)) (fo_lt (by omega)) (WF_fo g _ i) rfl inw3 (by decide) rfl hw_1_62 rfl dX3_invert_15 ?_
    refine r_get C X (k := 1) (R := RX4) (T := TX4) (N := 2) (n := 0) (v := .int (gI μ 0)) (by decide) rfl rfl inw4 (by decide) rfl hw_1_47 rfl dX3_invert_18 ?_
    refine G_top (y := (nI n)) hn ?_
    refine r_ishl C (v := (nI (2 ^ n))) dX3_invert_21 (nshl1 (by omega)) ?_
    refine r_lshl C (v := (shlW (lN 1) (2 ^ n))) dX3_invert_22 rfl ?_
    refine r_lconst C (v := (lN 1)) dX3_invert_23 rfl ?_
    refine r_lsub C (v := ((shlW (lN 1) (2 ^ n)) - (lN 1))) dX3_invert_24 rfl ?_
    refine r_goto C 31 dX3_invert_25 (by decide) ?_
    refine G_topl (y := (allW n)) (by rw [allW, if_pos (by omega)]) ?_
    refine r_lstore_n C (lv' := [(1, .long (allW n)), (0, .ref (ad g (fo i)))]) 1 dX3_invert_31 rfl (by decide) rfl ?_
    refine r_iconst C (v := (nI 0)) dX3_invert_32 rfl ?_
    refine r_istore_n C (lv' := [(3, .int (nI 0)), (1, .long (allW n)), (0, .ref (ad g (fo i)))]) 3 dX3_invert_33 rfl (by decide) rfl ?_
    refine G_mem (show μ = sJ μ i (rowU 0 (fun w => (gJ μ i w ^^^ (-1)) &&& allW n) (gJ μ i)) by rw [rowU_0, sJ_i]) ?_
    exact lp_invert C X hw hnw hi Rr (nw + 1) 0 (by omega) (by omega)
theorem rowU_id {f x : Nat → Int64} {k : Nat} (h : ∀ w, w < k → f w = x w) : rowU k f x = x := by
  funext w; unfold rowU
  by_cases hw : w < k
  · rw [if_pos hw, h w hw]
  · rw [if_neg hw]
theorem ldR {μ : Mm} {i j k w : Nat} {F : Nat → Int64} (h : w < k) (hF : F w = gJ μ i w) : gJ (sJ μ i (rowU k F (gJ μ i))) j w = gJ μ j w := by
  by_cases e : j = i
  · subst e; rw [gJ_s, rowU_lt _ _ h, hF]
  · rw [gJ_n _ _ e]
set_option maxHeartbeats 1000000 in
set_option maxRecDepth 100000 in
theorem lp_joinLoweredA {z : Zt} {A : Nat → Prop} {l : Launch} {g : Gd} {μ : Mm} (C : Cx z A l (rmk 0 0) cX3_joinLowered 6 "SetFamilies$Family") (X : Kx z g A) {i nw : Nat} (hw : gI μ 1 = nI nw) (hnw : nw ≤ 16) (hi : i < 52) {j e : Nat} (hj : j < 52) (he : e < 10) (Rr : Rx z g A none none (sJ μ i (rowU nw (fun w => gJ μ i w ||| (shrW (gJ μ j w) (2 ^ e) &&& lackT e)) (gJ μ i)))) : ∀ (n_ : Nat) (k : Nat), nw - k < n_ → k ≤ nw → G z g.1 A 6 (wd g (sJ μ i (rowU k (fun w => gJ μ i w ||| (shrW (gJ μ j w) (2 ^ e) &&& lackT e)) (gJ μ i)))) 0 0 21 [(5, .int (nI k)), (3, .long (lackT e)), (0, .ref (ad g (fo i))), (1, .ref (ad g (fo j))), (2, .int (nI e))] [] := by
  intro n_
  induction n_ with
  | zero => intro k hm_; exact absurd hm_ (Nat.not_lt_zero _)
  | succ n_ ih =>
    intro k hm_ hk
    refine r_iload C dX3_joinLowered_21 0 rfl ?_
    refine r_aload_n C dX3_joinLowered_23 2 rfl ?_
    refine r_get C X (k := (fo i)) (R := RX3) (T := TX3) (N := 2) (n := 0) (v := .ref (ad g 1)) (fo_lt (by omega)) (WF_fo g _ i) rfl inw3 (by decide) rfl hw_1_62 rfl dX3_joinLowered_24 ?_
    refine r_get C X (k := 1) (R := RX4) (T := TX4) (N := 2) (n := 1) (v := .int (gI (sJ μ i (rowU k (fun w => gJ μ i w ||| (shrW (gJ μ j w) (2 ^ e) &&& lackT e)) (gJ μ i))) 1)) (by decide) rfl rfl inw4 (by decide) rfl hw_1_49 rfl dX3_joinLowered_27 ?_
    refine G_top (y := (nI nw)) ((gI_J _ _ _ _).trans hw) ?_
    refine r_icmp_ge C 62 dX3_joinLowered_30 (by decide) (nI_leI (by omega) (by omega)) (fun h30 => ?_) (fun h30 => ?_)
    · have hkn : k = nw := by omega
      subst hkn
      refine r_goto C 121 dX3_joinLowered_62 (by decide) ?_
      exact r_vret C dX3_joinLowered_121 Rr
    · refine r_aload_n C dX3_joinLowered_33 2 rfl ?_
      refine r_get C X (k := (fo i)) (R := RX3) (T := TX3) (N := 2) (n := 1) (v := .ref (ad g (fw i))) (fo_lt (by omega)) (WF_fo g _ i) rfl inw3 (by decide) rfl hw_1_63 rfl dX3_joinLowered_34 ?_
      refine r_iload C dX3_joinLowered_37 0 rfl ?_
      refine r_dup2 C dX3_joinLowered_39 rfl rfl ?_
      refine r_lald C X (k := (fw i)) (v := (gJ μ i k)) (fw_lt (by omega)) (WF_fw g _ i) (by omega) (by decide) (ldU (by omega)) dX3_joinLowered_40 ?_
      refine r_aload_n C dX3_joinLowered_41 3 rfl ?_
      refine r_get C X (k := (fo j)) (R := RX3) (T := TX3) (N := 2) (n := 1) (v := .ref (ad g (fw j))) (fo_lt (by omega)) (WF_fo g _ j) rfl inw3 (by decide) rfl hw_1_63 rfl dX3_joinLowered_42 ?_
      refine r_iload C dX3_joinLowered_45 0 rfl ?_
      refine r_lald C X (k := (fw j)) (v := (gJ μ j k)) (fw_lt (by omega)) (WF_fw g _ j) (by omega) (by decide) (ldU (by omega)) dX3_joinLowered_47 ?_
      refine r_iconst C (v := (nI 1)) dX3_joinLowered_48 rfl ?_
      refine r_iload_n C dX3_joinLowered_49 4 rfl ?_
      refine r_ishl C (v := (nI (2 ^ e))) dX3_joinLowered_50 (nshl1 (by omega)) ?_
      refine r_lushr C (v := (shrW (gJ μ j k) (2 ^ e))) dX3_joinLowered_51 rfl ?_
      refine r_lload_n C dX3_joinLowered_52 1 rfl ?_
      refine r_land C (v := ((shrW (gJ μ j k) (2 ^ e)) &&& (lackT e))) dX3_joinLowered_53 rfl ?_
      refine r_lor C (v := ((gJ μ i k) ||| ((shrW (gJ μ j k) (2 ^ e)) &&& (lackT e)))) dX3_joinLowered_54 rfl ?_
      refine r_lastF C X (f' := rowU (k + 1) (fun w => gJ μ i w ||| (shrW (gJ μ j w) (2 ^ e) &&& lackT e)) (gJ μ i)) (by omega) (by omega) (rowU_s _ _ _ rfl) dX3_joinLowered_55 ?_
      refine r_iinc C (v := (nI (k + 1))) (lv' := [(5, .int (nI (k + 1))), (3, .long (lackT e)), (0, .ref (ad g (fo i))), (1, .ref (ad g (fo j))), (2, .int (nI e))]) 5 0 dX3_joinLowered_56 rfl (inc_N _ 1) (by decide) rfl ?_
      refine r_goto C 21 dX3_joinLowered_59 (by decide) ?_
      exact ih (k + 1) (by omega) (by omega)
set_option maxHeartbeats 1000000 in
set_option maxRecDepth 100000 in
theorem lp_joinLoweredB {z : Zt} {A : Nat → Prop} {l : Launch} {g : Gd} {μ : Mm} (C : Cx z A l (rmk 0 0) cX3_joinLowered 6 "SetFamilies$Family") (X : Kx z g A) {i j nw sp e : Nat} (hw : gI μ 1 = nI nw) (hnw : nw ≤ 16) (hi : i < 52) (hj : j < 52) (h0 : 0 < sp) (h16 : sp < 16) (Rr : Rx z g A none none (sJ μ i (rowU (nw - sp) (fun w => if w &&& sp = 0 then gJ μ i w ||| gJ μ j (w + sp) else gJ μ i w) (gJ μ i)))) : ∀ (n_ : Nat) (k : Nat), nw - sp - k < n_ → k ≤ nw - sp → G z g.1 A 6 (wd g (sJ μ i (rowU k (fun w => if w &&& sp = 0 then gJ μ i w ||| gJ μ j (w + sp) else gJ μ i w) (gJ μ i)))) 0 0 75 [(4, .int (nI k)), (3, .int (nI sp)), (0, .ref (ad g (fo i))), (1, .ref (ad g (fo j))), (2, .int (nI e))] [] := by
  intro n_
  induction n_ with
  | zero => intro k hm_; exact absurd hm_ (Nat.not_lt_zero _)
  | succ n_ ih =>
    intro k hm_ hk
    refine r_iload C dX3_joinLowered_75 0 rfl ?_
    refine r_iload_n C dX3_joinLowered_77 1 rfl ?_
    refine r_iadd C (v := (nI (k + sp))) dX3_joinLowered_78 (nI_add _ _) ?_
    refine r_aload_n C dX3_joinLowered_79 2 rfl ?_
    refine r_get C X (k := (fo i)) (R := RX3) (T := TX3) (N := 2) (n := 0) (v := .ref (ad g 1)) (fo_lt (by omega)) (WF_fo g _ i) rfl inw3 (by decide) rfl hw_1_62 rfl dX3_joinLowered_80 ?_
    refine r_get C X (k := 1) (R := RX4) (T := TX4) (N := 2) (n := 1) (v := .int (gI (sJ μ i (rowU k (fun w => if w &&& sp = 0 then gJ μ i w ||| gJ μ j (w + sp) else gJ μ i w) (gJ μ i))) 1)) (by decide) rfl rfl inw4 (by decide) rfl hw_1_49 rfl dX3_joinLowered_83 ?_
    refine G_top (y := (nI nw)) ((gI_J _ _ _ _).trans hw) ?_
    refine r_icmp_ge C 121 dX3_joinLowered_86 (by decide) (nI_leI (by omega) (by omega)) (fun h86 => ?_) (fun h86 => ?_)
    · have hkn : k = nw - sp := by omega
      subst hkn
      exact r_vret C dX3_joinLowered_121 Rr
    · refine r_iload C dX3_joinLowered_89 0 rfl ?_
      refine r_iload_n C dX3_joinLowered_91 1 rfl ?_
      refine r_iand C (v := (nI (k &&& sp))) dX3_joinLowered_92 (nand _ _) ?_
      refine r_if_ne C 115 dX3_joinLowered_93 (by decide) (zI_ne (Nat.lt_of_le_of_lt Nat.and_le_left (by omega))) (fun h93 => ?_) (fun h93 => ?_)
      · refine r_iinc C (v := (nI (k + 1))) (lv' := [(4, .int (nI (k + 1))), (3, .int (nI sp)), (0, .ref (ad g (fo i))), (1, .ref (ad g (fo j))), (2, .int (nI e))]) 4 0 dX3_joinLowered_115 rfl (inc_N _ 1) (by decide) rfl ?_
        refine r_goto C 75 dX3_joinLowered_118 (by decide) ?_
        refine G_mem (congrArg (sJ μ i) (rowU_keep k (fun w => if w &&& sp = 0 then gJ μ i w ||| gJ μ j (w + sp) else gJ μ i w) (gJ μ i) (if_neg h93))) ?_
        exact ih (k + 1) (by omega) (by omega)
      · refine r_aload_n C dX3_joinLowered_96 2 rfl ?_
        refine r_get C X (k := (fo i)) (R := RX3) (T := TX3) (N := 2) (n := 1) (v := .ref (ad g (fw i))) (fo_lt (by omega)) (WF_fo g _ i) rfl inw3 (by decide) rfl hw_1_63 rfl dX3_joinLowered_97 ?_
        refine r_iload C dX3_joinLowered_100 0 rfl ?_
        refine r_dup2 C dX3_joinLowered_102 rfl rfl ?_
        refine r_lald C X (k := (fw i)) (v := (gJ μ i k)) (fw_lt (by omega)) (WF_fw g _ i) (by omega) (by decide) (ldU (by omega)) dX3_joinLowered_103 ?_
        refine r_aload_n C dX3_joinLowered_104 3 rfl ?_
        refine r_get C X (k := (fo j)) (R := RX3) (T := TX3) (N := 2) (n := 1) (v := .ref (ad g (fw j))) (fo_lt (by omega)) (WF_fo g _ j) rfl inw3 (by decide) rfl hw_1_63 rfl dX3_joinLowered_105 ?_
        refine r_iload C dX3_joinLowered_108 0 rfl ?_
        refine r_iload_n C dX3_joinLowered_110 1 rfl ?_
        refine r_iadd C (v := (nI (k + sp))) dX3_joinLowered_111 (nI_add _ _) ?_
        refine r_lald C X (k := (fw j)) (v := (gJ μ j (k + sp))) (fw_lt (by omega)) (WF_fw g _ j) (by omega) (by decide) (ldU (by omega)) dX3_joinLowered_112 ?_
        refine r_lor C (v := ((gJ μ i k) ||| (gJ μ j (k + sp)))) dX3_joinLowered_113 rfl ?_
        refine r_lastF C X (f' := rowU (k + 1) (fun w => if w &&& sp = 0 then gJ μ i w ||| gJ μ j (w + sp) else gJ μ i w) (gJ μ i)) (by omega) (by omega) (rowU_s _ _ _ (if_pos (Decidable.not_not.mp h93)).symm) dX3_joinLowered_114 ?_
        refine r_iinc C (v := (nI (k + 1))) (lv' := [(4, .int (nI (k + 1))), (3, .int (nI sp)), (0, .ref (ad g (fo i))), (1, .ref (ad g (fo j))), (2, .int (nI e))]) 4 0 dX3_joinLowered_115 rfl (inc_N _ 1) (by decide) rfl ?_
        refine r_goto C 75 dX3_joinLowered_118 (by decide) ?_
        exact ih (k + 1) (by omega) (by omega)
set_option maxHeartbeats 1000000 in
set_option maxRecDepth 100000 in
theorem c_joinLowered (l : Launch) (g : Gd) (μ : Mm) {i j e nw : Nat} (hw : gI μ 1 = nI nw) (hnw : nw ≤ 16) (hi : i < 52) (hj : j < 52) (he : e < 10) (hs : 6 ≤ e → 2 ^ (e - 6) ≤ nw) : Ct l yX3_joinLowered cX3_joinLowered 6 none (rmk 0 0) g [.ref (ad g (fo i)), .ref (ad g (fo j)), .int (nI e)] μ none (mJL μ nw i j e) := by
  refine Ct.of (by decide) (Nat.le_of_ble_eq_true rfl) (fun z A C X Rr => ?_)
  refine r_iload_n C dX3_joinLowered_0 2 rfl ?_
  refine r_if_lt C 65 dX3_joinLowered_1 (by decide) (zI_lt (by omega)) (fun h1 => ?_) (fun h1 => ?_)
  · exact h1.elim
  · refine r_iload_n C dX3_joinLowered_4 2 rfl ?_
    refine r_gLack C X hw_2_42 dX3_joinLowered_5 ?_
    refine r_nLack C X dX3_joinLowered_8 ?_
    refine r_icmp_ge C 65 dX3_joinLowered_9 (by decide) (nI_leI (by omega) (by omega)) (fun h9 => ?_) (fun h9 => ?_)
    · rw [mJL, jlow, if_neg (by omega)] at Rr
      have h2e := p2_6 (show 6 ≤ e by omega) he
      have h2p := Nat.two_pow_pos (e - 6)
      refine r_iconst C (v := (nI 1)) dX3_joinLowered_65 rfl ?_
      refine r_iload_n C dX3_joinLowered_66 2 rfl ?_
      refine r_bipush C (v := (nI 6)) dX3_joinLowered_67 (by decide) ?_
      refine r_isub C (v := (nI (e - 6))) dX3_joinLowered_69 (pk_sub (by omega)) ?_
      refine r_ishl C (v := (nI (2 ^ (e - 6)))) dX3_joinLowered_70 (nshl1 (by omega)) ?_
      refine r_istore_n C (lv' := [(3, .int (nI (2 ^ (e - 6)))), (0, .ref (ad g (fo i))), (1, .ref (ad g (fo j))), (2, .int (nI e))]) 3 dX3_joinLowered_71 rfl (by decide) rfl ?_
      refine r_iconst C (v := (nI 0)) dX3_joinLowered_72 rfl ?_
      refine r_istore C (lv' := [(4, .int (nI 0)), (3, .int (nI (2 ^ (e - 6)))), (0, .ref (ad g (fo i))), (1, .ref (ad g (fo j))), (2, .int (nI e))]) 4 dX3_joinLowered_73 (by decide) rfl ?_
      refine G_mem (show μ = sJ μ i (rowU 0 (fun w => if w &&& 2 ^ (e - 6) = 0 then gJ μ i w ||| gJ μ j (w + 2 ^ (e - 6)) else gJ μ i w) (gJ μ i)) by rw [rowU_0, sJ_i]) ?_
      exact lp_joinLoweredB C X hw hnw hi hj h2p (by omega) Rr (nw + 1) 0 (by omega) (by omega)
    · rw [mJL, jlow, if_pos (by omega)] at Rr
      refine r_gLack C X hw_2_42 dX3_joinLowered_12 ?_
      refine r_iload_n C dX3_joinLowered_15 2 rfl ?_
      refine r_lLack C X (by omega) dX3_joinLowered_16 ?_
      refine r_lstore_n C (lv' := [(3, .long (lackT e)), (0, .ref (ad g (fo i))), (1, .ref (ad g (fo j))), (2, .int (nI e))]) 3 dX3_joinLowered_17 rfl (by decide) rfl ?_
      refine r_iconst C (v := (nI 0)) dX3_joinLowered_18 rfl ?_
      refine r_istore C (lv' := [(5, .int (nI 0)), (3, .long (lackT e)), (0, .ref (ad g (fo i))), (1, .ref (ad g (fo j))), (2, .int (nI e))]) 5 dX3_joinLowered_19 (by decide) rfl ?_
      refine G_mem (show μ = sJ μ i (rowU 0 (fun w => gJ μ i w ||| (shrW (gJ μ j w) (2 ^ e) &&& lackT e)) (gJ μ i)) by rw [rowU_0, sJ_i]) ?_
      exact lp_joinLoweredA C X hw hnw hi hj he Rr (nw + 1) 0 (by omega) (by omega)
set_option maxHeartbeats 1000000 in
set_option maxRecDepth 100000 in
theorem lp_joinRaisedA {z : Zt} {A : Nat → Prop} {l : Launch} {g : Gd} {μ : Mm} (C : Cx z A l (rmk 0 0) cX3_joinRaised 6 "SetFamilies$Family") (X : Kx z g A) {i nw : Nat} (hw : gI μ 1 = nI nw) (hnw : nw ≤ 16) (hi : i < 52) {j e : Nat} (hj : j < 52) (he : e < 10) (Rr : Rx z g A none none (sJ μ i (rowU nw (fun w => gJ μ i w ||| shlW (gJ μ j w &&& lackT e) (2 ^ e)) (gJ μ i)))) : ∀ (n_ : Nat) (k : Nat), nw - k < n_ → k ≤ nw → G z g.1 A 6 (wd g (sJ μ i (rowU k (fun w => gJ μ i w ||| shlW (gJ μ j w &&& lackT e) (2 ^ e)) (gJ μ i)))) 0 0 21 [(5, .int (nI k)), (3, .long (lackT e)), (0, .ref (ad g (fo i))), (1, .ref (ad g (fo j))), (2, .int (nI e))] [] := by
  intro n_
  induction n_ with
  | zero => intro k hm_; exact absurd hm_ (Nat.not_lt_zero _)
  | succ n_ ih =>
    intro k hm_ hk
    refine r_iload C dX3_joinRaised_21 0 rfl ?_
    refine r_aload_n C dX3_joinRaised_23 2 rfl ?_
    refine r_get C X (k := (fo i)) (R := RX3) (T := TX3) (N := 2) (n := 0) (v := .ref (ad g 1)) (fo_lt (by omega)) (WF_fo g _ i) rfl inw3 (by decide) rfl hw_1_62 rfl dX3_joinRaised_24 ?_
    refine r_get C X (k := 1) (R := RX4) (T := TX4) (N := 2) (n := 1) (v := .int (gI (sJ μ i (rowU k (fun w => gJ μ i w ||| shlW (gJ μ j w &&& lackT e) (2 ^ e)) (gJ μ i))) 1)) (by decide) rfl rfl inw4 (by decide) rfl hw_1_49 rfl dX3_joinRaised_27 ?_
    refine G_top (y := (nI nw)) ((gI_J _ _ _ _).trans hw) ?_
    refine r_icmp_ge C 62 dX3_joinRaised_30 (by decide) (nI_leI (by omega) (by omega)) (fun h30 => ?_) (fun h30 => ?_)
    · have hkn : k = nw := by omega
      subst hkn
      refine r_goto C 119 dX3_joinRaised_62 (by decide) ?_
      exact r_vret C dX3_joinRaised_119 Rr
    · refine r_aload_n C dX3_joinRaised_33 2 rfl ?_
      refine r_get C X (k := (fo i)) (R := RX3) (T := TX3) (N := 2) (n := 1) (v := .ref (ad g (fw i))) (fo_lt (by omega)) (WF_fo g _ i) rfl inw3 (by decide) rfl hw_1_63 rfl dX3_joinRaised_34 ?_
      refine r_iload C dX3_joinRaised_37 0 rfl ?_
      refine r_dup2 C dX3_joinRaised_39 rfl rfl ?_
      refine r_lald C X (k := (fw i)) (v := (gJ μ i k)) (fw_lt (by omega)) (WF_fw g _ i) (by omega) (by decide) (ldU (by omega)) dX3_joinRaised_40 ?_
      refine r_aload_n C dX3_joinRaised_41 3 rfl ?_
      refine r_get C X (k := (fo j)) (R := RX3) (T := TX3) (N := 2) (n := 1) (v := .ref (ad g (fw j))) (fo_lt (by omega)) (WF_fo g _ j) rfl inw3 (by decide) rfl hw_1_63 rfl dX3_joinRaised_42 ?_
      refine r_iload C dX3_joinRaised_45 0 rfl ?_
      refine r_lald C X (k := (fw j)) (v := (gJ μ j k)) (fw_lt (by omega)) (WF_fw g _ j) (by omega) (by decide) (ldU (by omega)) dX3_joinRaised_47 ?_
      refine r_lload_n C dX3_joinRaised_48 1 rfl ?_
      refine r_land C (v := ((gJ μ j k) &&& (lackT e))) dX3_joinRaised_49 rfl ?_
      refine r_iconst C (v := (nI 1)) dX3_joinRaised_50 rfl ?_
      refine r_iload_n C dX3_joinRaised_51 4 rfl ?_
      refine r_ishl C (v := (nI (2 ^ e))) dX3_joinRaised_52 (nshl1 (by omega)) ?_
      refine r_lshl C (v := (shlW (gJ μ j k &&& lackT e) (2 ^ e))) dX3_joinRaised_53 rfl ?_
      refine r_lor C (v := ((gJ μ i k) ||| (shlW (gJ μ j k &&& lackT e) (2 ^ e)))) dX3_joinRaised_54 rfl ?_
      refine r_lastF C X (f' := rowU (k + 1) (fun w => gJ μ i w ||| shlW (gJ μ j w &&& lackT e) (2 ^ e)) (gJ μ i)) (by omega) (by omega) (rowU_s _ _ _ rfl) dX3_joinRaised_55 ?_
      refine r_iinc C (v := (nI (k + 1))) (lv' := [(5, .int (nI (k + 1))), (3, .long (lackT e)), (0, .ref (ad g (fo i))), (1, .ref (ad g (fo j))), (2, .int (nI e))]) 5 0 dX3_joinRaised_56 rfl (inc_N _ 1) (by decide) rfl ?_
      refine r_goto C 21 dX3_joinRaised_59 (by decide) ?_
      exact ih (k + 1) (by omega) (by omega)
set_option maxHeartbeats 1000000 in
set_option maxRecDepth 100000 in
theorem lp_joinRaisedB {z : Zt} {A : Nat → Prop} {l : Launch} {g : Gd} {μ : Mm} (C : Cx z A l (rmk 0 0) cX3_joinRaised 6 "SetFamilies$Family") (X : Kx z g A) {i j nw sp e : Nat} (hw : gI μ 1 = nI nw) (hnw : nw ≤ 16) (hi : i < 52) (hj : j < 52) (h0 : 0 < sp) (hq : ∀ k, k < 16 → ¬ k &&& sp = 0 → (k - sp) &&& sp = 0 ∧ sp ≤ k) (Rr : Rx z g A none none (sJ μ i (rowU nw (fun w => if w &&& sp = 0 then gJ μ i w else gJ μ i w ||| gJ μ j (w - sp)) (gJ μ i)))) : ∀ (n_ : Nat) (k : Nat), nw - k < n_ → k ≤ nw → sp ≤ k → G z g.1 A 6 (wd g (sJ μ i (rowU k (fun w => if w &&& sp = 0 then gJ μ i w else gJ μ i w ||| gJ μ j (w - sp)) (gJ μ i)))) 0 0 75 [(4, .int (nI k)), (3, .int (nI sp)), (0, .ref (ad g (fo i))), (1, .ref (ad g (fo j))), (2, .int (nI e))] [] := by
  intro n_
  induction n_ with
  | zero => intro k hm_; exact absurd hm_ (Nat.not_lt_zero _)
  | succ n_ ih =>
    intro k hm_ hk hsk
    refine r_iload C dX3_joinRaised_75 0 rfl ?_
    refine r_aload_n C dX3_joinRaised_77 2 rfl ?_
    refine r_get C X (k := (fo i)) (R := RX3) (T := TX3) (N := 2) (n := 0) (v := .ref (ad g 1)) (fo_lt (by omega)) (WF_fo g _ i) rfl inw3 (by decide) rfl hw_1_62 rfl dX3_joinRaised_78 ?_
    refine r_get C X (k := 1) (R := RX4) (T := TX4) (N := 2) (n := 1) (v := .int (gI (sJ μ i (rowU k (fun w => if w &&& sp = 0 then gJ μ i w else gJ μ i w ||| gJ μ j (w - sp)) (gJ μ i))) 1)) (by decide) rfl rfl inw4 (by decide) rfl hw_1_49 rfl dX3_joinRaised_81 ?_
    refine G_top (y := (nI nw)) ((gI_J _ _ _ _).trans hw) ?_
    refine r_icmp_ge C 119 dX3_joinRaised_84 (by decide) (nI_leI (by omega) (by omega)) (fun h84 => ?_) (fun h84 => ?_)
    · have hkn : k = nw := by omega
      subst hkn
      exact r_vret C dX3_joinRaised_119 Rr
    · refine r_iload C dX3_joinRaised_87 0 rfl ?_
      refine r_iload_n C dX3_joinRaised_89 1 rfl ?_
      refine r_iand C (v := (nI (k &&& sp))) dX3_joinRaised_90 (nand _ _) ?_
      refine r_if_eq C 113 dX3_joinRaised_91 (by decide) (zI_eq (Nat.lt_of_le_of_lt Nat.and_le_left (by omega))) (fun h91 => ?_) (fun h91 => ?_)
      · refine r_iinc C (v := (nI (k + 1))) (lv' := [(4, .int (nI (k + 1))), (3, .int (nI sp)), (0, .ref (ad g (fo i))), (1, .ref (ad g (fo j))), (2, .int (nI e))]) 4 0 dX3_joinRaised_113 rfl (inc_N _ 1) (by decide) rfl ?_
        refine r_goto C 75 dX3_joinRaised_116 (by decide) ?_
        refine G_mem (congrArg (sJ μ i) (rowU_keep k (fun w => if w &&& sp = 0 then gJ μ i w else gJ μ i w ||| gJ μ j (w - sp)) (gJ μ i) (if_pos h91))) ?_
        exact ih (k + 1) (by omega) (by omega) (by omega)
      · refine r_aload_n C dX3_joinRaised_94 2 rfl ?_
        refine r_get C X (k := (fo i)) (R := RX3) (T := TX3) (N := 2) (n := 1) (v := .ref (ad g (fw i))) (fo_lt (by omega)) (WF_fo g _ i) rfl inw3 (by decide) rfl hw_1_63 rfl dX3_joinRaised_95 ?_
        refine r_iload C dX3_joinRaised_98 0 rfl ?_
        refine r_dup2 C dX3_joinRaised_100 rfl rfl ?_
        refine r_lald C X (k := (fw i)) (v := (gJ μ i k)) (fw_lt (by omega)) (WF_fw g _ i) (by omega) (by decide) (ldU (by omega)) dX3_joinRaised_101 ?_
        refine r_aload_n C dX3_joinRaised_102 3 rfl ?_
        refine r_get C X (k := (fo j)) (R := RX3) (T := TX3) (N := 2) (n := 1) (v := .ref (ad g (fw j))) (fo_lt (by omega)) (WF_fo g _ j) rfl inw3 (by decide) rfl hw_1_63 rfl dX3_joinRaised_103 ?_
        refine r_iload C dX3_joinRaised_106 0 rfl ?_
        refine r_iload_n C dX3_joinRaised_108 1 rfl ?_
        refine r_isub C (v := (nI (k - sp))) dX3_joinRaised_109 (pk_sub (by omega)) ?_
        refine r_lald C X (k := (fw j)) (v := (gJ μ j (k - sp))) (fw_lt (by omega)) (WF_fw g _ j) (by omega) (by decide) (ldR (by omega) (if_pos (hq k (by omega) h91).1)) dX3_joinRaised_110 ?_
        refine r_lor C (v := ((gJ μ i k) ||| (gJ μ j (k - sp)))) dX3_joinRaised_111 rfl ?_
        refine r_lastF C X (f' := rowU (k + 1) (fun w => if w &&& sp = 0 then gJ μ i w else gJ μ i w ||| gJ μ j (w - sp)) (gJ μ i)) (by omega) (by omega) (rowU_s _ _ _ (if_neg h91).symm) dX3_joinRaised_112 ?_
        refine r_iinc C (v := (nI (k + 1))) (lv' := [(4, .int (nI (k + 1))), (3, .int (nI sp)), (0, .ref (ad g (fo i))), (1, .ref (ad g (fo j))), (2, .int (nI e))]) 4 0 dX3_joinRaised_113 rfl (inc_N _ 1) (by decide) rfl ?_
        refine r_goto C 75 dX3_joinRaised_116 (by decide) ?_
        exact ih (k + 1) (by omega) (by omega) (by omega)
set_option maxHeartbeats 1000000 in
set_option maxRecDepth 100000 in
theorem c_joinRaised (l : Launch) (g : Gd) (μ : Mm) {i j e nw : Nat} (hw : gI μ 1 = nI nw) (hnw : nw ≤ 16) (hi : i < 52) (hj : j < 52) (he : e < 10) (hs : 6 ≤ e → 2 ^ (e - 6) ≤ nw) : Ct l yX3_joinRaised cX3_joinRaised 6 none (rmk 0 0) g [.ref (ad g (fo i)), .ref (ad g (fo j)), .int (nI e)] μ none (mJR μ nw i j e) := by
  refine Ct.of (by decide) (Nat.le_of_ble_eq_true rfl) (fun z A C X Rr => ?_)
  refine r_iload_n C dX3_joinRaised_0 2 rfl ?_
  refine r_if_lt C 65 dX3_joinRaised_1 (by decide) (zI_lt (by omega)) (fun h1 => ?_) (fun h1 => ?_)
  · exact h1.elim
  · refine r_iload_n C dX3_joinRaised_4 2 rfl ?_
    refine r_gLack C X hw_2_42 dX3_joinRaised_5 ?_
    refine r_nLack C X dX3_joinRaised_8 ?_
    refine r_icmp_ge C 65 dX3_joinRaised_9 (by decide) (nI_leI (by omega) (by omega)) (fun h9 => ?_) (fun h9 => ?_)
    · rw [mJR, jrai, if_neg (by omega)] at Rr
      have h2e := p2_6 (show 6 ≤ e by omega) he
      have h2p := Nat.two_pow_pos (e - 6)
      refine r_iconst C (v := (nI 1)) dX3_joinRaised_65 rfl ?_
      refine r_iload_n C dX3_joinRaised_66 2 rfl ?_
      refine r_bipush C (v := (nI 6)) dX3_joinRaised_67 (by decide) ?_
      refine r_isub C (v := (nI (e - 6))) dX3_joinRaised_69 (pk_sub (by omega)) ?_
      refine r_ishl C (v := (nI (2 ^ (e - 6)))) dX3_joinRaised_70 (nshl1 (by omega)) ?_
      refine r_istore_n C (lv' := [(3, .int (nI (2 ^ (e - 6)))), (0, .ref (ad g (fo i))), (1, .ref (ad g (fo j))), (2, .int (nI e))]) 3 dX3_joinRaised_71 rfl (by decide) rfl ?_
      refine r_iload_n C dX3_joinRaised_72 0 rfl ?_
      refine r_istore C (lv' := [(4, .int (nI (2 ^ (e - 6)))), (3, .int (nI (2 ^ (e - 6)))), (0, .ref (ad g (fo i))), (1, .ref (ad g (fo j))), (2, .int (nI e))]) 4 dX3_joinRaised_73 (by decide) rfl ?_
      refine G_mem (show μ = sJ μ i (rowU (2 ^ (e - 6)) (fun w => if w &&& 2 ^ (e - 6) = 0 then gJ μ i w else gJ μ i w ||| gJ μ j (w - 2 ^ (e - 6))) (gJ μ i)) by rw [rowU_id (fun w hw => if_pos ((sp_k (e - 6) (by omega) w (by omega)).2.2 hw)), sJ_i]) ?_
      exact lp_joinRaisedB C X hw hnw hi hj h2p (fun k hk h => ⟨((sp_k (e - 6) (by omega) k hk).1 h).1, ((sp_k (e - 6) (by omega) k hk).1 h).2.1⟩) Rr (nw + 1) (2 ^ (e - 6)) (by omega) (hs (by omega)) (Nat.le_refl _)
    · rw [mJR, jrai, if_pos (by omega)] at Rr
      refine r_gLack C X hw_2_42 dX3_joinRaised_12 ?_
      refine r_iload_n C dX3_joinRaised_15 2 rfl ?_
      refine r_lLack C X (by omega) dX3_joinRaised_16 ?_
      refine r_lstore_n C (lv' := [(3, .long (lackT e)), (0, .ref (ad g (fo i))), (1, .ref (ad g (fo j))), (2, .int (nI e))]) 3 dX3_joinRaised_17 rfl (by decide) rfl ?_
      refine r_iconst C (v := (nI 0)) dX3_joinRaised_18 rfl ?_
      refine r_istore C (lv' := [(5, .int (nI 0)), (3, .long (lackT e)), (0, .ref (ad g (fo i))), (1, .ref (ad g (fo j))), (2, .int (nI e))]) 5 dX3_joinRaised_19 (by decide) rfl ?_
      refine G_mem (show μ = sJ μ i (rowU 0 (fun w => gJ μ i w ||| shlW (gJ μ j w &&& lackT e) (2 ^ e)) (gJ μ i)) by rw [rowU_0, sJ_i]) ?_
      exact lp_joinRaisedA C X hw hnw hi hj he Rr (nw + 1) 0 (by omega) (by omega)
set_option maxHeartbeats 1000000 in
set_option maxRecDepth 100000 in
theorem lp_exchangeA {z : Zt} {A : Nat → Prop} {l : Launch} {g : Gd} {μ : Mm} (C : Cx z A l (rmk 0 0) cX3_exchange 6 "SetFamilies$Family") (X : Kx z g A) {i nw : Nat} (hw : gI μ 1 = nI nw) (hnw : nw ≤ 16) (hi : i < 52) {e : Nat} (he : e < 10) (Rr : Rx z g A none none (sJ μ i (rowU nw (fun w => (shrW (gJ μ i w) (2 ^ e) &&& lackT e) ||| shlW (gJ μ i w &&& lackT e) (2 ^ e)) (gJ μ i)))) : ∀ (n_ : Nat) (k : Nat), nw - k < n_ → k ≤ nw → G z g.1 A 6 (wd g (sJ μ i (rowU k (fun w => (shrW (gJ μ i w) (2 ^ e) &&& lackT e) ||| shlW (gJ μ i w &&& lackT e) (2 ^ e)) (gJ μ i)))) 0 0 21 [(4, .int (nI k)), (2, .long (lackT e)), (0, .ref (ad g (fo i))), (1, .int (nI e))] [] := by
  intro n_
  induction n_ with
  | zero => intro k hm_; exact absurd hm_ (Nat.not_lt_zero _)
  | succ n_ ih =>
    intro k hm_ hk
    refine r_iload C dX3_exchange_21 0 rfl ?_
    refine r_aload_n C dX3_exchange_23 2 rfl ?_
    refine r_get C X (k := (fo i)) (R := RX3) (T := TX3) (N := 2) (n := 0) (v := .ref (ad g 1)) (fo_lt (by omega)) (WF_fo g _ i) rfl inw3 (by decide) rfl hw_1_62 rfl dX3_exchange_24 ?_
    refine r_get C X (k := 1) (R := RX4) (T := TX4) (N := 2) (n := 1) (v := .int (gI (sJ μ i (rowU k (fun w => (shrW (gJ μ i w) (2 ^ e) &&& lackT e) ||| shlW (gJ μ i w &&& lackT e) (2 ^ e)) (gJ μ i))) 1)) (by decide) rfl rfl inw4 (by decide) rfl hw_1_49 rfl dX3_exchange_27 ?_
    refine G_top (y := (nI nw)) ((gI_J _ _ _ _).trans hw) ?_
    refine r_icmp_ge C 73 dX3_exchange_30 (by decide) (nI_leI (by omega) (by omega)) (fun h30 => ?_) (fun h30 => ?_)
    · have hkn : k = nw := by omega
      subst hkn
      refine r_goto C 142 dX3_exchange_73 (by decide) ?_
      exact r_vret C dX3_exchange_142 Rr
    · refine r_aload_n C dX3_exchange_33 2 rfl ?_
      refine r_get C X (k := (fo i)) (R := RX3) (T := TX3) (N := 2) (n := 1) (v := .ref (ad g (fw i))) (fo_lt (by omega)) (WF_fo g _ i) rfl inw3 (by decide) rfl hw_1_63 rfl dX3_exchange_34 ?_
      refine r_iload C dX3_exchange_37 0 rfl ?_
      refine r_aload_n C dX3_exchange_39 2 rfl ?_
      refine r_get C X (k := (fo i)) (R := RX3) (T := TX3) (N := 2) (n := 1) (v := .ref (ad g (fw i))) (fo_lt (by omega)) (WF_fo g _ i) rfl inw3 (by decide) rfl hw_1_63 rfl dX3_exchange_40 ?_
      refine r_iload C dX3_exchange_43 0 rfl ?_
      refine r_lald C X (k := (fw i)) (v := (gJ μ i k)) (fw_lt (by omega)) (WF_fw g _ i) (by omega) (by decide) (ldU (by omega)) dX3_exchange_45 ?_
      refine r_iconst C (v := (nI 1)) dX3_exchange_46 rfl ?_
      refine r_iload_n C dX3_exchange_47 3 rfl ?_
      refine r_ishl C (v := (nI (2 ^ e))) dX3_exchange_48 (nshl1 (by omega)) ?_
      refine r_lushr C (v := (shrW (gJ μ i k) (2 ^ e))) dX3_exchange_49 rfl ?_
      refine r_lload_n C dX3_exchange_50 1 rfl ?_
      refine r_land C (v := ((shrW (gJ μ i k) (2 ^ e)) &&& (lackT e))) dX3_exchange_51 rfl ?_
      refine r_aload_n C dX3_exchange_52 2 rfl ?_
      refine r_get C X (k := (fo i)) (R := RX3) (T := TX3) (N := 2) (n := 1) (v := .ref (ad g (fw i))) (fo_lt (by omega)) (WF_fo g _ i) rfl inw3 (by decide) rfl hw_1_63 rfl dX3_exchange_53 ?_
      refine r_iload C dX3_exchange_56 0 rfl ?_
      refine r_lald C X (k := (fw i)) (v := (gJ μ i k)) (fw_lt (by omega)) (WF_fw g _ i) (by omega) (by decide) (ldU (by omega)) dX3_exchange_58 ?_
      refine r_lload_n C dX3_exchange_59 1 rfl ?_
      refine r_land C (v := ((gJ μ i k) &&& (lackT e))) dX3_exchange_60 rfl ?_
      refine r_iconst C (v := (nI 1)) dX3_exchange_61 rfl ?_
      refine r_iload_n C dX3_exchange_62 3 rfl ?_
      refine r_ishl C (v := (nI (2 ^ e))) dX3_exchange_63 (nshl1 (by omega)) ?_
      refine r_lshl C (v := (shlW (gJ μ i k &&& lackT e) (2 ^ e))) dX3_exchange_64 rfl ?_
      refine r_lor C (v := (((shrW (gJ μ i k) (2 ^ e)) &&& (lackT e)) ||| (shlW (gJ μ i k &&& lackT e) (2 ^ e)))) dX3_exchange_65 rfl ?_
      refine r_lastF C X (f' := rowU (k + 1) (fun w => (shrW (gJ μ i w) (2 ^ e) &&& lackT e) ||| shlW (gJ μ i w &&& lackT e) (2 ^ e)) (gJ μ i)) (by omega) (by omega) (rowU_s _ _ _ rfl) dX3_exchange_66 ?_
      refine r_iinc C (v := (nI (k + 1))) (lv' := [(4, .int (nI (k + 1))), (2, .long (lackT e)), (0, .ref (ad g (fo i))), (1, .int (nI e))]) 4 0 dX3_exchange_67 rfl (inc_N _ 1) (by decide) rfl ?_
      refine r_goto C 21 dX3_exchange_70 (by decide) ?_
      exact ih (k + 1) (by omega) (by omega)
set_option maxHeartbeats 1000000 in
set_option maxRecDepth 100000 in
theorem lp_exchangeB {z : Zt} {A : Nat → Prop} {l : Launch} {g : Gd} {μ : Mm} (C : Cx z A l (rmk 0 0) cX3_exchange 6 "SetFamilies$Family") (X : Kx z g A) {i nw sp e : Nat} (hw : gI μ 1 = nI nw) (hnw : nw ≤ 16) (hi : i < 52) (h0 : 0 < sp) (h16 : sp < 16) (hq : ∀ k, k < 16 → (¬ k &&& sp = 0 → (k + sp) &&& sp = 0) ∧ (k &&& sp = 0 → ¬ (k + sp) &&& sp = 0)) (hp : ∀ w, ¬ w &&& sp = 0 → sp ≤ w) (Rr : Rx z g A none none (sJ μ i (swp sp (gJ μ i) (nw - sp)))) : ∀ (n_ : Nat) (k : Nat), nw - sp - k < n_ → k ≤ nw - sp → G z g.1 A 6 (wd g (sJ μ i (swp sp (gJ μ i) k))) 0 0 85 [(3, .int (nI k)), (2, .int (nI sp)), (0, .ref (ad g (fo i))), (1, .int (nI e))] [] := by
  intro n_
  induction n_ with
  | zero => intro k hm_; exact absurd hm_ (Nat.not_lt_zero _)
  | succ n_ ih =>
    intro k hm_ hk
    refine r_iload_n C dX3_exchange_85 0 rfl ?_
    refine r_iload_n C dX3_exchange_86 1 rfl ?_
    refine r_iadd C (v := (nI (k + sp))) dX3_exchange_87 (nI_add _ _) ?_
    refine r_aload_n C dX3_exchange_88 2 rfl ?_
    refine r_get C X (k := (fo i)) (R := RX3) (T := TX3) (N := 2) (n := 0) (v := .ref (ad g 1)) (fo_lt (by omega)) (WF_fo g _ i) rfl inw3 (by decide) rfl hw_1_62 rfl dX3_exchange_89 ?_
    refine r_get C X (k := 1) (R := RX4) (T := TX4) (N := 2) (n := 1) (v := .int (gI (sJ μ i (swp sp (gJ μ i) k)) 1)) (by decide) rfl rfl inw4 (by decide) rfl hw_1_49 rfl dX3_exchange_92 ?_
    refine G_top (y := (nI nw)) ((gI_J _ _ _ _).trans hw) ?_
    refine r_icmp_ge C 142 dX3_exchange_95 (by decide) (nI_leI (by omega) (by omega)) (fun h95 => ?_) (fun h95 => ?_)
    · have hkn : k = nw - sp := by omega
      subst hkn
      exact r_vret C dX3_exchange_142 Rr
    · refine r_iload_n C dX3_exchange_98 0 rfl ?_
      refine r_iload_n C dX3_exchange_99 1 rfl ?_
      refine r_iand C (v := (nI (k &&& sp))) dX3_exchange_100 (nand _ _) ?_
      refine r_if_ne C 136 dX3_exchange_101 (by decide) (zI_ne (Nat.lt_of_le_of_lt Nat.and_le_left (by omega))) (fun h101 => ?_) (fun h101 => ?_)
      · refine r_iinc C (v := (nI (k + 1))) (lv' := [(3, .int (nI (k + 1))), (2, .int (nI sp)), (0, .ref (ad g (fo i))), (1, .int (nI e))]) 3 0 dX3_exchange_136 rfl (inc_N _ 1) (by decide) rfl ?_
        refine r_goto C 85 dX3_exchange_139 (by decide) ?_
        refine G_mem (congrArg (sJ μ i) (sw_keep h101 ((hq k (by omega)).1 h101) hp)) ?_
        exact ih (k + 1) (by omega) (by omega)
      · have hz : k &&& sp = 0 := Decidable.not_not.mp h101
        refine r_aload_n C dX3_exchange_104 2 rfl ?_
        refine r_get C X (k := (fo i)) (R := RX3) (T := TX3) (N := 2) (n := 1) (v := .ref (ad g (fw i))) (fo_lt (by omega)) (WF_fo g _ i) rfl inw3 (by decide) rfl hw_1_63 rfl dX3_exchange_105 ?_
        refine r_iload_n C dX3_exchange_108 0 rfl ?_
        refine r_lald C X (k := (fw i)) (v := (gJ μ i k)) (fw_lt (by omega)) (WF_fw g _ i) (by omega) (by decide) (by rw [gJ_s]; show (if _ then _ else _) = _; rw [if_pos hz, if_neg (by omega)]) dX3_exchange_109 ?_
        refine r_lstore C (lv' := [(4, .long (gJ μ i k)), (3, .int (nI k)), (2, .int (nI sp)), (0, .ref (ad g (fo i))), (1, .int (nI e))]) 4 dX3_exchange_110 (by decide) rfl ?_
        refine r_aload_n C dX3_exchange_112 3 rfl ?_
        refine r_get C X (k := (fo i)) (R := RX3) (T := TX3) (N := 2) (n := 1) (v := .ref (ad g (fw i))) (fo_lt (by omega)) (WF_fo g _ i) rfl inw3 (by decide) rfl hw_1_63 rfl dX3_exchange_113 ?_
        refine r_iload_n C dX3_exchange_116 1 rfl ?_
        refine r_aload_n C dX3_exchange_117 3 rfl ?_
        refine r_get C X (k := (fo i)) (R := RX3) (T := TX3) (N := 2) (n := 1) (v := .ref (ad g (fw i))) (fo_lt (by omega)) (WF_fo g _ i) rfl inw3 (by decide) rfl hw_1_63 rfl dX3_exchange_118 ?_
        refine r_iload_n C dX3_exchange_121 1 rfl ?_
        refine r_iload_n C dX3_exchange_122 2 rfl ?_
        refine r_iadd C (v := (nI (k + sp))) dX3_exchange_123 (nI_add _ _) ?_
        refine r_lald C X (k := (fw i)) (v := (gJ μ i (k + sp))) (fw_lt (by omega)) (WF_fw g _ i) (by omega) (by decide) (by rw [gJ_s]; show (if _ then _ else _) = _; rw [if_neg ((hq k (by omega)).2 hz), if_neg (by omega)]) dX3_exchange_124 ?_
        refine r_lastF C X (f' := vp_updL (swp sp (gJ μ i) k) k (gJ μ i (k + sp))) (by omega) (by omega) rfl dX3_exchange_125 ?_
        refine r_aload_n C dX3_exchange_126 3 rfl ?_
        refine r_get C X (k := (fo i)) (R := RX3) (T := TX3) (N := 2) (n := 1) (v := .ref (ad g (fw i))) (fo_lt (by omega)) (WF_fo g _ i) rfl inw3 (by decide) rfl hw_1_63 rfl dX3_exchange_127 ?_
        refine r_iload_n C dX3_exchange_130 1 rfl ?_
        refine r_iload_n C dX3_exchange_131 2 rfl ?_
        refine r_iadd C (v := (nI (k + sp))) dX3_exchange_132 (nI_add _ _) ?_
        refine r_lload C dX3_exchange_133 0 rfl ?_
        refine r_lastF C X (f' := swp sp (gJ μ i) (k + 1)) (by omega) (by omega) (sw_step hz ((hq k (by omega)).2 hz) hp h0) dX3_exchange_135 ?_
        refine r_iinc C (v := (nI (k + 1))) (lv' := [(3, .int (nI (k + 1))), (4, .long (gJ μ i k)), (2, .int (nI sp)), (0, .ref (ad g (fo i))), (1, .int (nI e))]) 3 1 dX3_exchange_136 rfl (inc_N _ 1) (by decide) rfl ?_
        refine r_goto C 85 dX3_exchange_139 (by decide) ?_
        refine G_sub (lv' := [(3, .int (nI (k + 1))), (2, .int (nI sp)), (0, .ref (ad g (fo i))), (1, .int (nI e))]) [0, 2, 3, 4] rfl ?_
        exact ih (k + 1) (by omega) (by omega)
set_option maxHeartbeats 1000000 in
set_option maxRecDepth 100000 in
theorem c_exchange (l : Launch) (g : Gd) (μ : Mm) {i e nw : Nat} (hw : gI μ 1 = nI nw) (hnw : nw ≤ 16) (hi : i < 52) (he : e < 10) : Ct l yX3_exchange cX3_exchange 6 none (rmk 0 0) g [.ref (ad g (fo i)), .int (nI e)] μ none (mEx μ nw i e) := by
  refine Ct.of (by decide) (Nat.le_of_ble_eq_true rfl) (fun z A C X Rr => ?_)
  refine r_iload_n C dX3_exchange_0 1 rfl ?_
  refine r_if_lt C 76 dX3_exchange_1 (by decide) (zI_lt (by omega)) (fun h1 => ?_) (fun h1 => ?_)
  · exact h1.elim
  · refine r_iload_n C dX3_exchange_4 1 rfl ?_
    refine r_gLack C X hw_2_42 dX3_exchange_5 ?_
    refine r_nLack C X dX3_exchange_8 ?_
    refine r_icmp_ge C 76 dX3_exchange_9 (by decide) (nI_leI (by omega) (by omega)) (fun h9 => ?_) (fun h9 => ?_)
    · rw [mEx, exch, if_neg (by omega)] at Rr
      have h2e := p2_6 (show 6 ≤ e by omega) he
      have h2p := Nat.two_pow_pos (e - 6)
      refine r_iconst C (v := (nI 1)) dX3_exchange_76 rfl ?_
      refine r_iload_n C dX3_exchange_77 1 rfl ?_
      refine r_bipush C (v := (nI 6)) dX3_exchange_78 (by decide) ?_
      refine r_isub C (v := (nI (e - 6))) dX3_exchange_80 (pk_sub (by omega)) ?_
      refine r_ishl C (v := (nI (2 ^ (e - 6)))) dX3_exchange_81 (nshl1 (by omega)) ?_
      refine r_istore_n C (lv' := [(2, .int (nI (2 ^ (e - 6)))), (0, .ref (ad g (fo i))), (1, .int (nI e))]) 2 dX3_exchange_82 rfl (by decide) rfl ?_
      refine r_iconst C (v := (nI 0)) dX3_exchange_83 rfl ?_
      refine r_istore_n C (lv' := [(3, .int (nI 0)), (2, .int (nI (2 ^ (e - 6)))), (0, .ref (ad g (fo i))), (1, .int (nI e))]) 3 dX3_exchange_84 rfl (by decide) rfl ?_
      refine G_mem (show μ = sJ μ i (swp (2 ^ (e - 6)) (gJ μ i) 0) by rw [sw_0 (hp2 _), sJ_i]) ?_
      exact lp_exchangeB C X hw hnw hi h2p (by omega) (fun k hk => ⟨fun h => ((sp_k (e - 6) (by omega) k hk).1 h).2.2, fun h => (sp_k (e - 6) (by omega) k hk).2.1 h⟩) (hp2 _) Rr (nw + 1) 0 (by omega) (by omega)
    · rw [mEx, exch, if_pos (by omega)] at Rr
      refine r_gLack C X hw_2_42 dX3_exchange_12 ?_
      refine r_iload_n C dX3_exchange_15 1 rfl ?_
      refine r_lLack C X (by omega) dX3_exchange_16 ?_
      refine r_lstore_n C (lv' := [(2, .long (lackT e)), (0, .ref (ad g (fo i))), (1, .int (nI e))]) 2 dX3_exchange_17 rfl (by decide) rfl ?_
      refine r_iconst C (v := (nI 0)) dX3_exchange_18 rfl ?_
      refine r_istore C (lv' := [(4, .int (nI 0)), (2, .long (lackT e)), (0, .ref (ad g (fo i))), (1, .int (nI e))]) 4 dX3_exchange_19 (by decide) rfl ?_
      refine G_mem (show μ = sJ μ i (rowU 0 (fun w => (shrW (gJ μ i w) (2 ^ e) &&& lackT e) ||| shlW (gJ μ i w &&& lackT e) (2 ^ e)) (gJ μ i)) by rw [rowU_0, sJ_i]) ?_
      exact lp_exchangeA C X hw hnw hi he Rr (nw + 1) 0 (by omega) (by omega)
set_option maxHeartbeats 1000000 in
set_option maxRecDepth 100000 in
theorem c_forget (l : Launch) (g : Gd) (μ : Mm) {i e nw : Nat} (hw : gI μ 1 = nI nw) (hnw : nw ≤ 16) (hi : i < 52) (he : e < 10) (hs : 6 ≤ e → 2 ^ (e - 6) ≤ nw) : Ct l yX3_forget cX3_forget 2 none (rmk 2 43) g [.ref (ad g (fo i)), .int (nI e)] μ none (mFgt μ nw i e) := by
  refine Ct.of (by decide) (Nat.le_of_ble_eq_true rfl) (fun z A C X Rr => ?_)
  refine r_aload_n C dX3_forget_0 0 rfl ?_
  refine r_aload_n C dX3_forget_1 0 rfl ?_
  refine r_iload_n C dX3_forget_2 1 rfl ?_
  refine r_callV C X (As := [.ref (ad g (fo i)), .int (nI e)]) (rest := []) (st1 := []) (μ' := (mJL μ nw i i e)) (k := (fo i)) (T := TX3) miX3_joinLowered mvX3_joinLowered (c_joinLowered l g μ (i := i) (j := i) (e := e) (nw := nw) hw (by omega) (by omega) (by omega) (by omega) hs) hw_2_160 (fo_lt (by omega)) (WF_fo g _ i) rfl rfl ⟨by decide, by decide, rfl, rfl, by decide, by decide⟩ rfl (Nat.le_of_ble_eq_true rfl) dX3_forget_3 rfl ?_
  refine r_aload_n C dX3_forget_6 0 rfl ?_
  refine r_iload_n C dX3_forget_7 1 rfl ?_
  refine r_callV C X (As := [.int (nI e)]) (rest := []) (st1 := []) (μ' := (mKL (mJL μ nw i i e) nw i e)) (k := (fo i)) (T := TX3) miX3_keepLacking mvX3_keepLacking (c_keepLacking l g (mJL μ nw i i e) (i := i) (nw := nw) (e := e) (gI_mJL.trans hw) (by omega) (by omega) (by omega)) hw_2_238 (fo_lt (by omega)) (WF_fo g _ i) rfl rfl ⟨by decide, by decide, rfl, rfl, by decide, by decide⟩ rfl (Nat.le_of_ble_eq_true rfl) dX3_forget_8 rfl ?_
  exact r_vret C dX3_forget_11 Rr
set_option maxHeartbeats 1000000 in
set_option maxRecDepth 100000 in
theorem lp_closeUpwards {z : Zt} {A : Nat → Prop} {l : Launch} {g : Gd} {μ : Mm} (C : Cx z A l (rmk 1 25) cX3_closeUpwards 2 "SetFamilies$Family") (X : Kx z g A) {i n nw : Nat} (hn : gI μ 0 = nI n) (hn10 : n ≤ 10) (hw : gI μ 1 = nI nw) (hnw : nw ≤ 16) (hi : i < 52) (hs : ∀ e, e < n → 6 ≤ e → 2 ^ (e - 6) ≤ nw) (Rr : Rx z g A none none (mUp μ nw i n)) : ∀ (n_ : Nat) (k : Nat), n - k < n_ → k ≤ n → G z g.1 A 2 (wd g (mUp μ nw i k)) 0 0 2 [(1, .int (nI k)), (0, .ref (ad g (fo i)))] [] := by
  intro n_
  induction n_ with
  | zero => intro k hm_; exact absurd hm_ (Nat.not_lt_zero _)
  | succ n_ ih =>
    intro k hm_ hk
    refine r_iload_n C dX3_closeUpwards_2 0 rfl ?_
    refine r_aload_n C dX3_closeUpwards_3 1 rfl ?_
    refine r_get C X (k := (fo i)) (R := RX3) (T := TX3) (N := 2) (n := 0) (v := .ref (ad g 1)) (fo_lt (by omega)) (WF_fo g _ i) rfl inw3 (by decide) rfl hw_1_62 rfl dX3_closeUpwards_4 ?_
    refine r_get C X (k := 1) (R := RX4) (T := TX4) (N := 2) (n := 0) (v := .int (gI (mUp μ nw i k) 0)) (by decide) rfl rfl inw4 (by decide) rfl hw_1_47 rfl dX3_closeUpwards_7 ?_
    refine G_top (y := (nI n)) (gI_mUp.trans hn) ?_
    refine r_icmp_ge C 25 dX3_closeUpwards_10 (by decide) (nI_leI (by omega) (by omega)) (fun h10 => ?_) (fun h10 => ?_)
    · have hkn : k = n := by omega
      subst hkn
      exact r_vret C dX3_closeUpwards_25 Rr
    · refine r_aload_n C dX3_closeUpwards_13 1 rfl ?_
      refine r_aload_n C dX3_closeUpwards_14 1 rfl ?_
      refine r_iload_n C dX3_closeUpwards_15 0 rfl ?_
      refine r_callV C X (As := [.ref (ad g (fo i)), .int (nI k)]) (rest := []) (st1 := []) (μ' := (mJR (mUp μ nw i k) nw i i k)) (k := (fo i)) (T := TX3) miX3_joinRaised mvX3_joinRaised (c_joinRaised l g (mUp μ nw i k) (i := i) (j := i) (e := k) (nw := nw) (gI_mUp.trans hw) (by omega) (by omega) (by omega) (by omega) (hs k (by omega))) hw_2_68 (fo_lt (by omega)) (WF_fo g _ i) rfl rfl ⟨by decide, by decide, rfl, rfl, by decide, by decide⟩ rfl (Nat.le_of_ble_eq_true rfl) dX3_closeUpwards_16 rfl ?_
      refine r_iinc C (v := (nI (k + 1))) (lv' := [(1, .int (nI (k + 1))), (0, .ref (ad g (fo i)))]) 1 0 dX3_closeUpwards_19 rfl (inc_N _ 1) (by decide) rfl ?_
      refine r_goto C 2 dX3_closeUpwards_22 (by decide) ?_
      exact ih (k + 1) (by omega) (by omega)
set_option maxHeartbeats 1000000 in
set_option maxRecDepth 100000 in
theorem c_closeUpwards (l : Launch) (g : Gd) (μ : Mm) {i n nw : Nat} (hn : gI μ 0 = nI n) (hn10 : n ≤ 10) (hw : gI μ 1 = nI nw) (hnw : nw ≤ 16) (hi : i < 52) (hs : ∀ e, e < n → 6 ≤ e → 2 ^ (e - 6) ≤ nw) : Ct l yX3_closeUpwards cX3_closeUpwards 2 none (rmk 1 25) g [.ref (ad g (fo i))] μ none (mUp μ nw i n) := by
  refine Ct.of (by decide) (Nat.le_of_ble_eq_true rfl) (fun z A C X Rr => ?_)
  refine r_iconst C (v := (nI 0)) dX3_closeUpwards_0 rfl ?_
  refine r_istore_n C (lv' := [(1, .int (nI 0)), (0, .ref (ad g (fo i)))]) 1 dX3_closeUpwards_1 rfl (by decide) rfl ?_
  exact lp_closeUpwards C X hn hn10 hw hnw hi hs Rr (n + 1) 0 (by omega) (by omega)
set_option maxHeartbeats 1000000 in
set_option maxRecDepth 100000 in
theorem lp_closeDownwards {z : Zt} {A : Nat → Prop} {l : Launch} {g : Gd} {μ : Mm} (C : Cx z A l (rmk 1 25) cX3_closeDownwards 2 "SetFamilies$Family") (X : Kx z g A) {i n nw : Nat} (hn : gI μ 0 = nI n) (hn10 : n ≤ 10) (hw : gI μ 1 = nI nw) (hnw : nw ≤ 16) (hi : i < 52) (hs : ∀ e, e < n → 6 ≤ e → 2 ^ (e - 6) ≤ nw) (Rr : Rx z g A none none (mDn μ nw i n)) : ∀ (n_ : Nat) (k : Nat), n - k < n_ → k ≤ n → G z g.1 A 2 (wd g (mDn μ nw i k)) 0 0 2 [(1, .int (nI k)), (0, .ref (ad g (fo i)))] [] := by
  intro n_
  induction n_ with
  | zero => intro k hm_; exact absurd hm_ (Nat.not_lt_zero _)
  | succ n_ ih =>
    intro k hm_ hk
    refine r_iload_n C dX3_closeDownwards_2 0 rfl ?_
    refine r_aload_n C dX3_closeDownwards_3 1 rfl ?_
    refine r_get C X (k := (fo i)) (R := RX3) (T := TX3) (N := 2) (n := 0) (v := .ref (ad g 1)) (fo_lt (by omega)) (WF_fo g _ i) rfl inw3 (by decide) rfl hw_1_62 rfl dX3_closeDownwards_4 ?_
    refine r_get C X (k := 1) (R := RX4) (T := TX4) (N := 2) (n := 0) (v := .int (gI (mDn μ nw i k) 0)) (by decide) rfl rfl inw4 (by decide) rfl hw_1_47 rfl dX3_closeDownwards_7 ?_
    refine G_top (y := (nI n)) (gI_mDn.trans hn) ?_
    refine r_icmp_ge C 25 dX3_closeDownwards_10 (by decide) (nI_leI (by omega) (by omega)) (fun h10 => ?_) (fun h10 => ?_)
    · have hkn : k = n := by omega
      subst hkn
      exact r_vret C dX3_closeDownwards_25 Rr
    · refine r_aload_n C dX3_closeDownwards_13 1 rfl ?_
      refine r_aload_n C dX3_closeDownwards_14 1 rfl ?_
      refine r_iload_n C dX3_closeDownwards_15 0 rfl ?_
      refine r_callV C X (As := [.ref (ad g (fo i)), .int (nI k)]) (rest := []) (st1 := []) (μ' := (mJL (mDn μ nw i k) nw i i k)) (k := (fo i)) (T := TX3) miX3_joinLowered mvX3_joinLowered (c_joinLowered l g (mDn μ nw i k) (i := i) (j := i) (e := k) (nw := nw) (gI_mDn.trans hw) (by omega) (by omega) (by omega) (by omega) (hs k (by omega))) hw_2_160 (fo_lt (by omega)) (WF_fo g _ i) rfl rfl ⟨by decide, by decide, rfl, rfl, by decide, by decide⟩ rfl (Nat.le_of_ble_eq_true rfl) dX3_closeDownwards_16 rfl ?_
      refine r_iinc C (v := (nI (k + 1))) (lv' := [(1, .int (nI (k + 1))), (0, .ref (ad g (fo i)))]) 1 0 dX3_closeDownwards_19 rfl (inc_N _ 1) (by decide) rfl ?_
      refine r_goto C 2 dX3_closeDownwards_22 (by decide) ?_
      exact ih (k + 1) (by omega) (by omega)
set_option maxHeartbeats 1000000 in
set_option maxRecDepth 100000 in
theorem c_closeDownwards (l : Launch) (g : Gd) (μ : Mm) {i n nw : Nat} (hn : gI μ 0 = nI n) (hn10 : n ≤ 10) (hw : gI μ 1 = nI nw) (hnw : nw ≤ 16) (hi : i < 52) (hs : ∀ e, e < n → 6 ≤ e → 2 ^ (e - 6) ≤ nw) : Ct l yX3_closeDownwards cX3_closeDownwards 2 none (rmk 1 25) g [.ref (ad g (fo i))] μ none (mDn μ nw i n) := by
  refine Ct.of (by decide) (Nat.le_of_ble_eq_true rfl) (fun z A C X Rr => ?_)
  refine r_iconst C (v := (nI 0)) dX3_closeDownwards_0 rfl ?_
  refine r_istore_n C (lv' := [(1, .int (nI 0)), (0, .ref (ad g (fo i)))]) 1 dX3_closeDownwards_1 rfl (by decide) rfl ?_
  exact lp_closeDownwards C X hn hn10 hw hnw hi hs Rr (n + 1) 0 (by omega) (by omega)
set_option maxHeartbeats 1000000 in
set_option maxRecDepth 100000 in
theorem lp_mirror {z : Zt} {A : Nat → Prop} {l : Launch} {g : Gd} {μ : Mm} (C : Cx z A l (rmk 1 25) cX3_mirror 2 "SetFamilies$Family") (X : Kx z g A) {i n nw : Nat} (hn : gI μ 0 = nI n) (hn10 : n ≤ 10) (hw : gI μ 1 = nI nw) (hnw : nw ≤ 16) (hi : i < 52) (hs : ∀ e, e < n → 6 ≤ e → 2 ^ (e - 6) ≤ nw) (Rr : Rx z g A none none (mMir μ nw i n)) : ∀ (n_ : Nat) (k : Nat), n - k < n_ → k ≤ n → G z g.1 A 2 (wd g (mMir μ nw i k)) 0 0 2 [(1, .int (nI k)), (0, .ref (ad g (fo i)))] [] := by
  intro n_
  induction n_ with
  | zero => intro k hm_; exact absurd hm_ (Nat.not_lt_zero _)
  | succ n_ ih =>
    intro k hm_ hk
    refine r_iload_n C dX3_mirror_2 0 rfl ?_
    refine r_aload_n C dX3_mirror_3 1 rfl ?_
    refine r_get C X (k := (fo i)) (R := RX3) (T := TX3) (N := 2) (n := 0) (v := .ref (ad g 1)) (fo_lt (by omega)) (WF_fo g _ i) rfl inw3 (by decide) rfl hw_1_62 rfl dX3_mirror_4 ?_
    refine r_get C X (k := 1) (R := RX4) (T := TX4) (N := 2) (n := 0) (v := .int (gI (mMir μ nw i k) 0)) (by decide) rfl rfl inw4 (by decide) rfl hw_1_47 rfl dX3_mirror_7 ?_
    refine G_top (y := (nI n)) (gI_mMir.trans hn) ?_
    refine r_icmp_ge C 24 dX3_mirror_10 (by decide) (nI_leI (by omega) (by omega)) (fun h10 => ?_) (fun h10 => ?_)
    · have hkn : k = n := by omega
      subst hkn
      exact r_vret C dX3_mirror_24 Rr
    · refine r_aload_n C dX3_mirror_13 1 rfl ?_
      refine r_iload_n C dX3_mirror_14 0 rfl ?_
      refine r_callV C X (As := [.int (nI k)]) (rest := []) (st1 := []) (μ' := (mEx (mMir μ nw i k) nw i k)) (k := (fo i)) (T := TX3) miX3_exchange mvX3_exchange (c_exchange l g (mMir μ nw i k) (i := i) (e := k) (nw := nw) (gI_mMir.trans hw) (by omega) (by omega) (by omega)) hw_2_101 (fo_lt (by omega)) (WF_fo g _ i) rfl rfl ⟨by decide, by decide, rfl, rfl, by decide, by decide⟩ rfl (Nat.le_of_ble_eq_true rfl) dX3_mirror_15 rfl ?_
      refine r_iinc C (v := (nI (k + 1))) (lv' := [(1, .int (nI (k + 1))), (0, .ref (ad g (fo i)))]) 1 0 dX3_mirror_18 rfl (inc_N _ 1) (by decide) rfl ?_
      refine r_goto C 2 dX3_mirror_21 (by decide) ?_
      exact ih (k + 1) (by omega) (by omega)
set_option maxHeartbeats 1000000 in
set_option maxRecDepth 100000 in
theorem c_mirror (l : Launch) (g : Gd) (μ : Mm) {i n nw : Nat} (hn : gI μ 0 = nI n) (hn10 : n ≤ 10) (hw : gI μ 1 = nI nw) (hnw : nw ≤ 16) (hi : i < 52) (hs : ∀ e, e < n → 6 ≤ e → 2 ^ (e - 6) ≤ nw) : Ct l yX3_mirror cX3_mirror 2 none (rmk 1 25) g [.ref (ad g (fo i))] μ none (mMir μ nw i n) := by
  refine Ct.of (by decide) (Nat.le_of_ble_eq_true rfl) (fun z A C X Rr => ?_)
  refine r_iconst C (v := (nI 0)) dX3_mirror_0 rfl ?_
  refine r_istore_n C (lv' := [(1, .int (nI 0)), (0, .ref (ad g (fo i)))]) 1 dX3_mirror_1 rfl (by decide) rfl ?_
  exact lp_mirror C X hn hn10 hw hnw hi hs Rr (n + 1) 0 (by omega) (by omega)
set_option maxHeartbeats 1000000 in
set_option maxRecDepth 100000 in
theorem lp_becomeShadow {z : Zt} {A : Nat → Prop} {l : Launch} {g : Gd} {μ : Mm} (C : Cx z A l (rmk 2 44) cX3_becomeShadow 3 "SetFamilies$Family") (X : Kx z g A) {i j n nw : Nat} (hn : gI μ 0 = nI n) (hn10 : n ≤ 10) (hw : gI μ 1 = nI nw) (hnw : nw ≤ 16) (hi : i < 52) (hj : j < 52) (hs : ∀ e, e < n → 6 ≤ e → 2 ^ (e - 6) ≤ nw) (Rr : Rx z g A none none (mSh μ nw i j n)) : ∀ (n_ : Nat) (k : Nat), n - k < n_ → k ≤ n → G z g.1 A 3 (wd g (mSh μ nw i j k)) 0 0 6 [(2, .int (nI k)), (0, .ref (ad g (fo i))), (1, .ref (ad g (fo j)))] [] := by
  intro n_
  induction n_ with
  | zero => intro k hm_; exact absurd hm_ (Nat.not_lt_zero _)
  | succ n_ ih =>
    intro k hm_ hk
    refine r_iload_n C dX3_becomeShadow_6 0 rfl ?_
    refine r_aload_n C dX3_becomeShadow_7 1 rfl ?_
    refine r_get C X (k := (fo i)) (R := RX3) (T := TX3) (N := 2) (n := 0) (v := .ref (ad g 1)) (fo_lt (by omega)) (WF_fo g _ i) rfl inw3 (by decide) rfl hw_1_62 rfl dX3_becomeShadow_8 ?_
    refine r_get C X (k := 1) (R := RX4) (T := TX4) (N := 2) (n := 0) (v := .int (gI (mSh μ nw i j k) 0)) (by decide) rfl rfl inw4 (by decide) rfl hw_1_47 rfl dX3_becomeShadow_11 ?_
    refine G_top (y := (nI n)) (gI_mSh.trans hn) ?_
    refine r_icmp_ge C 29 dX3_becomeShadow_14 (by decide) (nI_leI (by omega) (by omega)) (fun h14 => ?_) (fun h14 => ?_)
    · have hkn : k = n := by omega
      subst hkn
      exact r_vret C dX3_becomeShadow_29 Rr
    · refine r_aload_n C dX3_becomeShadow_17 1 rfl ?_
      refine r_aload_n C dX3_becomeShadow_18 2 rfl ?_
      refine r_iload_n C dX3_becomeShadow_19 0 rfl ?_
      refine r_callV C X (As := [.ref (ad g (fo j)), .int (nI k)]) (rest := []) (st1 := []) (μ' := (mJL (mSh μ nw i j k) nw i j k)) (k := (fo i)) (T := TX3) miX3_joinLowered mvX3_joinLowered (c_joinLowered l g (mSh μ nw i j k) (i := i) (j := j) (e := k) (nw := nw) (gI_mSh.trans hw) (by omega) (by omega) (by omega) (by omega) (hs k (by omega))) hw_2_160 (fo_lt (by omega)) (WF_fo g _ i) rfl rfl ⟨by decide, by decide, rfl, rfl, by decide, by decide⟩ rfl (Nat.le_of_ble_eq_true rfl) dX3_becomeShadow_20 rfl ?_
      refine r_iinc C (v := (nI (k + 1))) (lv' := [(2, .int (nI (k + 1))), (0, .ref (ad g (fo i))), (1, .ref (ad g (fo j)))]) 2 0 dX3_becomeShadow_23 rfl (inc_N _ 1) (by decide) rfl ?_
      refine r_goto C 6 dX3_becomeShadow_26 (by decide) ?_
      exact ih (k + 1) (by omega) (by omega)
set_option maxHeartbeats 1000000 in
set_option maxRecDepth 100000 in
theorem c_becomeShadow (l : Launch) (g : Gd) (μ : Mm) {i j n nw : Nat} (hn : gI μ 0 = nI n) (hn10 : n ≤ 10) (hw : gI μ 1 = nI nw) (hnw : nw ≤ 16) (hi : i < 52) (hj : j < 52) (hs : ∀ e, e < n → 6 ≤ e → 2 ^ (e - 6) ≤ nw) : Ct l yX3_becomeShadow cX3_becomeShadow 3 none (rmk 2 44) g [.ref (ad g (fo i)), .ref (ad g (fo j))] μ none (mSh μ nw i j n) := by
  refine Ct.of (by decide) (Nat.le_of_ble_eq_true rfl) (fun z A C X Rr => ?_)
  refine r_aload_n C dX3_becomeShadow_0 0 rfl ?_
  refine r_callV C X (As := []) (rest := []) (st1 := []) (μ' := (mClr μ i)) (k := (fo i)) (T := TX3) miX3_clear mvX3_clear (c_clear l g μ (i := i) (by omega)) hw_2_61 (fo_lt (by omega)) (WF_fo g _ i) rfl rfl ⟨by decide, by decide, rfl, rfl, by decide, by decide⟩ rfl (Nat.le_of_ble_eq_true rfl) dX3_becomeShadow_1 rfl ?_
  refine r_iconst C (v := (nI 0)) dX3_becomeShadow_4 rfl ?_
  refine r_istore_n C (lv' := [(2, .int (nI 0)), (0, .ref (ad g (fo i))), (1, .ref (ad g (fo j)))]) 2 dX3_becomeShadow_5 rfl (by decide) rfl ?_
  exact lp_becomeShadow C X hn hn10 hw hnw hi hj hs Rr (n + 1) 0 (by omega) (by omega)
set_option maxHeartbeats 1000000 in
set_option maxRecDepth 100000 in
theorem lp_becomeUpperShadow {z : Zt} {A : Nat → Prop} {l : Launch} {g : Gd} {μ : Mm} (C : Cx z A l (rmk 2 44) cX3_becomeUpperShadow 3 "SetFamilies$Family") (X : Kx z g A) {i j n nw : Nat} (hn : gI μ 0 = nI n) (hn10 : n ≤ 10) (hw : gI μ 1 = nI nw) (hnw : nw ≤ 16) (hi : i < 52) (hj : j < 52) (hs : ∀ e, e < n → 6 ≤ e → 2 ^ (e - 6) ≤ nw) (Rr : Rx z g A none none (mUS μ nw i j n)) : ∀ (n_ : Nat) (k : Nat), n - k < n_ → k ≤ n → G z g.1 A 3 (wd g (mUS μ nw i j k)) 0 0 6 [(2, .int (nI k)), (0, .ref (ad g (fo i))), (1, .ref (ad g (fo j)))] [] := by
  intro n_
  induction n_ with
  | zero => intro k hm_; exact absurd hm_ (Nat.not_lt_zero _)
  | succ n_ ih =>
    intro k hm_ hk
    refine r_iload_n C dX3_becomeUpperShadow_6 0 rfl ?_
    refine r_aload_n C dX3_becomeUpperShadow_7 1 rfl ?_
    refine r_get C X (k := (fo i)) (R := RX3) (T := TX3) (N := 2) (n := 0) (v := .ref (ad g 1)) (fo_lt (by omega)) (WF_fo g _ i) rfl inw3 (by decide) rfl hw_1_62 rfl dX3_becomeUpperShadow_8 ?_
    refine r_get C X (k := 1) (R := RX4) (T := TX4) (N := 2) (n := 0) (v := .int (gI (mUS μ nw i j k) 0)) (by decide) rfl rfl inw4 (by decide) rfl hw_1_47 rfl dX3_becomeUpperShadow_11 ?_
    refine G_top (y := (nI n)) (gI_mUS.trans hn) ?_
    refine r_icmp_ge C 29 dX3_becomeUpperShadow_14 (by decide) (nI_leI (by omega) (by omega)) (fun h14 => ?_) (fun h14 => ?_)
    · have hkn : k = n := by omega
      subst hkn
      exact r_vret C dX3_becomeUpperShadow_29 Rr
    · refine r_aload_n C dX3_becomeUpperShadow_17 1 rfl ?_
      refine r_aload_n C dX3_becomeUpperShadow_18 2 rfl ?_
      refine r_iload_n C dX3_becomeUpperShadow_19 0 rfl ?_
      refine r_callV C X (As := [.ref (ad g (fo j)), .int (nI k)]) (rest := []) (st1 := []) (μ' := (mJR (mUS μ nw i j k) nw i j k)) (k := (fo i)) (T := TX3) miX3_joinRaised mvX3_joinRaised (c_joinRaised l g (mUS μ nw i j k) (i := i) (j := j) (e := k) (nw := nw) (gI_mUS.trans hw) (by omega) (by omega) (by omega) (by omega) (hs k (by omega))) hw_2_68 (fo_lt (by omega)) (WF_fo g _ i) rfl rfl ⟨by decide, by decide, rfl, rfl, by decide, by decide⟩ rfl (Nat.le_of_ble_eq_true rfl) dX3_becomeUpperShadow_20 rfl ?_
      refine r_iinc C (v := (nI (k + 1))) (lv' := [(2, .int (nI (k + 1))), (0, .ref (ad g (fo i))), (1, .ref (ad g (fo j)))]) 2 0 dX3_becomeUpperShadow_23 rfl (inc_N _ 1) (by decide) rfl ?_
      refine r_goto C 6 dX3_becomeUpperShadow_26 (by decide) ?_
      exact ih (k + 1) (by omega) (by omega)
set_option maxHeartbeats 1000000 in
set_option maxRecDepth 100000 in
theorem c_becomeUpperShadow (l : Launch) (g : Gd) (μ : Mm) {i j n nw : Nat} (hn : gI μ 0 = nI n) (hn10 : n ≤ 10) (hw : gI μ 1 = nI nw) (hnw : nw ≤ 16) (hi : i < 52) (hj : j < 52) (hs : ∀ e, e < n → 6 ≤ e → 2 ^ (e - 6) ≤ nw) : Ct l yX3_becomeUpperShadow cX3_becomeUpperShadow 3 none (rmk 2 44) g [.ref (ad g (fo i)), .ref (ad g (fo j))] μ none (mUS μ nw i j n) := by
  refine Ct.of (by decide) (Nat.le_of_ble_eq_true rfl) (fun z A C X Rr => ?_)
  refine r_aload_n C dX3_becomeUpperShadow_0 0 rfl ?_
  refine r_callV C X (As := []) (rest := []) (st1 := []) (μ' := (mClr μ i)) (k := (fo i)) (T := TX3) miX3_clear mvX3_clear (c_clear l g μ (i := i) (by omega)) hw_2_61 (fo_lt (by omega)) (WF_fo g _ i) rfl rfl ⟨by decide, by decide, rfl, rfl, by decide, by decide⟩ rfl (Nat.le_of_ble_eq_true rfl) dX3_becomeUpperShadow_1 rfl ?_
  refine r_iconst C (v := (nI 0)) dX3_becomeUpperShadow_4 rfl ?_
  refine r_istore_n C (lv' := [(2, .int (nI 0)), (0, .ref (ad g (fo i))), (1, .ref (ad g (fo j)))]) 2 dX3_becomeUpperShadow_5 rfl (by decide) rfl ?_
  exact lp_becomeUpperShadow C X hn hn10 hw hnw hi hj hs Rr (n + 1) 0 (by omega) (by omega)
