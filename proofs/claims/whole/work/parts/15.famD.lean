def bcs (x : Nat → Int64) (w : Nat) : Nat := bc (x w)
/-- the m-th code (by its words from k on, f of them), or -1 -/
def atR (x : Nat → Int64) : Nat → Nat → Nat → Int32
  | 0, _, _ => -1
  | f + 1, k, m => if m < bc (x k) then nI (k * 64 + lowb (dropb (x k) m)) else atR x f (k + 1) (m - bc (x k))
theorem atR_in (x : Nat → Int64) : ∀ (f k d t : Nat), d < f → t < bc (x (k + d)) → atR x f k (sm (fun w => bc (x (k + w))) d + t) = nI ((k + d) * 64 + lowb (dropb (x (k + d)) t))
  | 0, _, _, _, h, _ => absurd h (by omega)
  | f + 1, k, 0, t, _, ht => by simp only [sm, Nat.zero_add, Nat.add_zero] at ht ⊢; rw [atR, if_pos ht]
  | f + 1, k, d + 1, t, h, ht => by
    have e : sm (fun w => bc (x (k + w))) (d + 1) = bc (x k) + sm (fun w => bc (x (k + 1 + w))) d := by
      clear h ht
      induction d with
      | zero => simp [sm]
      | succ d ih => rw [sm, ih]; simp only [sm]; rw [show k + (d + 1) = k + 1 + d by omega]; omega
    rw [atR, if_neg (by rw [e]; omega), show sm (fun w => bc (x (k + w))) (d + 1) + t - bc (x k) = sm (fun w => bc (x (k + 1 + w))) d + t by rw [e]; omega, atR_in x f (k + 1) d t (by omega) (by rw [show k + 1 + d = k + (d + 1) by omega]; exact ht), show k + 1 + d = k + (d + 1) by omega]
theorem atR_0 (x : Nat → Int64) {nw k t : Nat} (hk : k < nw) (ht : t < bc (x k)) : atR x nw 0 (sm (fun w => bc (x w)) k + t) = nI (k * 64 + lowb (dropb (x k) t)) := by
  have h := atR_in x nw 0 k t hk (by rw [Nat.zero_add]; exact ht)
  simp only [Nat.zero_add] at h
  exact h
theorem rowU_si (k : Nat) (f x : Nat → Int32) {v : Int32} (hv : v = f k) : upd (rowU k f x) k v = rowU (k + 1) f x := by
  subst hv; funext w; unfold upd rowU
  by_cases h : w = k
  · subst h; simp
  · by_cases h2 : w < k
    · simp [h, h2, show w < k + 1 by omega]
    · simp [h, h2, show ¬ w < k + 1 by omega]
set_option maxHeartbeats 1000000 in
set_option maxRecDepth 100000 in
theorem lp_atIndex {z : Zt} {A : Nat → Prop} {l : Launch} {g : Gd} {μ : Mm} (C : Cx z A l (rmk 3 67) cX3_atIndex 5 "SetFamilies$Family") (X : Kx z g A) {i nw m : Nat} (hw : gI μ 1 = nI nw) (hnw : nw ≤ 16) (hi : i < 52) : ∀ (n_ : Nat) (k d : Nat), nw - k < n_ → k ≤ nw → d < 2 ^ 31 → Rx z g A (some .int) (some (.int (atR (gJ μ i) (nw - k) k d))) μ → G z g.1 A 5 (wd g μ) 0 0 4 [(3, .int (nI k)), (2, .int (nI d)), (0, .ref (ad g (fo i))), (1, .int (nI m))] [] := by
  intro n_
  induction n_ with
  | zero => intro k d hm_; exact absurd hm_ (Nat.not_lt_zero _)
  | succ n_ ih =>
    intro k d hm_ hk hd Rr
    refine r_iload_n C dX3_atIndex_4 0 rfl ?_
    refine r_aload_n C dX3_atIndex_5 2 rfl ?_
    refine r_get C X (k := (fo i)) (R := RX3) (T := TX3) (N := 2) (n := 0) (v := .ref (ad g 1)) (fo_lt (by omega)) (WF_fo g _ i) rfl inw3 (by decide) rfl hw_1_62 rfl dX3_atIndex_6 ?_
    refine r_get C X (k := 1) (R := RX4) (T := TX4) (N := 2) (n := 1) (v := .int (gI μ 1)) (by decide) rfl rfl inw4 (by decide) rfl hw_1_49 rfl dX3_atIndex_9 ?_
    refine G_top (y := (nI nw)) hw ?_
    refine r_icmp_ge C 59 dX3_atIndex_12 (by decide) (nI_leI (by omega) (by omega)) (fun h12 => ?_) (fun h12 => ?_)
    · rw [show nw - k = 0 by omega, atR] at Rr
      refine r_iconst C (v := (-1)) dX3_atIndex_59 rfl ?_
      exact r_iret C dX3_atIndex_60 Rr
    · have hbc := bc_le (gJ μ i k)
      rw [show nw - k = (nw - (k + 1)) + 1 by omega, atR] at Rr
      refine r_aload_n C dX3_atIndex_15 2 rfl ?_
      refine r_get C X (k := (fo i)) (R := RX3) (T := TX3) (N := 2) (n := 1) (v := .ref (ad g (fw i))) (fo_lt (by omega)) (WF_fo g _ i) rfl inw3 (by decide) rfl hw_1_63 rfl dX3_atIndex_16 ?_
      refine r_iload_n C dX3_atIndex_19 0 rfl ?_
      refine r_lald C X (k := (fw i)) (v := (gJ μ i k)) (fw_lt (by omega)) (WF_fw g _ i) (by omega) (by decide) rfl dX3_atIndex_20 ?_
      refine r_callP C (As := [.long (gJ μ i k)]) (rest := []) (st1 := [.int (nI (bc (gJ μ i k)))]) miJ13_bitCount_95d88 msJ13_bitCount_95d88 (c_bitCountL l (gJ μ i k)) hw_2_26 rfl ⟨by decide, by decide, rfl, rfl, by decide, by decide⟩ rfl (Nat.le_of_ble_eq_true rfl) dX3_atIndex_21 rfl ?_
      refine r_istore C (lv' := [(4, .int (nI (bc (gJ μ i k)))), (3, .int (nI k)), (2, .int (nI d)), (0, .ref (ad g (fo i))), (1, .int (nI m))]) 4 dX3_atIndex_24 (by decide) rfl ?_
      refine r_iload_n C dX3_atIndex_26 2 rfl ?_
      refine r_iload C dX3_atIndex_27 0 rfl ?_
      refine r_icmp_ge C 48 dX3_atIndex_29 (by decide) (nI_leI (by omega) (by omega)) (fun h29 => ?_) (fun h29 => ?_)
      · rw [if_neg (by omega)] at Rr
        refine r_iload_n C dX3_atIndex_48 2 rfl ?_
        refine r_iload C dX3_atIndex_49 0 rfl ?_
        refine r_isub C (v := (nI (d - (bc (gJ μ i k))))) dX3_atIndex_51 (pk_sub (by omega)) ?_
        refine r_istore_n C (lv' := [(2, .int (nI (d - (bc (gJ μ i k))))), (4, .int (nI (bc (gJ μ i k)))), (3, .int (nI k)), (0, .ref (ad g (fo i))), (1, .int (nI m))]) 2 dX3_atIndex_52 rfl (by decide) rfl ?_
        refine r_iinc C (v := (nI (k + 1))) (lv' := [(3, .int (nI (k + 1))), (2, .int (nI (d - (bc (gJ μ i k))))), (4, .int (nI (bc (gJ μ i k)))), (0, .ref (ad g (fo i))), (1, .int (nI m))]) 3 2 dX3_atIndex_53 rfl (inc_N _ 1) (by decide) rfl ?_
        refine r_goto C 4 dX3_atIndex_56 (by decide) ?_
        refine G_sub (lv' := [(3, .int (nI (k + 1))), (2, .int (nI (d - (bc (gJ μ i k))))), (0, .ref (ad g (fo i))), (1, .int (nI m))]) [0, 1, 3, 4] rfl ?_
        exact ih (k + 1) (d - bc (gJ μ i k)) (by omega) (by omega) (by omega) Rr
      · rw [if_pos (by omega)] at Rr
        refine r_iload_n C dX3_atIndex_32 1 rfl ?_
        refine r_bipush C (v := (nI 64)) dX3_atIndex_33 (by decide) ?_
        refine r_imul C (v := (nI (k * 64))) dX3_atIndex_35 (pk_mul _ _) ?_
        refine r_aload_n C dX3_atIndex_36 3 rfl ?_
        refine r_get C X (k := (fo i)) (R := RX3) (T := TX3) (N := 2) (n := 1) (v := .ref (ad g (fw i))) (fo_lt (by omega)) (WF_fo g _ i) rfl inw3 (by decide) rfl hw_1_63 rfl dX3_atIndex_37 ?_
        refine r_iload_n C dX3_atIndex_40 1 rfl ?_
        refine r_lald C X (k := (fw i)) (v := (gJ μ i k)) (fw_lt (by omega)) (WF_fw g _ i) (by omega) (by decide) rfl dX3_atIndex_41 ?_
        refine r_iload_n C dX3_atIndex_42 2 rfl ?_
        refine r_callP C (As := [.long (gJ μ i k), .int (nI d)]) (rest := [.int (nI (k * 64))]) (st1 := [.int (nI (lowb (dropb (gJ μ i k) d))), .int (nI (k * 64))]) miX3_bitAt msX3_bitAt (c_bitAt l (gJ μ i k) (m := d) (by omega)) hw_2_113 rfl ⟨by decide, by decide, rfl, rfl, by decide, by decide⟩ rfl (Nat.le_of_ble_eq_true rfl) dX3_atIndex_43 rfl ?_
        refine r_iadd C (v := (nI (k * 64 + (lowb (dropb (gJ μ i k) d))))) dX3_atIndex_46 (nI_add _ _) ?_
        exact r_iret C dX3_atIndex_47 Rr
set_option maxHeartbeats 1000000 in
set_option maxRecDepth 100000 in
theorem c_atIndex (l : Launch) (g : Gd) (μ : Mm) {i nw m : Nat} (hw : gI μ 1 = nI nw) (hnw : nw ≤ 16) (hi : i < 52) (hm : m < 2 ^ 31) : Ct l yX3_atIndex cX3_atIndex 5 (some .int) (rmk 3 67) g [.ref (ad g (fo i)), .int (nI m)] μ (some (.int (atR (gJ μ i) nw 0 m))) μ := by
  refine Ct.of (by decide) (Nat.le_of_ble_eq_true rfl) (fun z A C X Rr => ?_)
  refine r_iload_n C dX3_atIndex_0 1 rfl ?_
  refine r_istore_n C (lv' := [(2, .int (nI m)), (0, .ref (ad g (fo i))), (1, .int (nI m))]) 2 dX3_atIndex_1 rfl (by decide) rfl ?_
  refine r_iconst C (v := (nI 0)) dX3_atIndex_2 rfl ?_
  refine r_istore_n C (lv' := [(3, .int (nI 0)), (2, .int (nI m)), (0, .ref (ad g (fo i))), (1, .int (nI m))]) 3 dX3_atIndex_3 rfl (by decide) rfl ?_
  exact lp_atIndex C X hw hnw hi (nw + 1) 0 m (by omega) (by omega) hm Rr
theorem dec_N {a t : Nat} (h : t < a) : nI (a - t) + Int32.ofInt (-1) = nI (a - (t + 1)) := by
  rw [show a - t = (a - (t + 1)) + 1 by omega]
  exact pk_m1 _
set_option maxHeartbeats 1000000 in
set_option maxRecDepth 100000 in
theorem lp_listInto_18A {z : Zt} {A : Nat → Prop} {l : Launch} {g : Gd} {μ : Mm} (C : Cx z A l (rmk 2 42) cX3_listInto 7 "SetFamilies$Family") (X : Kx z g A) {i nw k : Nat} (hw : gI μ 1 = nI nw) (hnw : nw ≤ 16) (hi : i < 52) (hk : k < nw) (hsm : sm (fun w => bc (gJ μ i w)) k ≤ k * 64) (KK : G z g.1 A 7 (wd g (sA μ 4 (rowU (sm (fun w => bc (gJ μ i w)) (k + 1)) (fun p => atR (gJ μ i) nw 0 p) (gA μ 4)))) 0 0 72 [(3, .int (nI k)), (2, .int (nI (sm (fun w => bc (gJ μ i w)) (k + 1)))), (0, .ref (ad g (fo i))), (1, .ref (ad g 18))] []) : ∀ (n_ : Nat) (t : Nat), bc (gJ μ i k) - t < n_ → t ≤ bc (gJ μ i k) → G z g.1 A 7 (wd g (sA μ 4 (rowU (sm (fun w => bc (gJ μ i w)) k + t) (fun p => atR (gJ μ i) nw 0 p) (gA μ 4)))) 0 0 30 [(6, .int (nI (bc (gJ μ i k) - t))), (4, .long (dropb (gJ μ i k) t)), (3, .int (nI k)), (2, .int (nI (sm (fun w => bc (gJ μ i w)) k + t))), (0, .ref (ad g (fo i))), (1, .ref (ad g 18))] [] := by
  intro n_
  induction n_ with
  | zero => intro t hm_; exact absurd hm_ (Nat.not_lt_zero _)
  | succ n_ ih =>
    intro t hm_ ht
    have hbc := bc_le (gJ μ i k)
    refine r_iload C dX3_listInto_30 0 rfl ?_
    refine r_if_le C 72 dX3_listInto_32 (by decide) (zI_le (by omega)) (fun h32 => ?_) (fun h32 => ?_)
    · have ht2 : t = bc (gJ μ i k) := by omega
      subst ht2
      refine G_sub (lv' := [(3, .int (nI k)), (2, .int (nI (sm (fun w => bc (gJ μ i w)) k + (bc (gJ μ i k))))), (0, .ref (ad g (fo i))), (1, .ref (ad g 18))]) [2, 3, 4, 5] rfl ?_
      exact KK
    · refine r_iload_n C dX3_listInto_35 3 rfl ?_
      refine r_aload_n C dX3_listInto_36 5 rfl ?_
      refine r_alen C X (k := 18) (t := 1) (n := 1024) (by decide) rfl rfl rfl dX3_listInto_37 ?_
      refine r_icmp_ge C 72 dX3_listInto_38 (by decide) (nI_leI (by omega) (by omega)) (fun h38 => ?_) (fun h38 => ?_)
      · exact absurd h38 (by omega)
      · refine r_aload_n C dX3_listInto_41 5 rfl ?_
        refine r_iload_n C dX3_listInto_42 3 rfl ?_
        refine r_iload_n C dX3_listInto_43 2 rfl ?_
        refine r_bipush C (v := (nI 64)) dX3_listInto_44 (by decide) ?_
        refine r_imul C (v := (nI (k * 64))) dX3_listInto_46 (pk_mul _ _) ?_
        refine r_lload C dX3_listInto_47 1 rfl ?_
        refine r_callP C (As := [.long (dropb (gJ μ i k) t)]) (rest := [.int (nI (k * 64)), .int (nI (sm (fun w => bc (gJ μ i w)) k + t)), .ref (ad g 18)]) (st1 := [.int (nI (lowb (dropb (gJ μ i k) t))), .int (nI (k * 64)), .int (nI (sm (fun w => bc (gJ μ i w)) k + t)), .ref (ad g 18)]) miX3_lowestBit msX3_lowestBit (c_lowestBit l (dropb (gJ μ i k) t)) hw_2_32 rfl ⟨by decide, by decide, rfl, rfl, by decide, by decide⟩ rfl (Nat.le_of_ble_eq_true rfl) dX3_listInto_49 rfl ?_
        refine r_iadd C (v := (nI (k * 64 + (lowb (dropb (gJ μ i k) t))))) dX3_listInto_52 (nI_add _ _) ?_
        refine r_iast C X (k := 18) (f' := rowU (sm (fun w => bc (gJ μ i w)) k + t + 1) (fun p => atR (gJ μ i) nw 0 p) (gA μ 4)) (μ' := (sA (sA μ 4 (rowU (sm (fun w => bc (gJ μ i w)) k + t) (fun p => atR (gJ μ i) nw 0 p) (gA μ 4))) 4 (rowU (sm (fun w => bc (gJ μ i w)) k + t + 1) (fun p => atR (gJ μ i) nw 0 p) (gA μ 4)))) (by decide) rfl (by omega) (by decide) (by rw [gA_s]; exact rowU_si _ _ _ (atR_0 _ hk (by omega)).symm) dX3_listInto_53 (congrArg (iR g 1 1024) (gA_s _ _ _)) (WF_sA4_ne g _ _) ?_
        refine G_mem (μ' := (sA μ 4 (rowU (sm (fun w => bc (gJ μ i w)) k + t + 1) (fun p => atR (gJ μ i) nw 0 p) (gA μ 4)))) (sA_u _ _ _ _) ?_
        refine r_iinc C (v := (nI (sm (fun w => bc (gJ μ i w)) k + t + 1))) (lv' := [(2, .int (nI (sm (fun w => bc (gJ μ i w)) k + t + 1))), (6, .int (nI (bc (gJ μ i k) - t))), (4, .long (dropb (gJ μ i k) t)), (3, .int (nI k)), (0, .ref (ad g (fo i))), (1, .ref (ad g 18))]) 2 3 dX3_listInto_54 rfl (inc_N _ 1) (by decide) rfl ?_
        refine r_lload C dX3_listInto_57 2 rfl ?_
        refine r_lload C dX3_listInto_59 2 rfl ?_
        refine r_lconst C (v := (lN 1)) dX3_listInto_61 rfl ?_
        refine r_lsub C (v := ((dropb (gJ μ i k) t) - (lN 1))) dX3_listInto_62 rfl ?_
        refine r_land C (v := ((dropb (gJ μ i k) t) &&& ((dropb (gJ μ i k) t) - (lN 1)))) dX3_listInto_63 rfl ?_
        refine G_topl (y := (dropb (gJ μ i k) (t + 1))) rfl ?_
        refine r_lstore C (lv' := [(4, .long (dropb (gJ μ i k) (t + 1))), (2, .int (nI (sm (fun w => bc (gJ μ i w)) k + t + 1))), (6, .int (nI (bc (gJ μ i k) - t))), (3, .int (nI k)), (0, .ref (ad g (fo i))), (1, .ref (ad g 18))]) 4 dX3_listInto_64 (by decide) rfl ?_
        refine r_iinc C (v := (nI (bc (gJ μ i k) - (t + 1)))) (lv' := [(6, .int (nI (bc (gJ μ i k) - (t + 1)))), (4, .long (dropb (gJ μ i k) (t + 1))), (2, .int (nI (sm (fun w => bc (gJ μ i w)) k + t + 1))), (3, .int (nI k)), (0, .ref (ad g (fo i))), (1, .ref (ad g 18))]) 6 2 dX3_listInto_66 rfl (dec_N (by omega)) (by decide) rfl ?_
        refine r_goto C 30 dX3_listInto_69 (by decide) ?_
        refine G_sub (lv' := [(6, .int (nI (bc (gJ μ i k) - (t + 1)))), (4, .long (dropb (gJ μ i k) (t + 1))), (3, .int (nI k)), (2, .int (nI (sm (fun w => bc (gJ μ i w)) k + t + 1))), (0, .ref (ad g (fo i))), (1, .ref (ad g 18))]) [0, 1, 3, 2, 4, 5] rfl ?_
        exact ih (t + 1) (by omega) (by omega)
set_option maxHeartbeats 1000000 in
set_option maxRecDepth 100000 in
theorem lp_listInto_18 {z : Zt} {A : Nat → Prop} {l : Launch} {g : Gd} {μ : Mm} (C : Cx z A l (rmk 2 42) cX3_listInto 7 "SetFamilies$Family") (X : Kx z g A) {i nw : Nat} (hw : gI μ 1 = nI nw) (hnw : nw ≤ 16) (hi : i < 52) (Rr : Rx z g A (some .int) (some (.int (nI (sm (fun w => bc (gJ μ i w)) nw)))) (sA μ 4 (rowU (sm (fun w => bc (gJ μ i w)) nw) (fun p => atR (gJ μ i) nw 0 p) (gA μ 4)))) : ∀ (n_ : Nat) (k : Nat), nw - k < n_ → k ≤ nw → G z g.1 A 7 (wd g (sA μ 4 (rowU (sm (fun w => bc (gJ μ i w)) k) (fun p => atR (gJ μ i) nw 0 p) (gA μ 4)))) 0 0 4 [(3, .int (nI k)), (2, .int (nI (sm (fun w => bc (gJ μ i w)) k))), (0, .ref (ad g (fo i))), (1, .ref (ad g 18))] [] := by
  intro n_
  induction n_ with
  | zero => intro k hm_; exact absurd hm_ (Nat.not_lt_zero _)
  | succ n_ ih =>
    intro k hm_ hk
    refine r_iload_n C dX3_listInto_4 0 rfl ?_
    refine r_aload_n C dX3_listInto_5 2 rfl ?_
    refine r_get C X (k := (fo i)) (R := RX3) (T := TX3) (N := 2) (n := 0) (v := .ref (ad g 1)) (fo_lt (by omega)) (WF_fo g _ i) rfl inw3 (by decide) rfl hw_1_62 rfl dX3_listInto_6 ?_
    refine r_get C X (k := 1) (R := RX4) (T := TX4) (N := 2) (n := 1) (v := .int (gI (sA μ 4 (rowU (sm (fun w => bc (gJ μ i w)) k) (fun p => atR (gJ μ i) nw 0 p) (gA μ 4))) 1)) (by decide) rfl rfl inw4 (by decide) rfl hw_1_49 rfl dX3_listInto_9 ?_
    refine G_top (y := (nI nw)) ((gI_A _ _ _ _).trans hw) ?_
    refine r_icmp_ge C 78 dX3_listInto_12 (by decide) (nI_leI (by omega) (by omega)) (fun h12 => ?_) (fun h12 => ?_)
    · have hkn : k = nw := by omega
      subst hkn
      refine r_iload_n C dX3_listInto_78 1 rfl ?_
      exact r_iret C dX3_listInto_79 Rr
    · have hbc := bc_le (gJ μ i k)
      have hsm : sm (fun w => bc (gJ μ i w)) k ≤ k * 64 := sm_le (fun w => bc_le _) k
      refine r_aload_n C dX3_listInto_15 2 rfl ?_
      refine r_get C X (k := (fo i)) (R := RX3) (T := TX3) (N := 2) (n := 1) (v := .ref (ad g (fw i))) (fo_lt (by omega)) (WF_fo g _ i) rfl inw3 (by decide) rfl hw_1_63 rfl dX3_listInto_16 ?_
      refine r_iload_n C dX3_listInto_19 0 rfl ?_
      refine r_lald C X (k := (fw i)) (v := (gJ μ i k)) (fw_lt (by omega)) (WF_fw g _ i) (by omega) (by decide) rfl dX3_listInto_20 ?_
      refine r_lstore C (lv' := [(4, .long (gJ μ i k)), (3, .int (nI k)), (2, .int (nI (sm (fun w => bc (gJ μ i w)) k))), (0, .ref (ad g (fo i))), (1, .ref (ad g 18))]) 4 dX3_listInto_21 (by decide) rfl ?_
      refine r_lload C dX3_listInto_23 0 rfl ?_
      refine r_callP C (As := [.long (gJ μ i k)]) (rest := []) (st1 := [.int (nI (bc (gJ μ i k)))]) miJ13_bitCount_95d88 msJ13_bitCount_95d88 (c_bitCountL l (gJ μ i k)) hw_2_26 rfl ⟨by decide, by decide, rfl, rfl, by decide, by decide⟩ rfl (Nat.le_of_ble_eq_true rfl) dX3_listInto_25 rfl ?_
      refine r_istore C (lv' := [(6, .int (nI (bc (gJ μ i k)))), (4, .long (gJ μ i k)), (3, .int (nI k)), (2, .int (nI (sm (fun w => bc (gJ μ i w)) k))), (0, .ref (ad g (fo i))), (1, .ref (ad g 18))]) 6 dX3_listInto_28 (by decide) rfl ?_
      refine lp_listInto_18A C X hw hnw hi (k := k) (by omega) hsm ?_ 65 0 (by omega) (by omega)
      refine r_iinc C (v := (nI (k + 1))) (lv' := [(3, .int (nI (k + 1))), (2, .int (nI (sm (fun w => bc (gJ μ i w)) (k + 1)))), (0, .ref (ad g (fo i))), (1, .ref (ad g 18))]) 3 0 dX3_listInto_72 rfl (inc_N _ 1) (by decide) rfl ?_
      refine r_goto C 4 dX3_listInto_75 (by decide) ?_
      exact ih (k + 1) (by omega) (by omega)
set_option maxHeartbeats 1000000 in
set_option maxRecDepth 100000 in
theorem c_listInto_18 (l : Launch) (g : Gd) (μ : Mm) {i nw : Nat} (hw : gI μ 1 = nI nw) (hnw : nw ≤ 16) (hi : i < 52) : Ct l yX3_listInto cX3_listInto 7 (some .int) (rmk 2 42) g [.ref (ad g (fo i)), .ref (ad g 18)] μ (some (.int (nI (sm (fun w => bc (gJ μ i w)) nw)))) (sA μ 4 (rowU (sm (fun w => bc (gJ μ i w)) nw) (fun p => atR (gJ μ i) nw 0 p) (gA μ 4))) := by
  refine Ct.of (by decide) (Nat.le_of_ble_eq_true rfl) (fun z A C X Rr => ?_)
  refine r_iconst C (v := (nI 0)) dX3_listInto_0 rfl ?_
  refine r_istore_n C (lv' := [(2, .int (nI 0)), (0, .ref (ad g (fo i))), (1, .ref (ad g 18))]) 2 dX3_listInto_1 rfl (by decide) rfl ?_
  refine r_iconst C (v := (nI 0)) dX3_listInto_2 rfl ?_
  refine r_istore_n C (lv' := [(3, .int (nI 0)), (2, .int (nI 0)), (0, .ref (ad g (fo i))), (1, .ref (ad g 18))]) 3 dX3_listInto_3 rfl (by decide) rfl ?_
  refine G_mem (show μ = (sA μ 4 (rowU (sm (fun w => bc (gJ μ i w)) 0) (fun p => atR (gJ μ i) nw 0 p) (gA μ 4))) by rw [show sm (fun w => bc (gJ μ i w)) 0 = 0 from rfl, rowU_0, sA_i]) ?_
  exact lp_listInto_18 C X hw hnw hi Rr (nw + 1) 0 (by omega) (by omega)
set_option maxHeartbeats 1000000 in
set_option maxRecDepth 100000 in
theorem lp_listInto_14A {z : Zt} {A : Nat → Prop} {l : Launch} {g : Gd} {μ : Mm} (C : Cx z A l (rmk 2 42) cX3_listInto 7 "SetFamilies$Family") (X : Kx z g A) {i nw k : Nat} (hw : gI μ 1 = nI nw) (hnw : nw ≤ 16) (hi : i < 52) (hk : k < nw) (hsm : sm (fun w => bc (gJ μ i w)) k ≤ k * 64) (KK : G z g.1 A 7 (wd g (sA μ 2 (rowU (sm (fun w => bc (gJ μ i w)) (k + 1)) (fun p => atR (gJ μ i) nw 0 p) (gA μ 2)))) 0 0 72 [(3, .int (nI k)), (2, .int (nI (sm (fun w => bc (gJ μ i w)) (k + 1)))), (0, .ref (ad g (fo i))), (1, .ref (ad g 14))] []) : ∀ (n_ : Nat) (t : Nat), bc (gJ μ i k) - t < n_ → t ≤ bc (gJ μ i k) → G z g.1 A 7 (wd g (sA μ 2 (rowU (sm (fun w => bc (gJ μ i w)) k + t) (fun p => atR (gJ μ i) nw 0 p) (gA μ 2)))) 0 0 30 [(6, .int (nI (bc (gJ μ i k) - t))), (4, .long (dropb (gJ μ i k) t)), (3, .int (nI k)), (2, .int (nI (sm (fun w => bc (gJ μ i w)) k + t))), (0, .ref (ad g (fo i))), (1, .ref (ad g 14))] [] := by
  intro n_
  induction n_ with
  | zero => intro t hm_; exact absurd hm_ (Nat.not_lt_zero _)
  | succ n_ ih =>
    intro t hm_ ht
    have hbc := bc_le (gJ μ i k)
    refine r_iload C dX3_listInto_30 0 rfl ?_
    refine r_if_le C 72 dX3_listInto_32 (by decide) (zI_le (by omega)) (fun h32 => ?_) (fun h32 => ?_)
    · have ht2 : t = bc (gJ μ i k) := by omega
      subst ht2
      refine G_sub (lv' := [(3, .int (nI k)), (2, .int (nI (sm (fun w => bc (gJ μ i w)) k + (bc (gJ μ i k))))), (0, .ref (ad g (fo i))), (1, .ref (ad g 14))]) [2, 3, 4, 5] rfl ?_
      exact KK
    · refine r_iload_n C dX3_listInto_35 3 rfl ?_
      refine r_aload_n C dX3_listInto_36 5 rfl ?_
      refine r_alen C X (k := 14) (t := 1) (n := 1024) (by decide) rfl rfl rfl dX3_listInto_37 ?_
      refine r_icmp_ge C 72 dX3_listInto_38 (by decide) (nI_leI (by omega) (by omega)) (fun h38 => ?_) (fun h38 => ?_)
      · exact absurd h38 (by omega)
      · refine r_aload_n C dX3_listInto_41 5 rfl ?_
        refine r_iload_n C dX3_listInto_42 3 rfl ?_
        refine r_iload_n C dX3_listInto_43 2 rfl ?_
        refine r_bipush C (v := (nI 64)) dX3_listInto_44 (by decide) ?_
        refine r_imul C (v := (nI (k * 64))) dX3_listInto_46 (pk_mul _ _) ?_
        refine r_lload C dX3_listInto_47 1 rfl ?_
        refine r_callP C (As := [.long (dropb (gJ μ i k) t)]) (rest := [.int (nI (k * 64)), .int (nI (sm (fun w => bc (gJ μ i w)) k + t)), .ref (ad g 14)]) (st1 := [.int (nI (lowb (dropb (gJ μ i k) t))), .int (nI (k * 64)), .int (nI (sm (fun w => bc (gJ μ i w)) k + t)), .ref (ad g 14)]) miX3_lowestBit msX3_lowestBit (c_lowestBit l (dropb (gJ μ i k) t)) hw_2_32 rfl ⟨by decide, by decide, rfl, rfl, by decide, by decide⟩ rfl (Nat.le_of_ble_eq_true rfl) dX3_listInto_49 rfl ?_
        refine r_iadd C (v := (nI (k * 64 + (lowb (dropb (gJ μ i k) t))))) dX3_listInto_52 (nI_add _ _) ?_
        refine r_iast C X (k := 14) (f' := rowU (sm (fun w => bc (gJ μ i w)) k + t + 1) (fun p => atR (gJ μ i) nw 0 p) (gA μ 2)) (μ' := (sA (sA μ 2 (rowU (sm (fun w => bc (gJ μ i w)) k + t) (fun p => atR (gJ μ i) nw 0 p) (gA μ 2))) 2 (rowU (sm (fun w => bc (gJ μ i w)) k + t + 1) (fun p => atR (gJ μ i) nw 0 p) (gA μ 2)))) (by decide) rfl (by omega) (by decide) (by rw [gA_s]; exact rowU_si _ _ _ (atR_0 _ hk (by omega)).symm) dX3_listInto_53 (congrArg (iR g 1 1024) (gA_s _ _ _)) (WF_sA2_ne g _ _) ?_
        refine G_mem (μ' := (sA μ 2 (rowU (sm (fun w => bc (gJ μ i w)) k + t + 1) (fun p => atR (gJ μ i) nw 0 p) (gA μ 2)))) (sA_u _ _ _ _) ?_
        refine r_iinc C (v := (nI (sm (fun w => bc (gJ μ i w)) k + t + 1))) (lv' := [(2, .int (nI (sm (fun w => bc (gJ μ i w)) k + t + 1))), (6, .int (nI (bc (gJ μ i k) - t))), (4, .long (dropb (gJ μ i k) t)), (3, .int (nI k)), (0, .ref (ad g (fo i))), (1, .ref (ad g 14))]) 2 3 dX3_listInto_54 rfl (inc_N _ 1) (by decide) rfl ?_
        refine r_lload C dX3_listInto_57 2 rfl ?_
        refine r_lload C dX3_listInto_59 2 rfl ?_
        refine r_lconst C (v := (lN 1)) dX3_listInto_61 rfl ?_
        refine r_lsub C (v := ((dropb (gJ μ i k) t) - (lN 1))) dX3_listInto_62 rfl ?_
        refine r_land C (v := ((dropb (gJ μ i k) t) &&& ((dropb (gJ μ i k) t) - (lN 1)))) dX3_listInto_63 rfl ?_
        refine G_topl (y := (dropb (gJ μ i k) (t + 1))) rfl ?_
        refine r_lstore C (lv' := [(4, .long (dropb (gJ μ i k) (t + 1))), (2, .int (nI (sm (fun w => bc (gJ μ i w)) k + t + 1))), (6, .int (nI (bc (gJ μ i k) - t))), (3, .int (nI k)), (0, .ref (ad g (fo i))), (1, .ref (ad g 14))]) 4 dX3_listInto_64 (by decide) rfl ?_
        refine r_iinc C (v := (nI (bc (gJ μ i k) - (t + 1)))) (lv' := [(6, .int (nI (bc (gJ μ i k) - (t + 1)))), (4, .long (dropb (gJ μ i k) (t + 1))), (2, .int (nI (sm (fun w => bc (gJ μ i w)) k + t + 1))), (3, .int (nI k)), (0, .ref (ad g (fo i))), (1, .ref (ad g 14))]) 6 2 dX3_listInto_66 rfl (dec_N (by omega)) (by decide) rfl ?_
        refine r_goto C 30 dX3_listInto_69 (by decide) ?_
        refine G_sub (lv' := [(6, .int (nI (bc (gJ μ i k) - (t + 1)))), (4, .long (dropb (gJ μ i k) (t + 1))), (3, .int (nI k)), (2, .int (nI (sm (fun w => bc (gJ μ i w)) k + t + 1))), (0, .ref (ad g (fo i))), (1, .ref (ad g 14))]) [0, 1, 3, 2, 4, 5] rfl ?_
        exact ih (t + 1) (by omega) (by omega)
set_option maxHeartbeats 1000000 in
set_option maxRecDepth 100000 in
theorem lp_listInto_14 {z : Zt} {A : Nat → Prop} {l : Launch} {g : Gd} {μ : Mm} (C : Cx z A l (rmk 2 42) cX3_listInto 7 "SetFamilies$Family") (X : Kx z g A) {i nw : Nat} (hw : gI μ 1 = nI nw) (hnw : nw ≤ 16) (hi : i < 52) (Rr : Rx z g A (some .int) (some (.int (nI (sm (fun w => bc (gJ μ i w)) nw)))) (sA μ 2 (rowU (sm (fun w => bc (gJ μ i w)) nw) (fun p => atR (gJ μ i) nw 0 p) (gA μ 2)))) : ∀ (n_ : Nat) (k : Nat), nw - k < n_ → k ≤ nw → G z g.1 A 7 (wd g (sA μ 2 (rowU (sm (fun w => bc (gJ μ i w)) k) (fun p => atR (gJ μ i) nw 0 p) (gA μ 2)))) 0 0 4 [(3, .int (nI k)), (2, .int (nI (sm (fun w => bc (gJ μ i w)) k))), (0, .ref (ad g (fo i))), (1, .ref (ad g 14))] [] := by
  intro n_
  induction n_ with
  | zero => intro k hm_; exact absurd hm_ (Nat.not_lt_zero _)
  | succ n_ ih =>
    intro k hm_ hk
    refine r_iload_n C dX3_listInto_4 0 rfl ?_
    refine r_aload_n C dX3_listInto_5 2 rfl ?_
    refine r_get C X (k := (fo i)) (R := RX3) (T := TX3) (N := 2) (n := 0) (v := .ref (ad g 1)) (fo_lt (by omega)) (WF_fo g _ i) rfl inw3 (by decide) rfl hw_1_62 rfl dX3_listInto_6 ?_
    refine r_get C X (k := 1) (R := RX4) (T := TX4) (N := 2) (n := 1) (v := .int (gI (sA μ 2 (rowU (sm (fun w => bc (gJ μ i w)) k) (fun p => atR (gJ μ i) nw 0 p) (gA μ 2))) 1)) (by decide) rfl rfl inw4 (by decide) rfl hw_1_49 rfl dX3_listInto_9 ?_
    refine G_top (y := (nI nw)) ((gI_A _ _ _ _).trans hw) ?_
    refine r_icmp_ge C 78 dX3_listInto_12 (by decide) (nI_leI (by omega) (by omega)) (fun h12 => ?_) (fun h12 => ?_)
    · have hkn : k = nw := by omega
      subst hkn
      refine r_iload_n C dX3_listInto_78 1 rfl ?_
      exact r_iret C dX3_listInto_79 Rr
    · have hbc := bc_le (gJ μ i k)
      have hsm : sm (fun w => bc (gJ μ i w)) k ≤ k * 64 := sm_le (fun w => bc_le _) k
      refine r_aload_n C dX3_listInto_15 2 rfl ?_
      refine r_get C X (k := (fo i)) (R := RX3) (T := TX3) (N := 2) (n := 1) (v := .ref (ad g (fw i))) (fo_lt (by omega)) (WF_fo g _ i) rfl inw3 (by decide) rfl hw_1_63 rfl dX3_listInto_16 ?_
      refine r_iload_n C dX3_listInto_19 0 rfl ?_
      refine r_lald C X (k := (fw i)) (v := (gJ μ i k)) (fw_lt (by omega)) (WF_fw g _ i) (by omega) (by decide) rfl dX3_listInto_20 ?_
      refine r_lstore C (lv' := [(4, .long (gJ μ i k)), (3, .int (nI k)), (2, .int (nI (sm (fun w => bc (gJ μ i w)) k))), (0, .ref (ad g (fo i))), (1, .ref (ad g 14))]) 4 dX3_listInto_21 (by decide) rfl ?_
      refine r_lload C dX3_listInto_23 0 rfl ?_
      refine r_callP C (As := [.long (gJ μ i k)]) (rest := []) (st1 := [.int (nI (bc (gJ μ i k)))]) miJ13_bitCount_95d88 msJ13_bitCount_95d88 (c_bitCountL l (gJ μ i k)) hw_2_26 rfl ⟨by decide, by decide, rfl, rfl, by decide, by decide⟩ rfl (Nat.le_of_ble_eq_true rfl) dX3_listInto_25 rfl ?_
      refine r_istore C (lv' := [(6, .int (nI (bc (gJ μ i k)))), (4, .long (gJ μ i k)), (3, .int (nI k)), (2, .int (nI (sm (fun w => bc (gJ μ i w)) k))), (0, .ref (ad g (fo i))), (1, .ref (ad g 14))]) 6 dX3_listInto_28 (by decide) rfl ?_
      refine lp_listInto_14A C X hw hnw hi (k := k) (by omega) hsm ?_ 65 0 (by omega) (by omega)
      refine r_iinc C (v := (nI (k + 1))) (lv' := [(3, .int (nI (k + 1))), (2, .int (nI (sm (fun w => bc (gJ μ i w)) (k + 1)))), (0, .ref (ad g (fo i))), (1, .ref (ad g 14))]) 3 0 dX3_listInto_72 rfl (inc_N _ 1) (by decide) rfl ?_
      refine r_goto C 4 dX3_listInto_75 (by decide) ?_
      exact ih (k + 1) (by omega) (by omega)
set_option maxHeartbeats 1000000 in
set_option maxRecDepth 100000 in
theorem c_listInto_14 (l : Launch) (g : Gd) (μ : Mm) {i nw : Nat} (hw : gI μ 1 = nI nw) (hnw : nw ≤ 16) (hi : i < 52) : Ct l yX3_listInto cX3_listInto 7 (some .int) (rmk 2 42) g [.ref (ad g (fo i)), .ref (ad g 14)] μ (some (.int (nI (sm (fun w => bc (gJ μ i w)) nw)))) (sA μ 2 (rowU (sm (fun w => bc (gJ μ i w)) nw) (fun p => atR (gJ μ i) nw 0 p) (gA μ 2))) := by
  refine Ct.of (by decide) (Nat.le_of_ble_eq_true rfl) (fun z A C X Rr => ?_)
  refine r_iconst C (v := (nI 0)) dX3_listInto_0 rfl ?_
  refine r_istore_n C (lv' := [(2, .int (nI 0)), (0, .ref (ad g (fo i))), (1, .ref (ad g 14))]) 2 dX3_listInto_1 rfl (by decide) rfl ?_
  refine r_iconst C (v := (nI 0)) dX3_listInto_2 rfl ?_
  refine r_istore_n C (lv' := [(3, .int (nI 0)), (2, .int (nI 0)), (0, .ref (ad g (fo i))), (1, .ref (ad g 14))]) 3 dX3_listInto_3 rfl (by decide) rfl ?_
  refine G_mem (show μ = (sA μ 2 (rowU (sm (fun w => bc (gJ μ i w)) 0) (fun p => atR (gJ μ i) nw 0 p) (gA μ 2))) by rw [show sm (fun w => bc (gJ μ i w)) 0 = 0 from rfl, rowU_0, sA_i]) ?_
  exact lp_listInto_14 C X hw hnw hi Rr (nw + 1) 0 (by omega) (by omega)
