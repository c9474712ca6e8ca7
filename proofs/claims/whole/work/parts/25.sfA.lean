def mx (h v : Int64) : Int64 := 31 * h + v
def foldx (f : Nat → Int64) (h : Int64) : Nat → Int64
  | 0 => h
  | k + 1 => mx (foldx f h k) (f k)
/-- depth and newest of the history -/
def Ok2 (μ : Mm) (p d : Nat) : Prop := gI μ 2 = nI d ∧ gI μ 3 = nI p ∧ p < 4 ∧ d ≤ 4
def mLayP (μ : Mm) (p d n pl : Nat) : Mm := mCpy (mSave μ p d n) pl 50
def fdL (μ : Mm) (n nw a b : Nat) : Mm := mMeet (mMir (mUp (mCpy μ 50 b) nw 50 n) nw 50 n) nw 50 a
def fdK (c nw : Nat) (M : Mm) : Nat → Mm := itM (fun m x => if c.testBit x = true then mKL m nw 50 x else m) M
def fdB (μ : Mm) (n nw a b c : Nat) : Mm := fdK c nw (mCpy (fdL μ n nw a b) 50 b) n
def fdc (μ : Mm) (n nw a b : Nat) : Int32 := atR (gJ (fdL μ n nw a b) 50) nw 0 0
def fdM (μ : Mm) (n nw a b : Nat) : Mm := if fdc μ n nw a b = -1 then fdL μ n nw a b else fdB μ n nw a b (fdc μ n nw a b).toNatClampNeg
def fdA (μ : Mm) (n nw a b : Nat) : Int32 := if fdc μ n nw a b = -1 then -1 else nI 1024 * fdc μ n nw a b + atR (gJ (fdB μ n nw a b (fdc μ n nw a b).toNatClampNeg) 50) nw 0 0
theorem gI_fdL {μ : Mm} {n nw a b q : Nat} : gI (fdL μ n nw a b) q = gI μ q := gI_mMeet.trans (gI_mMir.trans (gI_mUp.trans gI_mCpy))
theorem gI_fdK {c nw k q : Nat} {M : Mm} : gI (fdK c nw M k) q = gI M q := gI_it (f := fun m x => if c.testBit x = true then mKL m nw 50 x else m) (fun m e j => by by_cases h : c.testBit e = true <;> simp only [h, if_true]; exact gI_mKL; rfl) k
theorem gI_fdB {μ : Mm} {n nw a b c q : Nat} : gI (fdB μ n nw a b c) q = gI μ q := gI_fdK.trans (gI_mCpy.trans gI_fdL)
theorem gI_fdM {μ : Mm} {n nw a b q : Nat} : gI (fdM μ n nw a b) q = gI μ q := by
  unfold fdM; split
  · exact gI_fdL
  · exact gI_fdB
theorem m1_ne (c : Nat) (h : c < 2 ^ 31) : ¬ nI c = -1 := fun q => by
  have h1 := nI_pos h
  rw [q] at h1; exact h1 (by decide)
set_option maxHeartbeats 1000000 in
set_option maxRecDepth 100000 in
theorem c_mix (l : Launch) (h v : Int64) : Cp l yX10_mix cX10_mix 4 (some .long) (rmk 0 0) [.long h, .long v] (some (.long (mx h v))) := by
  refine Cp.of (D := (fun _ => 0, fun _ _ => 0)) (by decide) (Nat.le_of_ble_eq_true rfl) (fun z A C Rr => ?_)
  refine r_ldc2 C dX10_mix_0 hw_2_17 ?_
  refine r_lload_n C dX10_mix_3 0 rfl ?_
  refine r_lmul C (v := ((31) * h)) dX10_mix_4 rfl ?_
  refine r_lload_n C dX10_mix_5 1 rfl ?_
  refine r_ladd C (v := (((31) * h) + v)) dX10_mix_6 rfl ?_
  refine G_topl (y := (mx h v)) rfl ?_
  exact p_lret C dX10_mix_7 Rr
def sonA (v : Int32) : Int32 := if v = -1 then -1 else nI (pN v.toNatClampNeg)
set_option maxHeartbeats 1000000 in
set_option maxRecDepth 100000 in
theorem c_sizeOrNone (l : Launch) {v : Int32} (hv : v = -1 ∨ ∃ c, c < 1024 ∧ v = nI c) : Cp l yX10_sizeOrNone cX10_sizeOrNone 1 (some .int) (rmk 1 20) [.int v] (some (.int (sonA v))) := by
  refine Cp.of (D := (fun _ => 0, fun _ _ => 0)) (by decide) (Nat.le_of_ble_eq_true rfl) (fun z A C Rr => ?_)
  refine r_iload_n C dX10_sizeOrNone_0 0 rfl ?_
  refine r_iconst C (v := (-1)) dX10_sizeOrNone_1 rfl ?_
  refine r_icmp_ne C 9 dX10_sizeOrNone_2 (by decide) Iff.rfl (fun h2 => ?_) (fun h2 => ?_)
  · rw [sonA, if_neg h2] at Rr
    obtain ⟨c, hc, rfl⟩ : ∃ c, c < 1024 ∧ v = nI c := hv.resolve_left h2
    rw [nI_clamp (by omega)] at Rr
    refine r_iload_n C dX10_sizeOrNone_9 0 rfl ?_
    refine r_callP C (As := [.int (nI c)]) (rest := []) (st1 := [.int (nI (pN c))]) miJ6_bitCount_0f7a4 msJ6_bitCount_0f7a4 (c_bitCountI l (n := c) (by omega)) hw_3_5 rfl ⟨by decide, by decide, rfl, rfl, by decide, by decide⟩ rfl (Nat.le_of_ble_eq_true rfl) dX10_sizeOrNone_10 rfl ?_
    exact p_iret C dX10_sizeOrNone_13 Rr
  · rw [sonA, if_pos (Decidable.not_not.mp h2)] at Rr
    refine r_iconst C (v := (-1)) dX10_sizeOrNone_5 rfl ?_
    refine r_goto C 13 dX10_sizeOrNone_6 (by decide) ?_
    exact p_iret C dX10_sizeOrNone_13 Rr
set_option maxHeartbeats 1000000 in
set_option maxRecDepth 100000 in
theorem c_layP (l : Launch) (g : Gd) (μ : Mm) {n nw p d pl : Nat} (hO : Ok μ n nw) (hH : Ok2 μ p d) (hpl : pl < 4) : Ct l yX10_lay cX10_lay 2 (some .int) (rmk 3 84) g [.ref (ad g 0), .int (nI pl)] μ (some (.int (nI (ct (mLayP μ p d n (0 + pl)) nw 50)))) (mLayP μ p d n (0 + pl)) := by
  obtain ⟨hn, hw, hn10, hnw, hs, h1n⟩ := hO
  obtain ⟨h2, h3, hp4, hd4⟩ := hH
  refine Ct.of (by decide) (Nat.le_of_ble_eq_true rfl) (fun z A C X Rr => ?_)
  unfold mLayP at Rr
  refine r_aload_n C dX10_lay_0 0 rfl ?_
  refine r_get C X (k := 0) (R := RX10) (T := TX10) (N := 12) (n := 2) (v := .ref (ad g 3)) (by decide) rfl rfl inw10 (by decide) rfl hw_1_210 rfl dX10_lay_1 ?_
  refine r_aload_n C dX10_lay_4 0 rfl ?_
  refine r_get C X (k := 0) (R := RX10) (T := TX10) (N := 12) (n := 0) (v := .ref (ad g 1)) (by decide) rfl rfl inw10 (by decide) rfl hw_1_208 rfl dX10_lay_5 ?_
  refine r_aload_n C dX10_lay_8 0 rfl ?_
  refine r_get C X (k := 0) (R := RX10) (T := TX10) (N := 12) (n := 1) (v := .ref (ad g 2)) (by decide) rfl rfl inw10 (by decide) rfl hw_1_209 rfl dX10_lay_9 ?_
  refine r_callV C X (As := [.ref (ad g 1), .ref (ad g 2)]) (rest := []) (st1 := []) (μ' := (mSave μ p d n)) (k := 3) (T := TX5) miX5_save mvX5_save (c_save l g μ (p := p) (d := d) (n := n) hn h3 h2 (by omega) (by omega)) hw_3_158 (by decide) rfl rfl rfl ⟨by decide, by decide, rfl, rfl, by decide, by decide⟩ rfl (Nat.le_of_ble_eq_true rfl) dX10_lay_12 rfl ?_
  refine r_aload_n C dX10_lay_15 0 rfl ?_
  refine r_get C X (k := 0) (R := RX10) (T := TX10) (N := 12) (n := 1) (v := .ref (ad g 2)) (by decide) rfl rfl inw10 (by decide) rfl hw_1_209 rfl dX10_lay_16 ?_
  refine r_iload_n C dX10_lay_19 1 rfl ?_
  refine r_aald C X (k := 2) (n := 4) (b := 0) (by decide) rfl (by omega) (by decide) dX10_lay_20 ?_
  refine r_aload_n C dX10_lay_21 0 rfl ?_
  refine r_get C X (k := 0) (R := RX10) (T := TX10) (N := 12) (n := 10) (v := .ref (ad g (fo 50))) (by decide) rfl rfl inw10 (by decide) rfl hw_1_218 rfl dX10_lay_22 ?_
  refine r_callV C X (As := [.ref (ad g (fo 50))]) (rest := []) (st1 := []) (μ' := (mCpy (mSave μ p d n) (0 + pl) 50)) (k := (fo (0 + pl))) (T := TX3) miX3_copy mvX3_copy (c_copy l g (mSave μ p d n) (i := (0 + pl)) (j := 50) (by omega) (by omega)) hw_2_95 (fo_lt (by omega)) (WF_fo g _ (0 + pl)) rfl rfl ⟨by decide, by decide, rfl, rfl, by decide, by decide⟩ rfl (Nat.le_of_ble_eq_true rfl) dX10_lay_25 rfl ?_
  refine r_aload_n C dX10_lay_28 0 rfl ?_
  refine r_get C X (k := 0) (R := RX10) (T := TX10) (N := 12) (n := 10) (v := .ref (ad g (fo 50))) (by decide) rfl rfl inw10 (by decide) rfl hw_1_218 rfl dX10_lay_29 ?_
  refine r_callV C X (As := []) (rest := []) (st1 := [.int (nI (sm (fun w => bc (gJ (mCpy (mSave μ p d n) (0 + pl) 50) 50 w)) nw))]) (μ' := (mCpy (mSave μ p d n) (0 + pl) 50)) (k := (fo 50)) (T := TX3) miX3_count mvX3_count (c_count l g (mCpy (mSave μ p d n) (0 + pl) 50) (i := 50) (nw := nw) (gI_mCpy.trans ((gI_mSave (by decide)).trans hw)) (by omega) (by omega)) hw_2_165 (fo_lt (by omega)) (WF_fo g _ 50) rfl rfl ⟨by decide, by decide, rfl, rfl, by decide, by decide⟩ rfl (Nat.le_of_ble_eq_true rfl) dX10_lay_32 rfl ?_
  exact r_iret C dX10_lay_35 Rr
def mCmb (μ : Mm) (nw t op a b : Nat) : Mm := match op with
  | 0 => mJoin (mCpy μ t a) nw t b
  | 1 => mMeet (mCpy μ t a) nw t b
  | 2 => mSub (mCpy μ t a) nw t b
  | _ => mDif (mCpy μ t a) nw t b
theorem gI_mCmb {μ : Mm} {nw t op a b q : Nat} : gI (mCmb μ nw t op a b) q = gI μ q := by
  unfold mCmb; split
  · exact gI_mJoin.trans gI_mCpy
  · exact gI_mMeet.trans gI_mCpy
  · exact gI_mSub.trans gI_mCpy
  · exact gI_mDif.trans gI_mCpy
set_option maxHeartbeats 1000000 in
set_option maxRecDepth 100000 in
theorem c_combineInto (l : Launch) (g : Gd) (μ : Mm) {n nw t op a b : Nat} (hO : Ok μ n nw) (ht : t < 52) (ha : a < 52) (hb : b < 52) (hop : op < 4) : Ct l yX10_combineInto cX10_combineInto 4 none (rmk 2 61) g [.ref (ad g (fo t)), .int (nI op), .ref (ad g (fo a)), .ref (ad g (fo b))] μ none (mCmb μ nw t op a b) := by
  obtain ⟨hn, hw, hn10, hnw, hs, h1n⟩ := hO
  refine Ct.of (by decide) (Nat.le_of_ble_eq_true rfl) (fun z A C X Rr => ?_)
  refine r_aload_n C dX10_combineInto_0 0 rfl ?_
  refine r_aload_n C dX10_combineInto_1 2 rfl ?_
  refine r_callV C X (As := [.ref (ad g (fo a))]) (rest := []) (st1 := []) (μ' := (mCpy μ t a)) (k := (fo t)) (T := TX3) miX3_copy mvX3_copy (c_copy l g μ (i := t) (j := a) (by omega) (by omega)) hw_2_95 (fo_lt (by omega)) (WF_fo g _ t) rfl rfl ⟨by decide, by decide, rfl, rfl, by decide, by decide⟩ rfl (Nat.le_of_ble_eq_true rfl) dX10_combineInto_2 rfl ?_
  refine r_iload_n C dX10_combineInto_5 1 rfl ?_
  rcases (show op = 0 ∨ op = 1 ∨ op = 2 ∨ op = 3 by omega) with rfl | rfl | rfl | rfl
  · refine r_tabIn C 32 dX10_combineInto_6 (by decide) (by decide) rfl (by decide) ?_
    refine r_aload_n C dX10_combineInto_32 0 rfl ?_
    refine r_aload_n C dX10_combineInto_33 3 rfl ?_
    refine r_callV C X (As := [.ref (ad g (fo b))]) (rest := []) (st1 := []) (μ' := (mJoin (mCpy μ t a) nw t b)) (k := (fo t)) (T := TX3) miX3_join mvX3_join (c_join l g (mCpy μ t a) (i := t) (j := b) (nw := nw) (gI_mCpy.trans hw) (by omega) (by omega) (by omega)) hw_4_20 (fo_lt (by omega)) (WF_fo g _ t) rfl rfl ⟨by decide, by decide, rfl, rfl, by decide, by decide⟩ rfl (Nat.le_of_ble_eq_true rfl) dX10_combineInto_34 rfl ?_
    refine r_goto C 61 dX10_combineInto_37 (by decide) ?_
    exact r_vret C dX10_combineInto_61 Rr
  · refine r_tabIn C 40 dX10_combineInto_6 (by decide) (by decide) rfl (by decide) ?_
    refine r_aload_n C dX10_combineInto_40 0 rfl ?_
    refine r_aload_n C dX10_combineInto_41 3 rfl ?_
    refine r_callV C X (As := [.ref (ad g (fo b))]) (rest := []) (st1 := []) (μ' := (mMeet (mCpy μ t a) nw t b)) (k := (fo t)) (T := TX3) miX3_meet mvX3_meet (c_meet l g (mCpy μ t a) (i := t) (j := b) (nw := nw) (gI_mCpy.trans hw) (by omega) (by omega) (by omega)) hw_2_105 (fo_lt (by omega)) (WF_fo g _ t) rfl rfl ⟨by decide, by decide, rfl, rfl, by decide, by decide⟩ rfl (Nat.le_of_ble_eq_true rfl) dX10_combineInto_42 rfl ?_
    refine r_goto C 61 dX10_combineInto_45 (by decide) ?_
    exact r_vret C dX10_combineInto_61 Rr
  · refine r_tabIn C 48 dX10_combineInto_6 (by decide) (by decide) rfl (by decide) ?_
    refine r_aload_n C dX10_combineInto_48 0 rfl ?_
    refine r_aload_n C dX10_combineInto_49 3 rfl ?_
    refine r_callV C X (As := [.ref (ad g (fo b))]) (rest := []) (st1 := []) (μ' := (mSub (mCpy μ t a) nw t b)) (k := (fo t)) (T := TX3) miX3_subtract mvX3_subtract (c_subtract l g (mCpy μ t a) (i := t) (j := b) (nw := nw) (gI_mCpy.trans hw) (by omega) (by omega) (by omega)) hw_2_164 (fo_lt (by omega)) (WF_fo g _ t) rfl rfl ⟨by decide, by decide, rfl, rfl, by decide, by decide⟩ rfl (Nat.le_of_ble_eq_true rfl) dX10_combineInto_50 rfl ?_
    refine r_goto C 61 dX10_combineInto_53 (by decide) ?_
    exact r_vret C dX10_combineInto_61 Rr
  · refine r_tabOut C 56 dX10_combineInto_6 (by decide) (by decide) ?_
    refine r_aload_n C dX10_combineInto_56 0 rfl ?_
    refine r_aload_n C dX10_combineInto_57 3 rfl ?_
    refine r_callV C X (As := [.ref (ad g (fo b))]) (rest := []) (st1 := []) (μ' := (mDif (mCpy μ t a) nw t b)) (k := (fo t)) (T := TX3) miX3_differ mvX3_differ (c_differ l g (mCpy μ t a) (i := t) (j := b) (nw := nw) (gI_mCpy.trans hw) (by omega) (by omega) (by omega)) hw_4_24 (fo_lt (by omega)) (WF_fo g _ t) rfl rfl ⟨by decide, by decide, rfl, rfl, by decide, by decide⟩ rfl (Nat.le_of_ble_eq_true rfl) dX10_combineInto_58 rfl ?_
    exact r_vret C dX10_combineInto_61 Rr
def exM (μ : Mm) (n nw f lv : Nat) : Mm := mSh (mKS (mCpy μ 51 f) nw 51 lv) nw 50 51 n
def exA (μ : Mm) (n nw f lv : Nat) : Int32 := nI (ct (exM μ n nw f lv) nw 50) - nI (lshF lv (ct (exM μ n nw f lv) nw 51))
theorem gI_exM {μ : Mm} {n nw f lv q : Nat} : gI (exM μ n nw f lv) q = gI μ q := gI_mSh.trans (gI_mKS.trans gI_mCpy)
set_option maxHeartbeats 1000000 in
set_option maxRecDepth 100000 in
theorem c_excessOf (l : Launch) (g : Gd) (μ : Mm) {n nw f lv : Nat} (hO : Ok μ n nw) (hf : f < 52) (hlv : lv ≤ 10) : Ct l yX10_excessOf cX10_excessOf 3 (some .int) (rmk 3 72) g [.ref (ad g 0), .ref (ad g (fo f)), .int (nI lv)] μ (some (.int (exA μ n nw f lv))) (exM μ n nw f lv) := by
  obtain ⟨hn, hw, hn10, hnw, hs, h1n⟩ := hO
  refine Ct.of (by decide) (Nat.le_of_ble_eq_true rfl) (fun z A C X Rr => ?_)
  refine r_aload_n C dX10_excessOf_0 0 rfl ?_
  refine r_get C X (k := 0) (R := RX10) (T := TX10) (N := 12) (n := 11) (v := .ref (ad g (fo 51))) (by decide) rfl rfl inw10 (by decide) rfl hw_1_219 rfl dX10_excessOf_1 ?_
  refine r_aload_n C dX10_excessOf_4 1 rfl ?_
  refine r_callV C X (As := [.ref (ad g (fo f))]) (rest := []) (st1 := []) (μ' := (mCpy μ 51 f)) (k := (fo 51)) (T := TX3) miX3_copy mvX3_copy (c_copy l g μ (i := 51) (j := f) (by omega) (by omega)) hw_2_95 (fo_lt (by omega)) (WF_fo g _ 51) rfl rfl ⟨by decide, by decide, rfl, rfl, by decide, by decide⟩ rfl (Nat.le_of_ble_eq_true rfl) dX10_excessOf_5 rfl ?_
  refine r_aload_n C dX10_excessOf_8 0 rfl ?_
  refine r_get C X (k := 0) (R := RX10) (T := TX10) (N := 12) (n := 11) (v := .ref (ad g (fo 51))) (by decide) rfl rfl inw10 (by decide) rfl hw_1_219 rfl dX10_excessOf_9 ?_
  refine r_iload_n C dX10_excessOf_12 2 rfl ?_
  refine r_callV C X (As := [.int (nI lv)]) (rest := []) (st1 := []) (μ' := (mKS (mCpy μ 51 f) nw 51 lv)) (k := (fo 51)) (T := TX3) miX3_keepOfSize mvX3_keepOfSize (c_keepOfSize l g (mCpy μ 51 f) (i := 51) (nw := nw) (m := lv) (gI_mCpy.trans hw) (by omega) (by omega) (by omega)) hw_3_69 (fo_lt (by omega)) (WF_fo g _ 51) rfl rfl ⟨by decide, by decide, rfl, rfl, by decide, by decide⟩ rfl (Nat.le_of_ble_eq_true rfl) dX10_excessOf_13 rfl ?_
  refine r_aload_n C dX10_excessOf_16 0 rfl ?_
  refine r_get C X (k := 0) (R := RX10) (T := TX10) (N := 12) (n := 10) (v := .ref (ad g (fo 50))) (by decide) rfl rfl inw10 (by decide) rfl hw_1_218 rfl dX10_excessOf_17 ?_
  refine r_aload_n C dX10_excessOf_20 0 rfl ?_
  refine r_get C X (k := 0) (R := RX10) (T := TX10) (N := 12) (n := 11) (v := .ref (ad g (fo 51))) (by decide) rfl rfl inw10 (by decide) rfl hw_1_219 rfl dX10_excessOf_21 ?_
  refine r_callV C X (As := [.ref (ad g (fo 51))]) (rest := []) (st1 := []) (μ' := (mSh (mKS (mCpy μ 51 f) nw 51 lv) nw 50 51 n)) (k := (fo 50)) (T := TX3) miX3_becomeShadow mvX3_becomeShadow (c_becomeShadow l g (mKS (mCpy μ 51 f) nw 51 lv) (i := 50) (j := 51) (n := n) (nw := nw) (gI_mKS.trans (gI_mCpy.trans hn)) (by omega) (gI_mKS.trans (gI_mCpy.trans hw)) (by omega) (by omega) (by omega) hs) hw_2_156 (fo_lt (by omega)) (WF_fo g _ 50) rfl rfl ⟨by decide, by decide, rfl, rfl, by decide, by decide⟩ rfl (Nat.le_of_ble_eq_true rfl) dX10_excessOf_24 rfl ?_
  have hct := ct_le (μ := exM μ n nw f lv) (i := 51) hnw
  refine G_mem (μ' := exM μ n nw f lv) rfl ?_
  refine r_aload_n C dX10_excessOf_27 0 rfl ?_
  refine r_get C X (k := 0) (R := RX10) (T := TX10) (N := 12) (n := 10) (v := .ref (ad g (fo 50))) (by decide) rfl rfl inw10 (by decide) rfl hw_1_218 rfl dX10_excessOf_28 ?_
  refine r_callV C X (As := []) (rest := []) (st1 := [.int (nI (sm (fun w => bc (gJ (exM μ n nw f lv) 50 w)) nw))]) (μ' := (exM μ n nw f lv)) (k := (fo 50)) (T := TX3) miX3_count mvX3_count (c_count l g (exM μ n nw f lv) (i := 50) (nw := nw) (gI_exM.trans hw) (by omega) (by omega)) hw_2_165 (fo_lt (by omega)) (WF_fo g _ 50) rfl rfl ⟨by decide, by decide, rfl, rfl, by decide, by decide⟩ rfl (Nat.le_of_ble_eq_true rfl) dX10_excessOf_31 rfl ?_
  refine G_top (y := (nI (ct (exM μ n nw f lv) nw 50))) rfl ?_
  refine r_aload_n C dX10_excessOf_34 0 rfl ?_
  refine r_get C X (k := 0) (R := RX10) (T := TX10) (N := 12) (n := 11) (v := .ref (ad g (fo 51))) (by decide) rfl rfl inw10 (by decide) rfl hw_1_219 rfl dX10_excessOf_35 ?_
  refine r_callV C X (As := []) (rest := [.int (nI (ct (exM μ n nw f lv) nw 50))]) (st1 := [.int (nI (sm (fun w => bc (gJ (exM μ n nw f lv) 51 w)) nw)), .int (nI (ct (exM μ n nw f lv) nw 50))]) (μ' := (exM μ n nw f lv)) (k := (fo 51)) (T := TX3) miX3_count mvX3_count (c_count l g (exM μ n nw f lv) (i := 51) (nw := nw) (gI_exM.trans hw) (by omega) (by omega)) hw_2_165 (fo_lt (by omega)) (WF_fo g _ 51) rfl rfl ⟨by decide, by decide, rfl, rfl, by decide, by decide⟩ rfl (Nat.le_of_ble_eq_true rfl) dX10_excessOf_38 rfl ?_
  refine G_top (y := (nI (ct (exM μ n nw f lv) nw 51))) rfl ?_
  refine r_iload_n C dX10_excessOf_41 2 rfl ?_
  refine r_callP C (As := [.int (nI (ct (exM μ n nw f lv) nw 51)), .int (nI lv)]) (rest := [.int (nI (ct (exM μ n nw f lv) nw 50))]) (st1 := [.int (nI (lshF lv (ct (exM μ n nw f lv) nw 51))), .int (nI (ct (exM μ n nw f lv) nw 50))]) miX0_leastShadow msX0_leastShadow (c_leastShadow l (m := ct (exM μ n nw f lv) nw 51) (k := lv) (by omega) (by omega)) hw_3_73 rfl ⟨by decide, by decide, rfl, rfl, by decide, by decide⟩ rfl (Nat.le_of_ble_eq_true rfl) dX10_excessOf_42 rfl ?_
  refine r_isub C (v := (exA μ n nw f lv)) dX10_excessOf_45 rfl ?_
  exact r_iret C dX10_excessOf_46 Rr
set_option maxHeartbeats 1000000 in
set_option maxRecDepth 100000 in
theorem lp_firstDisjointPair {z : Zt} {A : Nat → Prop} {l : Launch} {g : Gd} (C : Cx z A l (rmk 4 91) cX10_firstDisjointPair 5 "SetFamilies") (X : Kx z g A) {M : Mm} {n nw a b c : Nat} (hn : gI M 0 = nI n) (hw : gI M 1 = nI nw) (hn10 : n ≤ 10) (hnw : nw ≤ 16) (hs : ∀ e, e < n → 6 ≤ e → 2 ^ (e - 6) ≤ nw) (ha : a < 52) (hb : b < 52) (hc : c < 1024) (Rr : Rx z g A (some .int) (some (.int (nI 1024 * nI c + atR (gJ (fdK c nw M n) 50) nw 0 0))) (fdK c nw M n)) : ∀ (n_ : Nat) (x : Nat), n - x < n_ → x ≤ n → G z g.1 A 5 (wd g (fdK c nw M x)) 0 0 57 [(4, .int (nI x)), (3, .int (nI c)), (0, .ref (ad g 0)), (1, .ref (ad g (fo a))), (2, .ref (ad g (fo b)))] [] := by
  intro n_
  induction n_ with
  | zero => intro x hm_; exact absurd hm_ (Nat.not_lt_zero _)
  | succ n_ ih =>
    intro x hm_ hx
    refine r_iload C dX10_firstDisjointPair_57 0 rfl ?_
    refine r_aload_n C dX10_firstDisjointPair_59 2 rfl ?_
    refine r_get C X (k := 0) (R := RX10) (T := TX10) (N := 12) (n := 0) (v := .ref (ad g 1)) (by decide) rfl rfl inw10 (by decide) rfl hw_1_208 rfl dX10_firstDisjointPair_60 ?_
    refine r_get C X (k := 1) (R := RX4) (T := TX4) (N := 2) (n := 0) (v := .int (gI (fdK c nw M x) 0)) (by decide) rfl rfl inw4 (by decide) rfl hw_1_42 rfl dX10_firstDisjointPair_63 ?_
    refine G_top (y := (nI n)) (gI_fdK.trans hn) ?_
    refine r_icmp_ge C 93 dX10_firstDisjointPair_66 (by decide) (nI_leI (by omega) (by omega)) (fun h66 => ?_) (fun h66 => ?_)
    · have hkn : x = n := by omega
      subst hkn
      refine r_sipush C (v := (nI 1024)) dX10_firstDisjointPair_93 (by decide) ?_
      refine r_iload_n C dX10_firstDisjointPair_96 1 rfl ?_
      refine r_imul C (v := (nI 1024 * nI c)) dX10_firstDisjointPair_97 rfl ?_
      refine r_aload_n C dX10_firstDisjointPair_98 2 rfl ?_
      refine r_get C X (k := 0) (R := RX10) (T := TX10) (N := 12) (n := 10) (v := .ref (ad g (fo 50))) (by decide) rfl rfl inw10 (by decide) rfl hw_1_218 rfl dX10_firstDisjointPair_99 ?_
      refine r_iconst C (v := (nI 0)) dX10_firstDisjointPair_102 rfl ?_
      refine r_callV C X (As := [.int (nI 0)]) (rest := [.int (nI 1024 * nI c)]) (st1 := [.int (atR (gJ (fdK c nw M x) 50) nw 0 0), .int (nI 1024 * nI c)]) (μ' := (fdK c nw M x)) (k := (fo 50)) (T := TX3) miX3_atIndex mvX3_atIndex (c_atIndex l g (fdK c nw M x) (i := 50) (nw := nw) (m := 0) (gI_fdK.trans hw) (by omega) (by omega) (by omega)) hw_2_109 (fo_lt (by omega)) (WF_fo g _ 50) rfl rfl ⟨by decide, by decide, rfl, rfl, by decide, by decide⟩ rfl (Nat.le_of_ble_eq_true rfl) dX10_firstDisjointPair_103 rfl ?_
      refine r_iadd C (v := (nI 1024 * nI c + atR (gJ (fdK c nw M x) 50) nw 0 0)) dX10_firstDisjointPair_106 rfl ?_
      exact r_iret C dX10_firstDisjointPair_107 Rr
    · refine r_iload_n C dX10_firstDisjointPair_69 1 rfl ?_
      refine r_iload C dX10_firstDisjointPair_70 0 rfl ?_
      refine r_callP C (As := [.int (nI c), .int (nI x)]) (rest := []) (st1 := [.int (bI (Nat.testBit c x))]) miX10_holds msX10_holds (c_holds l (c := c) (x := x) (by omega) (by omega)) hw_2_116 rfl ⟨by decide, by decide, rfl, rfl, by decide, by decide⟩ rfl (Nat.le_of_ble_eq_true rfl) dX10_firstDisjointPair_72 rfl ?_
      refine r_if_eq C 87 dX10_firstDisjointPair_75 (by decide) (bI_eq _) (fun h75 => ?_) (fun h75 => ?_)
      · refine r_iinc C (v := (nI (x + 1))) (lv' := [(4, .int (nI (x + 1))), (3, .int (nI c)), (0, .ref (ad g 0)), (1, .ref (ad g (fo a))), (2, .ref (ad g (fo b)))]) 4 0 dX10_firstDisjointPair_87 rfl (inc_N _ 1) (by decide) rfl ?_
        refine r_goto C 57 dX10_firstDisjointPair_90 (by decide) ?_
        refine G_mem (μ' := fdK c nw M (x + 1)) (by show _ = (if c.testBit x = true then _ else _); rw [if_neg (ts_f h75)]; rfl) ?_
        exact ih (x + 1) (by omega) (by omega)
      · refine r_aload_n C dX10_firstDisjointPair_78 2 rfl ?_
        refine r_get C X (k := 0) (R := RX10) (T := TX10) (N := 12) (n := 10) (v := .ref (ad g (fo 50))) (by decide) rfl rfl inw10 (by decide) rfl hw_1_218 rfl dX10_firstDisjointPair_79 ?_
        refine r_iload C dX10_firstDisjointPair_82 0 rfl ?_
        refine r_callV C X (As := [.int (nI x)]) (rest := []) (st1 := []) (μ' := (mKL (fdK c nw M x) nw 50 x)) (k := (fo 50)) (T := TX3) miX3_keepLacking mvX3_keepLacking (c_keepLacking l g (fdK c nw M x) (i := 50) (nw := nw) (e := x) (gI_fdK.trans hw) (by omega) (by omega) (by omega)) hw_2_119 (fo_lt (by omega)) (WF_fo g _ 50) rfl rfl ⟨by decide, by decide, rfl, rfl, by decide, by decide⟩ rfl (Nat.le_of_ble_eq_true rfl) dX10_firstDisjointPair_84 rfl ?_
        refine r_iinc C (v := (nI (x + 1))) (lv' := [(4, .int (nI (x + 1))), (3, .int (nI c)), (0, .ref (ad g 0)), (1, .ref (ad g (fo a))), (2, .ref (ad g (fo b)))]) 4 0 dX10_firstDisjointPair_87 rfl (inc_N _ 1) (by decide) rfl ?_
        refine r_goto C 57 dX10_firstDisjointPair_90 (by decide) ?_
        refine G_mem (μ' := fdK c nw M (x + 1)) (by show _ = (if c.testBit x = true then _ else _); rw [if_pos (ts_t h75)]; rfl) ?_
        exact ih (x + 1) (by omega) (by omega)
set_option maxHeartbeats 1000000 in
set_option maxRecDepth 100000 in
theorem c_firstDisjointPair (l : Launch) (g : Gd) (μ : Mm) {n nw a b : Nat} (hO : Ok μ n nw) (ha : a < 52) (hb : b < 52) : Ct l yX10_firstDisjointPair cX10_firstDisjointPair 5 (some .int) (rmk 4 91) g [.ref (ad g 0), .ref (ad g (fo a)), .ref (ad g (fo b))] μ (some (.int (fdA μ n nw a b))) (fdM μ n nw a b) := by
  obtain ⟨hn, hw, hn10, hnw, hs, h1n⟩ := hO
  refine Ct.of (by decide) (Nat.le_of_ble_eq_true rfl) (fun z A C X Rr => ?_)
  refine r_aload_n C dX10_firstDisjointPair_0 0 rfl ?_
  refine r_get C X (k := 0) (R := RX10) (T := TX10) (N := 12) (n := 10) (v := .ref (ad g (fo 50))) (by decide) rfl rfl inw10 (by decide) rfl hw_1_218 rfl dX10_firstDisjointPair_1 ?_
  refine r_aload_n C dX10_firstDisjointPair_4 2 rfl ?_
  refine r_callV C X (As := [.ref (ad g (fo b))]) (rest := []) (st1 := []) (μ' := (mCpy μ 50 b)) (k := (fo 50)) (T := TX3) miX3_copy mvX3_copy (c_copy l g μ (i := 50) (j := b) (by omega) (by omega)) hw_2_95 (fo_lt (by omega)) (WF_fo g _ 50) rfl rfl ⟨by decide, by decide, rfl, rfl, by decide, by decide⟩ rfl (Nat.le_of_ble_eq_true rfl) dX10_firstDisjointPair_5 rfl ?_
  refine r_aload_n C dX10_firstDisjointPair_8 0 rfl ?_
  refine r_get C X (k := 0) (R := RX10) (T := TX10) (N := 12) (n := 10) (v := .ref (ad g (fo 50))) (by decide) rfl rfl inw10 (by decide) rfl hw_1_218 rfl dX10_firstDisjointPair_9 ?_
  refine r_callV C X (As := []) (rest := []) (st1 := []) (μ' := (mUp (mCpy μ 50 b) nw 50 n)) (k := (fo 50)) (T := TX3) miX3_closeUpwards mvX3_closeUpwards (c_closeUpwards l g (mCpy μ 50 b) (i := 50) (n := n) (nw := nw) (gI_mCpy.trans hn) (by omega) (gI_mCpy.trans hw) (by omega) (by omega) hs) hw_2_96 (fo_lt (by omega)) (WF_fo g _ 50) rfl rfl ⟨by decide, by decide, rfl, rfl, by decide, by decide⟩ rfl (Nat.le_of_ble_eq_true rfl) dX10_firstDisjointPair_12 rfl ?_
  refine r_aload_n C dX10_firstDisjointPair_15 0 rfl ?_
  refine r_get C X (k := 0) (R := RX10) (T := TX10) (N := 12) (n := 10) (v := .ref (ad g (fo 50))) (by decide) rfl rfl inw10 (by decide) rfl hw_1_218 rfl dX10_firstDisjointPair_16 ?_
  refine r_callV C X (As := []) (rest := []) (st1 := []) (μ' := (mMir (mUp (mCpy μ 50 b) nw 50 n) nw 50 n)) (k := (fo 50)) (T := TX3) miX3_mirror mvX3_mirror (c_mirror l g (mUp (mCpy μ 50 b) nw 50 n) (i := 50) (n := n) (nw := nw) (gI_mUp.trans (gI_mCpy.trans hn)) (by omega) (gI_mUp.trans (gI_mCpy.trans hw)) (by omega) (by omega) hs) hw_2_97 (fo_lt (by omega)) (WF_fo g _ 50) rfl rfl ⟨by decide, by decide, rfl, rfl, by decide, by decide⟩ rfl (Nat.le_of_ble_eq_true rfl) dX10_firstDisjointPair_19 rfl ?_
  refine r_aload_n C dX10_firstDisjointPair_22 0 rfl ?_
  refine r_get C X (k := 0) (R := RX10) (T := TX10) (N := 12) (n := 10) (v := .ref (ad g (fo 50))) (by decide) rfl rfl inw10 (by decide) rfl hw_1_218 rfl dX10_firstDisjointPair_23 ?_
  refine r_aload_n C dX10_firstDisjointPair_26 1 rfl ?_
  refine r_callV C X (As := [.ref (ad g (fo a))]) (rest := []) (st1 := []) (μ' := (mMeet (mMir (mUp (mCpy μ 50 b) nw 50 n) nw 50 n) nw 50 a)) (k := (fo 50)) (T := TX3) miX3_meet mvX3_meet (c_meet l g (mMir (mUp (mCpy μ 50 b) nw 50 n) nw 50 n) (i := 50) (j := a) (nw := nw) (gI_mMir.trans (gI_mUp.trans (gI_mCpy.trans hw))) (by omega) (by omega) (by omega)) hw_2_105 (fo_lt (by omega)) (WF_fo g _ 50) rfl rfl ⟨by decide, by decide, rfl, rfl, by decide, by decide⟩ rfl (Nat.le_of_ble_eq_true rfl) dX10_firstDisjointPair_27 rfl ?_
  refine r_aload_n C dX10_firstDisjointPair_30 0 rfl ?_
  refine r_get C X (k := 0) (R := RX10) (T := TX10) (N := 12) (n := 10) (v := .ref (ad g (fo 50))) (by decide) rfl rfl inw10 (by decide) rfl hw_1_218 rfl dX10_firstDisjointPair_31 ?_
  refine r_iconst C (v := (nI 0)) dX10_firstDisjointPair_34 rfl ?_
  refine r_callV C X (As := [.int (nI 0)]) (rest := []) (st1 := [.int (atR (gJ (mMeet (mMir (mUp (mCpy μ 50 b) nw 50 n) nw 50 n) nw 50 a) 50) nw 0 0)]) (μ' := (mMeet (mMir (mUp (mCpy μ 50 b) nw 50 n) nw 50 n) nw 50 a)) (k := (fo 50)) (T := TX3) miX3_atIndex mvX3_atIndex (c_atIndex l g (mMeet (mMir (mUp (mCpy μ 50 b) nw 50 n) nw 50 n) nw 50 a) (i := 50) (nw := nw) (m := 0) (gI_mMeet.trans (gI_mMir.trans (gI_mUp.trans (gI_mCpy.trans hw)))) (by omega) (by omega) (by omega)) hw_2_109 (fo_lt (by omega)) (WF_fo g _ 50) rfl rfl ⟨by decide, by decide, rfl, rfl, by decide, by decide⟩ rfl (Nat.le_of_ble_eq_true rfl) dX10_firstDisjointPair_35 rfl ?_
  refine G_top (y := fdc μ n nw a b) rfl ?_
  refine G_mem (μ' := fdL μ n nw a b) rfl ?_
  refine r_istore_n C (lv' := [(3, .int (fdc μ n nw a b)), (0, .ref (ad g 0)), (1, .ref (ad g (fo a))), (2, .ref (ad g (fo b)))]) 3 dX10_firstDisjointPair_38 rfl (by decide) rfl ?_
  refine r_iload_n C dX10_firstDisjointPair_39 0 rfl ?_
  refine r_iconst C (v := (-1)) dX10_firstDisjointPair_40 rfl ?_
  refine r_icmp_ne C 46 dX10_firstDisjointPair_41 (by decide) Iff.rfl (fun h41 => ?_) (fun h41 => ?_)
  · rw [fdA, fdM, if_neg h41, if_neg h41] at Rr
    obtain ⟨c, hc, hcc, -⟩ := (atR0 (gJ (fdL μ n nw a b) 50) nw 0).resolve_left (fun q => h41 q.1)
    replace hcc : fdc μ n nw a b = nI c := hcc
    have hc1 : c < 1024 := by omega
    rw [hcc, nI_clamp (by omega)] at Rr
    rw [hcc]
    refine r_aload_n C dX10_firstDisjointPair_46 1 rfl ?_
    refine r_get C X (k := 0) (R := RX10) (T := TX10) (N := 12) (n := 10) (v := .ref (ad g (fo 50))) (by decide) rfl rfl inw10 (by decide) rfl hw_1_218 rfl dX10_firstDisjointPair_47 ?_
    refine r_aload_n C dX10_firstDisjointPair_50 3 rfl ?_
    refine r_callV C X (As := [.ref (ad g (fo b))]) (rest := []) (st1 := []) (μ' := (mCpy (fdL μ n nw a b) 50 b)) (k := (fo 50)) (T := TX3) miX3_copy mvX3_copy (c_copy l g (fdL μ n nw a b) (i := 50) (j := b) (by omega) (by omega)) hw_2_95 (fo_lt (by omega)) (WF_fo g _ 50) rfl rfl ⟨by decide, by decide, rfl, rfl, by decide, by decide⟩ rfl (Nat.le_of_ble_eq_true rfl) dX10_firstDisjointPair_51 rfl ?_
    refine r_iconst C (v := (nI 0)) dX10_firstDisjointPair_54 rfl ?_
    refine r_istore C (lv' := [(4, .int (nI 0)), (3, .int (nI c)), (0, .ref (ad g 0)), (1, .ref (ad g (fo a))), (2, .ref (ad g (fo b)))]) 4 dX10_firstDisjointPair_55 (by decide) rfl ?_
    exact lp_firstDisjointPair C X (M := (mCpy (fdL μ n nw a b) 50 b)) (c := c) (gI_mCpy.trans (gI_fdL.trans hn)) (gI_mCpy.trans (gI_fdL.trans hw)) hn10 hnw hs ha hb hc1 Rr (n + 1) 0 (by omega) (by omega)
  · rw [fdA, fdM, if_pos (Decidable.not_not.mp h41), if_pos (Decidable.not_not.mp h41)] at Rr
    refine r_iconst C (v := (-1)) dX10_firstDisjointPair_44 rfl ?_
    exact r_iret C dX10_firstDisjointPair_45 Rr
