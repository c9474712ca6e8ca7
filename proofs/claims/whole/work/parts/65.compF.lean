set_option maxHeartbeats 1000000 in
set_option maxRecDepth 100000 in
theorem y_addC (l : Launch) (g : Gd) (μ : Mm) {n nw p d f e : Nat} (hO : Ok μ n nw) (hH : Ok2 μ p d) (hf : f < 4) (he : e < 2 ^ n) : Ct l yX10_add cX10_add 4 (some .boolean) (rmk 3 84) g [.ref (ad g 0), .int (nI f), .int (nI e)] μ (some (.int (bI (!bt (gJ (mSave μ p d n) (0 + f)) e)))) (mPut (mSave μ p d n) (0 + f) e) := by
  obtain ⟨hn, hw, hn10, hnw, hs, h1n⟩ := hO
  obtain ⟨h2, h3, hp4, hd4⟩ := hH
  have h1024 := pw10 hn10
  have h2n := Nat.two_pow_pos n
  refine Ct.of (by decide) (Nat.le_of_ble_eq_true rfl) (fun z A C X Rr => ?_)
  refine r_iload_n C dX10_add_0 1 rfl ?_
  refine r_callP C (As := [.int (nI f)]) (rest := []) (st1 := []) miX10_checkFamily msX10_checkFamily (y_checkFamily l (f := f) (by omega)) hw_3_177 rfl ⟨by decide, by decide, rfl, rfl, by decide, by decide⟩ rfl (Nat.le_of_ble_eq_true rfl) dX10_add_1 rfl ?_
  refine r_aload_n C dX10_add_4 0 rfl ?_
  refine r_iload_n C dX10_add_5 2 rfl ?_
  refine r_callV C X (As := [.int (nI e)]) (rest := []) (st1 := []) (μ' := μ) (k := 0) (T := TX10) miX10_checkSet mvX10_checkSet (y_checkSet l g μ (n := n) (e := e) hn (by omega) (by omega)) hw_3_196 (by decide) rfl rfl rfl ⟨by decide, by decide, rfl, rfl, by decide, by decide⟩ rfl (Nat.le_of_ble_eq_true rfl) dX10_add_6 rfl ?_
  refine r_aload_n C dX10_add_9 0 rfl ?_
  refine r_get C X (k := 0) (R := RX10) (T := TX10) (N := 12) (n := 2) (v := .ref (ad g 3)) (by decide) rfl rfl inw10 (by decide) rfl hw_1_210 rfl dX10_add_10 ?_
  refine r_aload_n C dX10_add_13 0 rfl ?_
  refine r_get C X (k := 0) (R := RX10) (T := TX10) (N := 12) (n := 0) (v := .ref (ad g 1)) (by decide) rfl rfl inw10 (by decide) rfl hw_1_208 rfl dX10_add_14 ?_
  refine r_aload_n C dX10_add_17 0 rfl ?_
  refine r_get C X (k := 0) (R := RX10) (T := TX10) (N := 12) (n := 1) (v := .ref (ad g 2)) (by decide) rfl rfl inw10 (by decide) rfl hw_1_209 rfl dX10_add_18 ?_
  refine r_callV C X (As := [.ref (ad g 1), .ref (ad g 2)]) (rest := []) (st1 := []) (μ' := (mSave μ p d n)) (k := 3) (T := TX5) miX5_save mvX5_save (c_save l g μ (p := p) (d := d) (n := n) hn h3 h2 (by omega) (by omega)) hw_3_158 (by decide) rfl rfl rfl ⟨by decide, by decide, rfl, rfl, by decide, by decide⟩ rfl (Nat.le_of_ble_eq_true rfl) dX10_add_21 rfl ?_
  refine r_aload_n C dX10_add_24 0 rfl ?_
  refine r_get C X (k := 0) (R := RX10) (T := TX10) (N := 12) (n := 1) (v := .ref (ad g 2)) (by decide) rfl rfl inw10 (by decide) rfl hw_1_209 rfl dX10_add_25 ?_
  refine r_iload_n C dX10_add_28 1 rfl ?_
  refine r_aald C X (k := 2) (n := 4) (b := 0) (by decide) rfl (by omega) (by decide) dX10_add_29 ?_
  refine r_iload_n C dX10_add_30 2 rfl ?_
  refine r_callV C X (As := [.int (nI e)]) (rest := []) (st1 := [.int (bI (bt (gJ (mSave μ p d n) (0 + f)) e))]) (μ' := (mSave μ p d n)) (k := (fo (0 + f))) (T := TX3) miX3_contains mvX3_contains (c_contains l g (mSave μ p d n) (i := (0 + f)) (c := e) (by omega) (by omega)) hw_3_201 (fo_lt (by omega)) (WF_fo g _ (0 + f)) rfl rfl ⟨by decide, by decide, rfl, rfl, by decide, by decide⟩ rfl (Nat.le_of_ble_eq_true rfl) dX10_add_31 rfl ?_
  refine r_if_ne C 41 dX10_add_34 (by decide) (bI_ne _) (fun h34 => ?_) (fun h34 => ?_)
  · refine r_iconst C (v := (nI 0)) dX10_add_41 rfl ?_
    refine G_top (y := (bI (!bt (gJ (mSave μ p d n) (0 + f)) e))) (by rw [h34]; rfl) ?_
    refine r_istore_n C (lv' := [(3, .int (bI (!bt (gJ (mSave μ p d n) (0 + f)) e))), (0, .ref (ad g 0)), (1, .int (nI f)), (2, .int (nI e))]) 3 dX10_add_42 rfl (by decide) rfl ?_
    refine r_aload_n C dX10_add_43 1 rfl ?_
    refine r_get C X (k := 0) (R := RX10) (T := TX10) (N := 12) (n := 1) (v := .ref (ad g 2)) (by decide) rfl rfl inw10 (by decide) rfl hw_1_209 rfl dX10_add_44 ?_
    refine r_iload_n C dX10_add_47 2 rfl ?_
    refine r_aald C X (k := 2) (n := 4) (b := 0) (by decide) rfl (by omega) (by decide) dX10_add_48 ?_
    refine r_iload_n C dX10_add_49 3 rfl ?_
    refine r_callV C X (As := [.int (nI e)]) (rest := []) (st1 := []) (μ' := (mPut (mSave μ p d n) (0 + f) e)) (k := (fo (0 + f))) (T := TX3) miX3_put mvX3_put (c_put l g (mSave μ p d n) (i := (0 + f)) (c := e) (by omega) (by omega)) hw_3_202 (fo_lt (by omega)) (WF_fo g _ (0 + f)) rfl rfl ⟨by decide, by decide, rfl, rfl, by decide, by decide⟩ rfl (Nat.le_of_ble_eq_true rfl) dX10_add_50 rfl ?_
    refine r_iload_n C dX10_add_53 0 rfl ?_
    exact r_zret C dX10_add_54 (nar_b _) Rr
  · refine r_iconst C (v := (nI 1)) dX10_add_37 rfl ?_
    refine r_goto C 42 dX10_add_38 (by decide) ?_
    refine G_top (y := (bI (!bt (gJ (mSave μ p d n) (0 + f)) e))) (by rw [Bool.eq_false_iff.mpr h34]; rfl) ?_
    refine r_istore_n C (lv' := [(3, .int (bI (!bt (gJ (mSave μ p d n) (0 + f)) e))), (0, .ref (ad g 0)), (1, .int (nI f)), (2, .int (nI e))]) 3 dX10_add_42 rfl (by decide) rfl ?_
    refine r_aload_n C dX10_add_43 1 rfl ?_
    refine r_get C X (k := 0) (R := RX10) (T := TX10) (N := 12) (n := 1) (v := .ref (ad g 2)) (by decide) rfl rfl inw10 (by decide) rfl hw_1_209 rfl dX10_add_44 ?_
    refine r_iload_n C dX10_add_47 2 rfl ?_
    refine r_aald C X (k := 2) (n := 4) (b := 0) (by decide) rfl (by omega) (by decide) dX10_add_48 ?_
    refine r_iload_n C dX10_add_49 3 rfl ?_
    refine r_callV C X (As := [.int (nI e)]) (rest := []) (st1 := []) (μ' := (mPut (mSave μ p d n) (0 + f) e)) (k := (fo (0 + f))) (T := TX3) miX3_put mvX3_put (c_put l g (mSave μ p d n) (i := (0 + f)) (c := e) (by omega) (by omega)) hw_3_202 (fo_lt (by omega)) (WF_fo g _ (0 + f)) rfl rfl ⟨by decide, by decide, rfl, rfl, by decide, by decide⟩ rfl (Nat.le_of_ble_eq_true rfl) dX10_add_50 rfl ?_
    refine r_iload_n C dX10_add_53 0 rfl ?_
    exact r_zret C dX10_add_54 (nar_b _) Rr
set_option maxHeartbeats 1000000 in
set_option maxRecDepth 100000 in
theorem y_removeC (l : Launch) (g : Gd) (μ : Mm) {n nw p d f e : Nat} (hO : Ok μ n nw) (hH : Ok2 μ p d) (hf : f < 4) (he : e < 2 ^ n) : Ct l yX10_remove cX10_remove 4 (some .boolean) (rmk 3 84) g [.ref (ad g 0), .int (nI f), .int (nI e)] μ (some (.int (bI (bt (gJ (mSave μ p d n) (0 + f)) e)))) (mDrp (mSave μ p d n) (0 + f) e) := by
  obtain ⟨hn, hw, hn10, hnw, hs, h1n⟩ := hO
  obtain ⟨h2, h3, hp4, hd4⟩ := hH
  have h1024 := pw10 hn10
  have h2n := Nat.two_pow_pos n
  refine Ct.of (by decide) (Nat.le_of_ble_eq_true rfl) (fun z A C X Rr => ?_)
  refine r_iload_n C dX10_remove_0 1 rfl ?_
  refine r_callP C (As := [.int (nI f)]) (rest := []) (st1 := []) miX10_checkFamily msX10_checkFamily (y_checkFamily l (f := f) (by omega)) hw_3_177 rfl ⟨by decide, by decide, rfl, rfl, by decide, by decide⟩ rfl (Nat.le_of_ble_eq_true rfl) dX10_remove_1 rfl ?_
  refine r_aload_n C dX10_remove_4 0 rfl ?_
  refine r_iload_n C dX10_remove_5 2 rfl ?_
  refine r_callV C X (As := [.int (nI e)]) (rest := []) (st1 := []) (μ' := μ) (k := 0) (T := TX10) miX10_checkSet mvX10_checkSet (y_checkSet l g μ (n := n) (e := e) hn (by omega) (by omega)) hw_3_196 (by decide) rfl rfl rfl ⟨by decide, by decide, rfl, rfl, by decide, by decide⟩ rfl (Nat.le_of_ble_eq_true rfl) dX10_remove_6 rfl ?_
  refine r_aload_n C dX10_remove_9 0 rfl ?_
  refine r_get C X (k := 0) (R := RX10) (T := TX10) (N := 12) (n := 2) (v := .ref (ad g 3)) (by decide) rfl rfl inw10 (by decide) rfl hw_1_210 rfl dX10_remove_10 ?_
  refine r_aload_n C dX10_remove_13 0 rfl ?_
  refine r_get C X (k := 0) (R := RX10) (T := TX10) (N := 12) (n := 0) (v := .ref (ad g 1)) (by decide) rfl rfl inw10 (by decide) rfl hw_1_208 rfl dX10_remove_14 ?_
  refine r_aload_n C dX10_remove_17 0 rfl ?_
  refine r_get C X (k := 0) (R := RX10) (T := TX10) (N := 12) (n := 1) (v := .ref (ad g 2)) (by decide) rfl rfl inw10 (by decide) rfl hw_1_209 rfl dX10_remove_18 ?_
  refine r_callV C X (As := [.ref (ad g 1), .ref (ad g 2)]) (rest := []) (st1 := []) (μ' := (mSave μ p d n)) (k := 3) (T := TX5) miX5_save mvX5_save (c_save l g μ (p := p) (d := d) (n := n) hn h3 h2 (by omega) (by omega)) hw_3_158 (by decide) rfl rfl rfl ⟨by decide, by decide, rfl, rfl, by decide, by decide⟩ rfl (Nat.le_of_ble_eq_true rfl) dX10_remove_21 rfl ?_
  refine r_aload_n C dX10_remove_24 0 rfl ?_
  refine r_get C X (k := 0) (R := RX10) (T := TX10) (N := 12) (n := 1) (v := .ref (ad g 2)) (by decide) rfl rfl inw10 (by decide) rfl hw_1_209 rfl dX10_remove_25 ?_
  refine r_iload_n C dX10_remove_28 1 rfl ?_
  refine r_aald C X (k := 2) (n := 4) (b := 0) (by decide) rfl (by omega) (by decide) dX10_remove_29 ?_
  refine r_iload_n C dX10_remove_30 2 rfl ?_
  refine r_callV C X (As := [.int (nI e)]) (rest := []) (st1 := [.int (bI (bt (gJ (mSave μ p d n) (0 + f)) e))]) (μ' := (mSave μ p d n)) (k := (fo (0 + f))) (T := TX3) miX3_contains mvX3_contains (c_contains l g (mSave μ p d n) (i := (0 + f)) (c := e) (by omega) (by omega)) hw_3_201 (fo_lt (by omega)) (WF_fo g _ (0 + f)) rfl rfl ⟨by decide, by decide, rfl, rfl, by decide, by decide⟩ rfl (Nat.le_of_ble_eq_true rfl) dX10_remove_31 rfl ?_
  refine r_istore_n C (lv' := [(3, .int (bI (bt (gJ (mSave μ p d n) (0 + f)) e))), (0, .ref (ad g 0)), (1, .int (nI f)), (2, .int (nI e))]) 3 dX10_remove_34 rfl (by decide) rfl ?_
  refine r_aload_n C dX10_remove_35 1 rfl ?_
  refine r_get C X (k := 0) (R := RX10) (T := TX10) (N := 12) (n := 1) (v := .ref (ad g 2)) (by decide) rfl rfl inw10 (by decide) rfl hw_1_209 rfl dX10_remove_36 ?_
  refine r_iload_n C dX10_remove_39 2 rfl ?_
  refine r_aald C X (k := 2) (n := 4) (b := 0) (by decide) rfl (by omega) (by decide) dX10_remove_40 ?_
  refine r_iload_n C dX10_remove_41 3 rfl ?_
  refine r_callV C X (As := [.int (nI e)]) (rest := []) (st1 := []) (μ' := (mDrp (mSave μ p d n) (0 + f) e)) (k := (fo (0 + f))) (T := TX3) miX3_drop mvX3_drop (c_drop l g (mSave μ p d n) (i := (0 + f)) (c := e) (by omega) (by omega)) hw_3_213 (fo_lt (by omega)) (WF_fo g _ (0 + f)) rfl rfl ⟨by decide, by decide, rfl, rfl, by decide, by decide⟩ rfl (Nat.le_of_ble_eq_true rfl) dX10_remove_42 rfl ?_
  refine r_iload_n C dX10_remove_45 0 rfl ?_
  exact r_zret C dX10_remove_46 (nar_b _) Rr
set_option maxHeartbeats 1000000 in
set_option maxRecDepth 100000 in
theorem y_combineC (l : Launch) (g : Gd) (μ : Mm) {n nw p d pl op a b : Nat} (hO : Ok μ n nw) (hH : Ok2 μ p d) (hpl : pl < 4) (hop : op < 4) (ha : a < 4) (hb : b < 4) : Ct l yX10_combine cX10_combine 5 (some .int) (rmk 4 105) g [.ref (ad g 0), .int (nI pl), .int (nI op), .int (nI a), .int (nI b)] μ (some (.int (nI (ct (mLayP (mCmb μ nw 50 op (0 + a) (0 + b)) p d n (0 + pl)) nw 50)))) (mLayP (mCmb μ nw 50 op (0 + a) (0 + b)) p d n (0 + pl)) := by
  obtain ⟨hn, hw, hn10, hnw, hs, h1n⟩ := hO
  obtain ⟨h2, h3, hp4, hd4⟩ := hH
  have h1024 := pw10 hn10
  have h2n := Nat.two_pow_pos n
  refine Ct.of (by decide) (Nat.le_of_ble_eq_true rfl) (fun z A C X Rr => ?_)
  refine r_iload_n C dX10_combine_0 1 rfl ?_
  refine r_callP C (As := [.int (nI pl)]) (rest := []) (st1 := []) miX10_checkFamily msX10_checkFamily (y_checkFamily l (f := pl) (by omega)) hw_3_177 rfl ⟨by decide, by decide, rfl, rfl, by decide, by decide⟩ rfl (Nat.le_of_ble_eq_true rfl) dX10_combine_1 rfl ?_
  refine r_iload_n C dX10_combine_4 3 rfl ?_
  refine r_callP C (As := [.int (nI a)]) (rest := []) (st1 := []) miX10_checkFamily msX10_checkFamily (y_checkFamily l (f := a) (by omega)) hw_3_177 rfl ⟨by decide, by decide, rfl, rfl, by decide, by decide⟩ rfl (Nat.le_of_ble_eq_true rfl) dX10_combine_5 rfl ?_
  refine r_iload C dX10_combine_8 4 rfl ?_
  refine r_callP C (As := [.int (nI b)]) (rest := []) (st1 := []) miX10_checkFamily msX10_checkFamily (y_checkFamily l (f := b) (by omega)) hw_3_177 rfl ⟨by decide, by decide, rfl, rfl, by decide, by decide⟩ rfl (Nat.le_of_ble_eq_true rfl) dX10_combine_10 rfl ?_
  refine r_iload_n C dX10_combine_13 2 rfl ?_
  refine r_iconst C (v := (nI 0)) dX10_combine_14 rfl ?_
  refine r_iconst C (v := (nI 3)) dX10_combine_15 rfl ?_
  refine r_callP C (As := [.int (nI op), .int (nI 0), .int (nI 3)]) (rest := []) (st1 := []) miX10_checkRange msX10_checkRange (y_checkRange l (v := (nI op)) (a := (nI 0)) (b := (nI 3)) ((nI_leI (by omega) (by omega)).mpr (by omega)) ((nI_leI (by omega) (by omega)).mpr (by omega))) hw_3_88 rfl ⟨by decide, by decide, rfl, rfl, by decide, by decide⟩ rfl (Nat.le_of_ble_eq_true rfl) dX10_combine_16 rfl ?_
  refine r_aload_n C dX10_combine_19 0 rfl ?_
  refine r_get C X (k := 0) (R := RX10) (T := TX10) (N := 12) (n := 10) (v := .ref (ad g (fo 50))) (by decide) rfl rfl inw10 (by decide) rfl hw_1_218 rfl dX10_combine_20 ?_
  refine r_iload_n C dX10_combine_23 2 rfl ?_
  refine r_aload_n C dX10_combine_24 0 rfl ?_
  refine r_get C X (k := 0) (R := RX10) (T := TX10) (N := 12) (n := 1) (v := .ref (ad g 2)) (by decide) rfl rfl inw10 (by decide) rfl hw_1_209 rfl dX10_combine_25 ?_
  refine r_iload_n C dX10_combine_28 3 rfl ?_
  refine r_aald C X (k := 2) (n := 4) (b := 0) (by decide) rfl (by omega) (by decide) dX10_combine_29 ?_
  refine r_aload_n C dX10_combine_30 0 rfl ?_
  refine r_get C X (k := 0) (R := RX10) (T := TX10) (N := 12) (n := 1) (v := .ref (ad g 2)) (by decide) rfl rfl inw10 (by decide) rfl hw_1_209 rfl dX10_combine_31 ?_
  refine r_iload C dX10_combine_34 4 rfl ?_
  refine r_aald C X (k := 2) (n := 4) (b := 0) (by decide) rfl (by omega) (by decide) dX10_combine_36 ?_
  refine r_callS C X (As := [.ref (ad g (fo 50)), .int (nI op), .ref (ad g (fo (0 + a))), .ref (ad g (fo (0 + b)))]) (rest := []) (st1 := []) (μ' := (mCmb μ nw 50 op (0 + a) (0 + b))) miX10_combineInto msX10_combineInto (c_combineInto l g μ (n := n) (nw := nw) (t := 50) (op := op) (a := (0 + a)) (b := (0 + b)) ⟨hn, hw, hn10, hnw, hs, h1n⟩ (by omega) (by omega) (by omega) (by omega)) hw_4_17 rfl ⟨by decide, by decide, rfl, rfl, by decide, by decide⟩ rfl (Nat.le_of_ble_eq_true rfl) dX10_combine_37 rfl ?_
  refine r_aload_n C dX10_combine_40 0 rfl ?_
  refine r_iload_n C dX10_combine_41 1 rfl ?_
  refine r_callV C X (As := [.int (nI pl)]) (rest := []) (st1 := [.int (nI (ct (mLayP (mCmb μ nw 50 op (0 + a) (0 + b)) p d n (0 + pl)) nw 50))]) (μ' := (mLayP (mCmb μ nw 50 op (0 + a) (0 + b)) p d n (0 + pl))) (k := 0) (T := TX10) miX10_lay mvX10_lay (c_layP l g (mCmb μ nw 50 op (0 + a) (0 + b)) (n := n) (nw := nw) (p := p) (d := d) (pl := pl) ⟨(gI_mCmb.trans hn), (gI_mCmb.trans hw), hn10, hnw, hs, h1n⟩ ⟨(gI_mCmb.trans h2), (gI_mCmb.trans h3), hp4, hd4⟩ (by omega)) hw_4_28 (by decide) rfl rfl rfl ⟨by decide, by decide, rfl, rfl, by decide, by decide⟩ rfl (Nat.le_of_ble_eq_true rfl) dX10_combine_42 rfl ?_
  exact r_iret C dX10_combine_45 Rr
set_option maxHeartbeats 1000000 in
set_option maxRecDepth 100000 in
theorem y_deriveC (l : Launch) (g : Gd) (μ : Mm) {n nw p d pl op f : Nat} (hO : Ok μ n nw) (hH : Ok2 μ p d) (hpl : pl < 4) (hop : op < 10) (hf : f < 4) : Ct l yX10_derive cX10_derive 4 (some .int) (rmk 6 133) g [.ref (ad g 0), .int (nI pl), .int (nI op), .int (nI f)] μ (some (.int (nI (ct (mLayP (mLay μ n nw 50 op (0 + f)) p d n (0 + pl)) nw 50)))) (mLayP (mLay μ n nw 50 op (0 + f)) p d n (0 + pl)) := by
  obtain ⟨hn, hw, hn10, hnw, hs, h1n⟩ := hO
  obtain ⟨h2, h3, hp4, hd4⟩ := hH
  have h1024 := pw10 hn10
  have h2n := Nat.two_pow_pos n
  refine Ct.of (by decide) (Nat.le_of_ble_eq_true rfl) (fun z A C X Rr => ?_)
  refine r_iload_n C dX10_derive_0 1 rfl ?_
  refine r_callP C (As := [.int (nI pl)]) (rest := []) (st1 := []) miX10_checkFamily msX10_checkFamily (y_checkFamily l (f := pl) (by omega)) hw_3_177 rfl ⟨by decide, by decide, rfl, rfl, by decide, by decide⟩ rfl (Nat.le_of_ble_eq_true rfl) dX10_derive_1 rfl ?_
  refine r_iload_n C dX10_derive_4 3 rfl ?_
  refine r_callP C (As := [.int (nI f)]) (rest := []) (st1 := []) miX10_checkFamily msX10_checkFamily (y_checkFamily l (f := f) (by omega)) hw_3_177 rfl ⟨by decide, by decide, rfl, rfl, by decide, by decide⟩ rfl (Nat.le_of_ble_eq_true rfl) dX10_derive_5 rfl ?_
  refine r_iload_n C dX10_derive_8 2 rfl ?_
  refine r_iconst C (v := (nI 0)) dX10_derive_9 rfl ?_
  refine r_bipush C (v := (nI 9)) dX10_derive_10 (by decide) ?_
  refine r_callP C (As := [.int (nI op), .int (nI 0), .int (nI 9)]) (rest := []) (st1 := []) miX10_checkRange msX10_checkRange (y_checkRange l (v := (nI op)) (a := (nI 0)) (b := (nI 9)) ((nI_leI (by omega) (by omega)).mpr (by omega)) ((nI_leI (by omega) (by omega)).mpr (by omega))) hw_3_88 rfl ⟨by decide, by decide, rfl, rfl, by decide, by decide⟩ rfl (Nat.le_of_ble_eq_true rfl) dX10_derive_12 rfl ?_
  refine r_aload_n C dX10_derive_15 0 rfl ?_
  refine r_get C X (k := 0) (R := RX10) (T := TX10) (N := 12) (n := 4) (v := .ref (ad g 8)) (by decide) rfl rfl inw10 (by decide) rfl hw_1_212 rfl dX10_derive_16 ?_
  refine r_aload_n C dX10_derive_19 0 rfl ?_
  refine r_get C X (k := 0) (R := RX10) (T := TX10) (N := 12) (n := 10) (v := .ref (ad g (fo 50))) (by decide) rfl rfl inw10 (by decide) rfl hw_1_218 rfl dX10_derive_20 ?_
  refine r_iload_n C dX10_derive_23 2 rfl ?_
  refine r_aload_n C dX10_derive_24 0 rfl ?_
  refine r_get C X (k := 0) (R := RX10) (T := TX10) (N := 12) (n := 1) (v := .ref (ad g 2)) (by decide) rfl rfl inw10 (by decide) rfl hw_1_209 rfl dX10_derive_25 ?_
  refine r_iload_n C dX10_derive_28 3 rfl ?_
  refine r_aald C X (k := 2) (n := 4) (b := 0) (by decide) rfl (by omega) (by decide) dX10_derive_29 ?_
  refine r_callV C X (As := [.ref (ad g (fo 50)), .int (nI op), .ref (ad g (fo (0 + f)))]) (rest := []) (st1 := []) (μ' := (mLay μ n nw 50 op (0 + f))) (k := 8) (T := TX2) miX2_lay mvX2_lay (c_lay l g μ (n := n) (nw := nw) (t := 50) (op := op) (s := (0 + f)) ⟨hn, hw, hn10, hnw, hs, h1n⟩ (by omega) (by omega) (by omega)) hw_4_39 (by decide) rfl rfl rfl ⟨by decide, by decide, rfl, rfl, by decide, by decide⟩ rfl (Nat.le_of_ble_eq_true rfl) dX10_derive_30 rfl ?_
  refine r_aload_n C dX10_derive_33 0 rfl ?_
  refine r_iload_n C dX10_derive_34 1 rfl ?_
  refine r_callV C X (As := [.int (nI pl)]) (rest := []) (st1 := [.int (nI (ct (mLayP (mLay μ n nw 50 op (0 + f)) p d n (0 + pl)) nw 50))]) (μ' := (mLayP (mLay μ n nw 50 op (0 + f)) p d n (0 + pl))) (k := 0) (T := TX10) miX10_lay mvX10_lay (c_layP l g (mLay μ n nw 50 op (0 + f)) (n := n) (nw := nw) (p := p) (d := d) (pl := pl) ⟨(gI_mLay.trans hn), (gI_mLay.trans hw), hn10, hnw, hs, h1n⟩ ⟨(gI_mLay.trans h2), (gI_mLay.trans h3), hp4, hd4⟩ (by omega)) hw_4_28 (by decide) rfl rfl rfl ⟨by decide, by decide, rfl, rfl, by decide, by decide⟩ rfl (Nat.le_of_ble_eq_true rfl) dX10_derive_35 rfl ?_
  exact r_iret C dX10_derive_38 Rr
set_option maxHeartbeats 1000000 in
set_option maxRecDepth 100000 in
theorem y_compressC (l : Launch) (g : Gd) (μ : Mm) {n nw p d f j i : Nat} (hO : Ok μ n nw) (hH : Ok2 μ p d) (hf : f < 4) (hj : j < n) (hi : i < n) (hij : ¬ i = j) : Ct l yX10_compress cX10_compress 4 (some .int) (rmk 4 91) g [.ref (ad g 0), .int (nI f), .int (nI j), .int (nI i)] μ (some (.int (nI (ct (mRep (mSave μ p d n) nw (0 + f) j i) nw 24)))) (mRep (mSave μ p d n) nw (0 + f) j i) := by
  obtain ⟨hn, hw, hn10, hnw, hs, h1n⟩ := hO
  obtain ⟨h2, h3, hp4, hd4⟩ := hH
  have h1024 := pw10 hn10
  have h2n := Nat.two_pow_pos n
  refine Ct.of (by decide) (Nat.le_of_ble_eq_true rfl) (fun z A C X Rr => ?_)
  refine r_iload_n C dX10_compress_0 1 rfl ?_
  refine r_callP C (As := [.int (nI f)]) (rest := []) (st1 := []) miX10_checkFamily msX10_checkFamily (y_checkFamily l (f := f) (by omega)) hw_3_177 rfl ⟨by decide, by decide, rfl, rfl, by decide, by decide⟩ rfl (Nat.le_of_ble_eq_true rfl) dX10_compress_1 rfl ?_
  refine r_aload_n C dX10_compress_4 0 rfl ?_
  refine r_iload_n C dX10_compress_5 2 rfl ?_
  refine r_callV C X (As := [.int (nI j)]) (rest := []) (st1 := []) (μ' := μ) (k := 0) (T := TX10) miX10_checkElement mvX10_checkElement (y_checkElement l g μ (n := n) (x := j) hn (by omega) (by omega)) hw_4_6 (by decide) rfl rfl rfl ⟨by decide, by decide, rfl, rfl, by decide, by decide⟩ rfl (Nat.le_of_ble_eq_true rfl) dX10_compress_6 rfl ?_
  refine r_aload_n C dX10_compress_9 0 rfl ?_
  refine r_iload_n C dX10_compress_10 3 rfl ?_
  refine r_callV C X (As := [.int (nI i)]) (rest := []) (st1 := []) (μ' := μ) (k := 0) (T := TX10) miX10_checkElement mvX10_checkElement (y_checkElement l g μ (n := n) (x := i) hn (by omega) (by omega)) hw_4_6 (by decide) rfl rfl rfl ⟨by decide, by decide, rfl, rfl, by decide, by decide⟩ rfl (Nat.le_of_ble_eq_true rfl) dX10_compress_11 rfl ?_
  refine r_iload_n C dX10_compress_14 3 rfl ?_
  refine r_iload_n C dX10_compress_15 2 rfl ?_
  refine r_icmp_ne C 29 dX10_compress_16 (by decide) (not_congr (nI_eq (by omega) (by omega))) (fun h16 => ?_) (fun h16 => ?_)
  · refine r_aload_n C dX10_compress_29 0 rfl ?_
    refine r_get C X (k := 0) (R := RX10) (T := TX10) (N := 12) (n := 2) (v := .ref (ad g 3)) (by decide) rfl rfl inw10 (by decide) rfl hw_1_210 rfl dX10_compress_30 ?_
    refine r_aload_n C dX10_compress_33 0 rfl ?_
    refine r_get C X (k := 0) (R := RX10) (T := TX10) (N := 12) (n := 0) (v := .ref (ad g 1)) (by decide) rfl rfl inw10 (by decide) rfl hw_1_208 rfl dX10_compress_34 ?_
    refine r_aload_n C dX10_compress_37 0 rfl ?_
    refine r_get C X (k := 0) (R := RX10) (T := TX10) (N := 12) (n := 1) (v := .ref (ad g 2)) (by decide) rfl rfl inw10 (by decide) rfl hw_1_209 rfl dX10_compress_38 ?_
    refine r_callV C X (As := [.ref (ad g 1), .ref (ad g 2)]) (rest := []) (st1 := []) (μ' := (mSave μ p d n)) (k := 3) (T := TX5) miX5_save mvX5_save (c_save l g μ (p := p) (d := d) (n := n) hn h3 h2 (by omega) (by omega)) hw_3_158 (by decide) rfl rfl rfl ⟨by decide, by decide, rfl, rfl, by decide, by decide⟩ rfl (Nat.le_of_ble_eq_true rfl) dX10_compress_41 rfl ?_
    refine r_aload_n C dX10_compress_44 0 rfl ?_
    refine r_get C X (k := 0) (R := RX10) (T := TX10) (N := 12) (n := 5) (v := .ref (ad g 9)) (by decide) rfl rfl inw10 (by decide) rfl hw_1_213 rfl dX10_compress_45 ?_
    refine r_aload_n C dX10_compress_48 0 rfl ?_
    refine r_get C X (k := 0) (R := RX10) (T := TX10) (N := 12) (n := 1) (v := .ref (ad g 2)) (by decide) rfl rfl inw10 (by decide) rfl hw_1_209 rfl dX10_compress_49 ?_
    refine r_iload_n C dX10_compress_52 1 rfl ?_
    refine r_aald C X (k := 2) (n := 4) (b := 0) (by decide) rfl (by omega) (by decide) dX10_compress_53 ?_
    refine r_iload_n C dX10_compress_54 2 rfl ?_
    refine r_iload_n C dX10_compress_55 3 rfl ?_
    refine r_callV C X (As := [.ref (ad g (fo (0 + f))), .int (nI j), .int (nI i)]) (rest := []) (st1 := [.int (nI (ct (mRep (mSave μ p d n) nw (0 + f) j i) nw 24))]) (μ' := (mRep (mSave μ p d n) nw (0 + f) j i)) (k := 9) (T := TX1) miX1_replace mvX1_replace (c_replace l g (mSave μ p d n) (n := n) (nw := nw) (f := (0 + f)) (j := j) (i := i) ⟨((gI_mSave (by decide)).trans hn), ((gI_mSave (by decide)).trans hw), hn10, hnw, hs, h1n⟩ (by omega) (by omega) (by omega)) hw_4_66 (by decide) rfl rfl rfl ⟨by decide, by decide, rfl, rfl, by decide, by decide⟩ rfl (Nat.le_of_ble_eq_true rfl) dX10_compress_56 rfl ?_
    exact r_iret C dX10_compress_59 Rr
  · exact absurd hij h16
set_option maxHeartbeats 1000000 in
set_option maxRecDepth 100000 in
theorem y_shiftC (l : Launch) (g : Gd) (μ : Mm) {n nw p d f : Nat} (hO : Ok μ n nw) (hH : Ok2 μ p d) (hf : f < 4) : Ct l yX10_shift cX10_shift 2 (some .int) (rmk 6 139) g [.ref (ad g 0), .int (nI f)] μ (some (.int (nI ((raR n nw (0 + f) 100000 (mSave μ p d n) 0).2)))) ((raR n nw (0 + f) 100000 (mSave μ p d n) 0).1) := by
  obtain ⟨hn, hw, hn10, hnw, hs, h1n⟩ := hO
  obtain ⟨h2, h3, hp4, hd4⟩ := hH
  have h1024 := pw10 hn10
  have h2n := Nat.two_pow_pos n
  refine Ct.of (by decide) (Nat.le_of_ble_eq_true rfl) (fun z A C X Rr => ?_)
  refine r_iload_n C dX10_shift_0 1 rfl ?_
  refine r_callP C (As := [.int (nI f)]) (rest := []) (st1 := []) miX10_checkFamily msX10_checkFamily (y_checkFamily l (f := f) (by omega)) hw_3_177 rfl ⟨by decide, by decide, rfl, rfl, by decide, by decide⟩ rfl (Nat.le_of_ble_eq_true rfl) dX10_shift_1 rfl ?_
  refine r_aload_n C dX10_shift_4 0 rfl ?_
  refine r_get C X (k := 0) (R := RX10) (T := TX10) (N := 12) (n := 2) (v := .ref (ad g 3)) (by decide) rfl rfl inw10 (by decide) rfl hw_1_210 rfl dX10_shift_5 ?_
  refine r_aload_n C dX10_shift_8 0 rfl ?_
  refine r_get C X (k := 0) (R := RX10) (T := TX10) (N := 12) (n := 0) (v := .ref (ad g 1)) (by decide) rfl rfl inw10 (by decide) rfl hw_1_208 rfl dX10_shift_9 ?_
  refine r_aload_n C dX10_shift_12 0 rfl ?_
  refine r_get C X (k := 0) (R := RX10) (T := TX10) (N := 12) (n := 1) (v := .ref (ad g 2)) (by decide) rfl rfl inw10 (by decide) rfl hw_1_209 rfl dX10_shift_13 ?_
  refine r_callV C X (As := [.ref (ad g 1), .ref (ad g 2)]) (rest := []) (st1 := []) (μ' := (mSave μ p d n)) (k := 3) (T := TX5) miX5_save mvX5_save (c_save l g μ (p := p) (d := d) (n := n) hn h3 h2 (by omega) (by omega)) hw_3_158 (by decide) rfl rfl rfl ⟨by decide, by decide, rfl, rfl, by decide, by decide⟩ rfl (Nat.le_of_ble_eq_true rfl) dX10_shift_16 rfl ?_
  refine r_aload_n C dX10_shift_19 0 rfl ?_
  refine r_get C X (k := 0) (R := RX10) (T := TX10) (N := 12) (n := 5) (v := .ref (ad g 9)) (by decide) rfl rfl inw10 (by decide) rfl hw_1_213 rfl dX10_shift_20 ?_
  refine r_aload_n C dX10_shift_23 0 rfl ?_
  refine r_get C X (k := 0) (R := RX10) (T := TX10) (N := 12) (n := 1) (v := .ref (ad g 2)) (by decide) rfl rfl inw10 (by decide) rfl hw_1_209 rfl dX10_shift_24 ?_
  refine r_iload_n C dX10_shift_27 1 rfl ?_
  refine r_aald C X (k := 2) (n := 4) (b := 0) (by decide) rfl (by omega) (by decide) dX10_shift_28 ?_
  refine r_callV C X (As := [.ref (ad g (fo (0 + f)))]) (rest := []) (st1 := [.int (nI ((raR n nw (0 + f) 100000 (mSave μ p d n) 0).2))]) (μ' := ((raR n nw (0 + f) 100000 (mSave μ p d n) 0).1)) (k := 9) (T := TX1) miX1_replaceAll mvX1_replaceAll (c_replaceAll l g (mSave μ p d n) (n := n) (nw := nw) (f := (0 + f)) ⟨((gI_mSave (by decide)).trans hn), ((gI_mSave (by decide)).trans hw), hn10, hnw, hs, h1n⟩ (by omega)) hw_4_78 (by decide) rfl rfl rfl ⟨by decide, by decide, rfl, rfl, by decide, by decide⟩ rfl (Nat.le_of_ble_eq_true rfl) dX10_shift_29 rfl ?_
  exact r_iret C dX10_shift_32 Rr
set_option maxHeartbeats 1000000 in
set_option maxRecDepth 100000 in
theorem y_sizeC1 (l : Launch) (g : Gd) (μ : Mm) {n nw p d f : Nat} (hO : Ok μ n nw) (hH : Ok2 μ p d) (hf : f < 4) : Ct l yX10_size cX10_size 3 (some .int) (rmk 3 65) g [.ref (ad g 0), .int (nI f), .int (-1)] μ (some (.int (nI (sm (fun w => bc (gJ μ (0 + f) w)) nw)))) μ := by
  obtain ⟨hn, hw, hn10, hnw, hs, h1n⟩ := hO
  obtain ⟨h2, h3, hp4, hd4⟩ := hH
  have h1024 := pw10 hn10
  have h2n := Nat.two_pow_pos n
  refine Ct.of (by decide) (Nat.le_of_ble_eq_true rfl) (fun z A C X Rr => ?_)
  refine r_iload_n C dX10_size_0 1 rfl ?_
  refine r_callP C (As := [.int (nI f)]) (rest := []) (st1 := []) miX10_checkFamily msX10_checkFamily (y_checkFamily l (f := f) (by omega)) hw_3_177 rfl ⟨by decide, by decide, rfl, rfl, by decide, by decide⟩ rfl (Nat.le_of_ble_eq_true rfl) dX10_size_1 rfl ?_
  refine r_iload_n C dX10_size_4 2 rfl ?_
  refine r_iconst C (v := (-1)) dX10_size_5 rfl ?_
  refine r_icmp_ne C 19 dX10_size_6 (by decide) Iff.rfl (fun h6 => ?_) (fun h6 => ?_)
  · exact absurd rfl h6
  · refine r_aload_n C dX10_size_9 0 rfl ?_
    refine r_get C X (k := 0) (R := RX10) (T := TX10) (N := 12) (n := 1) (v := .ref (ad g 2)) (by decide) rfl rfl inw10 (by decide) rfl hw_1_209 rfl dX10_size_10 ?_
    refine r_iload_n C dX10_size_13 1 rfl ?_
    refine r_aald C X (k := 2) (n := 4) (b := 0) (by decide) rfl (by omega) (by decide) dX10_size_14 ?_
    refine r_callV C X (As := []) (rest := []) (st1 := [.int (nI (sm (fun w => bc (gJ μ (0 + f) w)) nw))]) (μ' := μ) (k := (fo (0 + f))) (T := TX3) miX3_count mvX3_count (c_count l g μ (i := (0 + f)) (nw := nw) hw (by omega) (by omega)) hw_2_165 (fo_lt (by omega)) (WF_fo g _ (0 + f)) rfl rfl ⟨by decide, by decide, rfl, rfl, by decide, by decide⟩ rfl (Nat.le_of_ble_eq_true rfl) dX10_size_15 rfl ?_
    exact r_iret C dX10_size_18 Rr
set_option maxHeartbeats 1000000 in
set_option maxRecDepth 100000 in
theorem y_sizeC2 (l : Launch) (g : Gd) (μ : Mm) {n nw p d f lv : Nat} (hO : Ok μ n nw) (hH : Ok2 μ p d) (hf : f < 4) (hl : lv ≤ n) : Ct l yX10_size cX10_size 3 (some .int) (rmk 3 65) g [.ref (ad g 0), .int (nI f), .int (nI lv)] μ (some (.int (nI (sm (fun w => bc (gJ μ (0 + f) w &&& oz w lv)) nw)))) μ := by
  obtain ⟨hn, hw, hn10, hnw, hs, h1n⟩ := hO
  obtain ⟨h2, h3, hp4, hd4⟩ := hH
  have h1024 := pw10 hn10
  have h2n := Nat.two_pow_pos n
  refine Ct.of (by decide) (Nat.le_of_ble_eq_true rfl) (fun z A C X Rr => ?_)
  refine r_iload_n C dX10_size_0 1 rfl ?_
  refine r_callP C (As := [.int (nI f)]) (rest := []) (st1 := []) miX10_checkFamily msX10_checkFamily (y_checkFamily l (f := f) (by omega)) hw_3_177 rfl ⟨by decide, by decide, rfl, rfl, by decide, by decide⟩ rfl (Nat.le_of_ble_eq_true rfl) dX10_size_1 rfl ?_
  refine r_iload_n C dX10_size_4 2 rfl ?_
  refine r_iconst C (v := (-1)) dX10_size_5 rfl ?_
  refine r_icmp_ne C 19 dX10_size_6 (by decide) Iff.rfl (fun h6 => ?_) (fun h6 => ?_)
  · refine r_iload_n C dX10_size_19 2 rfl ?_
    refine r_iconst C (v := (nI 0)) dX10_size_20 rfl ?_
    refine r_aload_n C dX10_size_21 0 rfl ?_
    refine r_get C X (k := 0) (R := RX10) (T := TX10) (N := 12) (n := 0) (v := .ref (ad g 1)) (by decide) rfl rfl inw10 (by decide) rfl hw_1_208 rfl dX10_size_22 ?_
    refine r_get C X (k := 1) (R := RX4) (T := TX4) (N := 2) (n := 0) (v := .int (gI μ 0)) (by decide) rfl rfl inw4 (by decide) rfl hw_1_42 rfl dX10_size_25 ?_
    refine G_top (y := (nI n)) hn ?_
    refine r_callP C (As := [.int (nI lv), .int (nI 0), .int (nI n)]) (rest := []) (st1 := []) miX10_checkRange msX10_checkRange (y_checkRange l (v := (nI lv)) (a := (nI 0)) (b := (nI n)) ((nI_leI (by omega) (by omega)).mpr (by omega)) ((nI_leI (by omega) (by omega)).mpr (by omega))) hw_3_88 rfl ⟨by decide, by decide, rfl, rfl, by decide, by decide⟩ rfl (Nat.le_of_ble_eq_true rfl) dX10_size_28 rfl ?_
    refine r_aload_n C dX10_size_31 0 rfl ?_
    refine r_get C X (k := 0) (R := RX10) (T := TX10) (N := 12) (n := 1) (v := .ref (ad g 2)) (by decide) rfl rfl inw10 (by decide) rfl hw_1_209 rfl dX10_size_32 ?_
    refine r_iload_n C dX10_size_35 1 rfl ?_
    refine r_aald C X (k := 2) (n := 4) (b := 0) (by decide) rfl (by omega) (by decide) dX10_size_36 ?_
    refine r_iload_n C dX10_size_37 2 rfl ?_
    refine r_callV C X (As := [.int (nI lv)]) (rest := []) (st1 := [.int (nI (sm (fun w => bc (gJ μ (0 + f) w &&& oz w lv)) nw))]) (μ' := μ) (k := (fo (0 + f))) (T := TX3) miX3_countOfSize mvX3_countOfSize (c_countOfSize l g μ (i := (0 + f)) (nw := nw) (m := lv) hw (by omega) (by omega) (by omega)) hw_2_192 (fo_lt (by omega)) (WF_fo g _ (0 + f)) rfl rfl ⟨by decide, by decide, rfl, rfl, by decide, by decide⟩ rfl (Nat.le_of_ble_eq_true rfl) dX10_size_38 rfl ?_
    exact r_iret C dX10_size_41 Rr
  · exact absurd (m1_ne lv (by omega)) h6
set_option maxHeartbeats 1000000 in
set_option maxRecDepth 100000 in
theorem y_typeC (l : Launch) (g : Gd) (μ : Mm) {n nw p d v tl : Nat} (hO : Ok μ n nw) (hH : Ok2 μ p d) (hv : v < 128) (h4 : gI μ 4 = nI tl) (htl : tl < 120) : Ct l yX10_type cX10_type 2 (some .int) (rmk 1 22) g [.ref (ad g 0), .int (nI v)] μ (some (.int (nI (tl + 1)))) (sI (sA μ 1 (upd (gA μ 1) tl (nI v))) 4 (nI (tl + 1))) := by
  obtain ⟨hn, hw, hn10, hnw, hs, h1n⟩ := hO
  obtain ⟨h2, h3, hp4, hd4⟩ := hH
  have h1024 := pw10 hn10
  have h2n := Nat.two_pow_pos n
  refine Ct.of (by decide) (Nat.le_of_ble_eq_true rfl) (fun z A C X Rr => ?_)
  refine r_iload_n C dX10_type_0 1 rfl ?_
  refine r_iconst C (v := (nI 0)) dX10_type_1 rfl ?_
  refine r_bipush C (v := (nI 127)) dX10_type_2 (by decide) ?_
  refine r_callP C (As := [.int (nI v), .int (nI 0), .int (nI 127)]) (rest := []) (st1 := []) miX10_checkRange msX10_checkRange (y_checkRange l (v := (nI v)) (a := (nI 0)) (b := (nI 127)) ((nI_leI (by omega) (by omega)).mpr (by omega)) ((nI_leI (by omega) (by omega)).mpr (by omega))) hw_3_88 rfl ⟨by decide, by decide, rfl, rfl, by decide, by decide⟩ rfl (Nat.le_of_ble_eq_true rfl) dX10_type_4 rfl ?_
  refine r_aload_n C dX10_type_7 0 rfl ?_
  refine r_get C X (k := 0) (R := RX10) (T := TX10) (N := 12) (n := 3) (v := .ref (ad g 6)) (by decide) rfl rfl inw10 (by decide) rfl hw_1_211 rfl dX10_type_8 ?_
  refine r_get C X (k := 6) (R := RX9) (T := TX9) (N := 2) (n := 0) (v := .int (gI μ 4)) (by decide) rfl rfl inw9 (by decide) rfl hw_1_100 rfl dX10_type_11 ?_
  refine G_top (y := (nI tl)) h4 ?_
  refine r_bipush C (v := (nI 120)) dX10_type_14 (by decide) ?_
  refine r_icmp_lt C 29 dX10_type_16 (by decide) (nI_ltI (by omega) (by omega)) (fun h16 => ?_) (fun h16 => ?_)
  · refine r_aload_n C dX10_type_29 0 rfl ?_
    refine r_get C X (k := 0) (R := RX10) (T := TX10) (N := 12) (n := 3) (v := .ref (ad g 6)) (by decide) rfl rfl inw10 (by decide) rfl hw_1_211 rfl dX10_type_30 ?_
    refine r_iload_n C dX10_type_33 1 rfl ?_
    refine r_callV C X (As := [.int (nI v)]) (rest := []) (st1 := []) (μ' := (sI (sA μ 1 (upd (gA μ 1) tl (nI v))) 4 (nI (tl + 1)))) (k := 6) (T := TX9) miX9_append mvX9_append (c_append l g μ (v := v) (tl := tl) h4 (by omega) (by omega)) hw_4_222 (by decide) rfl rfl rfl ⟨by decide, by decide, rfl, rfl, by decide, by decide⟩ rfl (Nat.le_of_ble_eq_true rfl) dX10_type_34 rfl ?_
    refine r_aload_n C dX10_type_37 0 rfl ?_
    refine r_get C X (k := 0) (R := RX10) (T := TX10) (N := 12) (n := 3) (v := .ref (ad g 6)) (by decide) rfl rfl inw10 (by decide) rfl hw_1_211 rfl dX10_type_38 ?_
    refine r_get C X (k := 6) (R := RX9) (T := TX9) (N := 2) (n := 0) (v := .int (gI (sI (sA μ 1 (upd (gA μ 1) tl (nI v))) 4 (nI (tl + 1))) 4)) (by decide) rfl rfl inw9 (by decide) rfl hw_1_100 rfl dX10_type_41 ?_
    refine G_top (y := (nI (tl + 1))) (gI_s _ _ _) ?_
    exact r_iret C dX10_type_44 Rr
  · exact absurd htl h16
set_option maxHeartbeats 1000000 in
set_option maxRecDepth 100000 in
theorem y_undoC (l : Launch) (g : Gd) (μ : Mm) {n nw p d en : Nat} (hO : Ok μ n nw) (hH : Ok2 μ p d) (hd0 : 0 < d) (hE : gA μ 0 p = nI en) (hen : en ≤ 10) : Ct l yX10_undo cX10_undo 1 (some .int) (rmk 3 84) g [.ref (ad g 0)] μ (some (.int (nI (d - 1)))) (mRest μ p d en) := by
  obtain ⟨hn, hw, hn10, hnw, hs, h1n⟩ := hO
  obtain ⟨h2, h3, hp4, hd4⟩ := hH
  have h1024 := pw10 hn10
  have h2n := Nat.two_pow_pos n
  refine Ct.of (by decide) (Nat.le_of_ble_eq_true rfl) (fun z A C X Rr => ?_)
  refine r_aload_n C dX10_undo_0 0 rfl ?_
  refine r_get C X (k := 0) (R := RX10) (T := TX10) (N := 12) (n := 2) (v := .ref (ad g 3)) (by decide) rfl rfl inw10 (by decide) rfl hw_1_210 rfl dX10_undo_1 ?_
  refine r_get C X (k := 3) (R := RX5) (T := TX5) (N := 4) (n := 0) (v := .int (gI μ 2)) (by decide) rfl rfl inw5 (by decide) rfl hw_1_79 rfl dX10_undo_4 ?_
  refine G_top (y := (nI d)) h2 ?_
  refine r_if_ne C 21 dX10_undo_7 (by decide) (zI_ne (by omega)) (fun h7 => ?_) (fun h7 => ?_)
  · refine r_aload_n C dX10_undo_21 0 rfl ?_
    refine r_get C X (k := 0) (R := RX10) (T := TX10) (N := 12) (n := 2) (v := .ref (ad g 3)) (by decide) rfl rfl inw10 (by decide) rfl hw_1_210 rfl dX10_undo_22 ?_
    refine r_aload_n C dX10_undo_25 0 rfl ?_
    refine r_get C X (k := 0) (R := RX10) (T := TX10) (N := 12) (n := 0) (v := .ref (ad g 1)) (by decide) rfl rfl inw10 (by decide) rfl hw_1_208 rfl dX10_undo_26 ?_
    refine r_aload_n C dX10_undo_29 0 rfl ?_
    refine r_get C X (k := 0) (R := RX10) (T := TX10) (N := 12) (n := 1) (v := .ref (ad g 2)) (by decide) rfl rfl inw10 (by decide) rfl hw_1_209 rfl dX10_undo_30 ?_
    refine r_callV C X (As := [.ref (ad g 1), .ref (ad g 2)]) (rest := []) (st1 := []) (μ' := (mRest μ p d en)) (k := 3) (T := TX5) miX5_restore mvX5_restore (c_restore l g μ (p := p) (d := d) (n := en) h3 h2 hp4 hd4 hd0 hE hen) hw_5_7 (by decide) rfl rfl rfl ⟨by decide, by decide, rfl, rfl, by decide, by decide⟩ rfl (Nat.le_of_ble_eq_true rfl) dX10_undo_33 rfl ?_
    refine r_aload_n C dX10_undo_36 0 rfl ?_
    refine r_get C X (k := 0) (R := RX10) (T := TX10) (N := 12) (n := 2) (v := .ref (ad g 3)) (by decide) rfl rfl inw10 (by decide) rfl hw_1_210 rfl dX10_undo_37 ?_
    refine r_get C X (k := 3) (R := RX5) (T := TX5) (N := 4) (n := 0) (v := .int (gI (mRest μ p d en) 2)) (by decide) rfl rfl inw5 (by decide) rfl hw_1_79 rfl dX10_undo_40 ?_
    refine G_top (y := (nI (d - 1))) (gI_s _ _ _) ?_
    exact r_iret C dX10_undo_43 Rr
  · exact absurd (Decidable.not_not.mp h7) (by omega)
def mCl4 (μ : Mm) : Nat → Mm := itM (fun m f => mClr m (0 + f)) μ
theorem gI_mCl4 {μ : Mm} {k q : Nat} : gI (mCl4 μ k) q = gI μ q := gI_it (f := fun m f => mClr m (0 + f)) (fun _ _ _ => gI_mClr) k
def mSG (μ : Mm) (p d n e : Nat) : Mm := mCl4 (sI (sI (mSave μ p d n) 0 (nI e)) 1 (nI (wf e))) 4
set_option maxHeartbeats 1000000 in
set_option maxRecDepth 100000 in
theorem lp_setGround {z : Zt} {A : Nat → Prop} {l : Launch} {g : Gd} (C : Cx z A l (rmk 3 84) cX10_setGround 4 "SetFamilies") (X : Kx z g A) {M : Mm} {n e : Nat} (Rr : Rx z g A (some .int) (some (.int (nI n))) (mCl4 M 4)) : ∀ (n_ : Nat) (k : Nat), 4 - k < n_ → k ≤ 4 → G z g.1 A 4 (wd g (mCl4 M k)) 0 0 40 [(3, .int (nI k)), (2, .int (nI n)), (0, .ref (ad g 0)), (1, .int (nI e))] [] := by
  intro n_
  induction n_ with
  | zero => intro k hm_; exact absurd hm_ (Nat.not_lt_zero _)
  | succ n_ ih =>
    intro k hm_ hk
    refine r_iload_n C dX10_setGround_40 0 rfl ?_
    refine r_iconst C (v := (nI 4)) dX10_setGround_41 rfl ?_
    refine r_icmp_ge C 60 dX10_setGround_42 (by decide) (nI_leI (by omega) (by omega)) (fun h42 => ?_) (fun h42 => ?_)
    · have hk4 : k = 4 := by omega
      subst hk4
      refine r_iload_n C dX10_setGround_60 1 rfl ?_
      exact r_iret C dX10_setGround_61 Rr
    · refine r_aload_n C dX10_setGround_45 2 rfl ?_
      refine r_get C X (k := 0) (R := RX10) (T := TX10) (N := 12) (n := 1) (v := .ref (ad g 2)) (by decide) rfl rfl inw10 (by decide) rfl hw_1_209 rfl dX10_setGround_46 ?_
      refine r_iload_n C dX10_setGround_49 0 rfl ?_
      refine r_aald C X (k := 2) (n := 4) (b := 0) (by decide) rfl (by omega) (by decide) dX10_setGround_50 ?_
      refine r_callV C X (As := []) (rest := []) (st1 := []) (μ' := (mClr (mCl4 M k) (0 + k))) (k := (fo (0 + k))) (T := TX3) miX3_clear mvX3_clear (c_clear l g (mCl4 M k) (i := (0 + k)) (by omega)) hw_3_168 (fo_lt (by omega)) (WF_fo g _ (0 + k)) rfl rfl ⟨by decide, by decide, rfl, rfl, by decide, by decide⟩ rfl (Nat.le_of_ble_eq_true rfl) dX10_setGround_51 rfl ?_
      refine r_iinc C (v := (nI (k + 1))) (lv' := [(3, .int (nI (k + 1))), (2, .int (nI n)), (0, .ref (ad g 0)), (1, .int (nI e))]) 3 0 dX10_setGround_54 rfl (inc_N _ 1) (by decide) rfl ?_
      refine r_goto C 40 dX10_setGround_57 (by decide) ?_
      exact ih (k + 1) (by omega) (by omega)
set_option maxHeartbeats 1000000 in
set_option maxRecDepth 100000 in
theorem y_setGroundC (l : Launch) (g : Gd) (μ : Mm) {n nw p d e : Nat} (hO : Ok μ n nw) (hH : Ok2 μ p d) (he : 1 ≤ e) (he10 : e ≤ 10) : Ct l yX10_setGround cX10_setGround 4 (some .int) (rmk 3 84) g [.ref (ad g 0), .int (nI e)] μ (some (.int (nI n))) (mSG μ p d n e) := by
  obtain ⟨hn, hw, hn10, hnw, hs, h1n⟩ := hO
  obtain ⟨h2, h3, hp4, hd4⟩ := hH
  have h1024 := pw10 hn10
  have h2n := Nat.two_pow_pos n
  refine Ct.of (by decide) (Nat.le_of_ble_eq_true rfl) (fun z A C X Rr => ?_)
  refine r_iload_n C dX10_setGround_0 1 rfl ?_
  refine r_iconst C (v := (nI 1)) dX10_setGround_1 rfl ?_
  refine r_bipush C (v := (nI 10)) dX10_setGround_2 (by decide) ?_
  refine r_callP C (As := [.int (nI e), .int (nI 1), .int (nI 10)]) (rest := []) (st1 := []) miX10_checkRange msX10_checkRange (y_checkRange l (v := (nI e)) (a := (nI 1)) (b := (nI 10)) ((nI_leI (by omega) (by omega)).mpr (by omega)) ((nI_leI (by omega) (by omega)).mpr (by omega))) hw_3_88 rfl ⟨by decide, by decide, rfl, rfl, by decide, by decide⟩ rfl (Nat.le_of_ble_eq_true rfl) dX10_setGround_4 rfl ?_
  refine r_aload_n C dX10_setGround_7 0 rfl ?_
  refine r_get C X (k := 0) (R := RX10) (T := TX10) (N := 12) (n := 0) (v := .ref (ad g 1)) (by decide) rfl rfl inw10 (by decide) rfl hw_1_208 rfl dX10_setGround_8 ?_
  refine r_get C X (k := 1) (R := RX4) (T := TX4) (N := 2) (n := 0) (v := .int (gI μ 0)) (by decide) rfl rfl inw4 (by decide) rfl hw_1_42 rfl dX10_setGround_11 ?_
  refine G_top (y := (nI n)) hn ?_
  refine r_istore_n C (lv' := [(2, .int (nI n)), (0, .ref (ad g 0)), (1, .int (nI e))]) 2 dX10_setGround_14 rfl (by decide) rfl ?_
  refine r_aload_n C dX10_setGround_15 1 rfl ?_
  refine r_get C X (k := 0) (R := RX10) (T := TX10) (N := 12) (n := 2) (v := .ref (ad g 3)) (by decide) rfl rfl inw10 (by decide) rfl hw_1_210 rfl dX10_setGround_16 ?_
  refine r_aload_n C dX10_setGround_19 1 rfl ?_
  refine r_get C X (k := 0) (R := RX10) (T := TX10) (N := 12) (n := 0) (v := .ref (ad g 1)) (by decide) rfl rfl inw10 (by decide) rfl hw_1_208 rfl dX10_setGround_20 ?_
  refine r_aload_n C dX10_setGround_23 1 rfl ?_
  refine r_get C X (k := 0) (R := RX10) (T := TX10) (N := 12) (n := 1) (v := .ref (ad g 2)) (by decide) rfl rfl inw10 (by decide) rfl hw_1_209 rfl dX10_setGround_24 ?_
  refine r_callV C X (As := [.ref (ad g 1), .ref (ad g 2)]) (rest := []) (st1 := []) (μ' := (mSave μ p d n)) (k := 3) (T := TX5) miX5_save mvX5_save (c_save l g μ (p := p) (d := d) (n := n) hn h3 h2 (by omega) (by omega)) hw_3_158 (by decide) rfl rfl rfl ⟨by decide, by decide, rfl, rfl, by decide, by decide⟩ rfl (Nat.le_of_ble_eq_true rfl) dX10_setGround_27 rfl ?_
  refine r_aload_n C dX10_setGround_30 1 rfl ?_
  refine r_get C X (k := 0) (R := RX10) (T := TX10) (N := 12) (n := 0) (v := .ref (ad g 1)) (by decide) rfl rfl inw10 (by decide) rfl hw_1_208 rfl dX10_setGround_31 ?_
  refine r_iload_n C dX10_setGround_34 2 rfl ?_
  refine r_callV C X (As := [.int (nI e)]) (rest := []) (st1 := []) (μ' := (sI (sI (mSave μ p d n) 0 (nI e)) 1 (nI (wf e)))) (k := 1) (T := TX4) miX4_become mvX4_become (c_become l g (mSave μ p d n) (n := e) (by omega)) hw_3_164 (by decide) rfl rfl rfl ⟨by decide, by decide, rfl, rfl, by decide, by decide⟩ rfl (Nat.le_of_ble_eq_true rfl) dX10_setGround_35 rfl ?_
  refine r_iconst C (v := (nI 0)) dX10_setGround_38 rfl ?_
  refine r_istore_n C (lv' := [(3, .int (nI 0)), (2, .int (nI n)), (0, .ref (ad g 0)), (1, .int (nI e))]) 3 dX10_setGround_39 rfl (by decide) rfl ?_
  exact lp_setGround C X (M := (sI (sI (mSave μ p d n) 0 (nI e)) 1 (nI (wf e)))) (n := n) (e := e) Rr 5 0 (by decide) (by decide)
def mTraC (c nw : Nat) (μ : Mm) : Nat → Mm := itM (fun m x => if c.testBit x = true then m else mFgt m nw 50 x) μ
theorem gI_mTraC {c nw : Nat} {μ : Mm} {k q : Nat} : gI (mTraC c nw μ k) q = gI μ q := gI_it (f := fun m x => if c.testBit x = true then m else mFgt m nw 50 x) (fun m e j => by split <;> rfl) k
set_option maxHeartbeats 1000000 in
set_option maxRecDepth 100000 in
theorem lp_trace {z : Zt} {A : Nat → Prop} {l : Launch} {g : Gd} (C : Cx z A l (rmk 4 105) cX10_trace 5 "SetFamilies") (X : Kx z g A) {M : Mm} {n nw p d pl f c : Nat} (hn : gI M 0 = nI n) (hw : gI M 1 = nI nw) (h2 : gI M 2 = nI d) (h3 : gI M 3 = nI p) (hp4 : p < 4) (hd4 : d ≤ 4) (hn10 : n ≤ 10) (hnw : nw ≤ 16) (hs : ∀ e, e < n → 6 ≤ e → 2 ^ (e - 6) ≤ nw) (h1n : 1 ≤ n) (hpl : pl < 4) (hc : c < 1024) (Rr : Rx z g A (some .int) (some (.int (nI (ct (mLayP (mTraC c nw M n) p d n (0 + pl)) nw 50)))) (mLayP (mTraC c nw M n) p d n (0 + pl))) : ∀ (n_ : Nat) (x : Nat), n - x < n_ → x ≤ n → G z g.1 A 5 (wd g (mTraC c nw M x)) 0 0 29 [(4, .int (nI x)), (0, .ref (ad g 0)), (1, .int (nI pl)), (2, .int (nI f)), (3, .int (nI c))] [] := by
  intro n_
  induction n_ with
  | zero => intro x hm_; exact absurd hm_ (Nat.not_lt_zero _)
  | succ n_ ih =>
    intro x hm_ hx
    refine r_iload C dX10_trace_29 0 rfl ?_
    refine r_aload_n C dX10_trace_31 1 rfl ?_
    refine r_get C X (k := 0) (R := RX10) (T := TX10) (N := 12) (n := 0) (v := .ref (ad g 1)) (by decide) rfl rfl inw10 (by decide) rfl hw_1_208 rfl dX10_trace_32 ?_
    refine r_get C X (k := 1) (R := RX4) (T := TX4) (N := 2) (n := 0) (v := .int (gI (mTraC c nw M x) 0)) (by decide) rfl rfl inw4 (by decide) rfl hw_1_42 rfl dX10_trace_35 ?_
    refine G_top (y := (nI n)) (gI_mTraC.trans hn) ?_
    refine r_icmp_ge C 65 dX10_trace_38 (by decide) (nI_leI (by omega) (by omega)) (fun h38 => ?_) (fun h38 => ?_)
    · have hkn : n = x := by omega
      subst hkn
      refine r_aload_n C dX10_trace_65 1 rfl ?_
      refine r_iload_n C dX10_trace_66 2 rfl ?_
      refine r_callV C X (As := [.int (nI pl)]) (rest := []) (st1 := [.int (nI (ct (mLayP (mTraC c nw M n) p d n (0 + pl)) nw 50))]) (μ' := (mLayP (mTraC c nw M n) p d n (0 + pl))) (k := 0) (T := TX10) miX10_lay mvX10_lay (c_layP l g (mTraC c nw M n) (n := n) (nw := nw) (p := p) (d := d) (pl := pl) ⟨(gI_mTraC.trans hn), (gI_mTraC.trans hw), hn10, hnw, hs, h1n⟩ ⟨(gI_mTraC.trans h2), (gI_mTraC.trans h3), hp4, hd4⟩ (by omega)) hw_4_28 (by decide) rfl rfl rfl ⟨by decide, by decide, rfl, rfl, by decide, by decide⟩ rfl (Nat.le_of_ble_eq_true rfl) dX10_trace_67 rfl ?_
      exact r_iret C dX10_trace_70 Rr
    · refine r_iload_n C dX10_trace_41 4 rfl ?_
      refine r_iload C dX10_trace_42 0 rfl ?_
      refine r_callP C (As := [.int (nI c), .int (nI x)]) (rest := []) (st1 := [.int (bI (Nat.testBit c x))]) miX10_holds msX10_holds (c_holds l (c := c) (x := x) (by omega) (by omega)) hw_2_116 rfl ⟨by decide, by decide, rfl, rfl, by decide, by decide⟩ rfl (Nat.le_of_ble_eq_true rfl) dX10_trace_44 rfl ?_
      refine r_if_ne C 59 dX10_trace_47 (by decide) (bI_ne _) (fun h47 => ?_) (fun h47 => ?_)
      · refine r_iinc C (v := (nI (x + 1))) (lv' := [(4, .int (nI (x + 1))), (0, .ref (ad g 0)), (1, .int (nI pl)), (2, .int (nI f)), (3, .int (nI c))]) 4 0 dX10_trace_59 rfl (inc_N _ 1) (by decide) rfl ?_
        refine r_goto C 29 dX10_trace_62 (by decide) ?_
        refine G_mem (μ' := mTraC c nw M (x + 1)) (by show _ = (if c.testBit x = true then _ else _); rw [if_pos h47]; rfl) ?_
        exact ih (x + 1) (by omega) (by omega)
      · refine r_aload_n C dX10_trace_50 1 rfl ?_
        refine r_get C X (k := 0) (R := RX10) (T := TX10) (N := 12) (n := 10) (v := .ref (ad g (fo 50))) (by decide) rfl rfl inw10 (by decide) rfl hw_1_218 rfl dX10_trace_51 ?_
        refine r_iload C dX10_trace_54 0 rfl ?_
        refine r_callV C X (As := [.int (nI x)]) (rest := []) (st1 := []) (μ' := (mFgt (mTraC c nw M x) nw 50 x)) (k := (fo 50)) (T := TX3) miX3_forget mvX3_forget (c_forget l g (mTraC c nw M x) (i := 50) (e := x) (nw := nw) (gI_mTraC.trans hw) (by omega) (by omega) (by omega) (hs x (by omega))) hw_4_95 (fo_lt (by omega)) (WF_fo g _ 50) rfl rfl ⟨by decide, by decide, rfl, rfl, by decide, by decide⟩ rfl (Nat.le_of_ble_eq_true rfl) dX10_trace_56 rfl ?_
        refine r_iinc C (v := (nI (x + 1))) (lv' := [(4, .int (nI (x + 1))), (0, .ref (ad g 0)), (1, .int (nI pl)), (2, .int (nI f)), (3, .int (nI c))]) 4 0 dX10_trace_59 rfl (inc_N _ 1) (by decide) rfl ?_
        refine r_goto C 29 dX10_trace_62 (by decide) ?_
        refine G_mem (μ' := mTraC c nw M (x + 1)) (by show _ = (if c.testBit x = true then _ else _); rw [if_neg h47]; rfl) ?_
        exact ih (x + 1) (by omega) (by omega)
set_option maxHeartbeats 1000000 in
set_option maxRecDepth 100000 in
theorem y_traceC (l : Launch) (g : Gd) (μ : Mm) {n nw p d pl f c : Nat} (hO : Ok μ n nw) (hH : Ok2 μ p d) (hpl : pl < 4) (hf : f < 4) (hc : c < 2 ^ n) : Ct l yX10_trace cX10_trace 5 (some .int) (rmk 4 105) g [.ref (ad g 0), .int (nI pl), .int (nI f), .int (nI c)] μ (some (.int (nI (ct (mLayP (mTraC c nw (mCpy μ 50 (0 + f)) n) p d n (0 + pl)) nw 50)))) (mLayP (mTraC c nw (mCpy μ 50 (0 + f)) n) p d n (0 + pl)) := by
  obtain ⟨hn, hw, hn10, hnw, hs, h1n⟩ := hO
  obtain ⟨h2, h3, hp4, hd4⟩ := hH
  have h1024 := pw10 hn10
  have h2n := Nat.two_pow_pos n
  refine Ct.of (by decide) (Nat.le_of_ble_eq_true rfl) (fun z A C X Rr => ?_)
  refine r_iload_n C dX10_trace_0 1 rfl ?_
  refine r_callP C (As := [.int (nI pl)]) (rest := []) (st1 := []) miX10_checkFamily msX10_checkFamily (y_checkFamily l (f := pl) (by omega)) hw_3_177 rfl ⟨by decide, by decide, rfl, rfl, by decide, by decide⟩ rfl (Nat.le_of_ble_eq_true rfl) dX10_trace_1 rfl ?_
  refine r_iload_n C dX10_trace_4 2 rfl ?_
  refine r_callP C (As := [.int (nI f)]) (rest := []) (st1 := []) miX10_checkFamily msX10_checkFamily (y_checkFamily l (f := f) (by omega)) hw_3_177 rfl ⟨by decide, by decide, rfl, rfl, by decide, by decide⟩ rfl (Nat.le_of_ble_eq_true rfl) dX10_trace_5 rfl ?_
  refine r_aload_n C dX10_trace_8 0 rfl ?_
  refine r_iload_n C dX10_trace_9 3 rfl ?_
  refine r_callV C X (As := [.int (nI c)]) (rest := []) (st1 := []) (μ' := μ) (k := 0) (T := TX10) miX10_checkSet mvX10_checkSet (y_checkSet l g μ (n := n) (e := c) hn (by omega) (by omega)) hw_3_196 (by decide) rfl rfl rfl ⟨by decide, by decide, rfl, rfl, by decide, by decide⟩ rfl (Nat.le_of_ble_eq_true rfl) dX10_trace_10 rfl ?_
  refine r_aload_n C dX10_trace_13 0 rfl ?_
  refine r_get C X (k := 0) (R := RX10) (T := TX10) (N := 12) (n := 10) (v := .ref (ad g (fo 50))) (by decide) rfl rfl inw10 (by decide) rfl hw_1_218 rfl dX10_trace_14 ?_
  refine r_aload_n C dX10_trace_17 0 rfl ?_
  refine r_get C X (k := 0) (R := RX10) (T := TX10) (N := 12) (n := 1) (v := .ref (ad g 2)) (by decide) rfl rfl inw10 (by decide) rfl hw_1_209 rfl dX10_trace_18 ?_
  refine r_iload_n C dX10_trace_21 2 rfl ?_
  refine r_aald C X (k := 2) (n := 4) (b := 0) (by decide) rfl (by omega) (by decide) dX10_trace_22 ?_
  refine r_callV C X (As := [.ref (ad g (fo (0 + f)))]) (rest := []) (st1 := []) (μ' := (mCpy μ 50 (0 + f))) (k := (fo 50)) (T := TX3) miX3_copy mvX3_copy (c_copy l g μ (i := 50) (j := (0 + f)) (by omega) (by omega)) hw_2_95 (fo_lt (by omega)) (WF_fo g _ 50) rfl rfl ⟨by decide, by decide, rfl, rfl, by decide, by decide⟩ rfl (Nat.le_of_ble_eq_true rfl) dX10_trace_23 rfl ?_
  refine r_iconst C (v := (nI 0)) dX10_trace_26 rfl ?_
  refine r_istore C (lv' := [(4, .int (nI 0)), (0, .ref (ad g 0)), (1, .int (nI pl)), (2, .int (nI f)), (3, .int (nI c))]) 4 dX10_trace_27 (by decide) rfl ?_
  exact lp_trace C X (M := (mCpy μ 50 (0 + f))) (gI_mCpy.trans hn) (gI_mCpy.trans hw) (gI_mCpy.trans h2) (gI_mCpy.trans h3) hp4 hd4 hn10 hnw hs h1n hpl (by omega) Rr (n + 1) 0 (by omega) (by omega)
