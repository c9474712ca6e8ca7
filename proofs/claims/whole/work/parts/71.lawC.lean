set_option maxHeartbeats 1000000 in
set_option maxRecDepth 100000 in
theorem wt_setGround (l : Launch) (g : Gd) (μ : Mm) {μ' : Mm} {p0 : Int32} {v : Int32} (hM : Ct l yX10_setGround cX10_setGround 4 (some .int) (rmk 3 84) g [.ref (ad g 0), .int p0] μ (some (.int v)) μ') : Cw l yL_setGround cL_setGround 4 [(0, 9, 12, 13)] (rmz 8 135) g [.ref (ad g 0), .int p0, .ref (ad g 27)] μ (nI 0) (sJ μ' 53 (vp_updL (gJ μ' 53) 0 (v.toInt64))) := by
  refine Cw.of (by decide) (Nat.le_of_ble_eq_true rfl) (fun z A C X Ee Rr => ?_)
  refine r_aload_n C dL_setGround_0 2 rfl ?_
  refine r_iconst C (v := (nI 0)) dL_setGround_1 rfl ?_
  refine r_aload_n C dL_setGround_2 0 rfl ?_
  refine r_iload_n C dL_setGround_3 1 rfl ?_
  refine r_callV C X (As := [.int p0]) (rest := [.int (nI 0), .ref (ad g 27)]) (st1 := [.int v, .int (nI 0), .ref (ad g 27)]) (μ' := μ') (k := 0) (T := TX10) miX10_setGround mvX10_setGround (hM) hw_3_84 (by decide) rfl rfl rfl ⟨by decide, by decide, rfl, rfl, by decide, by decide⟩ rfl (Nat.le_of_ble_eq_true rfl) dL_setGround_4 rfl ?_
  refine r_i2l C (v := ((v).toInt64)) dL_setGround_7 rfl ?_
  refine r_last C X (k := 27) (f' := vp_updL (gJ μ' 53) 0 ((v).toInt64)) (μ' := (sJ μ' 53 (vp_updL (gJ μ' 53) 0 ((v).toInt64)))) (by decide) rfl (by omega) (by decide) rfl dL_setGround_8 (congrArg (jR g 1) (gJ_s _ _ _)) (WF_sJ53_ne g _ _) ?_
  refine r_goto C 15 dL_setGround_9 (by decide) ?_
  refine r_iconst C (v := (nI 0)) dL_setGround_15 rfl ?_
  exact w_iret C dL_setGround_16 (by decide) (by decide) Rr
set_option maxHeartbeats 1000000 in
set_option maxRecDepth 100000 in
theorem wx_setGround1 (l : Launch) (g : Gd) (μ : Mm) {p0 : Int32} (hM : Cz l yX10_setGround cX10_setGround 4 (some .int) (rmz 7 112) g [.ref (ad g 0), .int p0] μ nIA) : Cw l yL_setGround cL_setGround 4 [(0, 9, 12, 13)] (rmz 8 135) g [.ref (ad g 0), .int p0, .ref (ad g 27)] μ (nI 1) μ := by
  refine Cw.of (by decide) (Nat.le_of_ble_eq_true rfl) (fun z A C X Ee Rr => ?_)
  refine r_aload_n C dL_setGround_0 2 rfl ?_
  refine r_iconst C (v := (nI 0)) dL_setGround_1 rfl ?_
  refine r_aload_n C dL_setGround_2 0 rfl ?_
  refine r_iload_n C dL_setGround_3 1 rfl ?_
  refine r_xV C X Ee (As := [.int p0]) (rest := [.int (nI 0), .ref (ad g 27)]) (k := 0) (T := TX10) miX10_setGround mvX10_setGround (hM) hw_3_84 (by decide) rfl rfl rfl ⟨by decide, by decide, rfl, rfl, by decide, by decide⟩ rfl (Nat.le_of_ble_eq_true rfl) dL_setGround_4 (x_catch C [] ⟨0, 9, 12, 13⟩ [] Rr.2.2.2 (fun _ h => absurd h List.not_mem_nil) rfl (by decide) hw_3_83 Ee.2.2.1.1 (fun q => ?_))
  refine r_astore_n C (lv' := [(3, .ref q), (0, .ref (ad g 0)), (1, .int p0), (2, .ref (ad g 27))]) 3 dL_setGround_12 rfl (by decide) rfl ?_
  refine r_iconst C (v := (nI 1)) dL_setGround_13 rfl ?_
  exact w_iret C dL_setGround_14 (by decide) (by decide) Rr
set_option maxHeartbeats 1000000 in
set_option maxRecDepth 100000 in
theorem wt_add (l : Launch) (g : Gd) (μ : Mm) {μ' : Mm} {p0 p1 : Int32} {v : Bool} (hM : Ct l yX10_add cX10_add 4 (some .boolean) (rmk 3 84) g [.ref (ad g 0), .int p0, .int p1] μ (some (.int (bI v))) μ') : Cw l yL_add cL_add 5 [(0, 17, 20, 19), (0, 17, 24, 13)] (rmz 9 156) g [.ref (ad g 0), .int p0, .int p1, .ref (ad g 27)] μ (nI 0) (sJ μ' 53 (vp_updL (gJ μ' 53) 0 (bL v))) := by
  refine Cw.of (by decide) (Nat.le_of_ble_eq_true rfl) (fun z A C X Ee Rr => ?_)
  refine r_aload_n C dL_add_0 3 rfl ?_
  refine r_iconst C (v := (nI 0)) dL_add_1 rfl ?_
  refine r_aload_n C dL_add_2 0 rfl ?_
  refine r_iload_n C dL_add_3 1 rfl ?_
  refine r_iload_n C dL_add_4 2 rfl ?_
  refine r_callV C X (As := [.int p0, .int p1]) (rest := [.int (nI 0), .ref (ad g 27)]) (st1 := [.int (bI v), .int (nI 0), .ref (ad g 27)]) (μ' := μ') (k := 0) (T := TX10) miX10_add mvX10_add (hM) hw_3_173 (by decide) rfl rfl rfl ⟨by decide, by decide, rfl, rfl, by decide, by decide⟩ rfl (Nat.le_of_ble_eq_true rfl) dL_add_5 rfl ?_
  refine r_if_eq C 15 dL_add_8 (by decide) (bI_eq _) (fun h8 => ?_) (fun h8 => ?_)
  · refine r_lconst C (v := (lN 0)) dL_add_15 rfl ?_
    refine G_topl (y := (bL v)) (by rw [h8]; rfl) ?_
    refine r_last C X (k := 27) (f' := vp_updL (gJ μ' 53) 0 (bL v)) (μ' := (sJ μ' 53 (vp_updL (gJ μ' 53) 0 (bL v)))) (by decide) rfl (by omega) (by decide) rfl dL_add_16 (congrArg (jR g 1) (gJ_s _ _ _)) (WF_sJ53_ne g _ _) ?_
    refine r_goto C 28 dL_add_17 (by decide) ?_
    refine r_iconst C (v := (nI 0)) dL_add_28 rfl ?_
    exact w_iret C dL_add_29 (by decide) (by decide) Rr
  · refine r_lconst C (v := (lN 1)) dL_add_11 rfl ?_
    refine r_goto C 16 dL_add_12 (by decide) ?_
    refine G_topl (y := (bL v)) (by rw [ts_t h8]; rfl) ?_
    refine r_last C X (k := 27) (f' := vp_updL (gJ μ' 53) 0 (bL v)) (μ' := (sJ μ' 53 (vp_updL (gJ μ' 53) 0 (bL v)))) (by decide) rfl (by omega) (by decide) rfl dL_add_16 (congrArg (jR g 1) (gJ_s _ _ _)) (WF_sJ53_ne g _ _) ?_
    refine r_goto C 28 dL_add_17 (by decide) ?_
    refine r_iconst C (v := (nI 0)) dL_add_28 rfl ?_
    exact w_iret C dL_add_29 (by decide) (by decide) Rr
set_option maxHeartbeats 1000000 in
set_option maxRecDepth 100000 in
theorem wx_add1 (l : Launch) (g : Gd) (μ : Mm) {p0 p1 : Int32} (hM : Cz l yX10_add cX10_add 4 (some .boolean) (rmz 8 133) g [.ref (ad g 0), .int p0, .int p1] μ nIO) : Cw l yL_add cL_add 5 [(0, 17, 20, 19), (0, 17, 24, 13)] (rmz 9 156) g [.ref (ad g 0), .int p0, .int p1, .ref (ad g 27)] μ (nI 1) μ := by
  refine Cw.of (by decide) (Nat.le_of_ble_eq_true rfl) (fun z A C X Ee Rr => ?_)
  refine r_aload_n C dL_add_0 3 rfl ?_
  refine r_iconst C (v := (nI 0)) dL_add_1 rfl ?_
  refine r_aload_n C dL_add_2 0 rfl ?_
  refine r_iload_n C dL_add_3 1 rfl ?_
  refine r_iload_n C dL_add_4 2 rfl ?_
  refine r_xV C X Ee (As := [.int p0, .int p1]) (rest := [.int (nI 0), .ref (ad g 27)]) (k := 0) (T := TX10) miX10_add mvX10_add (hM) hw_3_173 (by decide) rfl rfl rfl ⟨by decide, by decide, rfl, rfl, by decide, by decide⟩ rfl (Nat.le_of_ble_eq_true rfl) dL_add_5 (x_catch C [] ⟨0, 17, 20, 19⟩ [⟨0, 17, 24, 13⟩] Rr.2.2.2 (fun _ h => absurd h List.not_mem_nil) rfl (by decide) hw_3_172 Ee.2.2.1.2.1 (fun q => ?_))
  refine r_astore C (lv' := [(4, .ref q), (0, .ref (ad g 0)), (1, .int p0), (2, .int p1), (3, .ref (ad g 27))]) 4 dL_add_20 (by decide) rfl ?_
  refine r_iconst C (v := (nI 1)) dL_add_22 rfl ?_
  exact w_iret C dL_add_23 (by decide) (by decide) Rr
set_option maxHeartbeats 1000000 in
set_option maxRecDepth 100000 in
theorem wx_add2 (l : Launch) (g : Gd) (μ : Mm) {p0 p1 : Int32} (hM : Cz l yX10_add cX10_add 4 (some .boolean) (rmz 8 133) g [.ref (ad g 0), .int p0, .int p1] μ nIA) : Cw l yL_add cL_add 5 [(0, 17, 20, 19), (0, 17, 24, 13)] (rmz 9 156) g [.ref (ad g 0), .int p0, .int p1, .ref (ad g 27)] μ (nI 2) μ := by
  refine Cw.of (by decide) (Nat.le_of_ble_eq_true rfl) (fun z A C X Ee Rr => ?_)
  refine r_aload_n C dL_add_0 3 rfl ?_
  refine r_iconst C (v := (nI 0)) dL_add_1 rfl ?_
  refine r_aload_n C dL_add_2 0 rfl ?_
  refine r_iload_n C dL_add_3 1 rfl ?_
  refine r_iload_n C dL_add_4 2 rfl ?_
  refine r_xV C X Ee (As := [.int p0, .int p1]) (rest := [.int (nI 0), .ref (ad g 27)]) (k := 0) (T := TX10) miX10_add mvX10_add (hM) hw_3_173 (by decide) rfl rfl rfl ⟨by decide, by decide, rfl, rfl, by decide, by decide⟩ rfl (Nat.le_of_ble_eq_true rfl) dL_add_5 (x_catch C [⟨0, 17, 20, 19⟩] ⟨0, 17, 24, 13⟩ [] Rr.2.2.2 (List.forall_mem_singleton.mpr (Or.inr ⟨by decide, nIO, hw_3_172, Ee.2.2.2.2.1.1⟩)) rfl (by decide) hw_3_83 Ee.2.2.1.1 (fun q => ?_))
  refine r_astore C (lv' := [(4, .ref q), (0, .ref (ad g 0)), (1, .int p0), (2, .int p1), (3, .ref (ad g 27))]) 4 dL_add_24 (by decide) rfl ?_
  refine r_iconst C (v := (nI 2)) dL_add_26 rfl ?_
  exact w_iret C dL_add_27 (by decide) (by decide) Rr
set_option maxHeartbeats 1000000 in
set_option maxRecDepth 100000 in
theorem wt_remove (l : Launch) (g : Gd) (μ : Mm) {μ' : Mm} {p0 p1 : Int32} {v : Bool} (hM : Ct l yX10_remove cX10_remove 4 (some .boolean) (rmk 3 84) g [.ref (ad g 0), .int p0, .int p1] μ (some (.int (bI v))) μ') : Cw l yL_remove cL_remove 5 [(0, 17, 20, 19), (0, 17, 24, 13)] (rmz 9 156) g [.ref (ad g 0), .int p0, .int p1, .ref (ad g 27)] μ (nI 0) (sJ μ' 53 (vp_updL (gJ μ' 53) 0 (bL v))) := by
  refine Cw.of (by decide) (Nat.le_of_ble_eq_true rfl) (fun z A C X Ee Rr => ?_)
  refine r_aload_n C dL_remove_0 3 rfl ?_
  refine r_iconst C (v := (nI 0)) dL_remove_1 rfl ?_
  refine r_aload_n C dL_remove_2 0 rfl ?_
  refine r_iload_n C dL_remove_3 1 rfl ?_
  refine r_iload_n C dL_remove_4 2 rfl ?_
  refine r_callV C X (As := [.int p0, .int p1]) (rest := [.int (nI 0), .ref (ad g 27)]) (st1 := [.int (bI v), .int (nI 0), .ref (ad g 27)]) (μ' := μ') (k := 0) (T := TX10) miX10_remove mvX10_remove (hM) hw_3_209 (by decide) rfl rfl rfl ⟨by decide, by decide, rfl, rfl, by decide, by decide⟩ rfl (Nat.le_of_ble_eq_true rfl) dL_remove_5 rfl ?_
  refine r_if_eq C 15 dL_remove_8 (by decide) (bI_eq _) (fun h8 => ?_) (fun h8 => ?_)
  · refine r_lconst C (v := (lN 0)) dL_remove_15 rfl ?_
    refine G_topl (y := (bL v)) (by rw [h8]; rfl) ?_
    refine r_last C X (k := 27) (f' := vp_updL (gJ μ' 53) 0 (bL v)) (μ' := (sJ μ' 53 (vp_updL (gJ μ' 53) 0 (bL v)))) (by decide) rfl (by omega) (by decide) rfl dL_remove_16 (congrArg (jR g 1) (gJ_s _ _ _)) (WF_sJ53_ne g _ _) ?_
    refine r_goto C 28 dL_remove_17 (by decide) ?_
    refine r_iconst C (v := (nI 0)) dL_remove_28 rfl ?_
    exact w_iret C dL_remove_29 (by decide) (by decide) Rr
  · refine r_lconst C (v := (lN 1)) dL_remove_11 rfl ?_
    refine r_goto C 16 dL_remove_12 (by decide) ?_
    refine G_topl (y := (bL v)) (by rw [ts_t h8]; rfl) ?_
    refine r_last C X (k := 27) (f' := vp_updL (gJ μ' 53) 0 (bL v)) (μ' := (sJ μ' 53 (vp_updL (gJ μ' 53) 0 (bL v)))) (by decide) rfl (by omega) (by decide) rfl dL_remove_16 (congrArg (jR g 1) (gJ_s _ _ _)) (WF_sJ53_ne g _ _) ?_
    refine r_goto C 28 dL_remove_17 (by decide) ?_
    refine r_iconst C (v := (nI 0)) dL_remove_28 rfl ?_
    exact w_iret C dL_remove_29 (by decide) (by decide) Rr
set_option maxHeartbeats 1000000 in
set_option maxRecDepth 100000 in
theorem wx_remove1 (l : Launch) (g : Gd) (μ : Mm) {p0 p1 : Int32} (hM : Cz l yX10_remove cX10_remove 4 (some .boolean) (rmz 8 133) g [.ref (ad g 0), .int p0, .int p1] μ nIO) : Cw l yL_remove cL_remove 5 [(0, 17, 20, 19), (0, 17, 24, 13)] (rmz 9 156) g [.ref (ad g 0), .int p0, .int p1, .ref (ad g 27)] μ (nI 1) μ := by
  refine Cw.of (by decide) (Nat.le_of_ble_eq_true rfl) (fun z A C X Ee Rr => ?_)
  refine r_aload_n C dL_remove_0 3 rfl ?_
  refine r_iconst C (v := (nI 0)) dL_remove_1 rfl ?_
  refine r_aload_n C dL_remove_2 0 rfl ?_
  refine r_iload_n C dL_remove_3 1 rfl ?_
  refine r_iload_n C dL_remove_4 2 rfl ?_
  refine r_xV C X Ee (As := [.int p0, .int p1]) (rest := [.int (nI 0), .ref (ad g 27)]) (k := 0) (T := TX10) miX10_remove mvX10_remove (hM) hw_3_209 (by decide) rfl rfl rfl ⟨by decide, by decide, rfl, rfl, by decide, by decide⟩ rfl (Nat.le_of_ble_eq_true rfl) dL_remove_5 (x_catch C [] ⟨0, 17, 20, 19⟩ [⟨0, 17, 24, 13⟩] Rr.2.2.2 (fun _ h => absurd h List.not_mem_nil) rfl (by decide) hw_3_172 Ee.2.2.1.2.1 (fun q => ?_))
  refine r_astore C (lv' := [(4, .ref q), (0, .ref (ad g 0)), (1, .int p0), (2, .int p1), (3, .ref (ad g 27))]) 4 dL_remove_20 (by decide) rfl ?_
  refine r_iconst C (v := (nI 1)) dL_remove_22 rfl ?_
  exact w_iret C dL_remove_23 (by decide) (by decide) Rr
set_option maxHeartbeats 1000000 in
set_option maxRecDepth 100000 in
theorem wx_remove2 (l : Launch) (g : Gd) (μ : Mm) {p0 p1 : Int32} (hM : Cz l yX10_remove cX10_remove 4 (some .boolean) (rmz 8 133) g [.ref (ad g 0), .int p0, .int p1] μ nIA) : Cw l yL_remove cL_remove 5 [(0, 17, 20, 19), (0, 17, 24, 13)] (rmz 9 156) g [.ref (ad g 0), .int p0, .int p1, .ref (ad g 27)] μ (nI 2) μ := by
  refine Cw.of (by decide) (Nat.le_of_ble_eq_true rfl) (fun z A C X Ee Rr => ?_)
  refine r_aload_n C dL_remove_0 3 rfl ?_
  refine r_iconst C (v := (nI 0)) dL_remove_1 rfl ?_
  refine r_aload_n C dL_remove_2 0 rfl ?_
  refine r_iload_n C dL_remove_3 1 rfl ?_
  refine r_iload_n C dL_remove_4 2 rfl ?_
  refine r_xV C X Ee (As := [.int p0, .int p1]) (rest := [.int (nI 0), .ref (ad g 27)]) (k := 0) (T := TX10) miX10_remove mvX10_remove (hM) hw_3_209 (by decide) rfl rfl rfl ⟨by decide, by decide, rfl, rfl, by decide, by decide⟩ rfl (Nat.le_of_ble_eq_true rfl) dL_remove_5 (x_catch C [⟨0, 17, 20, 19⟩] ⟨0, 17, 24, 13⟩ [] Rr.2.2.2 (List.forall_mem_singleton.mpr (Or.inr ⟨by decide, nIO, hw_3_172, Ee.2.2.2.2.1.1⟩)) rfl (by decide) hw_3_83 Ee.2.2.1.1 (fun q => ?_))
  refine r_astore C (lv' := [(4, .ref q), (0, .ref (ad g 0)), (1, .int p0), (2, .int p1), (3, .ref (ad g 27))]) 4 dL_remove_24 (by decide) rfl ?_
  refine r_iconst C (v := (nI 2)) dL_remove_26 rfl ?_
  exact w_iret C dL_remove_27 (by decide) (by decide) Rr
set_option maxHeartbeats 1000000 in
set_option maxRecDepth 100000 in
theorem wt_has (l : Launch) (g : Gd) (μ : Mm) {μ' : Mm} {p0 p1 : Int32} {v : Bool} (hM : Ct l yX10_has cX10_has 3 (some .boolean) (rmk 2 43) g [.ref (ad g 0), .int p0, .int p1] μ (some (.int (bI v))) μ') : Cw l yL_has cL_has 5 [(0, 17, 20, 19), (0, 17, 24, 13)] (rmz 9 155) g [.ref (ad g 0), .int p0, .int p1, .ref (ad g 27)] μ (nI 0) (sJ μ' 53 (vp_updL (gJ μ' 53) 0 (bL v))) := by
  refine Cw.of (by decide) (Nat.le_of_ble_eq_true rfl) (fun z A C X Ee Rr => ?_)
  refine r_aload_n C dL_has_0 3 rfl ?_
  refine r_iconst C (v := (nI 0)) dL_has_1 rfl ?_
  refine r_aload_n C dL_has_2 0 rfl ?_
  refine r_iload_n C dL_has_3 1 rfl ?_
  refine r_iload_n C dL_has_4 2 rfl ?_
  refine r_callV C X (As := [.int p0, .int p1]) (rest := [.int (nI 0), .ref (ad g 27)]) (st1 := [.int (bI v), .int (nI 0), .ref (ad g 27)]) (μ' := μ') (k := 0) (T := TX10) miX10_has mvX10_has (hM) hw_3_217 (by decide) rfl rfl rfl ⟨by decide, by decide, rfl, rfl, by decide, by decide⟩ rfl (Nat.le_of_ble_eq_true rfl) dL_has_5 rfl ?_
  refine r_if_eq C 15 dL_has_8 (by decide) (bI_eq _) (fun h8 => ?_) (fun h8 => ?_)
  · refine r_lconst C (v := (lN 0)) dL_has_15 rfl ?_
    refine G_topl (y := (bL v)) (by rw [h8]; rfl) ?_
    refine r_last C X (k := 27) (f' := vp_updL (gJ μ' 53) 0 (bL v)) (μ' := (sJ μ' 53 (vp_updL (gJ μ' 53) 0 (bL v)))) (by decide) rfl (by omega) (by decide) rfl dL_has_16 (congrArg (jR g 1) (gJ_s _ _ _)) (WF_sJ53_ne g _ _) ?_
    refine r_goto C 28 dL_has_17 (by decide) ?_
    refine r_iconst C (v := (nI 0)) dL_has_28 rfl ?_
    exact w_iret C dL_has_29 (by decide) (by decide) Rr
  · refine r_lconst C (v := (lN 1)) dL_has_11 rfl ?_
    refine r_goto C 16 dL_has_12 (by decide) ?_
    refine G_topl (y := (bL v)) (by rw [ts_t h8]; rfl) ?_
    refine r_last C X (k := 27) (f' := vp_updL (gJ μ' 53) 0 (bL v)) (μ' := (sJ μ' 53 (vp_updL (gJ μ' 53) 0 (bL v)))) (by decide) rfl (by omega) (by decide) rfl dL_has_16 (congrArg (jR g 1) (gJ_s _ _ _)) (WF_sJ53_ne g _ _) ?_
    refine r_goto C 28 dL_has_17 (by decide) ?_
    refine r_iconst C (v := (nI 0)) dL_has_28 rfl ?_
    exact w_iret C dL_has_29 (by decide) (by decide) Rr
set_option maxHeartbeats 1000000 in
set_option maxRecDepth 100000 in
theorem wx_has1 (l : Launch) (g : Gd) (μ : Mm) {p0 p1 : Int32} (hM : Cz l yX10_has cX10_has 3 (some .boolean) (rmz 8 133) g [.ref (ad g 0), .int p0, .int p1] μ nIO) : Cw l yL_has cL_has 5 [(0, 17, 20, 19), (0, 17, 24, 13)] (rmz 9 155) g [.ref (ad g 0), .int p0, .int p1, .ref (ad g 27)] μ (nI 1) μ := by
  refine Cw.of (by decide) (Nat.le_of_ble_eq_true rfl) (fun z A C X Ee Rr => ?_)
  refine r_aload_n C dL_has_0 3 rfl ?_
  refine r_iconst C (v := (nI 0)) dL_has_1 rfl ?_
  refine r_aload_n C dL_has_2 0 rfl ?_
  refine r_iload_n C dL_has_3 1 rfl ?_
  refine r_iload_n C dL_has_4 2 rfl ?_
  refine r_xV C X Ee (As := [.int p0, .int p1]) (rest := [.int (nI 0), .ref (ad g 27)]) (k := 0) (T := TX10) miX10_has mvX10_has (hM) hw_3_217 (by decide) rfl rfl rfl ⟨by decide, by decide, rfl, rfl, by decide, by decide⟩ rfl (Nat.le_of_ble_eq_true rfl) dL_has_5 (x_catch C [] ⟨0, 17, 20, 19⟩ [⟨0, 17, 24, 13⟩] Rr.2.2.2 (fun _ h => absurd h List.not_mem_nil) rfl (by decide) hw_3_172 Ee.2.2.1.2.1 (fun q => ?_))
  refine r_astore C (lv' := [(4, .ref q), (0, .ref (ad g 0)), (1, .int p0), (2, .int p1), (3, .ref (ad g 27))]) 4 dL_has_20 (by decide) rfl ?_
  refine r_iconst C (v := (nI 1)) dL_has_22 rfl ?_
  exact w_iret C dL_has_23 (by decide) (by decide) Rr
set_option maxHeartbeats 1000000 in
set_option maxRecDepth 100000 in
theorem wx_has2 (l : Launch) (g : Gd) (μ : Mm) {p0 p1 : Int32} (hM : Cz l yX10_has cX10_has 3 (some .boolean) (rmz 8 133) g [.ref (ad g 0), .int p0, .int p1] μ nIA) : Cw l yL_has cL_has 5 [(0, 17, 20, 19), (0, 17, 24, 13)] (rmz 9 155) g [.ref (ad g 0), .int p0, .int p1, .ref (ad g 27)] μ (nI 2) μ := by
  refine Cw.of (by decide) (Nat.le_of_ble_eq_true rfl) (fun z A C X Ee Rr => ?_)
  refine r_aload_n C dL_has_0 3 rfl ?_
  refine r_iconst C (v := (nI 0)) dL_has_1 rfl ?_
  refine r_aload_n C dL_has_2 0 rfl ?_
  refine r_iload_n C dL_has_3 1 rfl ?_
  refine r_iload_n C dL_has_4 2 rfl ?_
  refine r_xV C X Ee (As := [.int p0, .int p1]) (rest := [.int (nI 0), .ref (ad g 27)]) (k := 0) (T := TX10) miX10_has mvX10_has (hM) hw_3_217 (by decide) rfl rfl rfl ⟨by decide, by decide, rfl, rfl, by decide, by decide⟩ rfl (Nat.le_of_ble_eq_true rfl) dL_has_5 (x_catch C [⟨0, 17, 20, 19⟩] ⟨0, 17, 24, 13⟩ [] Rr.2.2.2 (List.forall_mem_singleton.mpr (Or.inr ⟨by decide, nIO, hw_3_172, Ee.2.2.2.2.1.1⟩)) rfl (by decide) hw_3_83 Ee.2.2.1.1 (fun q => ?_))
  refine r_astore C (lv' := [(4, .ref q), (0, .ref (ad g 0)), (1, .int p0), (2, .int p1), (3, .ref (ad g 27))]) 4 dL_has_24 (by decide) rfl ?_
  refine r_iconst C (v := (nI 2)) dL_has_26 rfl ?_
  exact w_iret C dL_has_27 (by decide) (by decide) Rr
set_option maxHeartbeats 1000000 in
set_option maxRecDepth 100000 in
theorem wt_size (l : Launch) (g : Gd) (μ : Mm) {μ' : Mm} {p0 p1 : Int32} {v : Int32} (hM : Ct l yX10_size cX10_size 3 (some .int) (rmk 3 65) g [.ref (ad g 0), .int p0, .int p1] μ (some (.int v)) μ') : Cw l yL_size cL_size 5 [(0, 10, 13, 19), (0, 10, 17, 13)] (rmz 8 134) g [.ref (ad g 0), .int p0, .int p1, .ref (ad g 27)] μ (nI 0) (sJ μ' 53 (vp_updL (gJ μ' 53) 0 (v.toInt64))) := by
  refine Cw.of (by decide) (Nat.le_of_ble_eq_true rfl) (fun z A C X Ee Rr => ?_)
  refine r_aload_n C dL_size_0 3 rfl ?_
  refine r_iconst C (v := (nI 0)) dL_size_1 rfl ?_
  refine r_aload_n C dL_size_2 0 rfl ?_
  refine r_iload_n C dL_size_3 1 rfl ?_
  refine r_iload_n C dL_size_4 2 rfl ?_
  refine r_callV C X (As := [.int p0, .int p1]) (rest := [.int (nI 0), .ref (ad g 27)]) (st1 := [.int v, .int (nI 0), .ref (ad g 27)]) (μ' := μ') (k := 0) (T := TX10) miX10_size mvX10_size (hM) hw_3_224 (by decide) rfl rfl rfl ⟨by decide, by decide, rfl, rfl, by decide, by decide⟩ rfl (Nat.le_of_ble_eq_true rfl) dL_size_5 rfl ?_
  refine r_i2l C (v := ((v).toInt64)) dL_size_8 rfl ?_
  refine r_last C X (k := 27) (f' := vp_updL (gJ μ' 53) 0 ((v).toInt64)) (μ' := (sJ μ' 53 (vp_updL (gJ μ' 53) 0 ((v).toInt64)))) (by decide) rfl (by omega) (by decide) rfl dL_size_9 (congrArg (jR g 1) (gJ_s _ _ _)) (WF_sJ53_ne g _ _) ?_
  refine r_goto C 21 dL_size_10 (by decide) ?_
  refine r_iconst C (v := (nI 0)) dL_size_21 rfl ?_
  exact w_iret C dL_size_22 (by decide) (by decide) Rr
set_option maxHeartbeats 1000000 in
set_option maxRecDepth 100000 in
theorem wx_size1 (l : Launch) (g : Gd) (μ : Mm) {p0 p1 : Int32} (hM : Cz l yX10_size cX10_size 3 (some .int) (rmz 7 112) g [.ref (ad g 0), .int p0, .int p1] μ nIO) : Cw l yL_size cL_size 5 [(0, 10, 13, 19), (0, 10, 17, 13)] (rmz 8 134) g [.ref (ad g 0), .int p0, .int p1, .ref (ad g 27)] μ (nI 1) μ := by
  refine Cw.of (by decide) (Nat.le_of_ble_eq_true rfl) (fun z A C X Ee Rr => ?_)
  refine r_aload_n C dL_size_0 3 rfl ?_
  refine r_iconst C (v := (nI 0)) dL_size_1 rfl ?_
  refine r_aload_n C dL_size_2 0 rfl ?_
  refine r_iload_n C dL_size_3 1 rfl ?_
  refine r_iload_n C dL_size_4 2 rfl ?_
  refine r_xV C X Ee (As := [.int p0, .int p1]) (rest := [.int (nI 0), .ref (ad g 27)]) (k := 0) (T := TX10) miX10_size mvX10_size (hM) hw_3_224 (by decide) rfl rfl rfl ⟨by decide, by decide, rfl, rfl, by decide, by decide⟩ rfl (Nat.le_of_ble_eq_true rfl) dL_size_5 (x_catch C [] ⟨0, 10, 13, 19⟩ [⟨0, 10, 17, 13⟩] Rr.2.2.2 (fun _ h => absurd h List.not_mem_nil) rfl (by decide) hw_3_172 Ee.2.2.1.2.1 (fun q => ?_))
  refine r_astore C (lv' := [(4, .ref q), (0, .ref (ad g 0)), (1, .int p0), (2, .int p1), (3, .ref (ad g 27))]) 4 dL_size_13 (by decide) rfl ?_
  refine r_iconst C (v := (nI 1)) dL_size_15 rfl ?_
  exact w_iret C dL_size_16 (by decide) (by decide) Rr
set_option maxHeartbeats 1000000 in
set_option maxRecDepth 100000 in
theorem wx_size2 (l : Launch) (g : Gd) (μ : Mm) {p0 p1 : Int32} (hM : Cz l yX10_size cX10_size 3 (some .int) (rmz 7 112) g [.ref (ad g 0), .int p0, .int p1] μ nIA) : Cw l yL_size cL_size 5 [(0, 10, 13, 19), (0, 10, 17, 13)] (rmz 8 134) g [.ref (ad g 0), .int p0, .int p1, .ref (ad g 27)] μ (nI 2) μ := by
  refine Cw.of (by decide) (Nat.le_of_ble_eq_true rfl) (fun z A C X Ee Rr => ?_)
  refine r_aload_n C dL_size_0 3 rfl ?_
  refine r_iconst C (v := (nI 0)) dL_size_1 rfl ?_
  refine r_aload_n C dL_size_2 0 rfl ?_
  refine r_iload_n C dL_size_3 1 rfl ?_
  refine r_iload_n C dL_size_4 2 rfl ?_
  refine r_xV C X Ee (As := [.int p0, .int p1]) (rest := [.int (nI 0), .ref (ad g 27)]) (k := 0) (T := TX10) miX10_size mvX10_size (hM) hw_3_224 (by decide) rfl rfl rfl ⟨by decide, by decide, rfl, rfl, by decide, by decide⟩ rfl (Nat.le_of_ble_eq_true rfl) dL_size_5 (x_catch C [⟨0, 10, 13, 19⟩] ⟨0, 10, 17, 13⟩ [] Rr.2.2.2 (List.forall_mem_singleton.mpr (Or.inr ⟨by decide, nIO, hw_3_172, Ee.2.2.2.2.1.1⟩)) rfl (by decide) hw_3_83 Ee.2.2.1.1 (fun q => ?_))
  refine r_astore C (lv' := [(4, .ref q), (0, .ref (ad g 0)), (1, .int p0), (2, .int p1), (3, .ref (ad g 27))]) 4 dL_size_17 (by decide) rfl ?_
  refine r_iconst C (v := (nI 2)) dL_size_19 rfl ?_
  exact w_iret C dL_size_20 (by decide) (by decide) Rr
set_option maxHeartbeats 1000000 in
set_option maxRecDepth 100000 in
theorem wt_get (l : Launch) (g : Gd) (μ : Mm) {μ' : Mm} {p0 p1 : Int32} {v : Int32} (hM : Ct l yX10_get cX10_get 3 (some .int) (rmk 4 91) g [.ref (ad g 0), .int p0, .int p1] μ (some (.int v)) μ') : Cw l yL_get cL_get 5 [(0, 10, 13, 19), (0, 10, 17, 13)] (rmz 8 132) g [.ref (ad g 0), .int p0, .int p1, .ref (ad g 27)] μ (nI 0) (sJ μ' 53 (vp_updL (gJ μ' 53) 0 (v.toInt64))) := by
  refine Cw.of (by decide) (Nat.le_of_ble_eq_true rfl) (fun z A C X Ee Rr => ?_)
  refine r_aload_n C dL_get_0 3 rfl ?_
  refine r_iconst C (v := (nI 0)) dL_get_1 rfl ?_
  refine r_aload_n C dL_get_2 0 rfl ?_
  refine r_iload_n C dL_get_3 1 rfl ?_
  refine r_iload_n C dL_get_4 2 rfl ?_
  refine r_callV C X (As := [.int p0, .int p1]) (rest := [.int (nI 0), .ref (ad g 27)]) (st1 := [.int v, .int (nI 0), .ref (ad g 27)]) (μ' := μ') (k := 0) (T := TX10) miX10_get mvX10_get (hM) hw_3_231 (by decide) rfl rfl rfl ⟨by decide, by decide, rfl, rfl, by decide, by decide⟩ rfl (Nat.le_of_ble_eq_true rfl) dL_get_5 rfl ?_
  refine r_i2l C (v := ((v).toInt64)) dL_get_8 rfl ?_
  refine r_last C X (k := 27) (f' := vp_updL (gJ μ' 53) 0 ((v).toInt64)) (μ' := (sJ μ' 53 (vp_updL (gJ μ' 53) 0 ((v).toInt64)))) (by decide) rfl (by omega) (by decide) rfl dL_get_9 (congrArg (jR g 1) (gJ_s _ _ _)) (WF_sJ53_ne g _ _) ?_
  refine r_goto C 21 dL_get_10 (by decide) ?_
  refine r_iconst C (v := (nI 0)) dL_get_21 rfl ?_
  exact w_iret C dL_get_22 (by decide) (by decide) Rr
set_option maxHeartbeats 1000000 in
set_option maxRecDepth 100000 in
theorem wx_get1 (l : Launch) (g : Gd) (μ : Mm) {p0 p1 : Int32} (hM : Cz l yX10_get cX10_get 3 (some .int) (rmz 7 110) g [.ref (ad g 0), .int p0, .int p1] μ nIO) : Cw l yL_get cL_get 5 [(0, 10, 13, 19), (0, 10, 17, 13)] (rmz 8 132) g [.ref (ad g 0), .int p0, .int p1, .ref (ad g 27)] μ (nI 1) μ := by
  refine Cw.of (by decide) (Nat.le_of_ble_eq_true rfl) (fun z A C X Ee Rr => ?_)
  refine r_aload_n C dL_get_0 3 rfl ?_
  refine r_iconst C (v := (nI 0)) dL_get_1 rfl ?_
  refine r_aload_n C dL_get_2 0 rfl ?_
  refine r_iload_n C dL_get_3 1 rfl ?_
  refine r_iload_n C dL_get_4 2 rfl ?_
  refine r_xV C X Ee (As := [.int p0, .int p1]) (rest := [.int (nI 0), .ref (ad g 27)]) (k := 0) (T := TX10) miX10_get mvX10_get (hM) hw_3_231 (by decide) rfl rfl rfl ⟨by decide, by decide, rfl, rfl, by decide, by decide⟩ rfl (Nat.le_of_ble_eq_true rfl) dL_get_5 (x_catch C [] ⟨0, 10, 13, 19⟩ [⟨0, 10, 17, 13⟩] Rr.2.2.2 (fun _ h => absurd h List.not_mem_nil) rfl (by decide) hw_3_172 Ee.2.2.1.2.1 (fun q => ?_))
  refine r_astore C (lv' := [(4, .ref q), (0, .ref (ad g 0)), (1, .int p0), (2, .int p1), (3, .ref (ad g 27))]) 4 dL_get_13 (by decide) rfl ?_
  refine r_iconst C (v := (nI 1)) dL_get_15 rfl ?_
  exact w_iret C dL_get_16 (by decide) (by decide) Rr
set_option maxHeartbeats 1000000 in
set_option maxRecDepth 100000 in
theorem wx_get2 (l : Launch) (g : Gd) (μ : Mm) {p0 p1 : Int32} (hM : Cz l yX10_get cX10_get 3 (some .int) (rmz 7 110) g [.ref (ad g 0), .int p0, .int p1] μ nIA) : Cw l yL_get cL_get 5 [(0, 10, 13, 19), (0, 10, 17, 13)] (rmz 8 132) g [.ref (ad g 0), .int p0, .int p1, .ref (ad g 27)] μ (nI 2) μ := by
  refine Cw.of (by decide) (Nat.le_of_ble_eq_true rfl) (fun z A C X Ee Rr => ?_)
  refine r_aload_n C dL_get_0 3 rfl ?_
  refine r_iconst C (v := (nI 0)) dL_get_1 rfl ?_
  refine r_aload_n C dL_get_2 0 rfl ?_
  refine r_iload_n C dL_get_3 1 rfl ?_
  refine r_iload_n C dL_get_4 2 rfl ?_
  refine r_xV C X Ee (As := [.int p0, .int p1]) (rest := [.int (nI 0), .ref (ad g 27)]) (k := 0) (T := TX10) miX10_get mvX10_get (hM) hw_3_231 (by decide) rfl rfl rfl ⟨by decide, by decide, rfl, rfl, by decide, by decide⟩ rfl (Nat.le_of_ble_eq_true rfl) dL_get_5 (x_catch C [⟨0, 10, 13, 19⟩] ⟨0, 10, 17, 13⟩ [] Rr.2.2.2 (List.forall_mem_singleton.mpr (Or.inr ⟨by decide, nIO, hw_3_172, Ee.2.2.2.2.1.1⟩)) rfl (by decide) hw_3_83 Ee.2.2.1.1 (fun q => ?_))
  refine r_astore C (lv' := [(4, .ref q), (0, .ref (ad g 0)), (1, .int p0), (2, .int p1), (3, .ref (ad g 27))]) 4 dL_get_17 (by decide) rfl ?_
  refine r_iconst C (v := (nI 2)) dL_get_19 rfl ?_
  exact w_iret C dL_get_20 (by decide) (by decide) Rr
set_option maxHeartbeats 1000000 in
set_option maxRecDepth 100000 in
theorem wt_degree (l : Launch) (g : Gd) (μ : Mm) {μ' : Mm} {p0 p1 : Int32} {v : Int32} (hM : Ct l yX10_degree cX10_degree 3 (some .int) (rmk 2 44) g [.ref (ad g 0), .int p0, .int p1] μ (some (.int v)) μ') : Cw l yL_degree cL_degree 5 [(0, 10, 13, 19), (0, 10, 17, 13)] (rmz 9 155) g [.ref (ad g 0), .int p0, .int p1, .ref (ad g 27)] μ (nI 0) (sJ μ' 53 (vp_updL (gJ μ' 53) 0 (v.toInt64))) := by
  refine Cw.of (by decide) (Nat.le_of_ble_eq_true rfl) (fun z A C X Ee Rr => ?_)
  refine r_aload_n C dL_degree_0 3 rfl ?_
  refine r_iconst C (v := (nI 0)) dL_degree_1 rfl ?_
  refine r_aload_n C dL_degree_2 0 rfl ?_
  refine r_iload_n C dL_degree_3 1 rfl ?_
  refine r_iload_n C dL_degree_4 2 rfl ?_
  refine r_callV C X (As := [.int p0, .int p1]) (rest := [.int (nI 0), .ref (ad g 27)]) (st1 := [.int v, .int (nI 0), .ref (ad g 27)]) (μ' := μ') (k := 0) (T := TX10) miX10_degree mvX10_degree (hM) hw_4_2 (by decide) rfl rfl rfl ⟨by decide, by decide, rfl, rfl, by decide, by decide⟩ rfl (Nat.le_of_ble_eq_true rfl) dL_degree_5 rfl ?_
  refine r_i2l C (v := ((v).toInt64)) dL_degree_8 rfl ?_
  refine r_last C X (k := 27) (f' := vp_updL (gJ μ' 53) 0 ((v).toInt64)) (μ' := (sJ μ' 53 (vp_updL (gJ μ' 53) 0 ((v).toInt64)))) (by decide) rfl (by omega) (by decide) rfl dL_degree_9 (congrArg (jR g 1) (gJ_s _ _ _)) (WF_sJ53_ne g _ _) ?_
  refine r_goto C 21 dL_degree_10 (by decide) ?_
  refine r_iconst C (v := (nI 0)) dL_degree_21 rfl ?_
  exact w_iret C dL_degree_22 (by decide) (by decide) Rr
set_option maxHeartbeats 1000000 in
set_option maxRecDepth 100000 in
theorem wx_degree1 (l : Launch) (g : Gd) (μ : Mm) {p0 p1 : Int32} (hM : Cz l yX10_degree cX10_degree 3 (some .int) (rmz 8 133) g [.ref (ad g 0), .int p0, .int p1] μ nIO) : Cw l yL_degree cL_degree 5 [(0, 10, 13, 19), (0, 10, 17, 13)] (rmz 9 155) g [.ref (ad g 0), .int p0, .int p1, .ref (ad g 27)] μ (nI 1) μ := by
  refine Cw.of (by decide) (Nat.le_of_ble_eq_true rfl) (fun z A C X Ee Rr => ?_)
  refine r_aload_n C dL_degree_0 3 rfl ?_
  refine r_iconst C (v := (nI 0)) dL_degree_1 rfl ?_
  refine r_aload_n C dL_degree_2 0 rfl ?_
  refine r_iload_n C dL_degree_3 1 rfl ?_
  refine r_iload_n C dL_degree_4 2 rfl ?_
  refine r_xV C X Ee (As := [.int p0, .int p1]) (rest := [.int (nI 0), .ref (ad g 27)]) (k := 0) (T := TX10) miX10_degree mvX10_degree (hM) hw_4_2 (by decide) rfl rfl rfl ⟨by decide, by decide, rfl, rfl, by decide, by decide⟩ rfl (Nat.le_of_ble_eq_true rfl) dL_degree_5 (x_catch C [] ⟨0, 10, 13, 19⟩ [⟨0, 10, 17, 13⟩] Rr.2.2.2 (fun _ h => absurd h List.not_mem_nil) rfl (by decide) hw_3_172 Ee.2.2.1.2.1 (fun q => ?_))
  refine r_astore C (lv' := [(4, .ref q), (0, .ref (ad g 0)), (1, .int p0), (2, .int p1), (3, .ref (ad g 27))]) 4 dL_degree_13 (by decide) rfl ?_
  refine r_iconst C (v := (nI 1)) dL_degree_15 rfl ?_
  exact w_iret C dL_degree_16 (by decide) (by decide) Rr
set_option maxHeartbeats 1000000 in
set_option maxRecDepth 100000 in
theorem wx_degree2 (l : Launch) (g : Gd) (μ : Mm) {p0 p1 : Int32} (hM : Cz l yX10_degree cX10_degree 3 (some .int) (rmz 8 133) g [.ref (ad g 0), .int p0, .int p1] μ nIA) : Cw l yL_degree cL_degree 5 [(0, 10, 13, 19), (0, 10, 17, 13)] (rmz 9 155) g [.ref (ad g 0), .int p0, .int p1, .ref (ad g 27)] μ (nI 2) μ := by
  refine Cw.of (by decide) (Nat.le_of_ble_eq_true rfl) (fun z A C X Ee Rr => ?_)
  refine r_aload_n C dL_degree_0 3 rfl ?_
  refine r_iconst C (v := (nI 0)) dL_degree_1 rfl ?_
  refine r_aload_n C dL_degree_2 0 rfl ?_
  refine r_iload_n C dL_degree_3 1 rfl ?_
  refine r_iload_n C dL_degree_4 2 rfl ?_
  refine r_xV C X Ee (As := [.int p0, .int p1]) (rest := [.int (nI 0), .ref (ad g 27)]) (k := 0) (T := TX10) miX10_degree mvX10_degree (hM) hw_4_2 (by decide) rfl rfl rfl ⟨by decide, by decide, rfl, rfl, by decide, by decide⟩ rfl (Nat.le_of_ble_eq_true rfl) dL_degree_5 (x_catch C [⟨0, 10, 13, 19⟩] ⟨0, 10, 17, 13⟩ [] Rr.2.2.2 (List.forall_mem_singleton.mpr (Or.inr ⟨by decide, nIO, hw_3_172, Ee.2.2.2.2.1.1⟩)) rfl (by decide) hw_3_83 Ee.2.2.1.1 (fun q => ?_))
  refine r_astore C (lv' := [(4, .ref q), (0, .ref (ad g 0)), (1, .int p0), (2, .int p1), (3, .ref (ad g 27))]) 4 dL_degree_17 (by decide) rfl ?_
  refine r_iconst C (v := (nI 2)) dL_degree_19 rfl ?_
  exact w_iret C dL_degree_20 (by decide) (by decide) Rr
set_option maxHeartbeats 1000000 in
set_option maxRecDepth 100000 in
theorem wt_combine (l : Launch) (g : Gd) (μ : Mm) {μ' : Mm} {p0 p1 p2 p3 : Int32} {v : Int32} (hM : Ct l yX10_combine cX10_combine 5 (some .int) (rmk 4 105) g [.ref (ad g 0), .int p0, .int p1, .int p2, .int p3] μ (some (.int v)) μ') : Cw l yL_combine cL_combine 7 [(0, 14, 17, 19), (0, 14, 21, 13)] (rmz 8 136) g [.ref (ad g 0), .int p0, .int p1, .int p2, .int p3, .ref (ad g 27)] μ (nI 0) (sJ μ' 53 (vp_updL (gJ μ' 53) 0 (v.toInt64))) := by
  refine Cw.of (by decide) (Nat.le_of_ble_eq_true rfl) (fun z A C X Ee Rr => ?_)
  refine r_aload C dL_combine_0 5 rfl ?_
  refine r_iconst C (v := (nI 0)) dL_combine_2 rfl ?_
  refine r_aload_n C dL_combine_3 0 rfl ?_
  refine r_iload_n C dL_combine_4 1 rfl ?_
  refine r_iload_n C dL_combine_5 2 rfl ?_
  refine r_iload_n C dL_combine_6 3 rfl ?_
  refine r_iload C dL_combine_7 4 rfl ?_
  refine r_callV C X (As := [.int p0, .int p1, .int p2, .int p3]) (rest := [.int (nI 0), .ref (ad g 27)]) (st1 := [.int v, .int (nI 0), .ref (ad g 27)]) (μ' := μ') (k := 0) (T := TX10) miX10_combine mvX10_combine (hM) hw_4_13 (by decide) rfl rfl rfl ⟨by decide, by decide, rfl, rfl, by decide, by decide⟩ rfl (Nat.le_of_ble_eq_true rfl) dL_combine_9 rfl ?_
  refine r_i2l C (v := ((v).toInt64)) dL_combine_12 rfl ?_
  refine r_last C X (k := 27) (f' := vp_updL (gJ μ' 53) 0 ((v).toInt64)) (μ' := (sJ μ' 53 (vp_updL (gJ μ' 53) 0 ((v).toInt64)))) (by decide) rfl (by omega) (by decide) rfl dL_combine_13 (congrArg (jR g 1) (gJ_s _ _ _)) (WF_sJ53_ne g _ _) ?_
  refine r_goto C 25 dL_combine_14 (by decide) ?_
  refine r_iconst C (v := (nI 0)) dL_combine_25 rfl ?_
  exact w_iret C dL_combine_26 (by decide) (by decide) Rr
set_option maxHeartbeats 1000000 in
set_option maxRecDepth 100000 in
theorem wx_combine1 (l : Launch) (g : Gd) (μ : Mm) {p0 p1 p2 p3 : Int32} (hM : Cz l yX10_combine cX10_combine 5 (some .int) (rmz 7 112) g [.ref (ad g 0), .int p0, .int p1, .int p2, .int p3] μ nIO) : Cw l yL_combine cL_combine 7 [(0, 14, 17, 19), (0, 14, 21, 13)] (rmz 8 136) g [.ref (ad g 0), .int p0, .int p1, .int p2, .int p3, .ref (ad g 27)] μ (nI 1) μ := by
  refine Cw.of (by decide) (Nat.le_of_ble_eq_true rfl) (fun z A C X Ee Rr => ?_)
  refine r_aload C dL_combine_0 5 rfl ?_
  refine r_iconst C (v := (nI 0)) dL_combine_2 rfl ?_
  refine r_aload_n C dL_combine_3 0 rfl ?_
  refine r_iload_n C dL_combine_4 1 rfl ?_
  refine r_iload_n C dL_combine_5 2 rfl ?_
  refine r_iload_n C dL_combine_6 3 rfl ?_
  refine r_iload C dL_combine_7 4 rfl ?_
  refine r_xV C X Ee (As := [.int p0, .int p1, .int p2, .int p3]) (rest := [.int (nI 0), .ref (ad g 27)]) (k := 0) (T := TX10) miX10_combine mvX10_combine (hM) hw_4_13 (by decide) rfl rfl rfl ⟨by decide, by decide, rfl, rfl, by decide, by decide⟩ rfl (Nat.le_of_ble_eq_true rfl) dL_combine_9 (x_catch C [] ⟨0, 14, 17, 19⟩ [⟨0, 14, 21, 13⟩] Rr.2.2.2 (fun _ h => absurd h List.not_mem_nil) rfl (by decide) hw_3_172 Ee.2.2.1.2.1 (fun q => ?_))
  refine r_astore C (lv' := [(6, .ref q), (0, .ref (ad g 0)), (1, .int p0), (2, .int p1), (3, .int p2), (4, .int p3), (5, .ref (ad g 27))]) 6 dL_combine_17 (by decide) rfl ?_
  refine r_iconst C (v := (nI 1)) dL_combine_19 rfl ?_
  exact w_iret C dL_combine_20 (by decide) (by decide) Rr
set_option maxHeartbeats 1000000 in
set_option maxRecDepth 100000 in
theorem wx_combine2 (l : Launch) (g : Gd) (μ : Mm) {p0 p1 p2 p3 : Int32} (hM : Cz l yX10_combine cX10_combine 5 (some .int) (rmz 7 112) g [.ref (ad g 0), .int p0, .int p1, .int p2, .int p3] μ nIA) : Cw l yL_combine cL_combine 7 [(0, 14, 17, 19), (0, 14, 21, 13)] (rmz 8 136) g [.ref (ad g 0), .int p0, .int p1, .int p2, .int p3, .ref (ad g 27)] μ (nI 2) μ := by
  refine Cw.of (by decide) (Nat.le_of_ble_eq_true rfl) (fun z A C X Ee Rr => ?_)
  refine r_aload C dL_combine_0 5 rfl ?_
  refine r_iconst C (v := (nI 0)) dL_combine_2 rfl ?_
  refine r_aload_n C dL_combine_3 0 rfl ?_
  refine r_iload_n C dL_combine_4 1 rfl ?_
  refine r_iload_n C dL_combine_5 2 rfl ?_
  refine r_iload_n C dL_combine_6 3 rfl ?_
  refine r_iload C dL_combine_7 4 rfl ?_
  refine r_xV C X Ee (As := [.int p0, .int p1, .int p2, .int p3]) (rest := [.int (nI 0), .ref (ad g 27)]) (k := 0) (T := TX10) miX10_combine mvX10_combine (hM) hw_4_13 (by decide) rfl rfl rfl ⟨by decide, by decide, rfl, rfl, by decide, by decide⟩ rfl (Nat.le_of_ble_eq_true rfl) dL_combine_9 (x_catch C [⟨0, 14, 17, 19⟩] ⟨0, 14, 21, 13⟩ [] Rr.2.2.2 (List.forall_mem_singleton.mpr (Or.inr ⟨by decide, nIO, hw_3_172, Ee.2.2.2.2.1.1⟩)) rfl (by decide) hw_3_83 Ee.2.2.1.1 (fun q => ?_))
  refine r_astore C (lv' := [(6, .ref q), (0, .ref (ad g 0)), (1, .int p0), (2, .int p1), (3, .int p2), (4, .int p3), (5, .ref (ad g 27))]) 6 dL_combine_21 (by decide) rfl ?_
  refine r_iconst C (v := (nI 2)) dL_combine_23 rfl ?_
  exact w_iret C dL_combine_24 (by decide) (by decide) Rr
set_option maxHeartbeats 1000000 in
set_option maxRecDepth 100000 in
theorem wt_derive (l : Launch) (g : Gd) (μ : Mm) {μ' : Mm} {p0 p1 p2 : Int32} {v : Int32} (hM : Ct l yX10_derive cX10_derive 4 (some .int) (rmk 6 133) g [.ref (ad g 0), .int p0, .int p1, .int p2] μ (some (.int v)) μ') : Cw l yL_derive cL_derive 6 [(0, 12, 15, 19), (0, 12, 19, 13)] (rmz 8 156) g [.ref (ad g 0), .int p0, .int p1, .int p2, .ref (ad g 27)] μ (nI 0) (sJ μ' 53 (vp_updL (gJ μ' 53) 0 (v.toInt64))) := by
  refine Cw.of (by decide) (Nat.le_of_ble_eq_true rfl) (fun z A C X Ee Rr => ?_)
  refine r_aload C dL_derive_0 4 rfl ?_
  refine r_iconst C (v := (nI 0)) dL_derive_2 rfl ?_
  refine r_aload_n C dL_derive_3 0 rfl ?_
  refine r_iload_n C dL_derive_4 1 rfl ?_
  refine r_iload_n C dL_derive_5 2 rfl ?_
  refine r_iload_n C dL_derive_6 3 rfl ?_
  refine r_callV C X (As := [.int p0, .int p1, .int p2]) (rest := [.int (nI 0), .ref (ad g 27)]) (st1 := [.int v, .int (nI 0), .ref (ad g 27)]) (μ' := μ') (k := 0) (T := TX10) miX10_derive mvX10_derive (hM) hw_4_35 (by decide) rfl rfl rfl ⟨by decide, by decide, rfl, rfl, by decide, by decide⟩ rfl (Nat.le_of_ble_eq_true rfl) dL_derive_7 rfl ?_
  refine r_i2l C (v := ((v).toInt64)) dL_derive_10 rfl ?_
  refine r_last C X (k := 27) (f' := vp_updL (gJ μ' 53) 0 ((v).toInt64)) (μ' := (sJ μ' 53 (vp_updL (gJ μ' 53) 0 ((v).toInt64)))) (by decide) rfl (by omega) (by decide) rfl dL_derive_11 (congrArg (jR g 1) (gJ_s _ _ _)) (WF_sJ53_ne g _ _) ?_
  refine r_goto C 23 dL_derive_12 (by decide) ?_
  refine r_iconst C (v := (nI 0)) dL_derive_23 rfl ?_
  exact w_iret C dL_derive_24 (by decide) (by decide) Rr
set_option maxHeartbeats 1000000 in
set_option maxRecDepth 100000 in
theorem wx_derive1 (l : Launch) (g : Gd) (μ : Mm) {p0 p1 p2 : Int32} (hM : Cz l yX10_derive cX10_derive 4 (some .int) (rmz 7 112) g [.ref (ad g 0), .int p0, .int p1, .int p2] μ nIO) : Cw l yL_derive cL_derive 6 [(0, 12, 15, 19), (0, 12, 19, 13)] (rmz 8 156) g [.ref (ad g 0), .int p0, .int p1, .int p2, .ref (ad g 27)] μ (nI 1) μ := by
  refine Cw.of (by decide) (Nat.le_of_ble_eq_true rfl) (fun z A C X Ee Rr => ?_)
  refine r_aload C dL_derive_0 4 rfl ?_
  refine r_iconst C (v := (nI 0)) dL_derive_2 rfl ?_
  refine r_aload_n C dL_derive_3 0 rfl ?_
  refine r_iload_n C dL_derive_4 1 rfl ?_
  refine r_iload_n C dL_derive_5 2 rfl ?_
  refine r_iload_n C dL_derive_6 3 rfl ?_
  refine r_xV C X Ee (As := [.int p0, .int p1, .int p2]) (rest := [.int (nI 0), .ref (ad g 27)]) (k := 0) (T := TX10) miX10_derive mvX10_derive (hM) hw_4_35 (by decide) rfl rfl rfl ⟨by decide, by decide, rfl, rfl, by decide, by decide⟩ rfl (Nat.le_of_ble_eq_true rfl) dL_derive_7 (x_catch C [] ⟨0, 12, 15, 19⟩ [⟨0, 12, 19, 13⟩] Rr.2.2.2 (fun _ h => absurd h List.not_mem_nil) rfl (by decide) hw_3_172 Ee.2.2.1.2.1 (fun q => ?_))
  refine r_astore C (lv' := [(5, .ref q), (0, .ref (ad g 0)), (1, .int p0), (2, .int p1), (3, .int p2), (4, .ref (ad g 27))]) 5 dL_derive_15 (by decide) rfl ?_
  refine r_iconst C (v := (nI 1)) dL_derive_17 rfl ?_
  exact w_iret C dL_derive_18 (by decide) (by decide) Rr
set_option maxHeartbeats 1000000 in
set_option maxRecDepth 100000 in
theorem wx_derive2 (l : Launch) (g : Gd) (μ : Mm) {p0 p1 p2 : Int32} (hM : Cz l yX10_derive cX10_derive 4 (some .int) (rmz 7 112) g [.ref (ad g 0), .int p0, .int p1, .int p2] μ nIA) : Cw l yL_derive cL_derive 6 [(0, 12, 15, 19), (0, 12, 19, 13)] (rmz 8 156) g [.ref (ad g 0), .int p0, .int p1, .int p2, .ref (ad g 27)] μ (nI 2) μ := by
  refine Cw.of (by decide) (Nat.le_of_ble_eq_true rfl) (fun z A C X Ee Rr => ?_)
  refine r_aload C dL_derive_0 4 rfl ?_
  refine r_iconst C (v := (nI 0)) dL_derive_2 rfl ?_
  refine r_aload_n C dL_derive_3 0 rfl ?_
  refine r_iload_n C dL_derive_4 1 rfl ?_
  refine r_iload_n C dL_derive_5 2 rfl ?_
  refine r_iload_n C dL_derive_6 3 rfl ?_
  refine r_xV C X Ee (As := [.int p0, .int p1, .int p2]) (rest := [.int (nI 0), .ref (ad g 27)]) (k := 0) (T := TX10) miX10_derive mvX10_derive (hM) hw_4_35 (by decide) rfl rfl rfl ⟨by decide, by decide, rfl, rfl, by decide, by decide⟩ rfl (Nat.le_of_ble_eq_true rfl) dL_derive_7 (x_catch C [⟨0, 12, 15, 19⟩] ⟨0, 12, 19, 13⟩ [] Rr.2.2.2 (List.forall_mem_singleton.mpr (Or.inr ⟨by decide, nIO, hw_3_172, Ee.2.2.2.2.1.1⟩)) rfl (by decide) hw_3_83 Ee.2.2.1.1 (fun q => ?_))
  refine r_astore C (lv' := [(5, .ref q), (0, .ref (ad g 0)), (1, .int p0), (2, .int p1), (3, .int p2), (4, .ref (ad g 27))]) 5 dL_derive_19 (by decide) rfl ?_
  refine r_iconst C (v := (nI 2)) dL_derive_21 rfl ?_
  exact w_iret C dL_derive_22 (by decide) (by decide) Rr
set_option maxHeartbeats 1000000 in
set_option maxRecDepth 100000 in
theorem wt_compress (l : Launch) (g : Gd) (μ : Mm) {μ' : Mm} {p0 p1 p2 : Int32} {v : Int32} (hM : Ct l yX10_compress cX10_compress 4 (some .int) (rmk 4 91) g [.ref (ad g 0), .int p0, .int p1, .int p2] μ (some (.int v)) μ') : Cw l yL_compress cL_compress 6 [(0, 12, 15, 19), (0, 12, 19, 13)] (rmz 9 156) g [.ref (ad g 0), .int p0, .int p1, .int p2, .ref (ad g 27)] μ (nI 0) (sJ μ' 53 (vp_updL (gJ μ' 53) 0 (v.toInt64))) := by
  refine Cw.of (by decide) (Nat.le_of_ble_eq_true rfl) (fun z A C X Ee Rr => ?_)
  refine r_aload C dL_compress_0 4 rfl ?_
  refine r_iconst C (v := (nI 0)) dL_compress_2 rfl ?_
  refine r_aload_n C dL_compress_3 0 rfl ?_
  refine r_iload_n C dL_compress_4 1 rfl ?_
  refine r_iload_n C dL_compress_5 2 rfl ?_
  refine r_iload_n C dL_compress_6 3 rfl ?_
  refine r_callV C X (As := [.int p0, .int p1, .int p2]) (rest := [.int (nI 0), .ref (ad g 27)]) (st1 := [.int v, .int (nI 0), .ref (ad g 27)]) (μ' := μ') (k := 0) (T := TX10) miX10_compress mvX10_compress (hM) hw_4_61 (by decide) rfl rfl rfl ⟨by decide, by decide, rfl, rfl, by decide, by decide⟩ rfl (Nat.le_of_ble_eq_true rfl) dL_compress_7 rfl ?_
  refine r_i2l C (v := ((v).toInt64)) dL_compress_10 rfl ?_
  refine r_last C X (k := 27) (f' := vp_updL (gJ μ' 53) 0 ((v).toInt64)) (μ' := (sJ μ' 53 (vp_updL (gJ μ' 53) 0 ((v).toInt64)))) (by decide) rfl (by omega) (by decide) rfl dL_compress_11 (congrArg (jR g 1) (gJ_s _ _ _)) (WF_sJ53_ne g _ _) ?_
  refine r_goto C 23 dL_compress_12 (by decide) ?_
  refine r_iconst C (v := (nI 0)) dL_compress_23 rfl ?_
  exact w_iret C dL_compress_24 (by decide) (by decide) Rr
set_option maxHeartbeats 1000000 in
set_option maxRecDepth 100000 in
theorem wx_compress1 (l : Launch) (g : Gd) (μ : Mm) {p0 p1 p2 : Int32} (hM : Cz l yX10_compress cX10_compress 4 (some .int) (rmz 8 133) g [.ref (ad g 0), .int p0, .int p1, .int p2] μ nIO) : Cw l yL_compress cL_compress 6 [(0, 12, 15, 19), (0, 12, 19, 13)] (rmz 9 156) g [.ref (ad g 0), .int p0, .int p1, .int p2, .ref (ad g 27)] μ (nI 1) μ := by
  refine Cw.of (by decide) (Nat.le_of_ble_eq_true rfl) (fun z A C X Ee Rr => ?_)
  refine r_aload C dL_compress_0 4 rfl ?_
  refine r_iconst C (v := (nI 0)) dL_compress_2 rfl ?_
  refine r_aload_n C dL_compress_3 0 rfl ?_
  refine r_iload_n C dL_compress_4 1 rfl ?_
  refine r_iload_n C dL_compress_5 2 rfl ?_
  refine r_iload_n C dL_compress_6 3 rfl ?_
  refine r_xV C X Ee (As := [.int p0, .int p1, .int p2]) (rest := [.int (nI 0), .ref (ad g 27)]) (k := 0) (T := TX10) miX10_compress mvX10_compress (hM) hw_4_61 (by decide) rfl rfl rfl ⟨by decide, by decide, rfl, rfl, by decide, by decide⟩ rfl (Nat.le_of_ble_eq_true rfl) dL_compress_7 (x_catch C [] ⟨0, 12, 15, 19⟩ [⟨0, 12, 19, 13⟩] Rr.2.2.2 (fun _ h => absurd h List.not_mem_nil) rfl (by decide) hw_3_172 Ee.2.2.1.2.1 (fun q => ?_))
  refine r_astore C (lv' := [(5, .ref q), (0, .ref (ad g 0)), (1, .int p0), (2, .int p1), (3, .int p2), (4, .ref (ad g 27))]) 5 dL_compress_15 (by decide) rfl ?_
  refine r_iconst C (v := (nI 1)) dL_compress_17 rfl ?_
  exact w_iret C dL_compress_18 (by decide) (by decide) Rr
set_option maxHeartbeats 1000000 in
set_option maxRecDepth 100000 in
theorem wx_compress2 (l : Launch) (g : Gd) (μ : Mm) {p0 p1 p2 : Int32} (hM : Cz l yX10_compress cX10_compress 4 (some .int) (rmz 8 133) g [.ref (ad g 0), .int p0, .int p1, .int p2] μ nIA) : Cw l yL_compress cL_compress 6 [(0, 12, 15, 19), (0, 12, 19, 13)] (rmz 9 156) g [.ref (ad g 0), .int p0, .int p1, .int p2, .ref (ad g 27)] μ (nI 2) μ := by
  refine Cw.of (by decide) (Nat.le_of_ble_eq_true rfl) (fun z A C X Ee Rr => ?_)
  refine r_aload C dL_compress_0 4 rfl ?_
  refine r_iconst C (v := (nI 0)) dL_compress_2 rfl ?_
  refine r_aload_n C dL_compress_3 0 rfl ?_
  refine r_iload_n C dL_compress_4 1 rfl ?_
  refine r_iload_n C dL_compress_5 2 rfl ?_
  refine r_iload_n C dL_compress_6 3 rfl ?_
  refine r_xV C X Ee (As := [.int p0, .int p1, .int p2]) (rest := [.int (nI 0), .ref (ad g 27)]) (k := 0) (T := TX10) miX10_compress mvX10_compress (hM) hw_4_61 (by decide) rfl rfl rfl ⟨by decide, by decide, rfl, rfl, by decide, by decide⟩ rfl (Nat.le_of_ble_eq_true rfl) dL_compress_7 (x_catch C [⟨0, 12, 15, 19⟩] ⟨0, 12, 19, 13⟩ [] Rr.2.2.2 (List.forall_mem_singleton.mpr (Or.inr ⟨by decide, nIO, hw_3_172, Ee.2.2.2.2.1.1⟩)) rfl (by decide) hw_3_83 Ee.2.2.1.1 (fun q => ?_))
  refine r_astore C (lv' := [(5, .ref q), (0, .ref (ad g 0)), (1, .int p0), (2, .int p1), (3, .int p2), (4, .ref (ad g 27))]) 5 dL_compress_19 (by decide) rfl ?_
  refine r_iconst C (v := (nI 2)) dL_compress_21 rfl ?_
  exact w_iret C dL_compress_22 (by decide) (by decide) Rr
set_option maxHeartbeats 1000000 in
set_option maxRecDepth 100000 in
theorem wt_shift (l : Launch) (g : Gd) (μ : Mm) {μ' : Mm} {p0 : Int32} {v : Int32} (hM : Ct l yX10_shift cX10_shift 2 (some .int) (rmk 6 139) g [.ref (ad g 0), .int p0] μ (some (.int v)) μ') : Cw l yL_shift cL_shift 4 [(0, 9, 12, 19)] (rmz 8 160) g [.ref (ad g 0), .int p0, .ref (ad g 27)] μ (nI 0) (sJ μ' 53 (vp_updL (gJ μ' 53) 0 (v.toInt64))) := by
  refine Cw.of (by decide) (Nat.le_of_ble_eq_true rfl) (fun z A C X Ee Rr => ?_)
  refine r_aload_n C dL_shift_0 2 rfl ?_
  refine r_iconst C (v := (nI 0)) dL_shift_1 rfl ?_
  refine r_aload_n C dL_shift_2 0 rfl ?_
  refine r_iload_n C dL_shift_3 1 rfl ?_
  refine r_callV C X (As := [.int p0]) (rest := [.int (nI 0), .ref (ad g 27)]) (st1 := [.int v, .int (nI 0), .ref (ad g 27)]) (μ' := μ') (k := 0) (T := TX10) miX10_shift mvX10_shift (hM) hw_4_74 (by decide) rfl rfl rfl ⟨by decide, by decide, rfl, rfl, by decide, by decide⟩ rfl (Nat.le_of_ble_eq_true rfl) dL_shift_4 rfl ?_
  refine r_i2l C (v := ((v).toInt64)) dL_shift_7 rfl ?_
  refine r_last C X (k := 27) (f' := vp_updL (gJ μ' 53) 0 ((v).toInt64)) (μ' := (sJ μ' 53 (vp_updL (gJ μ' 53) 0 ((v).toInt64)))) (by decide) rfl (by omega) (by decide) rfl dL_shift_8 (congrArg (jR g 1) (gJ_s _ _ _)) (WF_sJ53_ne g _ _) ?_
  refine r_goto C 15 dL_shift_9 (by decide) ?_
  refine r_iconst C (v := (nI 0)) dL_shift_15 rfl ?_
  exact w_iret C dL_shift_16 (by decide) (by decide) Rr
set_option maxHeartbeats 1000000 in
set_option maxRecDepth 100000 in
theorem wx_shift1 (l : Launch) (g : Gd) (μ : Mm) {p0 : Int32} (hM : Cz l yX10_shift cX10_shift 2 (some .int) (rmz 7 110) g [.ref (ad g 0), .int p0] μ nIO) : Cw l yL_shift cL_shift 4 [(0, 9, 12, 19)] (rmz 8 160) g [.ref (ad g 0), .int p0, .ref (ad g 27)] μ (nI 1) μ := by
  refine Cw.of (by decide) (Nat.le_of_ble_eq_true rfl) (fun z A C X Ee Rr => ?_)
  refine r_aload_n C dL_shift_0 2 rfl ?_
  refine r_iconst C (v := (nI 0)) dL_shift_1 rfl ?_
  refine r_aload_n C dL_shift_2 0 rfl ?_
  refine r_iload_n C dL_shift_3 1 rfl ?_
  refine r_xV C X Ee (As := [.int p0]) (rest := [.int (nI 0), .ref (ad g 27)]) (k := 0) (T := TX10) miX10_shift mvX10_shift (hM) hw_4_74 (by decide) rfl rfl rfl ⟨by decide, by decide, rfl, rfl, by decide, by decide⟩ rfl (Nat.le_of_ble_eq_true rfl) dL_shift_4 (x_catch C [] ⟨0, 9, 12, 19⟩ [] Rr.2.2.2 (fun _ h => absurd h List.not_mem_nil) rfl (by decide) hw_3_172 Ee.2.2.1.2.1 (fun q => ?_))
  refine r_astore_n C (lv' := [(3, .ref q), (0, .ref (ad g 0)), (1, .int p0), (2, .ref (ad g 27))]) 3 dL_shift_12 rfl (by decide) rfl ?_
  refine r_iconst C (v := (nI 1)) dL_shift_13 rfl ?_
  exact w_iret C dL_shift_14 (by decide) (by decide) Rr
set_option maxHeartbeats 1000000 in
set_option maxRecDepth 100000 in
theorem wt_trace (l : Launch) (g : Gd) (μ : Mm) {μ' : Mm} {p0 p1 p2 : Int32} {v : Int32} (hM : Ct l yX10_trace cX10_trace 5 (some .int) (rmk 4 105) g [.ref (ad g 0), .int p0, .int p1, .int p2] μ (some (.int v)) μ') : Cw l yL_trace cL_trace 6 [(0, 12, 15, 19), (0, 12, 19, 13)] (rmz 9 157) g [.ref (ad g 0), .int p0, .int p1, .int p2, .ref (ad g 27)] μ (nI 0) (sJ μ' 53 (vp_updL (gJ μ' 53) 0 (v.toInt64))) := by
  refine Cw.of (by decide) (Nat.le_of_ble_eq_true rfl) (fun z A C X Ee Rr => ?_)
  refine r_aload C dL_trace_0 4 rfl ?_
  refine r_iconst C (v := (nI 0)) dL_trace_2 rfl ?_
  refine r_aload_n C dL_trace_3 0 rfl ?_
  refine r_iload_n C dL_trace_4 1 rfl ?_
  refine r_iload_n C dL_trace_5 2 rfl ?_
  refine r_iload_n C dL_trace_6 3 rfl ?_
  refine r_callV C X (As := [.int p0, .int p1, .int p2]) (rest := [.int (nI 0), .ref (ad g 27)]) (st1 := [.int v, .int (nI 0), .ref (ad g 27)]) (μ' := μ') (k := 0) (T := TX10) miX10_trace mvX10_trace (hM) hw_4_91 (by decide) rfl rfl rfl ⟨by decide, by decide, rfl, rfl, by decide, by decide⟩ rfl (Nat.le_of_ble_eq_true rfl) dL_trace_7 rfl ?_
  refine r_i2l C (v := ((v).toInt64)) dL_trace_10 rfl ?_
  refine r_last C X (k := 27) (f' := vp_updL (gJ μ' 53) 0 ((v).toInt64)) (μ' := (sJ μ' 53 (vp_updL (gJ μ' 53) 0 ((v).toInt64)))) (by decide) rfl (by omega) (by decide) rfl dL_trace_11 (congrArg (jR g 1) (gJ_s _ _ _)) (WF_sJ53_ne g _ _) ?_
  refine r_goto C 23 dL_trace_12 (by decide) ?_
  refine r_iconst C (v := (nI 0)) dL_trace_23 rfl ?_
  exact w_iret C dL_trace_24 (by decide) (by decide) Rr
set_option maxHeartbeats 1000000 in
set_option maxRecDepth 100000 in
theorem wx_trace1 (l : Launch) (g : Gd) (μ : Mm) {p0 p1 p2 : Int32} (hM : Cz l yX10_trace cX10_trace 5 (some .int) (rmz 8 133) g [.ref (ad g 0), .int p0, .int p1, .int p2] μ nIO) : Cw l yL_trace cL_trace 6 [(0, 12, 15, 19), (0, 12, 19, 13)] (rmz 9 157) g [.ref (ad g 0), .int p0, .int p1, .int p2, .ref (ad g 27)] μ (nI 1) μ := by
  refine Cw.of (by decide) (Nat.le_of_ble_eq_true rfl) (fun z A C X Ee Rr => ?_)
  refine r_aload C dL_trace_0 4 rfl ?_
  refine r_iconst C (v := (nI 0)) dL_trace_2 rfl ?_
  refine r_aload_n C dL_trace_3 0 rfl ?_
  refine r_iload_n C dL_trace_4 1 rfl ?_
  refine r_iload_n C dL_trace_5 2 rfl ?_
  refine r_iload_n C dL_trace_6 3 rfl ?_
  refine r_xV C X Ee (As := [.int p0, .int p1, .int p2]) (rest := [.int (nI 0), .ref (ad g 27)]) (k := 0) (T := TX10) miX10_trace mvX10_trace (hM) hw_4_91 (by decide) rfl rfl rfl ⟨by decide, by decide, rfl, rfl, by decide, by decide⟩ rfl (Nat.le_of_ble_eq_true rfl) dL_trace_7 (x_catch C [] ⟨0, 12, 15, 19⟩ [⟨0, 12, 19, 13⟩] Rr.2.2.2 (fun _ h => absurd h List.not_mem_nil) rfl (by decide) hw_3_172 Ee.2.2.1.2.1 (fun q => ?_))
  refine r_astore C (lv' := [(5, .ref q), (0, .ref (ad g 0)), (1, .int p0), (2, .int p1), (3, .int p2), (4, .ref (ad g 27))]) 5 dL_trace_15 (by decide) rfl ?_
  refine r_iconst C (v := (nI 1)) dL_trace_17 rfl ?_
  exact w_iret C dL_trace_18 (by decide) (by decide) Rr
set_option maxHeartbeats 1000000 in
set_option maxRecDepth 100000 in
theorem wx_trace2 (l : Launch) (g : Gd) (μ : Mm) {p0 p1 p2 : Int32} (hM : Cz l yX10_trace cX10_trace 5 (some .int) (rmz 8 133) g [.ref (ad g 0), .int p0, .int p1, .int p2] μ nIA) : Cw l yL_trace cL_trace 6 [(0, 12, 15, 19), (0, 12, 19, 13)] (rmz 9 157) g [.ref (ad g 0), .int p0, .int p1, .int p2, .ref (ad g 27)] μ (nI 2) μ := by
  refine Cw.of (by decide) (Nat.le_of_ble_eq_true rfl) (fun z A C X Ee Rr => ?_)
  refine r_aload C dL_trace_0 4 rfl ?_
  refine r_iconst C (v := (nI 0)) dL_trace_2 rfl ?_
  refine r_aload_n C dL_trace_3 0 rfl ?_
  refine r_iload_n C dL_trace_4 1 rfl ?_
  refine r_iload_n C dL_trace_5 2 rfl ?_
  refine r_iload_n C dL_trace_6 3 rfl ?_
  refine r_xV C X Ee (As := [.int p0, .int p1, .int p2]) (rest := [.int (nI 0), .ref (ad g 27)]) (k := 0) (T := TX10) miX10_trace mvX10_trace (hM) hw_4_91 (by decide) rfl rfl rfl ⟨by decide, by decide, rfl, rfl, by decide, by decide⟩ rfl (Nat.le_of_ble_eq_true rfl) dL_trace_7 (x_catch C [⟨0, 12, 15, 19⟩] ⟨0, 12, 19, 13⟩ [] Rr.2.2.2 (List.forall_mem_singleton.mpr (Or.inr ⟨by decide, nIO, hw_3_172, Ee.2.2.2.2.1.1⟩)) rfl (by decide) hw_3_83 Ee.2.2.1.1 (fun q => ?_))
  refine r_astore C (lv' := [(5, .ref q), (0, .ref (ad g 0)), (1, .int p0), (2, .int p1), (3, .int p2), (4, .ref (ad g 27))]) 5 dL_trace_19 (by decide) rfl ?_
  refine r_iconst C (v := (nI 2)) dL_trace_21 rfl ?_
  exact w_iret C dL_trace_22 (by decide) (by decide) Rr
set_option maxHeartbeats 1000000 in
set_option maxRecDepth 100000 in
theorem wt_segment (l : Launch) (g : Gd) (μ : Mm) {μ' : Mm} {p0 p1 p2 : Int32} {v : Int32} (hM : Ct l yX10_segment cX10_segment 7 (some .int) (rmk 4 105) g [.ref (ad g 0), .int p0, .int p1, .int p2] μ (some (.int v)) μ') : Cw l yL_segment cL_segment 6 [(0, 12, 15, 19), (0, 12, 19, 13)] (rmz 8 138) g [.ref (ad g 0), .int p0, .int p1, .int p2, .ref (ad g 27)] μ (nI 0) (sJ μ' 53 (vp_updL (gJ μ' 53) 0 (v.toInt64))) := by
  refine Cw.of (by decide) (Nat.le_of_ble_eq_true rfl) (fun z A C X Ee Rr => ?_)
  refine r_aload C dL_segment_0 4 rfl ?_
  refine r_iconst C (v := (nI 0)) dL_segment_2 rfl ?_
  refine r_aload_n C dL_segment_3 0 rfl ?_
  refine r_iload_n C dL_segment_4 1 rfl ?_
  refine r_iload_n C dL_segment_5 2 rfl ?_
  refine r_iload_n C dL_segment_6 3 rfl ?_
  refine r_callV C X (As := [.int p0, .int p1, .int p2]) (rest := [.int (nI 0), .ref (ad g 27)]) (st1 := [.int v, .int (nI 0), .ref (ad g 27)]) (μ' := μ') (k := 0) (T := TX10) miX10_segment mvX10_segment (hM) hw_4_99 (by decide) rfl rfl rfl ⟨by decide, by decide, rfl, rfl, by decide, by decide⟩ rfl (Nat.le_of_ble_eq_true rfl) dL_segment_7 rfl ?_
  refine r_i2l C (v := ((v).toInt64)) dL_segment_10 rfl ?_
  refine r_last C X (k := 27) (f' := vp_updL (gJ μ' 53) 0 ((v).toInt64)) (μ' := (sJ μ' 53 (vp_updL (gJ μ' 53) 0 ((v).toInt64)))) (by decide) rfl (by omega) (by decide) rfl dL_segment_11 (congrArg (jR g 1) (gJ_s _ _ _)) (WF_sJ53_ne g _ _) ?_
  refine r_goto C 23 dL_segment_12 (by decide) ?_
  refine r_iconst C (v := (nI 0)) dL_segment_23 rfl ?_
  exact w_iret C dL_segment_24 (by decide) (by decide) Rr
set_option maxHeartbeats 1000000 in
set_option maxRecDepth 100000 in
theorem wx_segment1 (l : Launch) (g : Gd) (μ : Mm) {p0 p1 p2 : Int32} (hM : Cz l yX10_segment cX10_segment 7 (some .int) (rmz 7 112) g [.ref (ad g 0), .int p0, .int p1, .int p2] μ nIO) : Cw l yL_segment cL_segment 6 [(0, 12, 15, 19), (0, 12, 19, 13)] (rmz 8 138) g [.ref (ad g 0), .int p0, .int p1, .int p2, .ref (ad g 27)] μ (nI 1) μ := by
  refine Cw.of (by decide) (Nat.le_of_ble_eq_true rfl) (fun z A C X Ee Rr => ?_)
  refine r_aload C dL_segment_0 4 rfl ?_
  refine r_iconst C (v := (nI 0)) dL_segment_2 rfl ?_
  refine r_aload_n C dL_segment_3 0 rfl ?_
  refine r_iload_n C dL_segment_4 1 rfl ?_
  refine r_iload_n C dL_segment_5 2 rfl ?_
  refine r_iload_n C dL_segment_6 3 rfl ?_
  refine r_xV C X Ee (As := [.int p0, .int p1, .int p2]) (rest := [.int (nI 0), .ref (ad g 27)]) (k := 0) (T := TX10) miX10_segment mvX10_segment (hM) hw_4_99 (by decide) rfl rfl rfl ⟨by decide, by decide, rfl, rfl, by decide, by decide⟩ rfl (Nat.le_of_ble_eq_true rfl) dL_segment_7 (x_catch C [] ⟨0, 12, 15, 19⟩ [⟨0, 12, 19, 13⟩] Rr.2.2.2 (fun _ h => absurd h List.not_mem_nil) rfl (by decide) hw_3_172 Ee.2.2.1.2.1 (fun q => ?_))
  refine r_astore C (lv' := [(5, .ref q), (0, .ref (ad g 0)), (1, .int p0), (2, .int p1), (3, .int p2), (4, .ref (ad g 27))]) 5 dL_segment_15 (by decide) rfl ?_
  refine r_iconst C (v := (nI 1)) dL_segment_17 rfl ?_
  exact w_iret C dL_segment_18 (by decide) (by decide) Rr
set_option maxHeartbeats 1000000 in
set_option maxRecDepth 100000 in
theorem wx_segment2 (l : Launch) (g : Gd) (μ : Mm) {p0 p1 p2 : Int32} (hM : Cz l yX10_segment cX10_segment 7 (some .int) (rmz 7 112) g [.ref (ad g 0), .int p0, .int p1, .int p2] μ nIA) : Cw l yL_segment cL_segment 6 [(0, 12, 15, 19), (0, 12, 19, 13)] (rmz 8 138) g [.ref (ad g 0), .int p0, .int p1, .int p2, .ref (ad g 27)] μ (nI 2) μ := by
  refine Cw.of (by decide) (Nat.le_of_ble_eq_true rfl) (fun z A C X Ee Rr => ?_)
  refine r_aload C dL_segment_0 4 rfl ?_
  refine r_iconst C (v := (nI 0)) dL_segment_2 rfl ?_
  refine r_aload_n C dL_segment_3 0 rfl ?_
  refine r_iload_n C dL_segment_4 1 rfl ?_
  refine r_iload_n C dL_segment_5 2 rfl ?_
  refine r_iload_n C dL_segment_6 3 rfl ?_
  refine r_xV C X Ee (As := [.int p0, .int p1, .int p2]) (rest := [.int (nI 0), .ref (ad g 27)]) (k := 0) (T := TX10) miX10_segment mvX10_segment (hM) hw_4_99 (by decide) rfl rfl rfl ⟨by decide, by decide, rfl, rfl, by decide, by decide⟩ rfl (Nat.le_of_ble_eq_true rfl) dL_segment_7 (x_catch C [⟨0, 12, 15, 19⟩] ⟨0, 12, 19, 13⟩ [] Rr.2.2.2 (List.forall_mem_singleton.mpr (Or.inr ⟨by decide, nIO, hw_3_172, Ee.2.2.2.2.1.1⟩)) rfl (by decide) hw_3_83 Ee.2.2.1.1 (fun q => ?_))
  refine r_astore C (lv' := [(5, .ref q), (0, .ref (ad g 0)), (1, .int p0), (2, .int p1), (3, .int p2), (4, .ref (ad g 27))]) 5 dL_segment_19 (by decide) rfl ?_
  refine r_iconst C (v := (nI 2)) dL_segment_21 rfl ?_
  exact w_iret C dL_segment_22 (by decide) (by decide) Rr
set_option maxHeartbeats 1000000 in
set_option maxRecDepth 100000 in
theorem wt_rank (l : Launch) (g : Gd) (μ : Mm) {μ' : Mm} {p0 : Int32} {v : Int32} (hM : Ct l yX10_rank cX10_rank 2 (some .int) (rmk 2 48) g [.ref (ad g 0), .int p0] μ (some (.int v)) μ') : Cw l yL_rank cL_rank 4 [(0, 9, 12, 13)] (rmz 8 133) g [.ref (ad g 0), .int p0, .ref (ad g 27)] μ (nI 0) (sJ μ' 53 (vp_updL (gJ μ' 53) 0 (v.toInt64))) := by
  refine Cw.of (by decide) (Nat.le_of_ble_eq_true rfl) (fun z A C X Ee Rr => ?_)
  refine r_aload_n C dL_rank_0 2 rfl ?_
  refine r_iconst C (v := (nI 0)) dL_rank_1 rfl ?_
  refine r_aload_n C dL_rank_2 0 rfl ?_
  refine r_iload_n C dL_rank_3 1 rfl ?_
  refine r_callV C X (As := [.int p0]) (rest := [.int (nI 0), .ref (ad g 27)]) (st1 := [.int v, .int (nI 0), .ref (ad g 27)]) (μ' := μ') (k := 0) (T := TX10) miX10_rank mvX10_rank (hM) hw_4_106 (by decide) rfl rfl rfl ⟨by decide, by decide, rfl, rfl, by decide, by decide⟩ rfl (Nat.le_of_ble_eq_true rfl) dL_rank_4 rfl ?_
  refine r_i2l C (v := ((v).toInt64)) dL_rank_7 rfl ?_
  refine r_last C X (k := 27) (f' := vp_updL (gJ μ' 53) 0 ((v).toInt64)) (μ' := (sJ μ' 53 (vp_updL (gJ μ' 53) 0 ((v).toInt64)))) (by decide) rfl (by omega) (by decide) rfl dL_rank_8 (congrArg (jR g 1) (gJ_s _ _ _)) (WF_sJ53_ne g _ _) ?_
  refine r_goto C 15 dL_rank_9 (by decide) ?_
  refine r_iconst C (v := (nI 0)) dL_rank_15 rfl ?_
  exact w_iret C dL_rank_16 (by decide) (by decide) Rr
set_option maxHeartbeats 1000000 in
set_option maxRecDepth 100000 in
theorem wx_rank1 (l : Launch) (g : Gd) (μ : Mm) {p0 : Int32} (hM : Cz l yX10_rank cX10_rank 2 (some .int) (rmz 7 112) g [.ref (ad g 0), .int p0] μ nIA) : Cw l yL_rank cL_rank 4 [(0, 9, 12, 13)] (rmz 8 133) g [.ref (ad g 0), .int p0, .ref (ad g 27)] μ (nI 1) μ := by
  refine Cw.of (by decide) (Nat.le_of_ble_eq_true rfl) (fun z A C X Ee Rr => ?_)
  refine r_aload_n C dL_rank_0 2 rfl ?_
  refine r_iconst C (v := (nI 0)) dL_rank_1 rfl ?_
  refine r_aload_n C dL_rank_2 0 rfl ?_
  refine r_iload_n C dL_rank_3 1 rfl ?_
  refine r_xV C X Ee (As := [.int p0]) (rest := [.int (nI 0), .ref (ad g 27)]) (k := 0) (T := TX10) miX10_rank mvX10_rank (hM) hw_4_106 (by decide) rfl rfl rfl ⟨by decide, by decide, rfl, rfl, by decide, by decide⟩ rfl (Nat.le_of_ble_eq_true rfl) dL_rank_4 (x_catch C [] ⟨0, 9, 12, 13⟩ [] Rr.2.2.2 (fun _ h => absurd h List.not_mem_nil) rfl (by decide) hw_3_83 Ee.2.2.1.1 (fun q => ?_))
  refine r_astore_n C (lv' := [(3, .ref q), (0, .ref (ad g 0)), (1, .int p0), (2, .ref (ad g 27))]) 3 dL_rank_12 rfl (by decide) rfl ?_
  refine r_iconst C (v := (nI 1)) dL_rank_13 rfl ?_
  exact w_iret C dL_rank_14 (by decide) (by decide) Rr
set_option maxHeartbeats 1000000 in
set_option maxRecDepth 100000 in
theorem wt_unrank (l : Launch) (g : Gd) (μ : Mm) {μ' : Mm} {p0 p1 : Int32} {v : Int32} (hM : Ct l yX10_unrank cX10_unrank 3 (some .int) (rmk 2 52) g [.ref (ad g 0), .int p0, .int p1] μ (some (.int v)) μ') : Cw l yL_unrank cL_unrank 5 [(0, 10, 13, 13)] (rmz 8 134) g [.ref (ad g 0), .int p0, .int p1, .ref (ad g 27)] μ (nI 0) (sJ μ' 53 (vp_updL (gJ μ' 53) 0 (v.toInt64))) := by
  refine Cw.of (by decide) (Nat.le_of_ble_eq_true rfl) (fun z A C X Ee Rr => ?_)
  refine r_aload_n C dL_unrank_0 3 rfl ?_
  refine r_iconst C (v := (nI 0)) dL_unrank_1 rfl ?_
  refine r_aload_n C dL_unrank_2 0 rfl ?_
  refine r_iload_n C dL_unrank_3 1 rfl ?_
  refine r_iload_n C dL_unrank_4 2 rfl ?_
  refine r_callV C X (As := [.int p0, .int p1]) (rest := [.int (nI 0), .ref (ad g 27)]) (st1 := [.int v, .int (nI 0), .ref (ad g 27)]) (μ' := μ') (k := 0) (T := TX10) miX10_unrank mvX10_unrank (hM) hw_4_117 (by decide) rfl rfl rfl ⟨by decide, by decide, rfl, rfl, by decide, by decide⟩ rfl (Nat.le_of_ble_eq_true rfl) dL_unrank_5 rfl ?_
  refine r_i2l C (v := ((v).toInt64)) dL_unrank_8 rfl ?_
  refine r_last C X (k := 27) (f' := vp_updL (gJ μ' 53) 0 ((v).toInt64)) (μ' := (sJ μ' 53 (vp_updL (gJ μ' 53) 0 ((v).toInt64)))) (by decide) rfl (by omega) (by decide) rfl dL_unrank_9 (congrArg (jR g 1) (gJ_s _ _ _)) (WF_sJ53_ne g _ _) ?_
  refine r_goto C 17 dL_unrank_10 (by decide) ?_
  refine r_iconst C (v := (nI 0)) dL_unrank_17 rfl ?_
  exact w_iret C dL_unrank_18 (by decide) (by decide) Rr
set_option maxHeartbeats 1000000 in
set_option maxRecDepth 100000 in
theorem wx_unrank1 (l : Launch) (g : Gd) (μ : Mm) {p0 p1 : Int32} (hM : Cz l yX10_unrank cX10_unrank 3 (some .int) (rmz 7 112) g [.ref (ad g 0), .int p0, .int p1] μ nIA) : Cw l yL_unrank cL_unrank 5 [(0, 10, 13, 13)] (rmz 8 134) g [.ref (ad g 0), .int p0, .int p1, .ref (ad g 27)] μ (nI 1) μ := by
  refine Cw.of (by decide) (Nat.le_of_ble_eq_true rfl) (fun z A C X Ee Rr => ?_)
  refine r_aload_n C dL_unrank_0 3 rfl ?_
  refine r_iconst C (v := (nI 0)) dL_unrank_1 rfl ?_
  refine r_aload_n C dL_unrank_2 0 rfl ?_
  refine r_iload_n C dL_unrank_3 1 rfl ?_
  refine r_iload_n C dL_unrank_4 2 rfl ?_
  refine r_xV C X Ee (As := [.int p0, .int p1]) (rest := [.int (nI 0), .ref (ad g 27)]) (k := 0) (T := TX10) miX10_unrank mvX10_unrank (hM) hw_4_117 (by decide) rfl rfl rfl ⟨by decide, by decide, rfl, rfl, by decide, by decide⟩ rfl (Nat.le_of_ble_eq_true rfl) dL_unrank_5 (x_catch C [] ⟨0, 10, 13, 13⟩ [] Rr.2.2.2 (fun _ h => absurd h List.not_mem_nil) rfl (by decide) hw_3_83 Ee.2.2.1.1 (fun q => ?_))
  refine r_astore C (lv' := [(4, .ref q), (0, .ref (ad g 0)), (1, .int p0), (2, .int p1), (3, .ref (ad g 27))]) 4 dL_unrank_13 (by decide) rfl ?_
  refine r_iconst C (v := (nI 1)) dL_unrank_15 rfl ?_
  exact w_iret C dL_unrank_16 (by decide) (by decide) Rr
set_option maxHeartbeats 1000000 in
set_option maxRecDepth 100000 in
theorem wt_cascade (l : Launch) (g : Gd) (μ : Mm) {μ' : Mm} {p0 p1 p2 : Int32} {v : Int32} (hM : Ct l yX10_cascade cX10_cascade 4 (some .int) (rmk 3 71) g [.ref (ad g 0), .int p0, .int p1, .int p2] μ (some (.int v)) μ') : Cw l yL_cascade cL_cascade 6 [(0, 12, 15, 13)] (rmz 8 135) g [.ref (ad g 0), .int p0, .int p1, .int p2, .ref (ad g 27)] μ (nI 0) (sJ μ' 53 (vp_updL (gJ μ' 53) 0 (v.toInt64))) := by
  refine Cw.of (by decide) (Nat.le_of_ble_eq_true rfl) (fun z A C X Ee Rr => ?_)
  refine r_aload C dL_cascade_0 4 rfl ?_
  refine r_iconst C (v := (nI 0)) dL_cascade_2 rfl ?_
  refine r_aload_n C dL_cascade_3 0 rfl ?_
  refine r_iload_n C dL_cascade_4 1 rfl ?_
  refine r_iload_n C dL_cascade_5 2 rfl ?_
  refine r_iload_n C dL_cascade_6 3 rfl ?_
  refine r_callV C X (As := [.int p0, .int p1, .int p2]) (rest := [.int (nI 0), .ref (ad g 27)]) (st1 := [.int v, .int (nI 0), .ref (ad g 27)]) (μ' := μ') (k := 0) (T := TX10) miX10_cascade mvX10_cascade (hM) hw_4_127 (by decide) rfl rfl rfl ⟨by decide, by decide, rfl, rfl, by decide, by decide⟩ rfl (Nat.le_of_ble_eq_true rfl) dL_cascade_7 rfl ?_
  refine r_i2l C (v := ((v).toInt64)) dL_cascade_10 rfl ?_
  refine r_last C X (k := 27) (f' := vp_updL (gJ μ' 53) 0 ((v).toInt64)) (μ' := (sJ μ' 53 (vp_updL (gJ μ' 53) 0 ((v).toInt64)))) (by decide) rfl (by omega) (by decide) rfl dL_cascade_11 (congrArg (jR g 1) (gJ_s _ _ _)) (WF_sJ53_ne g _ _) ?_
  refine r_goto C 19 dL_cascade_12 (by decide) ?_
  refine r_iconst C (v := (nI 0)) dL_cascade_19 rfl ?_
  exact w_iret C dL_cascade_20 (by decide) (by decide) Rr
set_option maxHeartbeats 1000000 in
set_option maxRecDepth 100000 in
theorem wx_cascade1 (l : Launch) (g : Gd) (μ : Mm) {p0 p1 p2 : Int32} (hM : Cz l yX10_cascade cX10_cascade 4 (some .int) (rmz 7 112) g [.ref (ad g 0), .int p0, .int p1, .int p2] μ nIA) : Cw l yL_cascade cL_cascade 6 [(0, 12, 15, 13)] (rmz 8 135) g [.ref (ad g 0), .int p0, .int p1, .int p2, .ref (ad g 27)] μ (nI 1) μ := by
  refine Cw.of (by decide) (Nat.le_of_ble_eq_true rfl) (fun z A C X Ee Rr => ?_)
  refine r_aload C dL_cascade_0 4 rfl ?_
  refine r_iconst C (v := (nI 0)) dL_cascade_2 rfl ?_
  refine r_aload_n C dL_cascade_3 0 rfl ?_
  refine r_iload_n C dL_cascade_4 1 rfl ?_
  refine r_iload_n C dL_cascade_5 2 rfl ?_
  refine r_iload_n C dL_cascade_6 3 rfl ?_
  refine r_xV C X Ee (As := [.int p0, .int p1, .int p2]) (rest := [.int (nI 0), .ref (ad g 27)]) (k := 0) (T := TX10) miX10_cascade mvX10_cascade (hM) hw_4_127 (by decide) rfl rfl rfl ⟨by decide, by decide, rfl, rfl, by decide, by decide⟩ rfl (Nat.le_of_ble_eq_true rfl) dL_cascade_7 (x_catch C [] ⟨0, 12, 15, 13⟩ [] Rr.2.2.2 (fun _ h => absurd h List.not_mem_nil) rfl (by decide) hw_3_83 Ee.2.2.1.1 (fun q => ?_))
  refine r_astore C (lv' := [(5, .ref q), (0, .ref (ad g 0)), (1, .int p0), (2, .int p1), (3, .int p2), (4, .ref (ad g 27))]) 5 dL_cascade_15 (by decide) rfl ?_
  refine r_iconst C (v := (nI 1)) dL_cascade_17 rfl ?_
  exact w_iret C dL_cascade_18 (by decide) (by decide) Rr
set_option maxHeartbeats 1000000 in
set_option maxRecDepth 100000 in
theorem wt_shadowBound (l : Launch) (g : Gd) (μ : Mm) {μ' : Mm} {p0 p1 : Int32} {v : Int32} (hM : Ct l yX10_shadowBound cX10_shadowBound 3 (some .int) (rmk 3 72) g [.ref (ad g 0), .int p0, .int p1] μ (some (.int v)) μ') : Cw l yL_shadowBound cL_shadowBound 5 [(0, 10, 13, 13)] (rmz 8 134) g [.ref (ad g 0), .int p0, .int p1, .ref (ad g 27)] μ (nI 0) (sJ μ' 53 (vp_updL (gJ μ' 53) 0 (v.toInt64))) := by
  refine Cw.of (by decide) (Nat.le_of_ble_eq_true rfl) (fun z A C X Ee Rr => ?_)
  refine r_aload_n C dL_shadowBound_0 3 rfl ?_
  refine r_iconst C (v := (nI 0)) dL_shadowBound_1 rfl ?_
  refine r_aload_n C dL_shadowBound_2 0 rfl ?_
  refine r_iload_n C dL_shadowBound_3 1 rfl ?_
  refine r_iload_n C dL_shadowBound_4 2 rfl ?_
  refine r_callV C X (As := [.int p0, .int p1]) (rest := [.int (nI 0), .ref (ad g 27)]) (st1 := [.int v, .int (nI 0), .ref (ad g 27)]) (μ' := μ') (k := 0) (T := TX10) miX10_shadowBound mvX10_shadowBound (hM) hw_4_138 (by decide) rfl rfl rfl ⟨by decide, by decide, rfl, rfl, by decide, by decide⟩ rfl (Nat.le_of_ble_eq_true rfl) dL_shadowBound_5 rfl ?_
  refine r_i2l C (v := ((v).toInt64)) dL_shadowBound_8 rfl ?_
  refine r_last C X (k := 27) (f' := vp_updL (gJ μ' 53) 0 ((v).toInt64)) (μ' := (sJ μ' 53 (vp_updL (gJ μ' 53) 0 ((v).toInt64)))) (by decide) rfl (by omega) (by decide) rfl dL_shadowBound_9 (congrArg (jR g 1) (gJ_s _ _ _)) (WF_sJ53_ne g _ _) ?_
  refine r_goto C 17 dL_shadowBound_10 (by decide) ?_
  refine r_iconst C (v := (nI 0)) dL_shadowBound_17 rfl ?_
  exact w_iret C dL_shadowBound_18 (by decide) (by decide) Rr
set_option maxHeartbeats 1000000 in
set_option maxRecDepth 100000 in
theorem wx_shadowBound1 (l : Launch) (g : Gd) (μ : Mm) {p0 p1 : Int32} (hM : Cz l yX10_shadowBound cX10_shadowBound 3 (some .int) (rmz 7 112) g [.ref (ad g 0), .int p0, .int p1] μ nIA) : Cw l yL_shadowBound cL_shadowBound 5 [(0, 10, 13, 13)] (rmz 8 134) g [.ref (ad g 0), .int p0, .int p1, .ref (ad g 27)] μ (nI 1) μ := by
  refine Cw.of (by decide) (Nat.le_of_ble_eq_true rfl) (fun z A C X Ee Rr => ?_)
  refine r_aload_n C dL_shadowBound_0 3 rfl ?_
  refine r_iconst C (v := (nI 0)) dL_shadowBound_1 rfl ?_
  refine r_aload_n C dL_shadowBound_2 0 rfl ?_
  refine r_iload_n C dL_shadowBound_3 1 rfl ?_
  refine r_iload_n C dL_shadowBound_4 2 rfl ?_
  refine r_xV C X Ee (As := [.int p0, .int p1]) (rest := [.int (nI 0), .ref (ad g 27)]) (k := 0) (T := TX10) miX10_shadowBound mvX10_shadowBound (hM) hw_4_138 (by decide) rfl rfl rfl ⟨by decide, by decide, rfl, rfl, by decide, by decide⟩ rfl (Nat.le_of_ble_eq_true rfl) dL_shadowBound_5 (x_catch C [] ⟨0, 10, 13, 13⟩ [] Rr.2.2.2 (fun _ h => absurd h List.not_mem_nil) rfl (by decide) hw_3_83 Ee.2.2.1.1 (fun q => ?_))
  refine r_astore C (lv' := [(4, .ref q), (0, .ref (ad g 0)), (1, .int p0), (2, .int p1), (3, .ref (ad g 27))]) 4 dL_shadowBound_13 (by decide) rfl ?_
  refine r_iconst C (v := (nI 1)) dL_shadowBound_15 rfl ?_
  exact w_iret C dL_shadowBound_16 (by decide) (by decide) Rr
set_option maxHeartbeats 1000000 in
set_option maxRecDepth 100000 in
theorem wt_excess (l : Launch) (g : Gd) (μ : Mm) {μ' : Mm} {p0 p1 : Int32} {v : Int32} (hM : Ct l yX10_excess cX10_excess 3 (some .int) (rmk 4 94) g [.ref (ad g 0), .int p0, .int p1] μ (some (.int v)) μ') : Cw l yL_excess cL_excess 5 [(0, 10, 13, 19), (0, 10, 17, 13)] (rmz 8 134) g [.ref (ad g 0), .int p0, .int p1, .ref (ad g 27)] μ (nI 0) (sJ μ' 53 (vp_updL (gJ μ' 53) 0 (v.toInt64))) := by
  refine Cw.of (by decide) (Nat.le_of_ble_eq_true rfl) (fun z A C X Ee Rr => ?_)
  refine r_aload_n C dL_excess_0 3 rfl ?_
  refine r_iconst C (v := (nI 0)) dL_excess_1 rfl ?_
  refine r_aload_n C dL_excess_2 0 rfl ?_
  refine r_iload_n C dL_excess_3 1 rfl ?_
  refine r_iload_n C dL_excess_4 2 rfl ?_
  refine r_callV C X (As := [.int p0, .int p1]) (rest := [.int (nI 0), .ref (ad g 27)]) (st1 := [.int v, .int (nI 0), .ref (ad g 27)]) (μ' := μ') (k := 0) (T := TX10) miX10_excess mvX10_excess (hM) hw_4_145 (by decide) rfl rfl rfl ⟨by decide, by decide, rfl, rfl, by decide, by decide⟩ rfl (Nat.le_of_ble_eq_true rfl) dL_excess_5 rfl ?_
  refine r_i2l C (v := ((v).toInt64)) dL_excess_8 rfl ?_
  refine r_last C X (k := 27) (f' := vp_updL (gJ μ' 53) 0 ((v).toInt64)) (μ' := (sJ μ' 53 (vp_updL (gJ μ' 53) 0 ((v).toInt64)))) (by decide) rfl (by omega) (by decide) rfl dL_excess_9 (congrArg (jR g 1) (gJ_s _ _ _)) (WF_sJ53_ne g _ _) ?_
  refine r_goto C 21 dL_excess_10 (by decide) ?_
  refine r_iconst C (v := (nI 0)) dL_excess_21 rfl ?_
  exact w_iret C dL_excess_22 (by decide) (by decide) Rr
set_option maxHeartbeats 1000000 in
set_option maxRecDepth 100000 in
theorem wx_excess1 (l : Launch) (g : Gd) (μ : Mm) {p0 p1 : Int32} (hM : Cz l yX10_excess cX10_excess 3 (some .int) (rmz 7 112) g [.ref (ad g 0), .int p0, .int p1] μ nIO) : Cw l yL_excess cL_excess 5 [(0, 10, 13, 19), (0, 10, 17, 13)] (rmz 8 134) g [.ref (ad g 0), .int p0, .int p1, .ref (ad g 27)] μ (nI 1) μ := by
  refine Cw.of (by decide) (Nat.le_of_ble_eq_true rfl) (fun z A C X Ee Rr => ?_)
  refine r_aload_n C dL_excess_0 3 rfl ?_
  refine r_iconst C (v := (nI 0)) dL_excess_1 rfl ?_
  refine r_aload_n C dL_excess_2 0 rfl ?_
  refine r_iload_n C dL_excess_3 1 rfl ?_
  refine r_iload_n C dL_excess_4 2 rfl ?_
  refine r_xV C X Ee (As := [.int p0, .int p1]) (rest := [.int (nI 0), .ref (ad g 27)]) (k := 0) (T := TX10) miX10_excess mvX10_excess (hM) hw_4_145 (by decide) rfl rfl rfl ⟨by decide, by decide, rfl, rfl, by decide, by decide⟩ rfl (Nat.le_of_ble_eq_true rfl) dL_excess_5 (x_catch C [] ⟨0, 10, 13, 19⟩ [⟨0, 10, 17, 13⟩] Rr.2.2.2 (fun _ h => absurd h List.not_mem_nil) rfl (by decide) hw_3_172 Ee.2.2.1.2.1 (fun q => ?_))
  refine r_astore C (lv' := [(4, .ref q), (0, .ref (ad g 0)), (1, .int p0), (2, .int p1), (3, .ref (ad g 27))]) 4 dL_excess_13 (by decide) rfl ?_
  refine r_iconst C (v := (nI 1)) dL_excess_15 rfl ?_
  exact w_iret C dL_excess_16 (by decide) (by decide) Rr
set_option maxHeartbeats 1000000 in
set_option maxRecDepth 100000 in
theorem wx_excess2 (l : Launch) (g : Gd) (μ : Mm) {p0 p1 : Int32} (hM : Cz l yX10_excess cX10_excess 3 (some .int) (rmz 7 112) g [.ref (ad g 0), .int p0, .int p1] μ nIA) : Cw l yL_excess cL_excess 5 [(0, 10, 13, 19), (0, 10, 17, 13)] (rmz 8 134) g [.ref (ad g 0), .int p0, .int p1, .ref (ad g 27)] μ (nI 2) μ := by
  refine Cw.of (by decide) (Nat.le_of_ble_eq_true rfl) (fun z A C X Ee Rr => ?_)
  refine r_aload_n C dL_excess_0 3 rfl ?_
  refine r_iconst C (v := (nI 0)) dL_excess_1 rfl ?_
  refine r_aload_n C dL_excess_2 0 rfl ?_
  refine r_iload_n C dL_excess_3 1 rfl ?_
  refine r_iload_n C dL_excess_4 2 rfl ?_
  refine r_xV C X Ee (As := [.int p0, .int p1]) (rest := [.int (nI 0), .ref (ad g 27)]) (k := 0) (T := TX10) miX10_excess mvX10_excess (hM) hw_4_145 (by decide) rfl rfl rfl ⟨by decide, by decide, rfl, rfl, by decide, by decide⟩ rfl (Nat.le_of_ble_eq_true rfl) dL_excess_5 (x_catch C [⟨0, 10, 13, 19⟩] ⟨0, 10, 17, 13⟩ [] Rr.2.2.2 (List.forall_mem_singleton.mpr (Or.inr ⟨by decide, nIO, hw_3_172, Ee.2.2.2.2.1.1⟩)) rfl (by decide) hw_3_83 Ee.2.2.1.1 (fun q => ?_))
  refine r_astore C (lv' := [(4, .ref q), (0, .ref (ad g 0)), (1, .int p0), (2, .int p1), (3, .ref (ad g 27))]) 4 dL_excess_17 (by decide) rfl ?_
  refine r_iconst C (v := (nI 2)) dL_excess_19 rfl ?_
  exact w_iret C dL_excess_20 (by decide) (by decide) Rr
set_option maxHeartbeats 1000000 in
set_option maxRecDepth 100000 in
theorem wt_is (l : Launch) (g : Gd) (μ : Mm) {μ' : Mm} {p0 p1 : Int32} {v : Bool} (hM : Ct l yX10_is cX10_is 3 (some .boolean) (rmk 6 137) g [.ref (ad g 0), .int p0, .int p1] μ (some (.int (bI v))) μ') : Cw l yL_is cL_is 5 [(0, 17, 20, 19), (0, 17, 24, 13)] (rmz 8 159) g [.ref (ad g 0), .int p0, .int p1, .ref (ad g 27)] μ (nI 0) (sJ μ' 53 (vp_updL (gJ μ' 53) 0 (bL v))) := by
  refine Cw.of (by decide) (Nat.le_of_ble_eq_true rfl) (fun z A C X Ee Rr => ?_)
  refine r_aload_n C dL_is_0 3 rfl ?_
  refine r_iconst C (v := (nI 0)) dL_is_1 rfl ?_
  refine r_aload_n C dL_is_2 0 rfl ?_
  refine r_iload_n C dL_is_3 1 rfl ?_
  refine r_iload_n C dL_is_4 2 rfl ?_
  refine r_callV C X (As := [.int p0, .int p1]) (rest := [.int (nI 0), .ref (ad g 27)]) (st1 := [.int (bI v), .int (nI 0), .ref (ad g 27)]) (μ' := μ') (k := 0) (T := TX10) miX10_is mvX10_is (hM) hw_4_152 (by decide) rfl rfl rfl ⟨by decide, by decide, rfl, rfl, by decide, by decide⟩ rfl (Nat.le_of_ble_eq_true rfl) dL_is_5 rfl ?_
  refine r_if_eq C 15 dL_is_8 (by decide) (bI_eq _) (fun h8 => ?_) (fun h8 => ?_)
  · refine r_lconst C (v := (lN 0)) dL_is_15 rfl ?_
    refine G_topl (y := (bL v)) (by rw [h8]; rfl) ?_
    refine r_last C X (k := 27) (f' := vp_updL (gJ μ' 53) 0 (bL v)) (μ' := (sJ μ' 53 (vp_updL (gJ μ' 53) 0 (bL v)))) (by decide) rfl (by omega) (by decide) rfl dL_is_16 (congrArg (jR g 1) (gJ_s _ _ _)) (WF_sJ53_ne g _ _) ?_
    refine r_goto C 28 dL_is_17 (by decide) ?_
    refine r_iconst C (v := (nI 0)) dL_is_28 rfl ?_
    exact w_iret C dL_is_29 (by decide) (by decide) Rr
  · refine r_lconst C (v := (lN 1)) dL_is_11 rfl ?_
    refine r_goto C 16 dL_is_12 (by decide) ?_
    refine G_topl (y := (bL v)) (by rw [ts_t h8]; rfl) ?_
    refine r_last C X (k := 27) (f' := vp_updL (gJ μ' 53) 0 (bL v)) (μ' := (sJ μ' 53 (vp_updL (gJ μ' 53) 0 (bL v)))) (by decide) rfl (by omega) (by decide) rfl dL_is_16 (congrArg (jR g 1) (gJ_s _ _ _)) (WF_sJ53_ne g _ _) ?_
    refine r_goto C 28 dL_is_17 (by decide) ?_
    refine r_iconst C (v := (nI 0)) dL_is_28 rfl ?_
    exact w_iret C dL_is_29 (by decide) (by decide) Rr
set_option maxHeartbeats 1000000 in
set_option maxRecDepth 100000 in
theorem wx_is1 (l : Launch) (g : Gd) (μ : Mm) {p0 p1 : Int32} (hM : Cz l yX10_is cX10_is 3 (some .boolean) (rmz 7 112) g [.ref (ad g 0), .int p0, .int p1] μ nIO) : Cw l yL_is cL_is 5 [(0, 17, 20, 19), (0, 17, 24, 13)] (rmz 8 159) g [.ref (ad g 0), .int p0, .int p1, .ref (ad g 27)] μ (nI 1) μ := by
  refine Cw.of (by decide) (Nat.le_of_ble_eq_true rfl) (fun z A C X Ee Rr => ?_)
  refine r_aload_n C dL_is_0 3 rfl ?_
  refine r_iconst C (v := (nI 0)) dL_is_1 rfl ?_
  refine r_aload_n C dL_is_2 0 rfl ?_
  refine r_iload_n C dL_is_3 1 rfl ?_
  refine r_iload_n C dL_is_4 2 rfl ?_
  refine r_xV C X Ee (As := [.int p0, .int p1]) (rest := [.int (nI 0), .ref (ad g 27)]) (k := 0) (T := TX10) miX10_is mvX10_is (hM) hw_4_152 (by decide) rfl rfl rfl ⟨by decide, by decide, rfl, rfl, by decide, by decide⟩ rfl (Nat.le_of_ble_eq_true rfl) dL_is_5 (x_catch C [] ⟨0, 17, 20, 19⟩ [⟨0, 17, 24, 13⟩] Rr.2.2.2 (fun _ h => absurd h List.not_mem_nil) rfl (by decide) hw_3_172 Ee.2.2.1.2.1 (fun q => ?_))
  refine r_astore C (lv' := [(4, .ref q), (0, .ref (ad g 0)), (1, .int p0), (2, .int p1), (3, .ref (ad g 27))]) 4 dL_is_20 (by decide) rfl ?_
  refine r_iconst C (v := (nI 1)) dL_is_22 rfl ?_
  exact w_iret C dL_is_23 (by decide) (by decide) Rr
set_option maxHeartbeats 1000000 in
set_option maxRecDepth 100000 in
theorem wx_is2 (l : Launch) (g : Gd) (μ : Mm) {p0 p1 : Int32} (hM : Cz l yX10_is cX10_is 3 (some .boolean) (rmz 7 112) g [.ref (ad g 0), .int p0, .int p1] μ nIA) : Cw l yL_is cL_is 5 [(0, 17, 20, 19), (0, 17, 24, 13)] (rmz 8 159) g [.ref (ad g 0), .int p0, .int p1, .ref (ad g 27)] μ (nI 2) μ := by
  refine Cw.of (by decide) (Nat.le_of_ble_eq_true rfl) (fun z A C X Ee Rr => ?_)
  refine r_aload_n C dL_is_0 3 rfl ?_
  refine r_iconst C (v := (nI 0)) dL_is_1 rfl ?_
  refine r_aload_n C dL_is_2 0 rfl ?_
  refine r_iload_n C dL_is_3 1 rfl ?_
  refine r_iload_n C dL_is_4 2 rfl ?_
  refine r_xV C X Ee (As := [.int p0, .int p1]) (rest := [.int (nI 0), .ref (ad g 27)]) (k := 0) (T := TX10) miX10_is mvX10_is (hM) hw_4_152 (by decide) rfl rfl rfl ⟨by decide, by decide, rfl, rfl, by decide, by decide⟩ rfl (Nat.le_of_ble_eq_true rfl) dL_is_5 (x_catch C [⟨0, 17, 20, 19⟩] ⟨0, 17, 24, 13⟩ [] Rr.2.2.2 (List.forall_mem_singleton.mpr (Or.inr ⟨by decide, nIO, hw_3_172, Ee.2.2.2.2.1.1⟩)) rfl (by decide) hw_3_83 Ee.2.2.1.1 (fun q => ?_))
  refine r_astore C (lv' := [(4, .ref q), (0, .ref (ad g 0)), (1, .int p0), (2, .int p1), (3, .ref (ad g 27))]) 4 dL_is_24 (by decide) rfl ?_
  refine r_iconst C (v := (nI 2)) dL_is_26 rfl ?_
  exact w_iret C dL_is_27 (by decide) (by decide) Rr
set_option maxHeartbeats 1000000 in
set_option maxRecDepth 100000 in
theorem wt_weight (l : Launch) (g : Gd) (μ : Mm) {μ' : Mm} {p0 p1 : Int32} {v : Int64} (hM : Ct l yX10_weight cX10_weight 3 (some .long) (rmk 4 92) g [.ref (ad g 0), .int p0, .int p1] μ (some (.long v)) μ') : Cw l yL_weight cL_weight 5 [(0, 9, 12, 19)] (rmz 8 132) g [.ref (ad g 0), .int p0, .int p1, .ref (ad g 27)] μ (nI 0) (sJ μ' 53 (vp_updL (gJ μ' 53) 0 (v))) := by
  refine Cw.of (by decide) (Nat.le_of_ble_eq_true rfl) (fun z A C X Ee Rr => ?_)
  refine r_aload_n C dL_weight_0 3 rfl ?_
  refine r_iconst C (v := (nI 0)) dL_weight_1 rfl ?_
  refine r_aload_n C dL_weight_2 0 rfl ?_
  refine r_iload_n C dL_weight_3 1 rfl ?_
  refine r_iload_n C dL_weight_4 2 rfl ?_
  refine r_callV C X (As := [.int p0, .int p1]) (rest := [.int (nI 0), .ref (ad g 27)]) (st1 := [.long v, .int (nI 0), .ref (ad g 27)]) (μ' := μ') (k := 0) (T := TX10) miX10_weight mvX10_weight (hM) hw_4_159 (by decide) rfl rfl rfl ⟨by decide, by decide, rfl, rfl, by decide, by decide⟩ rfl (Nat.le_of_ble_eq_true rfl) dL_weight_5 rfl ?_
  refine r_last C X (k := 27) (f' := vp_updL (gJ μ' 53) 0 v) (μ' := (sJ μ' 53 (vp_updL (gJ μ' 53) 0 v))) (by decide) rfl (by omega) (by decide) rfl dL_weight_8 (congrArg (jR g 1) (gJ_s _ _ _)) (WF_sJ53_ne g _ _) ?_
  refine r_goto C 16 dL_weight_9 (by decide) ?_
  refine r_iconst C (v := (nI 0)) dL_weight_16 rfl ?_
  exact w_iret C dL_weight_17 (by decide) (by decide) Rr
set_option maxHeartbeats 1000000 in
set_option maxRecDepth 100000 in
theorem wx_weight1 (l : Launch) (g : Gd) (μ : Mm) {p0 p1 : Int32} (hM : Cz l yX10_weight cX10_weight 3 (some .long) (rmz 7 110) g [.ref (ad g 0), .int p0, .int p1] μ nIO) : Cw l yL_weight cL_weight 5 [(0, 9, 12, 19)] (rmz 8 132) g [.ref (ad g 0), .int p0, .int p1, .ref (ad g 27)] μ (nI 1) μ := by
  refine Cw.of (by decide) (Nat.le_of_ble_eq_true rfl) (fun z A C X Ee Rr => ?_)
  refine r_aload_n C dL_weight_0 3 rfl ?_
  refine r_iconst C (v := (nI 0)) dL_weight_1 rfl ?_
  refine r_aload_n C dL_weight_2 0 rfl ?_
  refine r_iload_n C dL_weight_3 1 rfl ?_
  refine r_iload_n C dL_weight_4 2 rfl ?_
  refine r_xV C X Ee (As := [.int p0, .int p1]) (rest := [.int (nI 0), .ref (ad g 27)]) (k := 0) (T := TX10) miX10_weight mvX10_weight (hM) hw_4_159 (by decide) rfl rfl rfl ⟨by decide, by decide, rfl, rfl, by decide, by decide⟩ rfl (Nat.le_of_ble_eq_true rfl) dL_weight_5 (x_catch C [] ⟨0, 9, 12, 19⟩ [] Rr.2.2.2 (fun _ h => absurd h List.not_mem_nil) rfl (by decide) hw_3_172 Ee.2.2.1.2.1 (fun q => ?_))
  refine r_astore C (lv' := [(4, .ref q), (0, .ref (ad g 0)), (1, .int p0), (2, .int p1), (3, .ref (ad g 27))]) 4 dL_weight_12 (by decide) rfl ?_
  refine r_iconst C (v := (nI 1)) dL_weight_14 rfl ?_
  exact w_iret C dL_weight_15 (by decide) (by decide) Rr
set_option maxHeartbeats 1000000 in
set_option maxRecDepth 100000 in
theorem wt_dimension (l : Launch) (g : Gd) (μ : Mm) {μ' : Mm} {p0 : Int32} {v : Int32} (hM : Ct l yX10_dimension cX10_dimension 2 (some .int) (rmk 5 116) g [.ref (ad g 0), .int p0] μ (some (.int v)) μ') : Cw l yL_dimension cL_dimension 4 [(0, 9, 12, 19)] (rmz 8 137) g [.ref (ad g 0), .int p0, .ref (ad g 27)] μ (nI 0) (sJ μ' 53 (vp_updL (gJ μ' 53) 0 (v.toInt64))) := by
  refine Cw.of (by decide) (Nat.le_of_ble_eq_true rfl) (fun z A C X Ee Rr => ?_)
  refine r_aload_n C dL_dimension_0 2 rfl ?_
  refine r_iconst C (v := (nI 0)) dL_dimension_1 rfl ?_
  refine r_aload_n C dL_dimension_2 0 rfl ?_
  refine r_iload_n C dL_dimension_3 1 rfl ?_
  refine r_callV C X (As := [.int p0]) (rest := [.int (nI 0), .ref (ad g 27)]) (st1 := [.int v, .int (nI 0), .ref (ad g 27)]) (μ' := μ') (k := 0) (T := TX10) miX10_dimension mvX10_dimension (hM) hw_4_166 (by decide) rfl rfl rfl ⟨by decide, by decide, rfl, rfl, by decide, by decide⟩ rfl (Nat.le_of_ble_eq_true rfl) dL_dimension_4 rfl ?_
  refine r_i2l C (v := ((v).toInt64)) dL_dimension_7 rfl ?_
  refine r_last C X (k := 27) (f' := vp_updL (gJ μ' 53) 0 ((v).toInt64)) (μ' := (sJ μ' 53 (vp_updL (gJ μ' 53) 0 ((v).toInt64)))) (by decide) rfl (by omega) (by decide) rfl dL_dimension_8 (congrArg (jR g 1) (gJ_s _ _ _)) (WF_sJ53_ne g _ _) ?_
  refine r_goto C 15 dL_dimension_9 (by decide) ?_
  refine r_iconst C (v := (nI 0)) dL_dimension_15 rfl ?_
  exact w_iret C dL_dimension_16 (by decide) (by decide) Rr
set_option maxHeartbeats 1000000 in
set_option maxRecDepth 100000 in
theorem wx_dimension1 (l : Launch) (g : Gd) (μ : Mm) {p0 : Int32} (hM : Cz l yX10_dimension cX10_dimension 2 (some .int) (rmz 7 110) g [.ref (ad g 0), .int p0] μ nIO) : Cw l yL_dimension cL_dimension 4 [(0, 9, 12, 19)] (rmz 8 137) g [.ref (ad g 0), .int p0, .ref (ad g 27)] μ (nI 1) μ := by
  refine Cw.of (by decide) (Nat.le_of_ble_eq_true rfl) (fun z A C X Ee Rr => ?_)
  refine r_aload_n C dL_dimension_0 2 rfl ?_
  refine r_iconst C (v := (nI 0)) dL_dimension_1 rfl ?_
  refine r_aload_n C dL_dimension_2 0 rfl ?_
  refine r_iload_n C dL_dimension_3 1 rfl ?_
  refine r_xV C X Ee (As := [.int p0]) (rest := [.int (nI 0), .ref (ad g 27)]) (k := 0) (T := TX10) miX10_dimension mvX10_dimension (hM) hw_4_166 (by decide) rfl rfl rfl ⟨by decide, by decide, rfl, rfl, by decide, by decide⟩ rfl (Nat.le_of_ble_eq_true rfl) dL_dimension_4 (x_catch C [] ⟨0, 9, 12, 19⟩ [] Rr.2.2.2 (fun _ h => absurd h List.not_mem_nil) rfl (by decide) hw_3_172 Ee.2.2.1.2.1 (fun q => ?_))
  refine r_astore_n C (lv' := [(3, .ref q), (0, .ref (ad g 0)), (1, .int p0), (2, .ref (ad g 27))]) 3 dL_dimension_12 rfl (by decide) rfl ?_
  refine r_iconst C (v := (nI 1)) dL_dimension_13 rfl ?_
  exact w_iret C dL_dimension_14 (by decide) (by decide) Rr
set_option maxHeartbeats 1000000 in
set_option maxRecDepth 100000 in
theorem wt_shattered (l : Launch) (g : Gd) (μ : Mm) {μ' : Mm} {p0 : Int32} {v : Int32} (hM : Ct l yX10_shattered cX10_shattered 2 (some .int) (rmk 5 116) g [.ref (ad g 0), .int p0] μ (some (.int v)) μ') : Cw l yL_shattered cL_shattered 4 [(0, 9, 12, 19)] (rmz 8 137) g [.ref (ad g 0), .int p0, .ref (ad g 27)] μ (nI 0) (sJ μ' 53 (vp_updL (gJ μ' 53) 0 (v.toInt64))) := by
  refine Cw.of (by decide) (Nat.le_of_ble_eq_true rfl) (fun z A C X Ee Rr => ?_)
  refine r_aload_n C dL_shattered_0 2 rfl ?_
  refine r_iconst C (v := (nI 0)) dL_shattered_1 rfl ?_
  refine r_aload_n C dL_shattered_2 0 rfl ?_
  refine r_iload_n C dL_shattered_3 1 rfl ?_
  refine r_callV C X (As := [.int p0]) (rest := [.int (nI 0), .ref (ad g 27)]) (st1 := [.int v, .int (nI 0), .ref (ad g 27)]) (μ' := μ') (k := 0) (T := TX10) miX10_shattered mvX10_shattered (hM) hw_4_173 (by decide) rfl rfl rfl ⟨by decide, by decide, rfl, rfl, by decide, by decide⟩ rfl (Nat.le_of_ble_eq_true rfl) dL_shattered_4 rfl ?_
  refine r_i2l C (v := ((v).toInt64)) dL_shattered_7 rfl ?_
  refine r_last C X (k := 27) (f' := vp_updL (gJ μ' 53) 0 ((v).toInt64)) (μ' := (sJ μ' 53 (vp_updL (gJ μ' 53) 0 ((v).toInt64)))) (by decide) rfl (by omega) (by decide) rfl dL_shattered_8 (congrArg (jR g 1) (gJ_s _ _ _)) (WF_sJ53_ne g _ _) ?_
  refine r_goto C 15 dL_shattered_9 (by decide) ?_
  refine r_iconst C (v := (nI 0)) dL_shattered_15 rfl ?_
  exact w_iret C dL_shattered_16 (by decide) (by decide) Rr
set_option maxHeartbeats 1000000 in
set_option maxRecDepth 100000 in
theorem wx_shattered1 (l : Launch) (g : Gd) (μ : Mm) {p0 : Int32} (hM : Cz l yX10_shattered cX10_shattered 2 (some .int) (rmz 7 110) g [.ref (ad g 0), .int p0] μ nIO) : Cw l yL_shattered cL_shattered 4 [(0, 9, 12, 19)] (rmz 8 137) g [.ref (ad g 0), .int p0, .ref (ad g 27)] μ (nI 1) μ := by
  refine Cw.of (by decide) (Nat.le_of_ble_eq_true rfl) (fun z A C X Ee Rr => ?_)
  refine r_aload_n C dL_shattered_0 2 rfl ?_
  refine r_iconst C (v := (nI 0)) dL_shattered_1 rfl ?_
  refine r_aload_n C dL_shattered_2 0 rfl ?_
  refine r_iload_n C dL_shattered_3 1 rfl ?_
  refine r_xV C X Ee (As := [.int p0]) (rest := [.int (nI 0), .ref (ad g 27)]) (k := 0) (T := TX10) miX10_shattered mvX10_shattered (hM) hw_4_173 (by decide) rfl rfl rfl ⟨by decide, by decide, rfl, rfl, by decide, by decide⟩ rfl (Nat.le_of_ble_eq_true rfl) dL_shattered_4 (x_catch C [] ⟨0, 9, 12, 19⟩ [] Rr.2.2.2 (fun _ h => absurd h List.not_mem_nil) rfl (by decide) hw_3_172 Ee.2.2.1.2.1 (fun q => ?_))
  refine r_astore_n C (lv' := [(3, .ref q), (0, .ref (ad g 0)), (1, .int p0), (2, .ref (ad g 27))]) 3 dL_shattered_12 rfl (by decide) rfl ?_
  refine r_iconst C (v := (nI 1)) dL_shattered_13 rfl ?_
  exact w_iret C dL_shattered_14 (by decide) (by decide) Rr
set_option maxHeartbeats 1000000 in
set_option maxRecDepth 100000 in
theorem wt_crossing (l : Launch) (g : Gd) (μ : Mm) {μ' : Mm} {p0 p1 : Int32} {v : Int32} (hM : Ct l yX10_crossing cX10_crossing 3 (some .int) (rmk 5 115) g [.ref (ad g 0), .int p0, .int p1] μ (some (.int v)) μ') : Cw l yL_crossing cL_crossing 5 [(0, 10, 13, 19)] (rmz 8 137) g [.ref (ad g 0), .int p0, .int p1, .ref (ad g 27)] μ (nI 0) (sJ μ' 53 (vp_updL (gJ μ' 53) 0 (v.toInt64))) := by
  refine Cw.of (by decide) (Nat.le_of_ble_eq_true rfl) (fun z A C X Ee Rr => ?_)
  refine r_aload_n C dL_crossing_0 3 rfl ?_
  refine r_iconst C (v := (nI 0)) dL_crossing_1 rfl ?_
  refine r_aload_n C dL_crossing_2 0 rfl ?_
  refine r_iload_n C dL_crossing_3 1 rfl ?_
  refine r_iload_n C dL_crossing_4 2 rfl ?_
  refine r_callV C X (As := [.int p0, .int p1]) (rest := [.int (nI 0), .ref (ad g 27)]) (st1 := [.int v, .int (nI 0), .ref (ad g 27)]) (μ' := μ') (k := 0) (T := TX10) miX10_crossing mvX10_crossing (hM) hw_4_180 (by decide) rfl rfl rfl ⟨by decide, by decide, rfl, rfl, by decide, by decide⟩ rfl (Nat.le_of_ble_eq_true rfl) dL_crossing_5 rfl ?_
  refine r_i2l C (v := ((v).toInt64)) dL_crossing_8 rfl ?_
  refine r_last C X (k := 27) (f' := vp_updL (gJ μ' 53) 0 ((v).toInt64)) (μ' := (sJ μ' 53 (vp_updL (gJ μ' 53) 0 ((v).toInt64)))) (by decide) rfl (by omega) (by decide) rfl dL_crossing_9 (congrArg (jR g 1) (gJ_s _ _ _)) (WF_sJ53_ne g _ _) ?_
  refine r_goto C 17 dL_crossing_10 (by decide) ?_
  refine r_iconst C (v := (nI 0)) dL_crossing_17 rfl ?_
  exact w_iret C dL_crossing_18 (by decide) (by decide) Rr
set_option maxHeartbeats 1000000 in
set_option maxRecDepth 100000 in
theorem wx_crossing1 (l : Launch) (g : Gd) (μ : Mm) {p0 p1 : Int32} (hM : Cz l yX10_crossing cX10_crossing 3 (some .int) (rmz 7 110) g [.ref (ad g 0), .int p0, .int p1] μ nIO) : Cw l yL_crossing cL_crossing 5 [(0, 10, 13, 19)] (rmz 8 137) g [.ref (ad g 0), .int p0, .int p1, .ref (ad g 27)] μ (nI 1) μ := by
  refine Cw.of (by decide) (Nat.le_of_ble_eq_true rfl) (fun z A C X Ee Rr => ?_)
  refine r_aload_n C dL_crossing_0 3 rfl ?_
  refine r_iconst C (v := (nI 0)) dL_crossing_1 rfl ?_
  refine r_aload_n C dL_crossing_2 0 rfl ?_
  refine r_iload_n C dL_crossing_3 1 rfl ?_
  refine r_iload_n C dL_crossing_4 2 rfl ?_
  refine r_xV C X Ee (As := [.int p0, .int p1]) (rest := [.int (nI 0), .ref (ad g 27)]) (k := 0) (T := TX10) miX10_crossing mvX10_crossing (hM) hw_4_180 (by decide) rfl rfl rfl ⟨by decide, by decide, rfl, rfl, by decide, by decide⟩ rfl (Nat.le_of_ble_eq_true rfl) dL_crossing_5 (x_catch C [] ⟨0, 10, 13, 19⟩ [] Rr.2.2.2 (fun _ h => absurd h List.not_mem_nil) rfl (by decide) hw_3_172 Ee.2.2.1.2.1 (fun q => ?_))
  refine r_astore C (lv' := [(4, .ref q), (0, .ref (ad g 0)), (1, .int p0), (2, .int p1), (3, .ref (ad g 27))]) 4 dL_crossing_13 (by decide) rfl ?_
  refine r_iconst C (v := (nI 1)) dL_crossing_15 rfl ?_
  exact w_iret C dL_crossing_16 (by decide) (by decide) Rr
set_option maxHeartbeats 1000000 in
set_option maxRecDepth 100000 in
theorem wt_sunflower (l : Launch) (g : Gd) (μ : Mm) {μ' : Mm} {p0 : Int32} {v : Int32} (hM : Ct l yX10_sunflower cX10_sunflower 2 (some .int) (rmk 6 136) g [.ref (ad g 0), .int p0] μ (some (.int v)) μ') : Cw l yL_sunflower cL_sunflower 4 [(0, 9, 12, 19)] (rmz 8 157) g [.ref (ad g 0), .int p0, .ref (ad g 27)] μ (nI 0) (sJ μ' 53 (vp_updL (gJ μ' 53) 0 (v.toInt64))) := by
  refine Cw.of (by decide) (Nat.le_of_ble_eq_true rfl) (fun z A C X Ee Rr => ?_)
  refine r_aload_n C dL_sunflower_0 2 rfl ?_
  refine r_iconst C (v := (nI 0)) dL_sunflower_1 rfl ?_
  refine r_aload_n C dL_sunflower_2 0 rfl ?_
  refine r_iload_n C dL_sunflower_3 1 rfl ?_
  refine r_callV C X (As := [.int p0]) (rest := [.int (nI 0), .ref (ad g 27)]) (st1 := [.int v, .int (nI 0), .ref (ad g 27)]) (μ' := μ') (k := 0) (T := TX10) miX10_sunflower mvX10_sunflower (hM) hw_4_187 (by decide) rfl rfl rfl ⟨by decide, by decide, rfl, rfl, by decide, by decide⟩ rfl (Nat.le_of_ble_eq_true rfl) dL_sunflower_4 rfl ?_
  refine r_i2l C (v := ((v).toInt64)) dL_sunflower_7 rfl ?_
  refine r_last C X (k := 27) (f' := vp_updL (gJ μ' 53) 0 ((v).toInt64)) (μ' := (sJ μ' 53 (vp_updL (gJ μ' 53) 0 ((v).toInt64)))) (by decide) rfl (by omega) (by decide) rfl dL_sunflower_8 (congrArg (jR g 1) (gJ_s _ _ _)) (WF_sJ53_ne g _ _) ?_
  refine r_goto C 15 dL_sunflower_9 (by decide) ?_
  refine r_iconst C (v := (nI 0)) dL_sunflower_15 rfl ?_
  exact w_iret C dL_sunflower_16 (by decide) (by decide) Rr
set_option maxHeartbeats 1000000 in
set_option maxRecDepth 100000 in
theorem wx_sunflower1 (l : Launch) (g : Gd) (μ : Mm) {p0 : Int32} (hM : Cz l yX10_sunflower cX10_sunflower 2 (some .int) (rmz 7 110) g [.ref (ad g 0), .int p0] μ nIO) : Cw l yL_sunflower cL_sunflower 4 [(0, 9, 12, 19)] (rmz 8 157) g [.ref (ad g 0), .int p0, .ref (ad g 27)] μ (nI 1) μ := by
  refine Cw.of (by decide) (Nat.le_of_ble_eq_true rfl) (fun z A C X Ee Rr => ?_)
  refine r_aload_n C dL_sunflower_0 2 rfl ?_
  refine r_iconst C (v := (nI 0)) dL_sunflower_1 rfl ?_
  refine r_aload_n C dL_sunflower_2 0 rfl ?_
  refine r_iload_n C dL_sunflower_3 1 rfl ?_
  refine r_xV C X Ee (As := [.int p0]) (rest := [.int (nI 0), .ref (ad g 27)]) (k := 0) (T := TX10) miX10_sunflower mvX10_sunflower (hM) hw_4_187 (by decide) rfl rfl rfl ⟨by decide, by decide, rfl, rfl, by decide, by decide⟩ rfl (Nat.le_of_ble_eq_true rfl) dL_sunflower_4 (x_catch C [] ⟨0, 9, 12, 19⟩ [] Rr.2.2.2 (fun _ h => absurd h List.not_mem_nil) rfl (by decide) hw_3_172 Ee.2.2.1.2.1 (fun q => ?_))
  refine r_astore_n C (lv' := [(3, .ref q), (0, .ref (ad g 0)), (1, .int p0), (2, .ref (ad g 27))]) 3 dL_sunflower_12 rfl (by decide) rfl ?_
  refine r_iconst C (v := (nI 1)) dL_sunflower_13 rfl ?_
  exact w_iret C dL_sunflower_14 (by decide) (by decide) Rr
set_option maxHeartbeats 1000000 in
set_option maxRecDepth 100000 in
theorem wt_pairs (l : Launch) (g : Gd) (μ : Mm) {μ' : Mm} {p0 p1 : Int32} {v : Int32} (hM : Ct l yX10_pairs cX10_pairs 3 (some .int) (rmk 4 89) g [.ref (ad g 0), .int p0, .int p1] μ (some (.int v)) μ') : Cw l yL_pairs cL_pairs 5 [(0, 10, 13, 19), (0, 10, 17, 13)] (rmz 8 134) g [.ref (ad g 0), .int p0, .int p1, .ref (ad g 27)] μ (nI 0) (sJ μ' 53 (vp_updL (gJ μ' 53) 0 (v.toInt64))) := by
  refine Cw.of (by decide) (Nat.le_of_ble_eq_true rfl) (fun z A C X Ee Rr => ?_)
  refine r_aload_n C dL_pairs_0 3 rfl ?_
  refine r_iconst C (v := (nI 0)) dL_pairs_1 rfl ?_
  refine r_aload_n C dL_pairs_2 0 rfl ?_
  refine r_iload_n C dL_pairs_3 1 rfl ?_
  refine r_iload_n C dL_pairs_4 2 rfl ?_
  refine r_callV C X (As := [.int p0, .int p1]) (rest := [.int (nI 0), .ref (ad g 27)]) (st1 := [.int v, .int (nI 0), .ref (ad g 27)]) (μ' := μ') (k := 0) (T := TX10) miX10_pairs mvX10_pairs (hM) hw_4_194 (by decide) rfl rfl rfl ⟨by decide, by decide, rfl, rfl, by decide, by decide⟩ rfl (Nat.le_of_ble_eq_true rfl) dL_pairs_5 rfl ?_
  refine r_i2l C (v := ((v).toInt64)) dL_pairs_8 rfl ?_
  refine r_last C X (k := 27) (f' := vp_updL (gJ μ' 53) 0 ((v).toInt64)) (μ' := (sJ μ' 53 (vp_updL (gJ μ' 53) 0 ((v).toInt64)))) (by decide) rfl (by omega) (by decide) rfl dL_pairs_9 (congrArg (jR g 1) (gJ_s _ _ _)) (WF_sJ53_ne g _ _) ?_
  refine r_goto C 21 dL_pairs_10 (by decide) ?_
  refine r_iconst C (v := (nI 0)) dL_pairs_21 rfl ?_
  exact w_iret C dL_pairs_22 (by decide) (by decide) Rr
set_option maxHeartbeats 1000000 in
set_option maxRecDepth 100000 in
theorem wx_pairs1 (l : Launch) (g : Gd) (μ : Mm) {p0 p1 : Int32} (hM : Cz l yX10_pairs cX10_pairs 3 (some .int) (rmz 7 112) g [.ref (ad g 0), .int p0, .int p1] μ nIO) : Cw l yL_pairs cL_pairs 5 [(0, 10, 13, 19), (0, 10, 17, 13)] (rmz 8 134) g [.ref (ad g 0), .int p0, .int p1, .ref (ad g 27)] μ (nI 1) μ := by
  refine Cw.of (by decide) (Nat.le_of_ble_eq_true rfl) (fun z A C X Ee Rr => ?_)
  refine r_aload_n C dL_pairs_0 3 rfl ?_
  refine r_iconst C (v := (nI 0)) dL_pairs_1 rfl ?_
  refine r_aload_n C dL_pairs_2 0 rfl ?_
  refine r_iload_n C dL_pairs_3 1 rfl ?_
  refine r_iload_n C dL_pairs_4 2 rfl ?_
  refine r_xV C X Ee (As := [.int p0, .int p1]) (rest := [.int (nI 0), .ref (ad g 27)]) (k := 0) (T := TX10) miX10_pairs mvX10_pairs (hM) hw_4_194 (by decide) rfl rfl rfl ⟨by decide, by decide, rfl, rfl, by decide, by decide⟩ rfl (Nat.le_of_ble_eq_true rfl) dL_pairs_5 (x_catch C [] ⟨0, 10, 13, 19⟩ [⟨0, 10, 17, 13⟩] Rr.2.2.2 (fun _ h => absurd h List.not_mem_nil) rfl (by decide) hw_3_172 Ee.2.2.1.2.1 (fun q => ?_))
  refine r_astore C (lv' := [(4, .ref q), (0, .ref (ad g 0)), (1, .int p0), (2, .int p1), (3, .ref (ad g 27))]) 4 dL_pairs_13 (by decide) rfl ?_
  refine r_iconst C (v := (nI 1)) dL_pairs_15 rfl ?_
  exact w_iret C dL_pairs_16 (by decide) (by decide) Rr
set_option maxHeartbeats 1000000 in
set_option maxRecDepth 100000 in
theorem wx_pairs2 (l : Launch) (g : Gd) (μ : Mm) {p0 p1 : Int32} (hM : Cz l yX10_pairs cX10_pairs 3 (some .int) (rmz 7 112) g [.ref (ad g 0), .int p0, .int p1] μ nIA) : Cw l yL_pairs cL_pairs 5 [(0, 10, 13, 19), (0, 10, 17, 13)] (rmz 8 134) g [.ref (ad g 0), .int p0, .int p1, .ref (ad g 27)] μ (nI 2) μ := by
  refine Cw.of (by decide) (Nat.le_of_ble_eq_true rfl) (fun z A C X Ee Rr => ?_)
  refine r_aload_n C dL_pairs_0 3 rfl ?_
  refine r_iconst C (v := (nI 0)) dL_pairs_1 rfl ?_
  refine r_aload_n C dL_pairs_2 0 rfl ?_
  refine r_iload_n C dL_pairs_3 1 rfl ?_
  refine r_iload_n C dL_pairs_4 2 rfl ?_
  refine r_xV C X Ee (As := [.int p0, .int p1]) (rest := [.int (nI 0), .ref (ad g 27)]) (k := 0) (T := TX10) miX10_pairs mvX10_pairs (hM) hw_4_194 (by decide) rfl rfl rfl ⟨by decide, by decide, rfl, rfl, by decide, by decide⟩ rfl (Nat.le_of_ble_eq_true rfl) dL_pairs_5 (x_catch C [⟨0, 10, 13, 19⟩] ⟨0, 10, 17, 13⟩ [] Rr.2.2.2 (List.forall_mem_singleton.mpr (Or.inr ⟨by decide, nIO, hw_3_172, Ee.2.2.2.2.1.1⟩)) rfl (by decide) hw_3_83 Ee.2.2.1.1 (fun q => ?_))
  refine r_astore C (lv' := [(4, .ref q), (0, .ref (ad g 0)), (1, .int p0), (2, .int p1), (3, .ref (ad g 27))]) 4 dL_pairs_17 (by decide) rfl ?_
  refine r_iconst C (v := (nI 2)) dL_pairs_19 rfl ?_
  exact w_iret C dL_pairs_20 (by decide) (by decide) Rr
set_option maxHeartbeats 1000000 in
set_option maxRecDepth 100000 in
theorem wt_type (l : Launch) (g : Gd) (μ : Mm) {μ' : Mm} {p0 : Int32} {v : Int32} (hM : Ct l yX10_type cX10_type 2 (some .int) (rmk 1 22) g [.ref (ad g 0), .int p0] μ (some (.int v)) μ') : Cw l yL_type cL_type 4 [(0, 9, 12, 13), (0, 9, 15, 97)] (rmz 8 133) g [.ref (ad g 0), .int p0, .ref (ad g 27)] μ (nI 0) (sJ μ' 53 (vp_updL (gJ μ' 53) 0 (v.toInt64))) := by
  refine Cw.of (by decide) (Nat.le_of_ble_eq_true rfl) (fun z A C X Ee Rr => ?_)
  refine r_aload_n C dL_type_0 2 rfl ?_
  refine r_iconst C (v := (nI 0)) dL_type_1 rfl ?_
  refine r_aload_n C dL_type_2 0 rfl ?_
  refine r_iload_n C dL_type_3 1 rfl ?_
  refine r_callV C X (As := [.int p0]) (rest := [.int (nI 0), .ref (ad g 27)]) (st1 := [.int v, .int (nI 0), .ref (ad g 27)]) (μ' := μ') (k := 0) (T := TX10) miX10_type mvX10_type (hM) hw_4_202 (by decide) rfl rfl rfl ⟨by decide, by decide, rfl, rfl, by decide, by decide⟩ rfl (Nat.le_of_ble_eq_true rfl) dL_type_4 rfl ?_
  refine r_i2l C (v := ((v).toInt64)) dL_type_7 rfl ?_
  refine r_last C X (k := 27) (f' := vp_updL (gJ μ' 53) 0 ((v).toInt64)) (μ' := (sJ μ' 53 (vp_updL (gJ μ' 53) 0 ((v).toInt64)))) (by decide) rfl (by omega) (by decide) rfl dL_type_8 (congrArg (jR g 1) (gJ_s _ _ _)) (WF_sJ53_ne g _ _) ?_
  refine r_goto C 18 dL_type_9 (by decide) ?_
  refine r_iconst C (v := (nI 0)) dL_type_18 rfl ?_
  exact w_iret C dL_type_19 (by decide) (by decide) Rr
set_option maxHeartbeats 1000000 in
set_option maxRecDepth 100000 in
theorem wx_type1 (l : Launch) (g : Gd) (μ : Mm) {p0 : Int32} (hM : Cz l yX10_type cX10_type 2 (some .int) (rmz 7 112) g [.ref (ad g 0), .int p0] μ nIA) : Cw l yL_type cL_type 4 [(0, 9, 12, 13), (0, 9, 15, 97)] (rmz 8 133) g [.ref (ad g 0), .int p0, .ref (ad g 27)] μ (nI 1) μ := by
  refine Cw.of (by decide) (Nat.le_of_ble_eq_true rfl) (fun z A C X Ee Rr => ?_)
  refine r_aload_n C dL_type_0 2 rfl ?_
  refine r_iconst C (v := (nI 0)) dL_type_1 rfl ?_
  refine r_aload_n C dL_type_2 0 rfl ?_
  refine r_iload_n C dL_type_3 1 rfl ?_
  refine r_xV C X Ee (As := [.int p0]) (rest := [.int (nI 0), .ref (ad g 27)]) (k := 0) (T := TX10) miX10_type mvX10_type (hM) hw_4_202 (by decide) rfl rfl rfl ⟨by decide, by decide, rfl, rfl, by decide, by decide⟩ rfl (Nat.le_of_ble_eq_true rfl) dL_type_4 (x_catch C [] ⟨0, 9, 12, 13⟩ [⟨0, 9, 15, 97⟩] Rr.2.2.2 (fun _ h => absurd h List.not_mem_nil) rfl (by decide) hw_3_83 Ee.2.2.1.1 (fun q => ?_))
  refine r_astore_n C (lv' := [(3, .ref q), (0, .ref (ad g 0)), (1, .int p0), (2, .ref (ad g 27))]) 3 dL_type_12 rfl (by decide) rfl ?_
  refine r_iconst C (v := (nI 1)) dL_type_13 rfl ?_
  exact w_iret C dL_type_14 (by decide) (by decide) Rr
set_option maxHeartbeats 1000000 in
set_option maxRecDepth 100000 in
theorem wx_type2 (l : Launch) (g : Gd) (μ : Mm) {p0 : Int32} (hM : Cz l yX10_type cX10_type 2 (some .int) (rmz 7 112) g [.ref (ad g 0), .int p0] μ nIS) : Cw l yL_type cL_type 4 [(0, 9, 12, 13), (0, 9, 15, 97)] (rmz 8 133) g [.ref (ad g 0), .int p0, .ref (ad g 27)] μ (nI 2) μ := by
  refine Cw.of (by decide) (Nat.le_of_ble_eq_true rfl) (fun z A C X Ee Rr => ?_)
  refine r_aload_n C dL_type_0 2 rfl ?_
  refine r_iconst C (v := (nI 0)) dL_type_1 rfl ?_
  refine r_aload_n C dL_type_2 0 rfl ?_
  refine r_iload_n C dL_type_3 1 rfl ?_
  refine r_xV C X Ee (As := [.int p0]) (rest := [.int (nI 0), .ref (ad g 27)]) (k := 0) (T := TX10) miX10_type mvX10_type (hM) hw_4_202 (by decide) rfl rfl rfl ⟨by decide, by decide, rfl, rfl, by decide, by decide⟩ rfl (Nat.le_of_ble_eq_true rfl) dL_type_4 (x_catch C [⟨0, 9, 12, 13⟩] ⟨0, 9, 15, 97⟩ [] Rr.2.2.2 (List.forall_mem_singleton.mpr (Or.inr ⟨by decide, nIA, hw_3_83, Ee.2.2.2.2.1.2⟩)) rfl (by decide) hw_4_201 Ee.2.2.1.2.2 (fun q => ?_))
  refine r_astore_n C (lv' := [(3, .ref q), (0, .ref (ad g 0)), (1, .int p0), (2, .ref (ad g 27))]) 3 dL_type_15 rfl (by decide) rfl ?_
  refine r_iconst C (v := (nI 2)) dL_type_16 rfl ?_
  exact w_iret C dL_type_17 (by decide) (by decide) Rr
set_option maxHeartbeats 1000000 in
set_option maxRecDepth 100000 in
theorem wt_read (l : Launch) (g : Gd) (μ : Mm) {μ' : Mm} {p0 : Int32} {v : Int32} (hM : Ct l yX10_read cX10_read 3 (some .int) (rmk 4 105) g [.ref (ad g 0), .int p0] μ (some (.int v)) μ') : Cw l yL_read cL_read 4 [(0, 9, 12, 19)] (rmz 8 132) g [.ref (ad g 0), .int p0, .ref (ad g 27)] μ (nI 0) (sJ μ' 53 (vp_updL (gJ μ' 53) 0 (v.toInt64))) := by
  refine Cw.of (by decide) (Nat.le_of_ble_eq_true rfl) (fun z A C X Ee Rr => ?_)
  refine r_aload_n C dL_read_0 2 rfl ?_
  refine r_iconst C (v := (nI 0)) dL_read_1 rfl ?_
  refine r_aload_n C dL_read_2 0 rfl ?_
  refine r_iload_n C dL_read_3 1 rfl ?_
  refine r_callV C X (As := [.int p0]) (rest := [.int (nI 0), .ref (ad g 27)]) (st1 := [.int v, .int (nI 0), .ref (ad g 27)]) (μ' := μ') (k := 0) (T := TX10) miX10_read mvX10_read (hM) hw_4_229 (by decide) rfl rfl rfl ⟨by decide, by decide, rfl, rfl, by decide, by decide⟩ rfl (Nat.le_of_ble_eq_true rfl) dL_read_4 rfl ?_
  refine r_i2l C (v := ((v).toInt64)) dL_read_7 rfl ?_
  refine r_last C X (k := 27) (f' := vp_updL (gJ μ' 53) 0 ((v).toInt64)) (μ' := (sJ μ' 53 (vp_updL (gJ μ' 53) 0 ((v).toInt64)))) (by decide) rfl (by omega) (by decide) rfl dL_read_8 (congrArg (jR g 1) (gJ_s _ _ _)) (WF_sJ53_ne g _ _) ?_
  refine r_goto C 15 dL_read_9 (by decide) ?_
  refine r_iconst C (v := (nI 0)) dL_read_15 rfl ?_
  exact w_iret C dL_read_16 (by decide) (by decide) Rr
set_option maxHeartbeats 1000000 in
set_option maxRecDepth 100000 in
theorem wx_read1 (l : Launch) (g : Gd) (μ : Mm) {p0 : Int32} (hM : Cz l yX10_read cX10_read 3 (some .int) (rmz 7 110) g [.ref (ad g 0), .int p0] μ nIO) : Cw l yL_read cL_read 4 [(0, 9, 12, 19)] (rmz 8 132) g [.ref (ad g 0), .int p0, .ref (ad g 27)] μ (nI 1) μ := by
  refine Cw.of (by decide) (Nat.le_of_ble_eq_true rfl) (fun z A C X Ee Rr => ?_)
  refine r_aload_n C dL_read_0 2 rfl ?_
  refine r_iconst C (v := (nI 0)) dL_read_1 rfl ?_
  refine r_aload_n C dL_read_2 0 rfl ?_
  refine r_iload_n C dL_read_3 1 rfl ?_
  refine r_xV C X Ee (As := [.int p0]) (rest := [.int (nI 0), .ref (ad g 27)]) (k := 0) (T := TX10) miX10_read mvX10_read (hM) hw_4_229 (by decide) rfl rfl rfl ⟨by decide, by decide, rfl, rfl, by decide, by decide⟩ rfl (Nat.le_of_ble_eq_true rfl) dL_read_4 (x_catch C [] ⟨0, 9, 12, 19⟩ [] Rr.2.2.2 (fun _ h => absurd h List.not_mem_nil) rfl (by decide) hw_3_172 Ee.2.2.1.2.1 (fun q => ?_))
  refine r_astore_n C (lv' := [(3, .ref q), (0, .ref (ad g 0)), (1, .int p0), (2, .ref (ad g 27))]) 3 dL_read_12 rfl (by decide) rfl ?_
  refine r_iconst C (v := (nI 1)) dL_read_13 rfl ?_
  exact w_iret C dL_read_14 (by decide) (by decide) Rr
set_option maxHeartbeats 1000000 in
set_option maxRecDepth 100000 in
theorem wt_undo (l : Launch) (g : Gd) (μ : Mm) {μ' : Mm} {v : Int32} (hM : Ct l yX10_undo cX10_undo 1 (some .int) (rmk 3 84) g [.ref (ad g 0)] μ (some (.int v)) μ') : Cw l yL_undo cL_undo 3 [(0, 8, 11, 97)] (rmz 7 110) g [.ref (ad g 0), .ref (ad g 27)] μ (nI 0) (sJ μ' 53 (vp_updL (gJ μ' 53) 0 (v.toInt64))) := by
  refine Cw.of (by decide) (Nat.le_of_ble_eq_true rfl) (fun z A C X Ee Rr => ?_)
  refine r_aload_n C dL_undo_0 1 rfl ?_
  refine r_iconst C (v := (nI 0)) dL_undo_1 rfl ?_
  refine r_aload_n C dL_undo_2 0 rfl ?_
  refine r_callV C X (As := []) (rest := [.int (nI 0), .ref (ad g 27)]) (st1 := [.int v, .int (nI 0), .ref (ad g 27)]) (μ' := μ') (k := 0) (T := TX10) miX10_undo mvX10_undo (hM) hw_5_2 (by decide) rfl rfl rfl ⟨by decide, by decide, rfl, rfl, by decide, by decide⟩ rfl (Nat.le_of_ble_eq_true rfl) dL_undo_3 rfl ?_
  refine r_i2l C (v := ((v).toInt64)) dL_undo_6 rfl ?_
  refine r_last C X (k := 27) (f' := vp_updL (gJ μ' 53) 0 ((v).toInt64)) (μ' := (sJ μ' 53 (vp_updL (gJ μ' 53) 0 ((v).toInt64)))) (by decide) rfl (by omega) (by decide) rfl dL_undo_7 (congrArg (jR g 1) (gJ_s _ _ _)) (WF_sJ53_ne g _ _) ?_
  refine r_goto C 14 dL_undo_8 (by decide) ?_
  refine r_iconst C (v := (nI 0)) dL_undo_14 rfl ?_
  exact w_iret C dL_undo_15 (by decide) (by decide) Rr
set_option maxHeartbeats 1000000 in
set_option maxRecDepth 100000 in
theorem wx_undo1 (l : Launch) (g : Gd) (μ : Mm) (hM : Cz l yX10_undo cX10_undo 1 (some .int) (rmz 6 90) g [.ref (ad g 0)] μ nIS) : Cw l yL_undo cL_undo 3 [(0, 8, 11, 97)] (rmz 7 110) g [.ref (ad g 0), .ref (ad g 27)] μ (nI 1) μ := by
  refine Cw.of (by decide) (Nat.le_of_ble_eq_true rfl) (fun z A C X Ee Rr => ?_)
  refine r_aload_n C dL_undo_0 1 rfl ?_
  refine r_iconst C (v := (nI 0)) dL_undo_1 rfl ?_
  refine r_aload_n C dL_undo_2 0 rfl ?_
  refine r_xV C X Ee (As := []) (rest := [.int (nI 0), .ref (ad g 27)]) (k := 0) (T := TX10) miX10_undo mvX10_undo (hM) hw_5_2 (by decide) rfl rfl rfl ⟨by decide, by decide, rfl, rfl, by decide, by decide⟩ rfl (Nat.le_of_ble_eq_true rfl) dL_undo_3 (x_catch C [] ⟨0, 8, 11, 97⟩ [] Rr.2.2.2 (fun _ h => absurd h List.not_mem_nil) rfl (by decide) hw_4_201 Ee.2.2.1.2.2 (fun q => ?_))
  refine r_astore_n C (lv' := [(2, .ref q), (0, .ref (ad g 0)), (1, .ref (ad g 27))]) 2 dL_undo_11 rfl (by decide) rfl ?_
  refine r_iconst C (v := (nI 1)) dL_undo_12 rfl ?_
  exact w_iret C dL_undo_13 (by decide) (by decide) Rr
