set_option maxHeartbeats 1000000 in
set_option maxRecDepth 100000 in
theorem y_add (l : Launch) (g : Gd) (μ : Mm) {F P O : Nat → Bool} {n ps f s : Nat} (hM : Mo μ F P O n ps) (hf : f < 4) (hs : s < 2 ^ n) : Ct l yX11_add cX11_add 3 (some .boolean) (rmk 3 67) g [.ref (ad g 19), .int (nI f), .int (nI s)] μ (some (.int (bI (F (1024 * f + s) != true)))) (sA (mNote (mgM μ true true) F P n ps) 5 (bR (upB F (1024 * f + s) true))) := by
  refine Ct.of (by decide) (Nat.le_of_ble_eq_true rfl) (fun z A C X Rr => ?_)
  refine r_aload_n C dX11_add_0 0 rfl ?_
  refine r_iload_n C dX11_add_1 1 rfl ?_
  refine r_iload_n C dX11_add_2 2 rfl ?_
  refine r_iconst C (v := (nI 1)) dX11_add_3 rfl ?_
  refine G_top (y := (bI true)) rfl ?_
  refine r_callV C X (As := [.int (nI f), .int (nI s), .int (bI true)]) (rest := []) (st1 := [.int (bI (F (1024 * f + s) != true))]) (μ' := (sA (mNote (mgM μ true true) F P n ps) 5 (bR (upB F (1024 * f + s) true)))) (k := 19) (T := TX11) miX11_changes mvX11_changes (y_changes l g μ (F := F) (P := P) (O := O) (n := n) (ps := ps) (f := f) (s := s) hM hf hs true) hw_5_88 (by decide) rfl rfl rfl ⟨by decide, by decide, rfl, rfl, by decide, by decide⟩ rfl (Nat.le_of_ble_eq_true rfl) dX11_add_4 rfl ?_
  exact r_zret C dX11_add_7 (nar_b _) Rr
set_option maxHeartbeats 1000000 in
set_option maxRecDepth 100000 in
theorem y_remove (l : Launch) (g : Gd) (μ : Mm) {F P O : Nat → Bool} {n ps f s : Nat} (hM : Mo μ F P O n ps) (hf : f < 4) (hs : s < 2 ^ n) : Ct l yX11_remove cX11_remove 3 (some .boolean) (rmk 3 67) g [.ref (ad g 19), .int (nI f), .int (nI s)] μ (some (.int (bI (F (1024 * f + s) != false)))) (sA (mNote (mgM μ true true) F P n ps) 5 (bR (upB F (1024 * f + s) false))) := by
  refine Ct.of (by decide) (Nat.le_of_ble_eq_true rfl) (fun z A C X Rr => ?_)
  refine r_aload_n C dX11_remove_0 0 rfl ?_
  refine r_iload_n C dX11_remove_1 1 rfl ?_
  refine r_iload_n C dX11_remove_2 2 rfl ?_
  refine r_iconst C (v := (nI 0)) dX11_remove_3 rfl ?_
  refine G_top (y := (bI false)) rfl ?_
  refine r_callV C X (As := [.int (nI f), .int (nI s), .int (bI false)]) (rest := []) (st1 := [.int (bI (F (1024 * f + s) != false))]) (μ' := (sA (mNote (mgM μ true true) F P n ps) 5 (bR (upB F (1024 * f + s) false)))) (k := 19) (T := TX11) miX11_changes mvX11_changes (y_changes l g μ (F := F) (P := P) (O := O) (n := n) (ps := ps) (f := f) (s := s) hM hf hs false) hw_5_88 (by decide) rfl rfl rfl ⟨by decide, by decide, rfl, rfl, by decide, by decide⟩ rfl (Nat.le_of_ble_eq_true rfl) dX11_remove_4 rfl ?_
  exact r_zret C dX11_remove_7 (nar_b _) Rr
set_option maxHeartbeats 1000000 in
set_option maxRecDepth 100000 in
theorem y_compress (l : Launch) (g : Gd) (μ : Mm) {F P O : Nat → Bool} {n ps f j i : Nat} (hM : Mo μ F P O n ps) (hf : f < 4) (hj : j < n) (hi : i < n) (hij : ¬ j = i) : Ct l yX11_compress cX11_compress 4 (some .int) (rmk 2 47) g [.ref (ad g 19), .int (nI f), .int (nI j), .int (nI i)] μ (some (.int (nI ((cmF F f j i (2 ^ n)).2)))) (sA (mNote (mgM μ true true) F P n ps) 5 (bR (cmF F f j i (2 ^ n)).1)) := by
  obtain ⟨h6, h7, hps, h5, hP, h9, h1n, hn10⟩ := hM
  have h1024 := pw10 hn10
  have h2n := Nat.two_pow_pos n
  refine Ct.of (by decide) (Nat.le_of_ble_eq_true rfl) (fun z A C X Rr => ?_)
  refine r_aload_n C dX11_compress_0 0 rfl ?_
  refine r_iload_n C dX11_compress_1 1 rfl ?_
  refine r_callP C (As := [.int (nI f)]) (rest := [.ref (ad g 19)]) (st1 := [.int (bI (inI (nI f) (nI 0) (nI 3))), .ref (ad g 19)]) miX11_isPlace msX11_isPlace (c_isPlace l (nI f)) hw_5_92 rfl ⟨by decide, by decide, rfl, rfl, by decide, by decide⟩ rfl (Nat.le_of_ble_eq_true rfl) dX11_compress_2 rfl ?_
  refine G_top (y := (bI true)) (congrArg bI (inN (v := f) (Nat.zero_le _) (by omega) (by decide))) ?_
  refine r_aload_n C dX11_compress_5 0 rfl ?_
  refine r_iload_n C dX11_compress_6 2 rfl ?_
  refine r_callV C X (As := [.int (nI j)]) (rest := [.int (bI true), .ref (ad g 19)]) (st1 := [.int (bI (inI (nI j) (nI 0) (nI (n - 1)))), .int (bI true), .ref (ad g 19)]) (μ' := μ) (k := 19) (T := TX11) miX11_isElement mvX11_isElement (c_isElement l g μ (n := n) h6 (by omega) (nI j)) hw_5_134 (by decide) rfl rfl rfl ⟨by decide, by decide, rfl, rfl, by decide, by decide⟩ rfl (Nat.le_of_ble_eq_true rfl) dX11_compress_7 rfl ?_
  refine G_top (y := (bI true)) (congrArg bI (inN (v := j) (Nat.zero_le _) (by omega) (by omega))) ?_
  refine r_if_eq C 30 dX11_compress_10 (by decide) (bI_eq _) (fun h10 => ?_) (fun h10 => ?_)
  · exact absurd h10 (by decide)
  · refine r_aload_n C dX11_compress_13 0 rfl ?_
    refine r_iload_n C dX11_compress_14 3 rfl ?_
    refine r_callV C X (As := [.int (nI i)]) (rest := [.int (bI true), .ref (ad g 19)]) (st1 := [.int (bI (inI (nI i) (nI 0) (nI (n - 1)))), .int (bI true), .ref (ad g 19)]) (μ' := μ) (k := 19) (T := TX11) miX11_isElement mvX11_isElement (c_isElement l g μ (n := n) h6 (by omega) (nI i)) hw_5_134 (by decide) rfl rfl rfl ⟨by decide, by decide, rfl, rfl, by decide, by decide⟩ rfl (Nat.le_of_ble_eq_true rfl) dX11_compress_15 rfl ?_
    refine G_top (y := (bI true)) (congrArg bI (inN (v := i) (Nat.zero_le _) (by omega) (by omega))) ?_
    refine r_if_eq C 30 dX11_compress_18 (by decide) (bI_eq _) (fun h18 => ?_) (fun h18 => ?_)
    · exact absurd h18 (by decide)
    · refine r_iload_n C dX11_compress_21 2 rfl ?_
      refine r_iload_n C dX11_compress_22 3 rfl ?_
      refine r_icmp_eq C 30 dX11_compress_23 (by decide) (nI_eq (by omega) (by omega)) (fun h23 => ?_) (fun h23 => ?_)
      · exact absurd h23 hij
      · refine r_iconst C (v := (nI 1)) dX11_compress_26 rfl ?_
        refine r_goto C 31 dX11_compress_27 (by decide) ?_
        refine G_top (y := (bI true)) rfl ?_
        refine r_callV C X (As := [.int (bI true), .int (bI true)]) (rest := []) (st1 := [.int (bI (true && true))]) (μ' := (mgM μ true true)) (k := 19) (T := TX11) miX11_mayGo mvX11_mayGo (c_mayGo l g μ true true) hw_5_103 (by decide) rfl rfl rfl ⟨by decide, by decide, rfl, rfl, by decide, by decide⟩ rfl (Nat.le_of_ble_eq_true rfl) dX11_compress_31 rfl ?_
        refine r_if_ne C 39 dX11_compress_34 (by decide) (bI_ne _) (fun h34 => ?_) (fun h34 => ?_)
        · refine r_aload_n C dX11_compress_39 0 rfl ?_
          refine r_callV C X (As := []) (rest := []) (st1 := []) (μ' := (mNote (mgM μ true true) F P n ps)) (k := 19) (T := TX11) miX11_note mvX11_note (c_note l g (mgM μ true true) (F := F) (P := P) (n := n) (ps := ps) ((gI_n _ _ (by decide)).trans h6) ((gI_n _ _ (by decide)).trans h7) (by omega) ((gA_I _ _ _ _).trans h5) ((gA_I _ _ _ _).trans hP)) hw_5_80 (by decide) rfl rfl rfl ⟨by decide, by decide, rfl, rfl, by decide, by decide⟩ rfl (Nat.le_of_ble_eq_true rfl) dX11_compress_40 rfl ?_
          refine r_aload_n C dX11_compress_43 0 rfl ?_
          refine r_iload_n C dX11_compress_44 1 rfl ?_
          refine r_iload_n C dX11_compress_45 2 rfl ?_
          refine r_iload_n C dX11_compress_46 3 rfl ?_
          refine r_callV C X (As := [.int (nI f), .int (nI j), .int (nI i)]) (rest := []) (st1 := [.int (nI ((cmF F f j i (2 ^ n)).2))]) (μ' := (sA (mNote (mgM μ true true) F P n ps) 5 (bR (cmF F f j i (2 ^ n)).1))) (k := 19) (T := TX11) miX11_compresses mvX11_compresses (c_compresses l g (mNote (mgM μ true true) F P n ps) (F := F) (n := n) (f := f) (j := j) (i := i) ((gI_mNote (by decide)).trans ((gI_n _ _ (by decide)).trans h6)) hn10 ((gA_mNote (by decide)).trans ((gA_I _ _ _ _).trans h5)) hf (by omega) (by omega)) hw_5_186 (by decide) rfl rfl rfl ⟨by decide, by decide, rfl, rfl, by decide, by decide⟩ rfl (Nat.le_of_ble_eq_true rfl) dX11_compress_47 rfl ?_
          exact r_iret C dX11_compress_50 Rr
        · exact absurd rfl h34
set_option maxHeartbeats 1000000 in
set_option maxRecDepth 100000 in
theorem y_shadowBound (l : Launch) (g : Gd) (μ : Mm) {m k : Nat} (hm : m ≤ 1000000) (hk : 1 ≤ k) (hk10 : k ≤ 10) : Ct l yX11_shadowBound cX11_shadowBound 3 (some .int) (rmk 3 71) g [.ref (ad g 19), .int (nI m), .int (nI k)] μ (some (.int (nI (lshG k m)))) (sI μ 5 (nI 0)) := by
  refine Ct.of (by decide) (Nat.le_of_ble_eq_true rfl) (fun z A C X Rr => ?_)
  refine r_aload_n C dX11_shadowBound_0 0 rfl ?_
  refine r_iload_n C dX11_shadowBound_1 1 rfl ?_
  refine r_iconst C (v := (nI 0)) dX11_shadowBound_2 rfl ?_
  refine r_ldc C dX11_shadowBound_3 hw_5_217 ?_
  refine G_top (y := (nI 1000000)) (by decide) ?_
  refine r_callP C (As := [.int (nI m), .int (nI 0), .int (nI 1000000)]) (rest := [.ref (ad g 19)]) (st1 := [.int (bI (inI (nI m) (nI 0) (nI 1000000))), .ref (ad g 19)]) miX11_in msX11_in (c_in l (nI m) (nI 0) (nI 1000000)) hw_5_77 rfl ⟨by decide, by decide, rfl, rfl, by decide, by decide⟩ rfl (Nat.le_of_ble_eq_true rfl) dX11_shadowBound_5 rfl ?_
  refine G_top (y := (bI true)) (congrArg bI (inN (v := m) (Nat.zero_le _) hm (by decide))) ?_
  refine r_if_eq C 25 dX11_shadowBound_8 (by decide) (bI_eq _) (fun h8 => ?_) (fun h8 => ?_)
  · exact absurd h8 (by decide)
  · refine r_iload_n C dX11_shadowBound_11 2 rfl ?_
    refine r_iconst C (v := (nI 1)) dX11_shadowBound_12 rfl ?_
    refine r_bipush C (v := (nI 10)) dX11_shadowBound_13 (by decide) ?_
    refine r_callP C (As := [.int (nI k), .int (nI 1), .int (nI 10)]) (rest := [.ref (ad g 19)]) (st1 := [.int (bI (inI (nI k) (nI 1) (nI 10))), .ref (ad g 19)]) miX11_in msX11_in (c_in l (nI k) (nI 1) (nI 10)) hw_5_77 rfl ⟨by decide, by decide, rfl, rfl, by decide, by decide⟩ rfl (Nat.le_of_ble_eq_true rfl) dX11_shadowBound_15 rfl ?_
    refine G_top (y := (bI true)) (congrArg bI (inN (v := k) hk hk10 (by decide))) ?_
    refine r_if_eq C 25 dX11_shadowBound_18 (by decide) (bI_eq _) (fun h18 => ?_) (fun h18 => ?_)
    · exact absurd h18 (by decide)
    · refine r_iconst C (v := (nI 0)) dX11_shadowBound_21 rfl ?_
      refine r_goto C 26 dX11_shadowBound_22 (by decide) ?_
      refine r_put C X (μ' := (sI μ 5 (nI 0))) (k := 19) (R := RX11) (T := TX11) (N := 15) (n := 0) (v := .int (nI 0)) (ty := .int) (by decide) rfl rfl inw11 tyX11_ok nmX11 (by decide) rfl hw_5_18 rfl rfl rfl rfl (Nat.le_of_ble_eq_true rfl) dX11_shadowBound_26 (WF_sI5_at g _ _) (WF_sI5_ne g _ _) ?_
      refine r_aload_n C dX11_shadowBound_29 0 rfl ?_
      refine r_get C X (k := 19) (R := RX11) (T := TX11) (N := 15) (n := 0) (v := .int (gI (sI μ 5 (nI 0)) 5)) (by decide) rfl rfl inw11 (by decide) rfl hw_5_18 rfl dX11_shadowBound_30 ?_
      refine G_top (y := (nI 0)) (gI_s _ _ _) ?_
      refine r_if_le C 40 dX11_shadowBound_33 (by decide) (zI_le (by omega)) (fun h33 => ?_) (fun h33 => ?_)
      · refine r_iload_n C dX11_shadowBound_40 1 rfl ?_
        refine r_iload_n C dX11_shadowBound_41 2 rfl ?_
        refine r_callP C (As := [.int (nI m), .int (nI k)]) (rest := []) (st1 := [.int (nI (lshG k m))]) miX11_bound msX11_bound (c_bound l (m := m) (k := k) (by omega) (by omega)) hw_5_225 rfl ⟨by decide, by decide, rfl, rfl, by decide, by decide⟩ rfl (Nat.le_of_ble_eq_true rfl) dX11_shadowBound_42 rfl ?_
        exact r_iret C dX11_shadowBound_45 Rr
      · exact absurd rfl h33
def gtL (F : Nat → Bool) (f : Nat) : Nat → Nat → Nat → Int32
  | 0, _, _ => -1
  | r + 1, s, k => if F (1024 * f + s) = true then (if k = 0 then nI s else gtL F f r (s + 1) (k - 1)) else gtL F f r (s + 1) k
set_option maxHeartbeats 1000000 in
set_option maxRecDepth 100000 in
theorem lp_getM {z : Zt} {A : Nat → Prop} {l : Launch} {g : Gd} {μ : Mm} (C : Cx z A l (rmk 2 42) cX11_get 5 "SetFamiliesModel") (X : Kx z g A) {F : Nat → Bool} {n f ix : Nat} (h6 : gI μ 6 = nI n) (hn10 : n ≤ 10) (h5 : gA μ 5 = bR F) (hf : f < 4) (h1024 : 2 ^ n ≤ 1024) (h2n : 0 < 2 ^ n) : ∀ (n_ : Nat) (s : Nat) (k : Nat), 2 ^ n - s < n_ → s ≤ 2 ^ n → k < 2 ^ 31 → Rx z g A (some .int) (some (.int (gtL F f (2 ^ n - s) s k))) μ → G z g.1 A 5 (wd g μ) 0 0 27 [(4, .int (nI s)), (3, .int (nI k)), (0, .ref (ad g 19)), (1, .int (nI f)), (2, .int (nI ix))] [] := by
  intro n_
  induction n_ with
  | zero => intro s k hm_; exact absurd hm_ (Nat.not_lt_zero _)
  | succ n_ ih =>
    intro s k hm_ hs hk Rr
    refine r_iload C dX11_get_27 0 rfl ?_
    refine r_aload_n C dX11_get_29 2 rfl ?_
    refine r_callV C X (As := []) (rest := [.int (nI s)]) (st1 := [.int (nI (2 ^ n)), .int (nI s)]) (μ' := μ) (k := 19) (T := TX11) miX11_codes mvX11_codes (c_codes l g μ (n := n) h6 (by omega)) hw_5_99 (by decide) rfl rfl rfl ⟨by decide, by decide, rfl, rfl, by decide, by decide⟩ rfl (Nat.le_of_ble_eq_true rfl) dX11_get_30 rfl ?_
    refine r_icmp_ge C 68 dX11_get_33 (by decide) (nI_leI (by omega) (by omega)) (fun h33 => ?_) (fun h33 => ?_)
    · rw [show 2 ^ n - s = 0 by omega, gtL] at Rr
      refine r_iconst C (v := (-1)) dX11_get_68 rfl ?_
      exact r_iret C dX11_get_69 Rr
    · rw [show 2 ^ n - s = (2 ^ n - (s + 1)) + 1 by omega, gtL] at Rr
      refine r_aload_n C dX11_get_36 2 rfl ?_
      refine r_get C X (k := 19) (R := RX11) (T := TX11) (N := 15) (n := 2) (v := .ref (ad g 20)) (by decide) rfl rfl inw11 (by decide) rfl hw_5_20 rfl dX11_get_37 ?_
      refine r_sipush C (v := (nI 1024)) dX11_get_40 (by decide) ?_
      refine r_iload_n C dX11_get_43 3 rfl ?_
      refine r_imul C (v := (nI (1024 * f))) dX11_get_44 (pk_mul _ _) ?_
      refine r_iload C dX11_get_45 0 rfl ?_
      refine r_iadd C (v := (nI (1024 * f + s))) dX11_get_47 (nI_add _ _) ?_
      refine r_zald C X (k := 20) (v := (bI (F (1024 * f + s)))) (by decide) rfl (by omega) (by decide) (bR_at h5 _) dX11_get_48 ?_
      refine r_if_eq C 62 dX11_get_49 (by decide) (bI_eq _) (fun h49 => ?_) (fun h49 => ?_)
      · rw [if_neg (ts_f h49)] at Rr
        refine r_iinc C (v := (nI (s + 1))) (lv' := [(4, .int (nI (s + 1))), (3, .int (nI k)), (0, .ref (ad g 19)), (1, .int (nI f)), (2, .int (nI ix))]) 4 0 dX11_get_62 rfl (inc_N _ 1) (by decide) rfl ?_
        refine r_goto C 27 dX11_get_65 (by decide) ?_
        exact ih (s + 1) k (by omega) (by omega) (by omega) Rr
      · rw [if_pos (ts_t h49)] at Rr
        refine r_iload_n C dX11_get_52 1 rfl ?_
        refine r_if_ne C 59 dX11_get_53 (by decide) (zI_ne (by omega)) (fun h53 => ?_) (fun h53 => ?_)
        · rw [if_neg h53] at Rr
          obtain ⟨q, rfl⟩ : ∃ q, k = q + 1 := ⟨k - 1, by omega⟩
          rw [show q + 1 - 1 = q from rfl] at Rr
          refine r_iinc C (v := (nI q)) (lv' := [(3, .int (nI q)), (4, .int (nI s)), (0, .ref (ad g 19)), (1, .int (nI f)), (2, .int (nI ix))]) 3 1 dX11_get_59 rfl (pk_m1 _) (by decide) rfl ?_
          refine r_iinc C (v := (nI (s + 1))) (lv' := [(4, .int (nI (s + 1))), (3, .int (nI q)), (0, .ref (ad g 19)), (1, .int (nI f)), (2, .int (nI ix))]) 4 1 dX11_get_62 rfl (inc_N _ 1) (by decide) rfl ?_
          refine r_goto C 27 dX11_get_65 (by decide) ?_
          exact ih (s + 1) q (by omega) (by omega) (by omega) Rr
        · rw [if_pos (Decidable.not_not.mp h53)] at Rr
          refine r_iload C dX11_get_56 0 rfl ?_
          exact r_iret C dX11_get_58 Rr
set_option maxHeartbeats 1000000 in
set_option maxRecDepth 100000 in
theorem y_get (l : Launch) (g : Gd) (μ : Mm) {F : Nat → Bool} {n f ix : Nat} (hn6 : gI μ 6 = nI n) (hn10 : n ≤ 10) (h5 : gA μ 5 = bR F) (hf : f < 4) (hix : ix < 2 ^ 31) : Ct l yX11_get cX11_get 5 (some .int) (rmk 2 42) g [.ref (ad g 19), .int (nI f), .int (nI ix)] μ (some (.int (gtL F f (2 ^ n) 0 ix))) (mgM μ true true) := by
  have h1024 := pw10 hn10
  have h2n := Nat.two_pow_pos n
  refine Ct.of (by decide) (Nat.le_of_ble_eq_true rfl) (fun z A C X Rr => ?_)
  refine r_aload_n C dX11_get_0 0 rfl ?_
  refine r_iload_n C dX11_get_1 1 rfl ?_
  refine r_callP C (As := [.int (nI f)]) (rest := [.ref (ad g 19)]) (st1 := [.int (bI (inI (nI f) (nI 0) (nI 3))), .ref (ad g 19)]) miX11_isPlace msX11_isPlace (c_isPlace l (nI f)) hw_5_92 rfl ⟨by decide, by decide, rfl, rfl, by decide, by decide⟩ rfl (Nat.le_of_ble_eq_true rfl) dX11_get_2 rfl ?_
  refine G_top (y := (bI true)) (congrArg bI (inN (v := f) (Nat.zero_le _) (by omega) (by decide))) ?_
  refine r_iload_n C dX11_get_5 2 rfl ?_
  refine r_if_lt C 13 dX11_get_6 (by decide) (zI_lt (by omega)) (fun h6 => ?_) (fun h6 => ?_)
  · exact h6.elim
  · refine r_iconst C (v := (nI 1)) dX11_get_9 rfl ?_
    refine r_goto C 14 dX11_get_10 (by decide) ?_
    refine G_top (y := (bI true)) rfl ?_
    refine r_callV C X (As := [.int (bI true), .int (bI true)]) (rest := []) (st1 := [.int (bI (true && true))]) (μ' := (mgM μ true true)) (k := 19) (T := TX11) miX11_mayGo mvX11_mayGo (c_mayGo l g μ true true) hw_5_103 (by decide) rfl rfl rfl ⟨by decide, by decide, rfl, rfl, by decide, by decide⟩ rfl (Nat.le_of_ble_eq_true rfl) dX11_get_14 rfl ?_
    refine r_if_ne C 22 dX11_get_17 (by decide) (bI_ne _) (fun h17 => ?_) (fun h17 => ?_)
    · refine r_iload_n C dX11_get_22 2 rfl ?_
      refine r_istore_n C (lv' := [(3, .int (nI ix)), (0, .ref (ad g 19)), (1, .int (nI f)), (2, .int (nI ix))]) 3 dX11_get_23 rfl (by decide) rfl ?_
      refine r_iconst C (v := (nI 0)) dX11_get_24 rfl ?_
      refine r_istore C (lv' := [(4, .int (nI 0)), (3, .int (nI ix)), (0, .ref (ad g 19)), (1, .int (nI f)), (2, .int (nI ix))]) 4 dX11_get_25 (by decide) rfl ?_
      exact lp_getM C X ((gI_n _ _ (by decide)).trans hn6) hn10 ((gA_I _ _ _ _).trans h5) hf h1024 h2n (2 ^ n + 1) 0 ix (by omega) (by omega) hix Rr
    · exact absurd rfl h17
