set_option maxHeartbeats 1000000 in
set_option maxRecDepth 100000 in
theorem y_crossing (l : Launch) (g : Gd) (μ : Mm) {F : Nat → Bool} {n a b : Nat} (h6 : gI μ 6 = nI n) (hn10 : n ≤ 10) (hF : gA μ 5 = bR F) (ha : a < 4) (hb : b < 4) : Ct l yX11_crossing cX11_crossing 3 (some .int) (rmk 2 44) g [.ref (ad g 19), .int (nI a), .int (nI b)] μ (some (.int (fcO F a b n (2 ^ n) 0))) (mgM μ true true) := by
  have h1024 := pw10 hn10
  have h2n := Nat.two_pow_pos n
  refine Ct.of (by decide) (Nat.le_of_ble_eq_true rfl) (fun z A C X Rr => ?_)
  refine r_aload_n C dX11_crossing_0 0 rfl ?_
  refine r_iload_n C dX11_crossing_1 1 rfl ?_
  refine r_callP C (As := [.int (nI a)]) (rest := [.ref (ad g 19)]) (st1 := [.int (bI (inI (nI a) (nI 0) (nI 3))), .ref (ad g 19)]) miX11_isPlace msX11_isPlace (c_isPlace l (nI a)) hw_5_92 rfl ⟨by decide, by decide, rfl, rfl, by decide, by decide⟩ rfl (Nat.le_of_ble_eq_true rfl) dX11_crossing_2 rfl ?_
  refine G_top (y := (bI true)) (congrArg bI (inN (v := a) (Nat.zero_le _) (by omega) (by decide))) ?_
  refine r_if_eq C 19 dX11_crossing_5 (by decide) (bI_eq _) (fun h5 => ?_) (fun h5 => ?_)
  · exact absurd h5 (by decide)
  · refine r_iload_n C dX11_crossing_8 2 rfl ?_
    refine r_callP C (As := [.int (nI b)]) (rest := [.ref (ad g 19)]) (st1 := [.int (bI (inI (nI b) (nI 0) (nI 3))), .ref (ad g 19)]) miX11_isPlace msX11_isPlace (c_isPlace l (nI b)) hw_5_92 rfl ⟨by decide, by decide, rfl, rfl, by decide, by decide⟩ rfl (Nat.le_of_ble_eq_true rfl) dX11_crossing_9 rfl ?_
    refine G_top (y := (bI true)) (congrArg bI (inN (v := b) (Nat.zero_le _) (by omega) (by decide))) ?_
    refine r_if_eq C 19 dX11_crossing_12 (by decide) (bI_eq _) (fun h12 => ?_) (fun h12 => ?_)
    · exact absurd h12 (by decide)
    · refine r_iconst C (v := (nI 1)) dX11_crossing_15 rfl ?_
      refine r_goto C 20 dX11_crossing_16 (by decide) ?_
      refine G_top (y := (bI true)) rfl ?_
      refine r_iconst C (v := (nI 1)) dX11_crossing_20 rfl ?_
      refine G_top (y := (bI true)) rfl ?_
      refine r_callV C X (As := [.int (bI true), .int (bI true)]) (rest := []) (st1 := [.int (bI (true && true))]) (μ' := (mgM μ true true)) (k := 19) (T := TX11) miX11_mayGo mvX11_mayGo (c_mayGo l g μ true true) hw_5_103 (by decide) rfl rfl rfl ⟨by decide, by decide, rfl, rfl, by decide, by decide⟩ rfl (Nat.le_of_ble_eq_true rfl) dX11_crossing_21 rfl ?_
      refine r_if_eq C 36 dX11_crossing_24 (by decide) (bI_eq _) (fun h24 => ?_) (fun h24 => ?_)
      · exact absurd h24 (by decide)
      · refine r_aload_n C dX11_crossing_27 0 rfl ?_
        refine r_iload_n C dX11_crossing_28 1 rfl ?_
        refine r_iload_n C dX11_crossing_29 2 rfl ?_
        refine r_callV C X (As := [.int (nI a), .int (nI b)]) (rest := []) (st1 := [.int (fcO F a b n (2 ^ n) 0)]) (μ' := (mgM μ true true)) (k := 19) (T := TX11) miX11_firstCrossing mvX11_firstCrossing (c_firstCrossing l g (mgM μ true true) (F := F) (n := n) (a := a) (b := b) ((gI_n _ _ (by decide)).trans h6) (by omega) ((gA_I _ _ _ _).trans hF) (by omega) (by omega)) hw_6_43 (by decide) rfl rfl rfl ⟨by decide, by decide, rfl, rfl, by decide, by decide⟩ rfl (Nat.le_of_ble_eq_true rfl) dX11_crossing_30 rfl ?_
        refine r_goto C 37 dX11_crossing_33 (by decide) ?_
        exact r_iret C dX11_crossing_37 Rr
set_option maxHeartbeats 1000000 in
set_option maxRecDepth 100000 in
theorem y_shattered (l : Launch) (g : Gd) (μ : Mm) {F : Nat → Bool} {n f : Nat} (h6 : gI μ 6 = nI n) (hn10 : n ≤ 10) (h5 : gA μ 5 = bR F) (hf : f < 4)  : Ct l yX11_shattered cX11_shattered 2 (some .int) (rmk 3 69) g [.ref (ad g 19), .int (nI f)] μ (some (.int (oI (fsF F n f (2 ^ n) 0 none (mgM μ true true)).2))) ((fsF F n f (2 ^ n) 0 none (mgM μ true true)).1) := by
  have h1024 := pw10 hn10
  have h2n := Nat.two_pow_pos n
  refine Ct.of (by decide) (Nat.le_of_ble_eq_true rfl) (fun z A C X Rr => ?_)
  refine r_aload_n C dX11_shattered_0 0 rfl ?_
  refine r_iload_n C dX11_shattered_1 1 rfl ?_
  refine r_callP C (As := [.int (nI f)]) (rest := [.ref (ad g 19)]) (st1 := [.int (bI (inI (nI f) (nI 0) (nI 3))), .ref (ad g 19)]) miX11_isPlace msX11_isPlace (c_isPlace l (nI f)) hw_5_92 rfl ⟨by decide, by decide, rfl, rfl, by decide, by decide⟩ rfl (Nat.le_of_ble_eq_true rfl) dX11_shattered_2 rfl ?_
  refine G_top (y := (bI true)) (congrArg bI (inN (v := f) (Nat.zero_le _) (by omega) (by decide))) ?_
  refine r_iconst C (v := (nI 1)) dX11_shattered_5 rfl ?_
  refine G_top (y := (bI true)) rfl ?_
  refine r_callV C X (As := [.int (bI true), .int (bI true)]) (rest := []) (st1 := [.int (bI (true && true))]) (μ' := (mgM μ true true)) (k := 19) (T := TX11) miX11_mayGo mvX11_mayGo (c_mayGo l g μ true true) hw_5_103 (by decide) rfl rfl rfl ⟨by decide, by decide, rfl, rfl, by decide, by decide⟩ rfl (Nat.le_of_ble_eq_true rfl) dX11_shattered_6 rfl ?_
  refine r_if_eq C 20 dX11_shattered_9 (by decide) (bI_eq _) (fun h9 => ?_) (fun h9 => ?_)
  · exact absurd h9 (by decide)
  · refine r_aload_n C dX11_shattered_12 0 rfl ?_
    refine r_iload_n C dX11_shattered_13 1 rfl ?_
    refine r_callV C X (As := [.int (nI f)]) (rest := []) (st1 := [.int (oI (fsF F n f (2 ^ n) 0 none (mgM μ true true)).2)]) (μ' := (fsF F n f (2 ^ n) 0 none (mgM μ true true)).1) (k := 19) (T := TX11) miX11_firstShattered mvX11_firstShattered (c_firstShattered l g (mgM μ true true) (F := F) (n := n) (f := f) ((gI_n _ _ (by decide)).trans h6) hn10 ((gA_I _ _ _ _).trans h5) hf) hw_6_27 (by decide) rfl rfl rfl ⟨by decide, by decide, rfl, rfl, by decide, by decide⟩ rfl (Nat.le_of_ble_eq_true rfl) dX11_shattered_14 rfl ?_
    refine r_goto C 21 dX11_shattered_17 (by decide) ?_
    exact r_iret C dX11_shattered_21 Rr
def dmI (b : Option Nat) : Int32 := match b with | none => -1 | some c => nI (b10 c)
set_option maxHeartbeats 1000000 in
set_option maxRecDepth 100000 in
theorem tl_dimension {z : Zt} {A : Nat → Prop} {l : Launch} {g : Gd} (C : Cx z A l (rmk 3 69) cX11_dimension 3 "SetFamiliesModel") (X : Kx z g A) {M : Mm} {b : Option Nat} {f : Nat} (hb : ∀ c, b = some c → c < 1024) (Rr : Rx z g A (some .int) (some (.int (dmI b))) M) : G z g.1 A 3 (wd g M) 0 0 20 [(2, .int (oI b)), (0, .ref (ad g 19)), (1, .int (nI f))] [] := by
  refine r_iload_n C dX11_dimension_20 0 rfl ?_
  refine r_iconst C (v := (-1)) dX11_dimension_21 rfl ?_
  refine r_icmp_ne C 29 dX11_dimension_22 (by decide) (not_congr (oI_none hb)) (fun h22 => ?_) (fun h22 => ?_)
  · obtain ⟨c, rfl⟩ : ∃ c, b = some c := by cases b with | none => exact absurd rfl h22 | some c => exact ⟨c, rfl⟩
    have hcl := hb c rfl
    refine G_lv (lv' := [(2, .int (nI c)), (0, .ref (ad g 19)), (1, .int (nI f))]) rfl ?_
    refine r_iload_n C dX11_dimension_29 0 rfl ?_
    refine r_callP C (As := [.int (nI c)]) (rest := []) (st1 := [.int (nI (b10 c))]) miX11_bits msX11_bits (c_bits l (c := c) (by omega)) hw_5_123 rfl ⟨by decide, by decide, rfl, rfl, by decide, by decide⟩ rfl (Nat.le_of_ble_eq_true rfl) dX11_dimension_30 rfl ?_
    exact r_iret C dX11_dimension_33 Rr
  · have hbn := Decidable.not_not.mp h22
    subst hbn
    refine r_iconst C (v := (-1)) dX11_dimension_25 rfl ?_
    refine r_goto C 33 dX11_dimension_26 (by decide) ?_
    exact r_iret C dX11_dimension_33 Rr
set_option maxHeartbeats 1000000 in
set_option maxRecDepth 100000 in
theorem y_dimension (l : Launch) (g : Gd) (μ : Mm) {F : Nat → Bool} {n f : Nat} (h6 : gI μ 6 = nI n) (hn10 : n ≤ 10) (h5 : gA μ 5 = bR F) (hf : f < 4) : Ct l yX11_dimension cX11_dimension 3 (some .int) (rmk 3 69) g [.ref (ad g 19), .int (nI f)] μ (some (.int (dmI (fsF F n f (2 ^ n) 0 none (mgM μ true true)).2))) ((fsF F n f (2 ^ n) 0 none (mgM μ true true)).1) := by
  have h1024 := pw10 hn10
  have h2n := Nat.two_pow_pos n
  refine Ct.of (by decide) (Nat.le_of_ble_eq_true rfl) (fun z A C X Rr => ?_)
  refine r_aload_n C dX11_dimension_0 0 rfl ?_
  refine r_iload_n C dX11_dimension_1 1 rfl ?_
  refine r_callP C (As := [.int (nI f)]) (rest := [.ref (ad g 19)]) (st1 := [.int (bI (inI (nI f) (nI 0) (nI 3))), .ref (ad g 19)]) miX11_isPlace msX11_isPlace (c_isPlace l (nI f)) hw_5_92 rfl ⟨by decide, by decide, rfl, rfl, by decide, by decide⟩ rfl (Nat.le_of_ble_eq_true rfl) dX11_dimension_2 rfl ?_
  refine G_top (y := (bI true)) (congrArg bI (inN (v := f) (Nat.zero_le _) (by omega) (by decide))) ?_
  refine r_iconst C (v := (nI 1)) dX11_dimension_5 rfl ?_
  refine G_top (y := (bI true)) rfl ?_
  refine r_callV C X (As := [.int (bI true), .int (bI true)]) (rest := []) (st1 := [.int (bI (true && true))]) (μ' := (mgM μ true true)) (k := 19) (T := TX11) miX11_mayGo mvX11_mayGo (c_mayGo l g μ true true) hw_5_103 (by decide) rfl rfl rfl ⟨by decide, by decide, rfl, rfl, by decide, by decide⟩ rfl (Nat.le_of_ble_eq_true rfl) dX11_dimension_6 rfl ?_
  refine r_if_ne C 14 dX11_dimension_9 (by decide) (bI_ne _) (fun h9 => ?_) (fun h9 => ?_)
  · refine r_aload_n C dX11_dimension_14 0 rfl ?_
    refine r_iload_n C dX11_dimension_15 1 rfl ?_
    refine r_callV C X (As := [.int (nI f)]) (rest := []) (st1 := [.int (oI (fsF F n f (2 ^ n) 0 none (mgM μ true true)).2)]) (μ' := (fsF F n f (2 ^ n) 0 none (mgM μ true true)).1) (k := 19) (T := TX11) miX11_firstShattered mvX11_firstShattered (c_firstShattered l g (mgM μ true true) (F := F) (n := n) (f := f) ((gI_n _ _ (by decide)).trans h6) hn10 ((gA_I _ _ _ _).trans h5) hf) hw_6_27 (by decide) rfl rfl rfl ⟨by decide, by decide, rfl, rfl, by decide, by decide⟩ rfl (Nat.le_of_ble_eq_true rfl) dX11_dimension_16 rfl ?_
    refine r_istore_n C (lv' := [(2, .int (oI (fsF F n f (2 ^ n) 0 none (mgM μ true true)).2)), (0, .ref (ad g 19)), (1, .int (nI f))]) 2 dX11_dimension_19 rfl (by decide) rfl ?_
    exact tl_dimension C X (b := (fsF F n f (2 ^ n) 0 none (mgM μ true true)).2) (M := (fsF F n f (2 ^ n) 0 none (mgM μ true true)).1) (fsF_lt F n f 1024 _ _ _ _ (by omega) (fun c q => by cases q)) Rr
  · exact absurd rfl h9
set_option maxHeartbeats 1000000 in
set_option maxRecDepth 100000 in
theorem y_weight (l : Launch) (g : Gd) (μ : Mm) {F : Nat → Bool} {n f : Nat} (h6 : gI μ 6 = nI n) (hn10 : n ≤ 10) (h5 : gA μ 5 = bR F) (hf : f < 4) (d : Bool) : Ct l yX11_weight cX11_weight 3 (some .long) (rmk 3 72) g [.ref (ad g 19), .int (nI f), .int (bI d)] μ (some (.long (lN (if d = true then (wgF F f n (n + 1)).2 else (wgF F f n (n + 1)).1)))) (mW (mgM μ true true) (wgF F f n (n + 1)).1 (wgF F f n (n + 1)).2) := by
  have h1024 := pw10 hn10
  have h2n := Nat.two_pow_pos n
  refine Ct.of (by decide) (Nat.le_of_ble_eq_true rfl) (fun z A C X Rr => ?_)
  refine r_aload_n C dX11_weight_0 0 rfl ?_
  refine r_iload_n C dX11_weight_1 1 rfl ?_
  refine r_callP C (As := [.int (nI f)]) (rest := [.ref (ad g 19)]) (st1 := [.int (bI (inI (nI f) (nI 0) (nI 3))), .ref (ad g 19)]) miX11_isPlace msX11_isPlace (c_isPlace l (nI f)) hw_5_92 rfl ⟨by decide, by decide, rfl, rfl, by decide, by decide⟩ rfl (Nat.le_of_ble_eq_true rfl) dX11_weight_2 rfl ?_
  refine G_top (y := (bI true)) (congrArg bI (inN (v := f) (Nat.zero_le _) (by omega) (by decide))) ?_
  refine r_iconst C (v := (nI 1)) dX11_weight_5 rfl ?_
  refine G_top (y := (bI true)) rfl ?_
  refine r_callV C X (As := [.int (bI true), .int (bI true)]) (rest := []) (st1 := [.int (bI (true && true))]) (μ' := (mgM μ true true)) (k := 19) (T := TX11) miX11_mayGo mvX11_mayGo (c_mayGo l g μ true true) hw_5_103 (by decide) rfl rfl rfl ⟨by decide, by decide, rfl, rfl, by decide, by decide⟩ rfl (Nat.le_of_ble_eq_true rfl) dX11_weight_6 rfl ?_
  refine r_if_ne C 14 dX11_weight_9 (by decide) (bI_ne _) (fun h9 => ?_) (fun h9 => ?_)
  · refine r_aload_n C dX11_weight_14 0 rfl ?_
    refine r_iload_n C dX11_weight_15 1 rfl ?_
    refine r_callV C X (As := [.int (nI f)]) (rest := []) (st1 := []) (μ' := (mW (mgM μ true true) (wgF F f n (n + 1)).1 (wgF F f n (n + 1)).2)) (k := 19) (T := TX11) miX11_weighs mvX11_weighs (c_weighs l g (mgM μ true true) (F := F) (n := n) (f := f) ((gI_n _ _ (by decide)).trans h6) hn10 ((gA_I _ _ _ _).trans h5) hf) hw_6_16 (by decide) rfl rfl rfl ⟨by decide, by decide, rfl, rfl, by decide, by decide⟩ rfl (Nat.le_of_ble_eq_true rfl) dX11_weight_16 rfl ?_
    refine r_iload_n C dX11_weight_19 2 rfl ?_
    refine r_if_eq C 30 dX11_weight_20 (by decide) (bI_eq _) (fun h20 => ?_) (fun h20 => ?_)
    · refine r_aload_n C dX11_weight_30 0 rfl ?_
      refine r_get C X (k := 19) (R := RX11) (T := TX11) (N := 15) (n := 9) (v := .long (gL (mW (mgM μ true true) (wgF F f n (n + 1)).1 (wgF F f n (n + 1)).2) 0)) (by decide) rfl rfl inw11 (by decide) rfl hw_5_27 rfl dX11_weight_31 ?_
      refine G_topl (y := (lN ((wgF F f n (n + 1)).1))) (gL_mW0 _ _ _) ?_
      refine G_topl (y := (lN (if d = true then (wgF F f n (n + 1)).2 else (wgF F f n (n + 1)).1))) (by rw [if_neg (ts_f h20)]) ?_
      exact r_lret C dX11_weight_34 Rr
    · refine r_aload_n C dX11_weight_23 0 rfl ?_
      refine r_get C X (k := 19) (R := RX11) (T := TX11) (N := 15) (n := 10) (v := .long (gL (mW (mgM μ true true) (wgF F f n (n + 1)).1 (wgF F f n (n + 1)).2) 1)) (by decide) rfl rfl inw11 (by decide) rfl hw_5_28 rfl dX11_weight_24 ?_
      refine G_topl (y := (lN ((wgF F f n (n + 1)).2))) (gL_mW1 _ _ _) ?_
      refine r_goto C 34 dX11_weight_27 (by decide) ?_
      refine G_topl (y := (lN (if d = true then (wgF F f n (n + 1)).2 else (wgF F f n (n + 1)).1))) (by rw [if_pos (ts_t h20)]) ?_
      exact r_lret C dX11_weight_34 Rr
  · exact absurd rfl h9
set_option maxHeartbeats 1000000 in
set_option maxRecDepth 100000 in
theorem y_pairs (l : Launch) (g : Gd) (μ : Mm) {F : Nat → Bool} {n f k : Nat} (h6 : gI μ 6 = nI n) (hn10 : n ≤ 10) (h5 : gA μ 5 = bR F) (hf : f < 4) (hk : k ≤ n) : Ct l yX11_pairs cX11_pairs 3 (some .int) (rmk 2 45) g [.ref (ad g 19), .int (nI f), .int (nI k)] μ (some (.int (cpO F f (cpZ 11 (gA μ 11)) (2 ^ n) k))) (mCP (mgM μ true true) F n f) := by
  have h1024 := pw10 hn10
  have h2n := Nat.two_pow_pos n
  refine Ct.of (by decide) (Nat.le_of_ble_eq_true rfl) (fun z A C X Rr => ?_)
  refine r_aload_n C dX11_pairs_0 0 rfl ?_
  refine r_iload_n C dX11_pairs_1 1 rfl ?_
  refine r_callP C (As := [.int (nI f)]) (rest := [.ref (ad g 19)]) (st1 := [.int (bI (inI (nI f) (nI 0) (nI 3))), .ref (ad g 19)]) miX11_isPlace msX11_isPlace (c_isPlace l (nI f)) hw_5_92 rfl ⟨by decide, by decide, rfl, rfl, by decide, by decide⟩ rfl (Nat.le_of_ble_eq_true rfl) dX11_pairs_2 rfl ?_
  refine G_top (y := (bI true)) (congrArg bI (inN (v := f) (Nat.zero_le _) (by omega) (by decide))) ?_
  refine r_iload_n C dX11_pairs_5 2 rfl ?_
  refine r_iconst C (v := (nI 0)) dX11_pairs_6 rfl ?_
  refine r_aload_n C dX11_pairs_7 0 rfl ?_
  refine r_get C X (k := 19) (R := RX11) (T := TX11) (N := 15) (n := 1) (v := .int (gI μ 6)) (by decide) rfl rfl inw11 (by decide) rfl hw_5_19 rfl dX11_pairs_8 ?_
  refine G_top (y := (nI n)) h6 ?_
  refine r_callP C (As := [.int (nI k), .int (nI 0), .int (nI n)]) (rest := [.int (bI true), .ref (ad g 19)]) (st1 := [.int (bI (inI (nI k) (nI 0) (nI n))), .int (bI true), .ref (ad g 19)]) miX11_in msX11_in (c_in l (nI k) (nI 0) (nI n)) hw_5_77 rfl ⟨by decide, by decide, rfl, rfl, by decide, by decide⟩ rfl (Nat.le_of_ble_eq_true rfl) dX11_pairs_11 rfl ?_
  refine G_top (y := (bI true)) (congrArg bI (inN (v := k) (Nat.zero_le _) hk (by omega))) ?_
  refine r_callV C X (As := [.int (bI true), .int (bI true)]) (rest := []) (st1 := [.int (bI (true && true))]) (μ' := (mgM μ true true)) (k := 19) (T := TX11) miX11_mayGo mvX11_mayGo (c_mayGo l g μ true true) hw_5_103 (by decide) rfl rfl rfl ⟨by decide, by decide, rfl, rfl, by decide, by decide⟩ rfl (Nat.le_of_ble_eq_true rfl) dX11_pairs_14 rfl ?_
  refine r_if_ne C 22 dX11_pairs_17 (by decide) (bI_ne _) (fun h17 => ?_) (fun h17 => ?_)
  · refine r_aload_n C dX11_pairs_22 0 rfl ?_
    refine r_iload_n C dX11_pairs_23 1 rfl ?_
    refine r_callV C X (As := [.int (nI f)]) (rest := []) (st1 := []) (μ' := (mCP (mgM μ true true) F n f)) (k := 19) (T := TX11) miX11_countsPairs mvX11_countsPairs (c_countsPairs l g (mgM μ true true) (F := F) (n := n) (f := f) ((gI_n _ _ (by decide)).trans h6) hn10 ((gA_I _ _ _ _).trans h5) hf) hw_6_63 (by decide) rfl rfl rfl ⟨by decide, by decide, rfl, rfl, by decide, by decide⟩ rfl (Nat.le_of_ble_eq_true rfl) dX11_pairs_24 rfl ?_
    refine r_aload_n C dX11_pairs_27 0 rfl ?_
    refine r_get C X (k := 19) (R := RX11) (T := TX11) (N := 15) (n := 13) (v := .ref (ad g 26)) (by decide) rfl rfl inw11 (by decide) rfl hw_5_31 rfl dX11_pairs_28 ?_
    refine r_iload_n C dX11_pairs_31 2 rfl ?_
    refine r_iald C X (k := 26) (v := (cpO F f (cpZ 11 (gA μ 11)) (2 ^ n) k)) (by decide) rfl (by omega) (by decide) (congrFun (gA_s _ _ _) _) dX11_pairs_32 ?_
    exact r_iret C dX11_pairs_33 Rr
  · exact absurd rfl h17
set_option maxHeartbeats 1000000 in
set_option maxRecDepth 100000 in
theorem c_thrown (l : Launch) (g : Gd) (μ : Mm)  : Ct l yX11_thrown cX11_thrown 1 (some .int) (rmk 0 0) g [.ref (ad g 19)] μ (some (.int (gI μ 5))) μ := by
  refine Ct.of (by decide) (Nat.le_of_ble_eq_true rfl) (fun z A C X Rr => ?_)
  refine r_aload_n C dX11_thrown_0 0 rfl ?_
  refine r_get C X (k := 19) (R := RX11) (T := TX11) (N := 15) (n := 0) (v := .int (gI μ 5)) (by decide) rfl rfl inw11 (by decide) rfl hw_5_18 rfl dX11_thrown_1 ?_
  exact r_iret C dX11_thrown_4 Rr
set_option maxHeartbeats 1000000 in
set_option maxRecDepth 100000 in
theorem c_clearText (l : Launch) (g : Gd) (μ : Mm) {ty : Nat} (h8 : gI μ 8 = nI ty) : Ct l yX11_clearText cX11_clearText 2 (some .int) (rmk 0 0) g [.ref (ad g 19)] μ (some (.int (nI ty))) (sI (sI μ 5 (nI 0)) 8 (nI 0)) := by
  refine Ct.of (by decide) (Nat.le_of_ble_eq_true rfl) (fun z A C X Rr => ?_)
  refine r_aload_n C dX11_clearText_0 0 rfl ?_
  refine r_iconst C (v := (nI 0)) dX11_clearText_1 rfl ?_
  refine r_put C X (μ' := (sI μ 5 (nI 0))) (k := 19) (R := RX11) (T := TX11) (N := 15) (n := 0) (v := .int (nI 0)) (ty := .int) (by decide) rfl rfl inw11 tyX11_ok nmX11 (by decide) rfl hw_5_18 rfl rfl rfl rfl (Nat.le_of_ble_eq_true rfl) dX11_clearText_2 (WF_sI5_at g _ _) (WF_sI5_ne g _ _) ?_
  refine r_aload_n C dX11_clearText_5 0 rfl ?_
  refine r_get C X (k := 19) (R := RX11) (T := TX11) (N := 15) (n := 7) (v := .int (gI (sI μ 5 (nI 0)) 8)) (by decide) rfl rfl inw11 (by decide) rfl hw_5_25 rfl dX11_clearText_6 ?_
  refine G_top (y := (nI ty)) ((gI_n _ _ (by decide)).trans h8) ?_
  refine r_istore_n C (lv' := [(1, .int (nI ty)), (0, .ref (ad g 19))]) 1 dX11_clearText_9 rfl (by decide) rfl ?_
  refine r_aload_n C dX11_clearText_10 1 rfl ?_
  refine r_iconst C (v := (nI 0)) dX11_clearText_11 rfl ?_
  refine r_put C X (μ' := (sI (sI μ 5 (nI 0)) 8 (nI 0))) (k := 19) (R := RX11) (T := TX11) (N := 15) (n := 7) (v := .int (nI 0)) (ty := .int) (by decide) rfl rfl inw11 tyX11_ok nmX11 (by decide) rfl hw_5_25 rfl rfl rfl rfl (Nat.le_of_ble_eq_true rfl) dX11_clearText_12 (WF_sI8_at g _ _) (WF_sI8_ne g _ _) ?_
  refine r_iload_n C dX11_clearText_15 0 rfl ?_
  exact r_iret C dX11_clearText_16 Rr
set_option maxHeartbeats 1000000 in
set_option maxRecDepth 100000 in
theorem y_changes (l : Launch) (g : Gd) (μ : Mm) {F P O : Nat → Bool} {n ps f s : Nat} (hM : Mo μ F P O n ps) (hf : f < 4) (hs : s < 2 ^ n) (to : Bool) : Ct l yX11_changes cX11_changes 5 (some .boolean) (rmk 2 43) g [.ref (ad g 19), .int (nI f), .int (nI s), .int (bI to)] μ (some (.int (bI (F (1024 * f + s) != to)))) (sA (mNote (mgM μ true true) F P n ps) 5 (bR (upB F (1024 * f + s) to))) := by
  obtain ⟨h6, h7, hps, h5, hP, h9, h1n, hn10⟩ := hM
  have h1024 := pw10 hn10
  have h2n := Nat.two_pow_pos n
  refine Ct.of (by decide) (Nat.le_of_ble_eq_true rfl) (fun z A C X Rr => ?_)
  refine r_aload_n C dX11_changes_0 0 rfl ?_
  refine r_iload_n C dX11_changes_1 1 rfl ?_
  refine r_callP C (As := [.int (nI f)]) (rest := [.ref (ad g 19)]) (st1 := [.int (bI (inI (nI f) (nI 0) (nI 3))), .ref (ad g 19)]) miX11_isPlace msX11_isPlace (c_isPlace l (nI f)) hw_5_92 rfl ⟨by decide, by decide, rfl, rfl, by decide, by decide⟩ rfl (Nat.le_of_ble_eq_true rfl) dX11_changes_2 rfl ?_
  refine G_top (y := (bI true)) (congrArg bI (inN (v := f) (Nat.zero_le _) (by omega) (by decide))) ?_
  refine r_aload_n C dX11_changes_5 0 rfl ?_
  refine r_iload_n C dX11_changes_6 2 rfl ?_
  refine r_callV C X (As := [.int (nI s)]) (rest := [.int (bI true), .ref (ad g 19)]) (st1 := [.int (bI (inI (nI s) (nI 0) (nI (2 ^ n - 1)))), .int (bI true), .ref (ad g 19)]) (μ' := μ) (k := 19) (T := TX11) miX11_isCode mvX11_isCode (c_isCode l g μ (n := n) h6 (by omega) (nI s)) hw_5_95 (by decide) rfl rfl rfl ⟨by decide, by decide, rfl, rfl, by decide, by decide⟩ rfl (Nat.le_of_ble_eq_true rfl) dX11_changes_7 rfl ?_
  refine G_top (y := (bI true)) (congrArg bI (inN (v := s) (Nat.zero_le _) (by omega) (by omega))) ?_
  refine r_callV C X (As := [.int (bI true), .int (bI true)]) (rest := []) (st1 := [.int (bI (true && true))]) (μ' := (mgM μ true true)) (k := 19) (T := TX11) miX11_mayGo mvX11_mayGo (c_mayGo l g μ true true) hw_5_103 (by decide) rfl rfl rfl ⟨by decide, by decide, rfl, rfl, by decide, by decide⟩ rfl (Nat.le_of_ble_eq_true rfl) dX11_changes_10 rfl ?_
  refine r_if_ne C 18 dX11_changes_13 (by decide) (bI_ne _) (fun h13 => ?_) (fun h13 => ?_)
  · refine r_aload_n C dX11_changes_18 0 rfl ?_
    refine r_callV C X (As := []) (rest := []) (st1 := []) (μ' := (mNote (mgM μ true true) F P n ps)) (k := 19) (T := TX11) miX11_note mvX11_note (c_note l g (mgM μ true true) (F := F) (P := P) (n := n) (ps := ps) ((gI_n _ _ (by decide)).trans h6) ((gI_n _ _ (by decide)).trans h7) (by omega) ((gA_I _ _ _ _).trans h5) ((gA_I _ _ _ _).trans hP)) hw_5_80 (by decide) rfl rfl rfl ⟨by decide, by decide, rfl, rfl, by decide, by decide⟩ rfl (Nat.le_of_ble_eq_true rfl) dX11_changes_19 rfl ?_
    refine r_aload_n C dX11_changes_22 0 rfl ?_
    refine r_get C X (k := 19) (R := RX11) (T := TX11) (N := 15) (n := 2) (v := .ref (ad g 20)) (by decide) rfl rfl inw11 (by decide) rfl hw_5_20 rfl dX11_changes_23 ?_
    refine r_sipush C (v := (nI 1024)) dX11_changes_26 (by decide) ?_
    refine r_iload_n C dX11_changes_29 1 rfl ?_
    refine r_imul C (v := (nI (1024 * f))) dX11_changes_30 (pk_mul _ _) ?_
    refine r_iload_n C dX11_changes_31 2 rfl ?_
    refine r_iadd C (v := (nI (1024 * f + s))) dX11_changes_32 (nI_add _ _) ?_
    refine r_zald C X (k := 20) (v := (bI (F (1024 * f + s)))) (by decide) rfl (by omega) (by decide) (bR_at ((gA_mNote (by decide)).trans ((gA_I _ _ _ _).trans h5)) _) dX11_changes_33 ?_
    refine r_istore C (lv' := [(4, .int (bI (F (1024 * f + s)))), (0, .ref (ad g 19)), (1, .int (nI f)), (2, .int (nI s)), (3, .int (bI to))]) 4 dX11_changes_34 (by decide) rfl ?_
    refine r_aload_n C dX11_changes_36 1 rfl ?_
    refine r_get C X (k := 19) (R := RX11) (T := TX11) (N := 15) (n := 2) (v := .ref (ad g 20)) (by decide) rfl rfl inw11 (by decide) rfl hw_5_20 rfl dX11_changes_37 ?_
    refine r_sipush C (v := (nI 1024)) dX11_changes_40 (by decide) ?_
    refine r_iload_n C dX11_changes_43 2 rfl ?_
    refine r_imul C (v := (nI (1024 * f))) dX11_changes_44 (pk_mul _ _) ?_
    refine r_iload_n C dX11_changes_45 3 rfl ?_
    refine r_iadd C (v := (nI (1024 * f + s))) dX11_changes_46 (nI_add _ _) ?_
    refine r_iload_n C dX11_changes_47 4 rfl ?_
    refine r_zast C X (k := 20) (f' := bR (upB F (1024 * f + s) to)) (μ' := (sA (mNote (mgM μ true true) F P n ps) 5 (bR (upB F (1024 * f + s) to)))) (by decide) rfl (by omega) (by decide) (by rw [show gA (mNote (mgM μ true true) F P n ps) 5 = bR F from (gA_mNote (by decide)).trans h5]; exact bR_up _ _ _) dX11_changes_48 (congrArg (iR g 3 4096) (gA_s _ _ _)) (WF_sA5_ne g _ _) ?_
    refine r_iload C dX11_changes_49 0 rfl ?_
    refine r_iload_n C dX11_changes_51 4 rfl ?_
    refine r_icmp_eq C 59 dX11_changes_52 (by decide) bI_inj (fun h52 => ?_) (fun h52 => ?_)
    · refine r_iconst C (v := (nI 0)) dX11_changes_59 rfl ?_
      refine G_top (y := (bI (F (1024 * f + s) != to))) (b0 (by rw [h52]; cases to <;> rfl)) ?_
      exact r_zret C dX11_changes_60 (nar_b _) Rr
    · refine r_iconst C (v := (nI 1)) dX11_changes_55 rfl ?_
      refine r_goto C 60 dX11_changes_56 (by decide) ?_
      refine G_top (y := (bI (F (1024 * f + s) != to))) (b1 (bne_iff_ne.mpr h52)) ?_
      exact r_zret C dX11_changes_60 (nar_b _) Rr
  · exact absurd rfl h13
