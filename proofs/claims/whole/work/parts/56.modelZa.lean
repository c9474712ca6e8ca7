set_option maxHeartbeats 1000000 in
set_option maxRecDepth 100000 in
theorem n_segment1 (l : Launch) (g : Gd) (μ : Mm) {n : Nat} (hn6 : gI μ 6 = nI n) (h1n : 1 ≤ n) (hn10 : n ≤ 10) (q k m : Int32) (hk : inI k (nI 0) (nI n) = false) : Ct l yX11_segment cX11_segment 7 (some .int) (rmk 2 42) g [.ref (ad g 19), .int q, .int k, .int m] μ (some (.int (nI 0))) (mgM μ (inI q (nI 0) (nI 3)) false) := by
  have h1024 := pw10 hn10
  have h2n := Nat.two_pow_pos n
  refine Ct.of (by decide) (Nat.le_of_ble_eq_true rfl) (fun z A C X Rr => ?_)
  refine r_aload_n C dX11_segment_0 0 rfl ?_
  refine r_iload_n C dX11_segment_1 1 rfl ?_
  refine r_callP C (As := [.int q]) (rest := [.ref (ad g 19)]) (st1 := [.int (bI (inI q (nI 0) (nI 3))), .ref (ad g 19)]) miX11_isPlace msX11_isPlace (c_isPlace l q) hw_5_92 rfl ⟨by decide, by decide, rfl, rfl, by decide, by decide⟩ rfl (Nat.le_of_ble_eq_true rfl) dX11_segment_2 rfl ?_
  refine r_iload_n C dX11_segment_5 2 rfl ?_
  refine r_iconst C (v := (nI 0)) dX11_segment_6 rfl ?_
  refine r_aload_n C dX11_segment_7 0 rfl ?_
  refine r_get C X (k := 19) (R := RX11) (T := TX11) (N := 15) (n := 1) (v := .int (gI μ 6)) (by decide) rfl rfl inw11 (by decide) rfl hw_5_19 rfl dX11_segment_8 ?_
  refine G_top (y := (nI n)) hn6 ?_
  refine r_callP C (As := [.int k, .int (nI 0), .int (nI n)]) (rest := [.int (bI (inI q (nI 0) (nI 3))), .ref (ad g 19)]) (st1 := [.int (bI (inI k (nI 0) (nI n))), .int (bI (inI q (nI 0) (nI 3))), .ref (ad g 19)]) miX11_in msX11_in (c_in l k (nI 0) (nI n)) hw_5_77 rfl ⟨by decide, by decide, rfl, rfl, by decide, by decide⟩ rfl (Nat.le_of_ble_eq_true rfl) dX11_segment_11 rfl ?_
  refine r_if_eq C 39 dX11_segment_14 (by decide) (bI_eq _) (fun h14 => ?_) (fun h14 => ?_)
  · refine r_iconst C (v := (nI 0)) dX11_segment_39 rfl ?_
    refine G_top (y := (bI false)) rfl ?_
    refine r_callV C X (As := [.int (bI (inI q (nI 0) (nI 3))), .int (bI false)]) (rest := []) (st1 := [.int (bI ((inI q (nI 0) (nI 3)) && false))]) (μ' := (mgM μ (inI q (nI 0) (nI 3)) false)) (k := 19) (T := TX11) miX11_mayGo mvX11_mayGo (c_mayGo l g μ (inI q (nI 0) (nI 3)) false) hw_5_103 (by decide) rfl rfl rfl ⟨by decide, by decide, rfl, rfl, by decide, by decide⟩ rfl (Nat.le_of_ble_eq_true rfl) dX11_segment_40 rfl ?_
    refine r_if_ne C 48 dX11_segment_43 (by decide) (bI_ne _) (fun h43 => ?_) (fun h43 => ?_)
    · exact absurd h43 (by rw [Bool.and_false]; decide)
    · refine r_iconst C (v := (nI 0)) dX11_segment_46 rfl ?_
      exact r_iret C dX11_segment_47 Rr
  · exact absurd hk h14
set_option maxHeartbeats 1000000 in
set_option maxRecDepth 100000 in
theorem n_segment2 (l : Launch) (g : Gd) (μ : Mm) {n : Nat} (hn6 : gI μ 6 = nI n) (h1n : 1 ≤ n) (hn10 : n ≤ 10) (q k m : Int32) (hk : inI k (nI 0) (nI n) = true) (hm : m < 0) : Ct l yX11_segment cX11_segment 7 (some .int) (rmk 2 42) g [.ref (ad g 19), .int q, .int k, .int m] μ (some (.int (nI 0))) (mgM μ (inI q (nI 0) (nI 3)) false) := by
  have h1024 := pw10 hn10
  have h2n := Nat.two_pow_pos n
  refine Ct.of (by decide) (Nat.le_of_ble_eq_true rfl) (fun z A C X Rr => ?_)
  refine r_aload_n C dX11_segment_0 0 rfl ?_
  refine r_iload_n C dX11_segment_1 1 rfl ?_
  refine r_callP C (As := [.int q]) (rest := [.ref (ad g 19)]) (st1 := [.int (bI (inI q (nI 0) (nI 3))), .ref (ad g 19)]) miX11_isPlace msX11_isPlace (c_isPlace l q) hw_5_92 rfl ⟨by decide, by decide, rfl, rfl, by decide, by decide⟩ rfl (Nat.le_of_ble_eq_true rfl) dX11_segment_2 rfl ?_
  refine r_iload_n C dX11_segment_5 2 rfl ?_
  refine r_iconst C (v := (nI 0)) dX11_segment_6 rfl ?_
  refine r_aload_n C dX11_segment_7 0 rfl ?_
  refine r_get C X (k := 19) (R := RX11) (T := TX11) (N := 15) (n := 1) (v := .int (gI μ 6)) (by decide) rfl rfl inw11 (by decide) rfl hw_5_19 rfl dX11_segment_8 ?_
  refine G_top (y := (nI n)) hn6 ?_
  refine r_callP C (As := [.int k, .int (nI 0), .int (nI n)]) (rest := [.int (bI (inI q (nI 0) (nI 3))), .ref (ad g 19)]) (st1 := [.int (bI (inI k (nI 0) (nI n))), .int (bI (inI q (nI 0) (nI 3))), .ref (ad g 19)]) miX11_in msX11_in (c_in l k (nI 0) (nI n)) hw_5_77 rfl ⟨by decide, by decide, rfl, rfl, by decide, by decide⟩ rfl (Nat.le_of_ble_eq_true rfl) dX11_segment_11 rfl ?_
  refine r_if_eq C 39 dX11_segment_14 (by decide) (bI_eq _) (fun h14 => ?_) (fun h14 => ?_)
  · exact absurd h14 (by rw [hk]; decide)
  · refine r_iload_n C dX11_segment_17 3 rfl ?_
    refine r_if_lt C 39 dX11_segment_18 (by decide) Iff.rfl (fun h18 => ?_) (fun h18 => ?_)
    · refine r_iconst C (v := (nI 0)) dX11_segment_39 rfl ?_
      refine G_top (y := (bI false)) rfl ?_
      refine r_callV C X (As := [.int (bI (inI q (nI 0) (nI 3))), .int (bI false)]) (rest := []) (st1 := [.int (bI ((inI q (nI 0) (nI 3)) && false))]) (μ' := (mgM μ (inI q (nI 0) (nI 3)) false)) (k := 19) (T := TX11) miX11_mayGo mvX11_mayGo (c_mayGo l g μ (inI q (nI 0) (nI 3)) false) hw_5_103 (by decide) rfl rfl rfl ⟨by decide, by decide, rfl, rfl, by decide, by decide⟩ rfl (Nat.le_of_ble_eq_true rfl) dX11_segment_40 rfl ?_
      refine r_if_ne C 48 dX11_segment_43 (by decide) (bI_ne _) (fun h43 => ?_) (fun h43 => ?_)
      · exact absurd h43 (by rw [Bool.and_false]; decide)
      · refine r_iconst C (v := (nI 0)) dX11_segment_46 rfl ?_
        exact r_iret C dX11_segment_47 Rr
    · exact absurd hm h18
set_option maxHeartbeats 1000000 in
set_option maxRecDepth 100000 in
theorem n_segment3 (l : Launch) (g : Gd) (μ : Mm) {n k m : Nat} (hn6 : gI μ 6 = nI n) (h1n : 1 ≤ n) (hn10 : n ≤ 10) (q : Int32) (hk : k ≤ n) (hm : m < 2 ^ 31) (hmk : ch n k < m) : Ct l yX11_segment cX11_segment 7 (some .int) (rmk 2 42) g [.ref (ad g 19), .int q, .int (nI k), .int (nI m)] μ (some (.int (nI 0))) (mgM μ (inI q (nI 0) (nI 3)) false) := by
  have h1024 := pw10 hn10
  have h2n := Nat.two_pow_pos n
  refine Ct.of (by decide) (Nat.le_of_ble_eq_true rfl) (fun z A C X Rr => ?_)
  have hch := ch20 n (by omega) k (by omega)
  refine r_aload_n C dX11_segment_0 0 rfl ?_
  refine r_iload_n C dX11_segment_1 1 rfl ?_
  refine r_callP C (As := [.int q]) (rest := [.ref (ad g 19)]) (st1 := [.int (bI (inI q (nI 0) (nI 3))), .ref (ad g 19)]) miX11_isPlace msX11_isPlace (c_isPlace l q) hw_5_92 rfl ⟨by decide, by decide, rfl, rfl, by decide, by decide⟩ rfl (Nat.le_of_ble_eq_true rfl) dX11_segment_2 rfl ?_
  refine r_iload_n C dX11_segment_5 2 rfl ?_
  refine r_iconst C (v := (nI 0)) dX11_segment_6 rfl ?_
  refine r_aload_n C dX11_segment_7 0 rfl ?_
  refine r_get C X (k := 19) (R := RX11) (T := TX11) (N := 15) (n := 1) (v := .int (gI μ 6)) (by decide) rfl rfl inw11 (by decide) rfl hw_5_19 rfl dX11_segment_8 ?_
  refine G_top (y := (nI n)) hn6 ?_
  refine r_callP C (As := [.int (nI k), .int (nI 0), .int (nI n)]) (rest := [.int (bI (inI q (nI 0) (nI 3))), .ref (ad g 19)]) (st1 := [.int (bI (inI (nI k) (nI 0) (nI n))), .int (bI (inI q (nI 0) (nI 3))), .ref (ad g 19)]) miX11_in msX11_in (c_in l (nI k) (nI 0) (nI n)) hw_5_77 rfl ⟨by decide, by decide, rfl, rfl, by decide, by decide⟩ rfl (Nat.le_of_ble_eq_true rfl) dX11_segment_11 rfl ?_
  refine G_top (y := (bI true)) (congrArg bI (inN (v := k) (Nat.zero_le _) hk (by omega))) ?_
  refine r_if_eq C 39 dX11_segment_14 (by decide) (bI_eq _) (fun h14 => ?_) (fun h14 => ?_)
  · exact absurd h14 (by decide)
  · refine r_iload_n C dX11_segment_17 3 rfl ?_
    refine r_if_lt C 39 dX11_segment_18 (by decide) (zI_lt (by omega)) (fun h18 => ?_) (fun h18 => ?_)
    · exact h18.elim
    · refine r_iload_n C dX11_segment_21 3 rfl ?_
      refine r_i2l C (v := (lN m)) dX11_segment_22 (nI_l (by omega)) ?_
      refine r_aload_n C dX11_segment_23 0 rfl ?_
      refine r_get C X (k := 19) (R := RX11) (T := TX11) (N := 15) (n := 1) (v := .int (gI μ 6)) (by decide) rfl rfl inw11 (by decide) rfl hw_5_19 rfl dX11_segment_24 ?_
      refine G_top (y := (nI n)) hn6 ?_
      refine r_iload_n C dX11_segment_27 2 rfl ?_
      refine r_callP C (As := [.int (nI n), .int (nI k)]) (rest := [.long (lN m), .int (bI (inI q (nI 0) (nI 3))), .ref (ad g 19)]) (st1 := [.long (lN (ch n k)), .long (lN m), .int (bI (inI q (nI 0) (nI 3))), .ref (ad g 19)]) miX11_over msX11_over (c_over l (a := n) (b := k) (by omega) (by omega) (ov_le (by omega) (by omega) (by omega))) hw_5_202 rfl ⟨by decide, by decide, rfl, rfl, by decide, by decide⟩ rfl (Nat.le_of_ble_eq_true rfl) dX11_segment_28 rfl ?_
      refine r_lcmp C dX11_segment_31 ?_
      refine r_if_gt C 39 dX11_segment_32 (by decide) ((lgc_gt _ _).trans (pk_lLT (by omega) (by omega))) (fun h32 => ?_) (fun h32 => ?_)
      · refine r_iconst C (v := (nI 0)) dX11_segment_39 rfl ?_
        refine G_top (y := (bI false)) rfl ?_
        refine r_callV C X (As := [.int (bI (inI q (nI 0) (nI 3))), .int (bI false)]) (rest := []) (st1 := [.int (bI ((inI q (nI 0) (nI 3)) && false))]) (μ' := (mgM μ (inI q (nI 0) (nI 3)) false)) (k := 19) (T := TX11) miX11_mayGo mvX11_mayGo (c_mayGo l g μ (inI q (nI 0) (nI 3)) false) hw_5_103 (by decide) rfl rfl rfl ⟨by decide, by decide, rfl, rfl, by decide, by decide⟩ rfl (Nat.le_of_ble_eq_true rfl) dX11_segment_40 rfl ?_
        refine r_if_ne C 48 dX11_segment_43 (by decide) (bI_ne _) (fun h43 => ?_) (fun h43 => ?_)
        · exact absurd h43 (by rw [Bool.and_false]; decide)
        · refine r_iconst C (v := (nI 0)) dX11_segment_46 rfl ?_
          exact r_iret C dX11_segment_47 Rr
      · exact absurd hmk h32
set_option maxHeartbeats 1000000 in
set_option maxRecDepth 100000 in
theorem n_segment4 (l : Launch) (g : Gd) (μ : Mm) {n k m : Nat} (hn6 : gI μ 6 = nI n) (h1n : 1 ≤ n) (hn10 : n ≤ 10) (q : Int32) (hk : k ≤ n) (hmk : m ≤ ch n k) (hq : inI q (nI 0) (nI 3) = false) : Ct l yX11_segment cX11_segment 7 (some .int) (rmk 2 42) g [.ref (ad g 19), .int q, .int (nI k), .int (nI m)] μ (some (.int (nI 0))) (mgM μ (inI q (nI 0) (nI 3)) true) := by
  have h1024 := pw10 hn10
  have h2n := Nat.two_pow_pos n
  refine Ct.of (by decide) (Nat.le_of_ble_eq_true rfl) (fun z A C X Rr => ?_)
  have hch := ch20 n (by omega) k (by omega)
  refine r_aload_n C dX11_segment_0 0 rfl ?_
  refine r_iload_n C dX11_segment_1 1 rfl ?_
  refine r_callP C (As := [.int q]) (rest := [.ref (ad g 19)]) (st1 := [.int (bI (inI q (nI 0) (nI 3))), .ref (ad g 19)]) miX11_isPlace msX11_isPlace (c_isPlace l q) hw_5_92 rfl ⟨by decide, by decide, rfl, rfl, by decide, by decide⟩ rfl (Nat.le_of_ble_eq_true rfl) dX11_segment_2 rfl ?_
  refine r_iload_n C dX11_segment_5 2 rfl ?_
  refine r_iconst C (v := (nI 0)) dX11_segment_6 rfl ?_
  refine r_aload_n C dX11_segment_7 0 rfl ?_
  refine r_get C X (k := 19) (R := RX11) (T := TX11) (N := 15) (n := 1) (v := .int (gI μ 6)) (by decide) rfl rfl inw11 (by decide) rfl hw_5_19 rfl dX11_segment_8 ?_
  refine G_top (y := (nI n)) hn6 ?_
  refine r_callP C (As := [.int (nI k), .int (nI 0), .int (nI n)]) (rest := [.int (bI (inI q (nI 0) (nI 3))), .ref (ad g 19)]) (st1 := [.int (bI (inI (nI k) (nI 0) (nI n))), .int (bI (inI q (nI 0) (nI 3))), .ref (ad g 19)]) miX11_in msX11_in (c_in l (nI k) (nI 0) (nI n)) hw_5_77 rfl ⟨by decide, by decide, rfl, rfl, by decide, by decide⟩ rfl (Nat.le_of_ble_eq_true rfl) dX11_segment_11 rfl ?_
  refine G_top (y := (bI true)) (congrArg bI (inN (v := k) (Nat.zero_le _) hk (by omega))) ?_
  refine r_if_eq C 39 dX11_segment_14 (by decide) (bI_eq _) (fun h14 => ?_) (fun h14 => ?_)
  · exact absurd h14 (by decide)
  · refine r_iload_n C dX11_segment_17 3 rfl ?_
    refine r_if_lt C 39 dX11_segment_18 (by decide) (zI_lt (by omega)) (fun h18 => ?_) (fun h18 => ?_)
    · exact h18.elim
    · refine r_iload_n C dX11_segment_21 3 rfl ?_
      refine r_i2l C (v := (lN m)) dX11_segment_22 (nI_l (by omega)) ?_
      refine r_aload_n C dX11_segment_23 0 rfl ?_
      refine r_get C X (k := 19) (R := RX11) (T := TX11) (N := 15) (n := 1) (v := .int (gI μ 6)) (by decide) rfl rfl inw11 (by decide) rfl hw_5_19 rfl dX11_segment_24 ?_
      refine G_top (y := (nI n)) hn6 ?_
      refine r_iload_n C dX11_segment_27 2 rfl ?_
      refine r_callP C (As := [.int (nI n), .int (nI k)]) (rest := [.long (lN m), .int (bI (inI q (nI 0) (nI 3))), .ref (ad g 19)]) (st1 := [.long (lN (ch n k)), .long (lN m), .int (bI (inI q (nI 0) (nI 3))), .ref (ad g 19)]) miX11_over msX11_over (c_over l (a := n) (b := k) (by omega) (by omega) (ov_le (by omega) (by omega) (by omega))) hw_5_202 rfl ⟨by decide, by decide, rfl, rfl, by decide, by decide⟩ rfl (Nat.le_of_ble_eq_true rfl) dX11_segment_28 rfl ?_
      refine r_lcmp C dX11_segment_31 ?_
      refine r_if_gt C 39 dX11_segment_32 (by decide) ((lgc_gt _ _).trans (pk_lLT (by omega) (by omega))) (fun h32 => ?_) (fun h32 => ?_)
      · exact absurd h32 (by omega)
      · refine r_iconst C (v := (nI 1)) dX11_segment_35 rfl ?_
        refine r_goto C 40 dX11_segment_36 (by decide) ?_
        refine G_top (y := (bI true)) rfl ?_
        refine r_callV C X (As := [.int (bI (inI q (nI 0) (nI 3))), .int (bI true)]) (rest := []) (st1 := [.int (bI ((inI q (nI 0) (nI 3)) && true))]) (μ' := (mgM μ (inI q (nI 0) (nI 3)) true)) (k := 19) (T := TX11) miX11_mayGo mvX11_mayGo (c_mayGo l g μ (inI q (nI 0) (nI 3)) true) hw_5_103 (by decide) rfl rfl rfl ⟨by decide, by decide, rfl, rfl, by decide, by decide⟩ rfl (Nat.le_of_ble_eq_true rfl) dX11_segment_40 rfl ?_
        refine r_if_ne C 48 dX11_segment_43 (by decide) (bI_ne _) (fun h43 => ?_) (fun h43 => ?_)
        · exact absurd h43 (by rw [hq]; decide)
        · refine r_iconst C (v := (nI 0)) dX11_segment_46 rfl ?_
          exact r_iret C dX11_segment_47 Rr
