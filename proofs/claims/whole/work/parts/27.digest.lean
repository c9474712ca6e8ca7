def mpS (n nw f : Nat) (s : Mm × Int64) : Nat → Mm × Int64
  | 0 => s
  | k + 1 => (hpM (mpS n nw f s k).1 n nw f k, mx (mpS n nw f s k).2 (lN (hpA (mpS n nw f s k).1 n nw f k).toNat))
theorem gI_mpS {n nw f q : Nat} {s : Mm × Int64} : ∀ k, gI (mpS n nw f s k).1 q = gI s.1 q
  | 0 => rfl
  | k + 1 => gI_hpM.trans (gI_mpS k)
def mpM (μ : Mm) (n nw f : Nat) (h : Int64) : Mm := (mpS n nw f (μ, h) 6).1
def mpA (μ : Mm) (n nw f : Nat) (h : Int64) : Int64 := mx (mx (mpS n nw f (μ, h) 6).2 (lN (wtA (mpM μ n nw f h) n nw f false))) (lN (wtA (mpM μ n nw f h) n nw f true))
theorem gI_mpM {μ : Mm} {n nw f q : Nat} {h : Int64} : gI (mpM μ n nw f h) q = gI μ q := gI_mpS _
set_option maxHeartbeats 1000000 in
set_option maxRecDepth 100000 in
theorem lp_mixProperties {z : Zt} {A : Nat → Prop} {l : Launch} {g : Gd} {μ : Mm} (C : Cx z A l (rmk 6 137) cX10_mixProperties 7 "SetFamilies") (X : Kx z g A) {n nw f : Nat} {h : Int64} (hn : gI μ 0 = nI n) (hw : gI μ 1 = nI nw) (hn10 : n ≤ 10) (hnw : nw ≤ 16) (hs : ∀ e, e < n → 6 ≤ e → 2 ^ (e - 6) ≤ nw) (h1n : 1 ≤ n) (hf : f < 52) (Rr : Rx z g A (some .long) (some (.long (mpA μ n nw f h))) (mpM μ n nw f h)) : ∀ (n_ : Nat) (k : Nat), 6 - k < n_ → k ≤ 6 → G z g.1 A 7 (wd g ((mpS n nw f (μ, h) k).1)) 0 0 6 [(6, .int (nI k)), (4, .long ((mpS n nw f (μ, h) k).2)), (0, .ref (ad g 0)), (1, .long h), (3, .ref (ad g (fo f)))] [] := by
  intro n_
  induction n_ with
  | zero => intro k hm_; exact absurd hm_ (Nat.not_lt_zero _)
  | succ n_ ih =>
    intro k hm_ hk
    refine r_iload C dX10_mixProperties_6 0 rfl ?_
    refine r_iconst C (v := (nI 5)) dX10_mixProperties_8 rfl ?_
    refine r_icmp_gt C 40 dX10_mixProperties_9 (by decide) (nI_ltI (by omega) (by omega)) (fun h9 => ?_) (fun h9 => ?_)
    · have hk6 : k = 6 := by omega
      subst hk6
      refine G_mem (μ' := mpM μ n nw f h) rfl ?_
      refine r_lload C dX10_mixProperties_40 1 rfl ?_
      refine r_aload_n C dX10_mixProperties_42 2 rfl ?_
      refine r_aload_n C dX10_mixProperties_43 4 rfl ?_
      refine r_iconst C (v := (nI 0)) dX10_mixProperties_44 rfl ?_
      refine G_top (y := bI false) rfl ?_
      refine r_callV C X (As := [.ref (ad g (fo f)), .int (bI false)]) (rest := [.long ((mpS n nw f (μ, h) 6).2)]) (st1 := [.long (lN (wtA (mpM μ n nw f h) n nw f false)), .long ((mpS n nw f (μ, h) 6).2)]) (μ' := (mpM μ n nw f h)) (k := 0) (T := TX10) miX10_weightOf mvX10_weightOf (c_weightOf l g (mpM μ n nw f h) (n := n) (nw := nw) (f := f) ⟨(gI_mpM.trans hn), (gI_mpM.trans hw), hn10, hnw, hs, h1n⟩ (by omega) false) hw_2_182 (by decide) rfl rfl rfl ⟨by decide, by decide, rfl, rfl, by decide, by decide⟩ rfl (Nat.le_of_ble_eq_true rfl) dX10_mixProperties_45 rfl ?_
      refine r_callP C (As := [.long ((mpS n nw f (μ, h) 6).2), .long (lN (wtA (mpM μ n nw f h) n nw f false))]) (rest := []) (st1 := [.long (mx ((mpS n nw f (μ, h) 6).2) (lN (wtA (mpM μ n nw f h) n nw f false)))]) miX10_mix msX10_mix (c_mix l ((mpS n nw f (μ, h) 6).2) (lN (wtA (mpM μ n nw f h) n nw f false))) hw_2_14 rfl ⟨by decide, by decide, rfl, rfl, by decide, by decide⟩ rfl (Nat.le_of_ble_eq_true rfl) dX10_mixProperties_48 rfl ?_
      refine r_lstore C (lv' := [(4, .long (mx ((mpS n nw f (μ, h) 6).2) (lN (wtA (mpM μ n nw f h) n nw f false)))), (6, .int (nI 6)), (0, .ref (ad g 0)), (1, .long h), (3, .ref (ad g (fo f)))]) 4 dX10_mixProperties_51 (by decide) rfl ?_
      refine r_lload C dX10_mixProperties_53 0 rfl ?_
      refine r_aload_n C dX10_mixProperties_55 2 rfl ?_
      refine r_aload_n C dX10_mixProperties_56 4 rfl ?_
      refine r_iconst C (v := (nI 1)) dX10_mixProperties_57 rfl ?_
      refine G_top (y := bI true) rfl ?_
      refine r_callV C X (As := [.ref (ad g (fo f)), .int (bI true)]) (rest := [.long (mx ((mpS n nw f (μ, h) 6).2) (lN (wtA (mpM μ n nw f h) n nw f false)))]) (st1 := [.long (lN (wtA (mpM μ n nw f h) n nw f true)), .long (mx ((mpS n nw f (μ, h) 6).2) (lN (wtA (mpM μ n nw f h) n nw f false)))]) (μ' := (mpM μ n nw f h)) (k := 0) (T := TX10) miX10_weightOf mvX10_weightOf (c_weightOf l g (mpM μ n nw f h) (n := n) (nw := nw) (f := f) ⟨(gI_mpM.trans hn), (gI_mpM.trans hw), hn10, hnw, hs, h1n⟩ (by omega) true) hw_2_182 (by decide) rfl rfl rfl ⟨by decide, by decide, rfl, rfl, by decide, by decide⟩ rfl (Nat.le_of_ble_eq_true rfl) dX10_mixProperties_58 rfl ?_
      refine r_callP C (As := [.long (mx ((mpS n nw f (μ, h) 6).2) (lN (wtA (mpM μ n nw f h) n nw f false))), .long (lN (wtA (mpM μ n nw f h) n nw f true))]) (rest := []) (st1 := [.long (mx (mx ((mpS n nw f (μ, h) 6).2) (lN (wtA (mpM μ n nw f h) n nw f false))) (lN (wtA (mpM μ n nw f h) n nw f true)))]) miX10_mix msX10_mix (c_mix l (mx ((mpS n nw f (μ, h) 6).2) (lN (wtA (mpM μ n nw f h) n nw f false))) (lN (wtA (mpM μ n nw f h) n nw f true))) hw_2_14 rfl ⟨by decide, by decide, rfl, rfl, by decide, by decide⟩ rfl (Nat.le_of_ble_eq_true rfl) dX10_mixProperties_61 rfl ?_
      refine G_topl (y := (mpA μ n nw f h)) rfl ?_
      exact r_lret C dX10_mixProperties_64 Rr
    · refine r_lload C dX10_mixProperties_12 1 rfl ?_
      refine r_aload_n C dX10_mixProperties_14 2 rfl ?_
      refine r_aload_n C dX10_mixProperties_15 4 rfl ?_
      refine r_iload C dX10_mixProperties_16 0 rfl ?_
      refine r_callV C X (As := [.ref (ad g (fo f)), .int (nI k)]) (rest := [.long ((mpS n nw f (μ, h) k).2)]) (st1 := [.int (bI (hpA ((mpS n nw f (μ, h) k).1) n nw f k)), .long ((mpS n nw f (μ, h) k).2)]) (μ' := (hpM ((mpS n nw f (μ, h) k).1) n nw f k)) (k := 0) (T := TX10) miX10_hasProperty mvX10_hasProperty (c_hasProperty l g ((mpS n nw f (μ, h) k).1) (n := n) (nw := nw) (f := f) (p := k) ⟨((gI_mpS _).trans hn), ((gI_mpS _).trans hw), hn10, hnw, hs, h1n⟩ (by omega) (by omega)) hw_2_49 (by decide) rfl rfl rfl ⟨by decide, by decide, rfl, rfl, by decide, by decide⟩ rfl (Nat.le_of_ble_eq_true rfl) dX10_mixProperties_18 rfl ?_
      refine r_if_eq C 28 dX10_mixProperties_21 (by decide) (bI_eq _) (fun h21 => ?_) (fun h21 => ?_)
      · refine r_lconst C (v := (lN 0)) dX10_mixProperties_28 rfl ?_
        refine G_topl (y := (lN ((hpA (mpS n nw f (μ, h) k).1 n nw f k).toNat))) (by rw [h21]; rfl) ?_
        refine r_callP C (As := [.long ((mpS n nw f (μ, h) k).2), .long (lN ((hpA (mpS n nw f (μ, h) k).1 n nw f k).toNat))]) (rest := []) (st1 := [.long (mx ((mpS n nw f (μ, h) k).2) (lN ((hpA (mpS n nw f (μ, h) k).1 n nw f k).toNat)))]) miX10_mix msX10_mix (c_mix l ((mpS n nw f (μ, h) k).2) (lN ((hpA (mpS n nw f (μ, h) k).1 n nw f k).toNat))) hw_2_14 rfl ⟨by decide, by decide, rfl, rfl, by decide, by decide⟩ rfl (Nat.le_of_ble_eq_true rfl) dX10_mixProperties_29 rfl ?_
        refine G_topl (y := ((mpS n nw f (μ, h) (k + 1)).2)) rfl ?_
        refine r_lstore C (lv' := [(4, .long ((mpS n nw f (μ, h) (k + 1)).2)), (6, .int (nI k)), (0, .ref (ad g 0)), (1, .long h), (3, .ref (ad g (fo f)))]) 4 dX10_mixProperties_32 (by decide) rfl ?_
        refine r_iinc C (v := (nI (k + 1))) (lv' := [(6, .int (nI (k + 1))), (4, .long ((mpS n nw f (μ, h) (k + 1)).2)), (0, .ref (ad g 0)), (1, .long h), (3, .ref (ad g (fo f)))]) 6 1 dX10_mixProperties_34 rfl (inc_N _ 1) (by decide) rfl ?_
        refine r_goto C 6 dX10_mixProperties_37 (by decide) ?_
        exact ih (k + 1) (by omega) (by omega)
      · refine r_lconst C (v := (lN 1)) dX10_mixProperties_24 rfl ?_
        refine r_goto C 29 dX10_mixProperties_25 (by decide) ?_
        refine G_topl (y := (lN ((hpA (mpS n nw f (μ, h) k).1 n nw f k).toNat))) (by rw [ts_t h21]; rfl) ?_
        refine r_callP C (As := [.long ((mpS n nw f (μ, h) k).2), .long (lN ((hpA (mpS n nw f (μ, h) k).1 n nw f k).toNat))]) (rest := []) (st1 := [.long (mx ((mpS n nw f (μ, h) k).2) (lN ((hpA (mpS n nw f (μ, h) k).1 n nw f k).toNat)))]) miX10_mix msX10_mix (c_mix l ((mpS n nw f (μ, h) k).2) (lN ((hpA (mpS n nw f (μ, h) k).1 n nw f k).toNat))) hw_2_14 rfl ⟨by decide, by decide, rfl, rfl, by decide, by decide⟩ rfl (Nat.le_of_ble_eq_true rfl) dX10_mixProperties_29 rfl ?_
        refine G_topl (y := ((mpS n nw f (μ, h) (k + 1)).2)) rfl ?_
        refine r_lstore C (lv' := [(4, .long ((mpS n nw f (μ, h) (k + 1)).2)), (6, .int (nI k)), (0, .ref (ad g 0)), (1, .long h), (3, .ref (ad g (fo f)))]) 4 dX10_mixProperties_32 (by decide) rfl ?_
        refine r_iinc C (v := (nI (k + 1))) (lv' := [(6, .int (nI (k + 1))), (4, .long ((mpS n nw f (μ, h) (k + 1)).2)), (0, .ref (ad g 0)), (1, .long h), (3, .ref (ad g (fo f)))]) 6 1 dX10_mixProperties_34 rfl (inc_N _ 1) (by decide) rfl ?_
        refine r_goto C 6 dX10_mixProperties_37 (by decide) ?_
        exact ih (k + 1) (by omega) (by omega)
set_option maxHeartbeats 1000000 in
set_option maxRecDepth 100000 in
theorem c_mixProperties (l : Launch) (g : Gd) (μ : Mm) {n nw f : Nat} (hO : Ok μ n nw) (hf : f < 52) (h : Int64) : Ct l yX10_mixProperties cX10_mixProperties 7 (some .long) (rmk 6 137) g [.ref (ad g 0), .long h, .ref (ad g (fo f))] μ (some (.long (mpA μ n nw f h))) (mpM μ n nw f h) := by
  obtain ⟨hn, hw, hn10, hnw, hs, h1n⟩ := hO
  refine Ct.of (by decide) (Nat.le_of_ble_eq_true rfl) (fun z A C X Rr => ?_)
  refine r_lload_n C dX10_mixProperties_0 1 rfl ?_
  refine r_lstore C (lv' := [(4, .long h), (0, .ref (ad g 0)), (1, .long h), (3, .ref (ad g (fo f)))]) 4 dX10_mixProperties_1 (by decide) rfl ?_
  refine r_iconst C (v := (nI 0)) dX10_mixProperties_3 rfl ?_
  refine r_istore C (lv' := [(6, .int (nI 0)), (4, .long h), (0, .ref (ad g 0)), (1, .long h), (3, .ref (ad g (fo f)))]) 6 dX10_mixProperties_4 (by decide) rfl ?_
  refine G_mem (μ' := (mpS n nw f (μ, h) 0).1) rfl ?_
  exact lp_mixProperties C X hn hw hn10 hnw hs h1n hf Rr 7 0 (by decide) (by decide)
theorem flF_lt {n nw f : Nat} (h : 2 ^ n ≤ 1024) : ∀ (r k nx b bs : Nat) (M : Mm), k + r ≤ 2 ^ n → b < 1024 → (flF n nw f r k nx b bs M).2 < 1024
  | 0, _, _, _, _, _, _, hb => hb
  | r + 1, k, nx, b, bs, M, hk, hb => by
    have h0 := Nat.two_pow_pos n
    rw [flF]
    split
    · exact flF_lt h _ _ _ _ _ _ (by omega) hb
    · split
      · exact flF_lt h _ _ _ _ _ _ (by omega) (Nat.lt_of_lt_of_le (Nat.xor_lt_two_pow (n := n) (by omega) (by omega)) h)
      · exact flF_lt h _ _ _ _ _ _ (by omega) hb
theorem flA_ok {μ : Mm} {n nw f : Nat} (h : 2 ^ n ≤ 1024) : flA μ n nw f = -1 ∨ ∃ c, c < 1024 ∧ flA μ n nw f = nI c := by
  unfold flA; split
  · exact Or.inl rfl
  · exact Or.inr ⟨_, flF_lt h _ _ _ _ _ _ (by omega) (by decide), rfl⟩
def ms0 (μ : Mm) (n nw f : Nat) : Mm := mPC (lcF n nw f (2 ^ n) 0 0 (flM μ n nw f)).1 n f
def msh (μ : Mm) (n nw f : Nat) (h : Int64) : Int64 := mx (mx (mx h (sonA (flA μ n nw f)).toInt64) (flA μ n nw f).toInt64) (lcF n nw f (2 ^ n) 0 0 (flM μ n nw f)).2.toInt64
theorem gI_ms0 {μ : Mm} {n nw f q : Nat} : gI (ms0 μ n nw f) q = gI μ q := gI_mPC.trans ((gI_lcF _ _ _ _).trans gI_flM)
def ms1 (M : Mm) (h : Int64) : Nat → Int64 := foldx (fun c => (gJ M 52 c).toInt32.toInt64) h
def ms2 (n nw f : Nat) (s : Mm × Int64) : Nat → Mm × Int64
  | 0 => s
  | k + 1 => (exM (ms2 n nw f s k).1 n nw f (k + 1), mx (ms2 n nw f s k).2 (exA (ms2 n nw f s k).1 n nw f (k + 1)).toInt64)
theorem gI_ms2 {n nw f q : Nat} {s : Mm × Int64} : ∀ k, gI (ms2 n nw f s k).1 q = gI s.1 q
  | 0 => rfl
  | k + 1 => gI_exM.trans (gI_ms2 k)
def msT (μ : Mm) (n nw f : Nat) (h : Int64) : Mm × Int64 := ms2 n nw f (ms0 μ n nw f, ms1 (ms0 μ n nw f) (msh μ n nw f h) (n + 1)) n
theorem gI_msT {μ : Mm} {n nw f q : Nat} {h : Int64} : gI (msT μ n nw f h).1 q = gI μ q := (gI_ms2 _).trans gI_ms0
set_option maxHeartbeats 1000000 in
set_option maxRecDepth 100000 in
theorem lp_mixStructure1 {z : Zt} {A : Nat → Prop} {l : Launch} {g : Gd} (C : Cx z A l (rmk 6 136) cX10_mixStructure 8 "SetFamilies") (X : Kx z g A) {M : Mm} {n f : Nat} {h h0 : Int64} (hn : gI M 0 = nI n) (hn10 : n ≤ 10) (KK : G z g.1 A 8 (wd g M) 0 0 94 [(5, .long (ms1 M h0 (n + 1))), (0, .ref (ad g 0)), (1, .long h), (3, .ref (ad g (fo f)))] []) : ∀ (n_ : Nat) (c : Nat), n + 1 - c < n_ → c ≤ n + 1 → G z g.1 A 8 (wd g M) 0 0 59 [(7, .int (nI c)), (5, .long (ms1 M h0 c)), (0, .ref (ad g 0)), (1, .long h), (3, .ref (ad g (fo f)))] [] := by
  intro n_
  induction n_ with
  | zero => intro c hm_; exact absurd hm_ (Nat.not_lt_zero _)
  | succ n_ ih =>
    intro c hm_ hc
    refine r_iload C dX10_mixStructure_59 0 rfl ?_
    refine r_aload_n C dX10_mixStructure_61 2 rfl ?_
    refine r_get C X (k := 0) (R := RX10) (T := TX10) (N := 12) (n := 0) (v := .ref (ad g 1)) (by decide) rfl rfl inw10 (by decide) rfl hw_1_208 rfl dX10_mixStructure_62 ?_
    refine r_get C X (k := 1) (R := RX4) (T := TX4) (N := 2) (n := 0) (v := .int (gI M 0)) (by decide) rfl rfl inw4 (by decide) rfl hw_1_42 rfl dX10_mixStructure_65 ?_
    refine G_top (y := (nI n)) hn ?_
    refine r_icmp_gt C 94 dX10_mixStructure_68 (by decide) (nI_ltI (by omega) (by omega)) (fun h68 => ?_) (fun h68 => ?_)
    · have hcn : c = n + 1 := by omega
      subst hcn
      refine G_sub (lv' := [(5, .long (ms1 M h0 (n + 1))), (0, .ref (ad g 0)), (1, .long h), (3, .ref (ad g (fo f)))]) [1, 2, 3, 4] rfl ?_
      exact KK
    · refine r_lload C dX10_mixStructure_71 1 rfl ?_
      refine r_aload_n C dX10_mixStructure_73 2 rfl ?_
      refine r_get C X (k := 0) (R := RX10) (T := TX10) (N := 12) (n := 8) (v := .ref (ad g 15)) (by decide) rfl rfl inw10 (by decide) rfl hw_1_216 rfl dX10_mixStructure_74 ?_
      refine r_iload C dX10_mixStructure_77 0 rfl ?_
      refine r_callV C X (As := [.int (nI c)]) (rest := [.long (ms1 M h0 c)]) (st1 := [.int ((gJ M 52 c).toInt32), .long (ms1 M h0 c)]) (μ' := M) (k := 15) (T := TX6) miX6_withCommon mvX6_withCommon (c_withCommon l g M (c := c) (by omega)) hw_3_61 (by decide) rfl rfl rfl ⟨by decide, by decide, rfl, rfl, by decide, by decide⟩ rfl (Nat.le_of_ble_eq_true rfl) dX10_mixStructure_79 rfl ?_
      refine r_i2l C (v := ((((gJ M 52 c).toInt32)).toInt64)) dX10_mixStructure_82 rfl ?_
      refine r_callP C (As := [.long (ms1 M h0 c), .long ((((gJ M 52 c).toInt32)).toInt64)]) (rest := []) (st1 := [.long (mx (ms1 M h0 c) ((((gJ M 52 c).toInt32)).toInt64))]) miX10_mix msX10_mix (c_mix l (ms1 M h0 c) ((((gJ M 52 c).toInt32)).toInt64)) hw_2_14 rfl ⟨by decide, by decide, rfl, rfl, by decide, by decide⟩ rfl (Nat.le_of_ble_eq_true rfl) dX10_mixStructure_83 rfl ?_
      refine G_topl (y := (ms1 M h0 (c + 1))) rfl ?_
      refine r_lstore C (lv' := [(5, .long (ms1 M h0 (c + 1))), (7, .int (nI c)), (0, .ref (ad g 0)), (1, .long h), (3, .ref (ad g (fo f)))]) 5 dX10_mixStructure_86 (by decide) rfl ?_
      refine r_iinc C (v := (nI (c + 1))) (lv' := [(7, .int (nI (c + 1))), (5, .long (ms1 M h0 (c + 1))), (0, .ref (ad g 0)), (1, .long h), (3, .ref (ad g (fo f)))]) 7 1 dX10_mixStructure_88 rfl (inc_N _ 1) (by decide) rfl ?_
      refine r_goto C 59 dX10_mixStructure_91 (by decide) ?_
      exact ih (c + 1) (by omega) (by omega)
set_option maxHeartbeats 1000000 in
set_option maxRecDepth 100000 in
theorem lp_mixStructure2 {z : Zt} {A : Nat → Prop} {l : Launch} {g : Gd} (C : Cx z A l (rmk 6 136) cX10_mixStructure 8 "SetFamilies") (X : Kx z g A) {n nw f : Nat} {h : Int64} {s : Mm × Int64} (hn : gI s.1 0 = nI n) (hw : gI s.1 1 = nI nw) (hn10 : n ≤ 10) (hnw : nw ≤ 16) (hs : ∀ e, e < n → 6 ≤ e → 2 ^ (e - 6) ≤ nw) (h1n : 1 ≤ n) (hf : f < 52) (Rr : Rx z g A (some .long) (some (.long (ms2 n nw f s n).2)) (ms2 n nw f s n).1) : ∀ (n_ : Nat) (k : Nat), n - k < n_ → k ≤ n → G z g.1 A 8 (wd g ((ms2 n nw f s k).1)) 0 0 97 [(7, .int (nI (k + 1))), (5, .long ((ms2 n nw f s k).2)), (0, .ref (ad g 0)), (1, .long h), (3, .ref (ad g (fo f)))] [] := by
  intro n_
  induction n_ with
  | zero => intro k hm_; exact absurd hm_ (Nat.not_lt_zero _)
  | succ n_ ih =>
    intro k hm_ hk
    refine r_iload C dX10_mixStructure_97 0 rfl ?_
    refine r_aload_n C dX10_mixStructure_99 2 rfl ?_
    refine r_get C X (k := 0) (R := RX10) (T := TX10) (N := 12) (n := 0) (v := .ref (ad g 1)) (by decide) rfl rfl inw10 (by decide) rfl hw_1_208 rfl dX10_mixStructure_100 ?_
    refine r_get C X (k := 1) (R := RX4) (T := TX4) (N := 2) (n := 0) (v := .int (gI ((ms2 n nw f s k).1) 0)) (by decide) rfl rfl inw4 (by decide) rfl hw_1_42 rfl dX10_mixStructure_103 ?_
    refine G_top (y := (nI n)) ((gI_ms2 _).trans hn) ?_
    refine r_icmp_gt C 130 dX10_mixStructure_106 (by decide) (nI_ltI (by omega) (by omega)) (fun h106 => ?_) (fun h106 => ?_)
    · have hkn : k = n := by omega
      subst hkn
      refine r_lload C dX10_mixStructure_130 1 rfl ?_
      exact r_lret C dX10_mixStructure_132 Rr
    · refine r_lload C dX10_mixStructure_109 1 rfl ?_
      refine r_aload_n C dX10_mixStructure_111 2 rfl ?_
      refine r_aload_n C dX10_mixStructure_112 4 rfl ?_
      refine r_iload C dX10_mixStructure_113 0 rfl ?_
      refine r_callV C X (As := [.ref (ad g (fo f)), .int (nI (k + 1))]) (rest := [.long ((ms2 n nw f s k).2)]) (st1 := [.int (exA ((ms2 n nw f s k).1) n nw f (k + 1)), .long ((ms2 n nw f s k).2)]) (μ' := (exM ((ms2 n nw f s k).1) n nw f (k + 1))) (k := 0) (T := TX10) miX10_excessOf mvX10_excessOf (c_excessOf l g ((ms2 n nw f s k).1) (n := n) (nw := nw) (f := f) (lv := k + 1) ⟨((gI_ms2 _).trans hn), ((gI_ms2 _).trans hw), hn10, hnw, hs, h1n⟩ (by omega) (by omega)) hw_3_65 (by decide) rfl rfl rfl ⟨by decide, by decide, rfl, rfl, by decide, by decide⟩ rfl (Nat.le_of_ble_eq_true rfl) dX10_mixStructure_115 rfl ?_
      refine r_i2l C (v := (((exA ((ms2 n nw f s k).1) n nw f (k + 1))).toInt64)) dX10_mixStructure_118 rfl ?_
      refine r_callP C (As := [.long ((ms2 n nw f s k).2), .long (((exA ((ms2 n nw f s k).1) n nw f (k + 1))).toInt64)]) (rest := []) (st1 := [.long (mx ((ms2 n nw f s k).2) (((exA ((ms2 n nw f s k).1) n nw f (k + 1))).toInt64))]) miX10_mix msX10_mix (c_mix l ((ms2 n nw f s k).2) (((exA ((ms2 n nw f s k).1) n nw f (k + 1))).toInt64)) hw_2_14 rfl ⟨by decide, by decide, rfl, rfl, by decide, by decide⟩ rfl (Nat.le_of_ble_eq_true rfl) dX10_mixStructure_119 rfl ?_
      refine G_topl (y := ((ms2 n nw f s (k + 1)).2)) rfl ?_
      refine r_lstore C (lv' := [(5, .long ((ms2 n nw f s (k + 1)).2)), (7, .int (nI (k + 1))), (0, .ref (ad g 0)), (1, .long h), (3, .ref (ad g (fo f)))]) 5 dX10_mixStructure_122 (by decide) rfl ?_
      refine r_iinc C (v := (nI (k + 1 + 1))) (lv' := [(7, .int (nI (k + 1 + 1))), (5, .long ((ms2 n nw f s (k + 1)).2)), (0, .ref (ad g 0)), (1, .long h), (3, .ref (ad g (fo f)))]) 7 1 dX10_mixStructure_124 rfl (inc_N _ 1) (by decide) rfl ?_
      refine r_goto C 97 dX10_mixStructure_127 (by decide) ?_
      exact ih (k + 1) (by omega) (by omega)
set_option maxHeartbeats 1000000 in
set_option maxRecDepth 100000 in
theorem c_mixStructure (l : Launch) (g : Gd) (μ : Mm) {n nw f : Nat} (hO : Ok μ n nw) (hf : f < 52) (h : Int64) : Ct l yX10_mixStructure cX10_mixStructure 8 (some .long) (rmk 6 136) g [.ref (ad g 0), .long h, .ref (ad g (fo f))] μ (some (.long ((msT μ n nw f h).2))) ((msT μ n nw f h).1) := by
  obtain ⟨hn, hw, hn10, hnw, hs, h1n⟩ := hO
  have h1024 := pw10 hn10
  refine Ct.of (by decide) (Nat.le_of_ble_eq_true rfl) (fun z A C X Rr => ?_)
  refine r_aload_n C dX10_mixStructure_0 0 rfl ?_
  refine r_get C X (k := 0) (R := RX10) (T := TX10) (N := 12) (n := 6) (v := .ref (ad g 10)) (by decide) rfl rfl inw10 (by decide) rfl hw_1_214 rfl dX10_mixStructure_1 ?_
  refine r_aload_n C dX10_mixStructure_4 2 rfl ?_
  refine r_callV C X (As := [.ref (ad g (fo f))]) (rest := []) (st1 := [.int (flA μ n nw f)]) (μ' := (flM μ n nw f)) (k := 10) (T := TX7) miX7_firstLargest mvX7_firstLargest (c_firstLargest l g μ (n := n) (nw := nw) (f := f) ⟨hn, hw, hn10, hnw, hs, h1n⟩ (by omega)) hw_2_215 (by decide) rfl rfl rfl ⟨by decide, by decide, rfl, rfl, by decide, by decide⟩ rfl (Nat.le_of_ble_eq_true rfl) dX10_mixStructure_5 rfl ?_
  refine r_istore C (lv' := [(4, .int (flA μ n nw f)), (0, .ref (ad g 0)), (1, .long h), (3, .ref (ad g (fo f)))]) 4 dX10_mixStructure_8 (by decide) rfl ?_
  refine r_lload_n C dX10_mixStructure_10 2 rfl ?_
  refine r_iload C dX10_mixStructure_11 0 rfl ?_
  refine r_callP C (As := [.int (flA μ n nw f)]) (rest := [.long h]) (st1 := [.int (sonA (flA μ n nw f)), .long h]) miX10_sizeOrNone msX10_sizeOrNone (c_sizeOrNone l (v := (flA μ n nw f)) (flA_ok h1024)) hw_3_2 rfl ⟨by decide, by decide, rfl, rfl, by decide, by decide⟩ rfl (Nat.le_of_ble_eq_true rfl) dX10_mixStructure_13 rfl ?_
  refine r_i2l C (v := (((sonA (flA μ n nw f))).toInt64)) dX10_mixStructure_16 rfl ?_
  refine r_callP C (As := [.long h, .long (((sonA (flA μ n nw f))).toInt64)]) (rest := []) (st1 := [.long (mx h (((sonA (flA μ n nw f))).toInt64))]) miX10_mix msX10_mix (c_mix l h (((sonA (flA μ n nw f))).toInt64)) hw_2_14 rfl ⟨by decide, by decide, rfl, rfl, by decide, by decide⟩ rfl (Nat.le_of_ble_eq_true rfl) dX10_mixStructure_17 rfl ?_
  refine r_lstore C (lv' := [(5, .long (mx h (((sonA (flA μ n nw f))).toInt64))), (4, .int (flA μ n nw f)), (0, .ref (ad g 0)), (1, .long h), (3, .ref (ad g (fo f)))]) 5 dX10_mixStructure_20 (by decide) rfl ?_
  refine r_lload C dX10_mixStructure_22 0 rfl ?_
  refine r_iload C dX10_mixStructure_24 1 rfl ?_
  refine r_i2l C (v := (((flA μ n nw f)).toInt64)) dX10_mixStructure_26 rfl ?_
  refine r_callP C (As := [.long (mx h (((sonA (flA μ n nw f))).toInt64)), .long (((flA μ n nw f)).toInt64)]) (rest := []) (st1 := [.long (mx (mx h (((sonA (flA μ n nw f))).toInt64)) (((flA μ n nw f)).toInt64))]) miX10_mix msX10_mix (c_mix l (mx h (((sonA (flA μ n nw f))).toInt64)) (((flA μ n nw f)).toInt64)) hw_2_14 rfl ⟨by decide, by decide, rfl, rfl, by decide, by decide⟩ rfl (Nat.le_of_ble_eq_true rfl) dX10_mixStructure_27 rfl ?_
  refine r_lstore C (lv' := [(5, .long (mx (mx h (((sonA (flA μ n nw f))).toInt64)) (((flA μ n nw f)).toInt64))), (4, .int (flA μ n nw f)), (0, .ref (ad g 0)), (1, .long h), (3, .ref (ad g (fo f)))]) 5 dX10_mixStructure_30 (by decide) rfl ?_
  refine r_lload C dX10_mixStructure_32 0 rfl ?_
  refine r_aload_n C dX10_mixStructure_34 2 rfl ?_
  refine r_get C X (k := 0) (R := RX10) (T := TX10) (N := 12) (n := 7) (v := .ref (ad g 12)) (by decide) rfl rfl inw10 (by decide) rfl hw_1_215 rfl dX10_mixStructure_35 ?_
  refine r_aload_n C dX10_mixStructure_38 4 rfl ?_
  refine r_callV C X (As := [.ref (ad g (fo f))]) (rest := [.long (mx (mx h (((sonA (flA μ n nw f))).toInt64)) (((flA μ n nw f)).toInt64))]) (st1 := [.int ((lcF n nw f (2 ^ n) 0 0 (flM μ n nw f)).2), .long (mx (mx h (((sonA (flA μ n nw f))).toInt64)) (((flA μ n nw f)).toInt64))]) (μ' := ((lcF n nw f (2 ^ n) 0 0 (flM μ n nw f)).1)) (k := 12) (T := TX8) miX8_leastCore mvX8_leastCore (c_leastCore l g (flM μ n nw f) (n := n) (nw := nw) (f := f) ⟨(gI_flM.trans hn), (gI_flM.trans hw), hn10, hnw, hs, h1n⟩ (by omega)) hw_3_6 (by decide) rfl rfl rfl ⟨by decide, by decide, rfl, rfl, by decide, by decide⟩ rfl (Nat.le_of_ble_eq_true rfl) dX10_mixStructure_39 rfl ?_
  refine r_i2l C (v := ((((lcF n nw f (2 ^ n) 0 0 (flM μ n nw f)).2)).toInt64)) dX10_mixStructure_42 rfl ?_
  refine r_callP C (As := [.long (mx (mx h (((sonA (flA μ n nw f))).toInt64)) (((flA μ n nw f)).toInt64)), .long ((((lcF n nw f (2 ^ n) 0 0 (flM μ n nw f)).2)).toInt64)]) (rest := []) (st1 := [.long (mx (mx (mx h (((sonA (flA μ n nw f))).toInt64)) (((flA μ n nw f)).toInt64)) ((((lcF n nw f (2 ^ n) 0 0 (flM μ n nw f)).2)).toInt64))]) miX10_mix msX10_mix (c_mix l (mx (mx h (((sonA (flA μ n nw f))).toInt64)) (((flA μ n nw f)).toInt64)) ((((lcF n nw f (2 ^ n) 0 0 (flM μ n nw f)).2)).toInt64)) hw_2_14 rfl ⟨by decide, by decide, rfl, rfl, by decide, by decide⟩ rfl (Nat.le_of_ble_eq_true rfl) dX10_mixStructure_43 rfl ?_
  refine r_lstore C (lv' := [(5, .long (mx (mx (mx h (((sonA (flA μ n nw f))).toInt64)) (((flA μ n nw f)).toInt64)) ((((lcF n nw f (2 ^ n) 0 0 (flM μ n nw f)).2)).toInt64))), (4, .int (flA μ n nw f)), (0, .ref (ad g 0)), (1, .long h), (3, .ref (ad g (fo f)))]) 5 dX10_mixStructure_46 (by decide) rfl ?_
  refine r_aload_n C dX10_mixStructure_48 2 rfl ?_
  refine r_get C X (k := 0) (R := RX10) (T := TX10) (N := 12) (n := 8) (v := .ref (ad g 15)) (by decide) rfl rfl inw10 (by decide) rfl hw_1_216 rfl dX10_mixStructure_49 ?_
  refine r_aload_n C dX10_mixStructure_52 4 rfl ?_
  refine r_callV C X (As := [.ref (ad g (fo f))]) (rest := []) (st1 := []) (μ' := (mPC ((lcF n nw f (2 ^ n) 0 0 (flM μ n nw f)).1) n f)) (k := 15) (T := TX6) miX6_countAll mvX6_countAll (c_countAll l g ((lcF n nw f (2 ^ n) 0 0 (flM μ n nw f)).1) (n := n) (nw := nw) (f := f) ⟨((gI_lcF _ _ _ _).trans (gI_flM.trans hn)), ((gI_lcF _ _ _ _).trans (gI_flM.trans hw)), hn10, hnw, hs, h1n⟩ (by omega)) hw_3_43 (by decide) rfl rfl rfl ⟨by decide, by decide, rfl, rfl, by decide, by decide⟩ rfl (Nat.le_of_ble_eq_true rfl) dX10_mixStructure_53 rfl ?_
  refine G_mem (μ' := ms0 μ n nw f) rfl ?_
  refine r_iconst C (v := (nI 0)) dX10_mixStructure_56 rfl ?_
  refine r_istore C (lv' := [(7, .int (nI 0)), (5, .long (mx (mx (mx h (((sonA (flA μ n nw f))).toInt64)) (((flA μ n nw f)).toInt64)) ((((lcF n nw f (2 ^ n) 0 0 (flM μ n nw f)).2)).toInt64))), (4, .int (flA μ n nw f)), (0, .ref (ad g 0)), (1, .long h), (3, .ref (ad g (fo f)))]) 7 dX10_mixStructure_57 (by decide) rfl ?_
  refine G_sub (lv' := [(7, .int (nI 0)), (5, .long (ms1 (ms0 μ n nw f) (msh μ n nw f h) 0)), (0, .ref (ad g 0)), (1, .long h), (3, .ref (ad g (fo f)))]) [0, 1, 3, 4, 5] rfl ?_
  refine lp_mixStructure1 C X (M := ms0 μ n nw f) (h0 := msh μ n nw f h) (gI_ms0.trans hn) hn10 ?_ (n + 2) 0 (by omega) (by omega)
  refine r_iconst C (v := (nI 1)) dX10_mixStructure_94 rfl ?_
  refine r_istore C (lv' := [(7, .int (nI 1)), (5, .long (ms1 (ms0 μ n nw f) (msh μ n nw f h) (n + 1))), (0, .ref (ad g 0)), (1, .long h), (3, .ref (ad g (fo f)))]) 7 dX10_mixStructure_95 (by decide) rfl ?_
  exact lp_mixStructure2 C X (s := (ms0 μ n nw f, ms1 (ms0 μ n nw f) (msh μ n nw f h) (n + 1))) (gI_ms0.trans hn) (gI_ms0.trans hw) hn10 hnw hs h1n hf Rr (n + 1) 0 (by omega) (by omega)
def dg1 (n nw : Nat) (s : Mm × Int64) : Nat → Mm × Int64
  | 0 => s
  | f + 1 => let t := dg1 n nw s f; let h1 := mm2 t.1 nw (0 + f) t.2 n; let M1 := mmM t.1 nw (0 + f); msT (mpM M1 n nw (0 + f) h1) n nw (0 + f) (mpA M1 n nw (0 + f) h1)
theorem gI_dg1 {n nw q : Nat} {s : Mm × Int64} : ∀ f, gI (dg1 n nw s f).1 q = gI s.1 q
  | 0 => rfl
  | f + 1 => gI_msT.trans (gI_mpM.trans (gI_mmM.trans (gI_dg1 f)))
def dg2 (n nw f : Nat) (s : Mm × Int64) : Nat → Mm × Int64
  | 0 => s
  | g + 1 => (fdM (dg2 n nw f s g).1 n nw (0 + f) (0 + g), mx (dg2 n nw f s g).2 (fdA (dg2 n nw f s g).1 n nw (0 + f) (0 + g)).toInt64)
theorem gI_dg2 {n nw f q : Nat} {s : Mm × Int64} : ∀ g, gI (dg2 n nw f s g).1 q = gI s.1 q
  | 0 => rfl
  | g + 1 => gI_fdM.trans (gI_dg2 g)
def dg3 (n nw : Nat) (s : Mm × Int64) : Nat → Mm × Int64
  | 0 => s
  | f + 1 => dg2 n nw f (dg3 n nw s f) 4
theorem gI_dg3 {n nw q : Nat} {s : Mm × Int64} : ∀ f, gI (dg3 n nw s f).1 q = gI s.1 q
  | 0 => rfl
  | f + 1 => (gI_dg2 _).trans (gI_dg3 f)
def dgh (d tl n : Nat) : Int64 := mx (mx (mx 18454 (lN d)) (lN tl)) (lN n)
def dgT (μ : Mm) (n nw d tl : Nat) : Mm × Int64 := dg3 n nw (dg1 n nw (μ, dgh d tl n) 4) 4
set_option maxHeartbeats 1000000 in
set_option maxRecDepth 100000 in
theorem lp_digest1 {z : Zt} {A : Nat → Prop} {l : Launch} {g : Gd} (C : Cx z A l (rmk 7 163) cX10_digest 5 "SetFamilies") (X : Kx z g A) {n nw : Nat} {s : Mm × Int64} (hn : gI s.1 0 = nI n) (hw : gI s.1 1 = nI nw) (hn10 : n ≤ 10) (hnw : nw ≤ 16) (hs : ∀ e, e < n → 6 ≤ e → 2 ^ (e - 6) ≤ nw) (h1n : 1 ≤ n) (KK : G z g.1 A 5 (wd g (dg1 n nw s 4).1) 0 0 92 [(1, .long ((dg1 n nw s 4).2)), (0, .ref (ad g 0))] []) : ∀ (n_ : Nat) (f : Nat), 4 - f < n_ → f ≤ 4 → G z g.1 A 5 (wd g ((dg1 n nw s f).1)) 0 0 45 [(3, .int (nI f)), (1, .long ((dg1 n nw s f).2)), (0, .ref (ad g 0))] [] := by
  intro n_
  induction n_ with
  | zero => intro f hm_; exact absurd hm_ (Nat.not_lt_zero _)
  | succ n_ ih =>
    intro f hm_ hf
    refine r_iload_n C dX10_digest_45 0 rfl ?_
    refine r_iconst C (v := (nI 4)) dX10_digest_46 rfl ?_
    refine r_icmp_ge C 92 dX10_digest_47 (by decide) (nI_leI (by omega) (by omega)) (fun h47 => ?_) (fun h47 => ?_)
    · have hf4 : f = 4 := by omega
      subst hf4
      refine G_sub (lv' := [(1, .long ((dg1 n nw s 4).2)), (0, .ref (ad g 0))]) [1, 2] rfl ?_
      exact KK
    · refine r_aload_n C dX10_digest_50 2 rfl ?_
      refine r_lload_n C dX10_digest_51 1 rfl ?_
      refine r_aload_n C dX10_digest_52 2 rfl ?_
      refine r_get C X (k := 0) (R := RX10) (T := TX10) (N := 12) (n := 1) (v := .ref (ad g 2)) (by decide) rfl rfl inw10 (by decide) rfl hw_1_209 rfl dX10_digest_53 ?_
      refine r_iload_n C dX10_digest_56 0 rfl ?_
      refine r_aald C X (k := 2) (n := 4) (b := 0) (by decide) rfl (by omega) (by decide) dX10_digest_57 ?_
      refine r_callV C X (As := [.long ((dg1 n nw s f).2), .ref (ad g (fo (0 + f)))]) (rest := []) (st1 := [.long (mm2 ((dg1 n nw s f).1) nw (0 + f) ((dg1 n nw s f).2) n)]) (μ' := (mmM ((dg1 n nw s f).1) nw (0 + f))) (k := 0) (T := TX10) miX10_mixMembers mvX10_mixMembers (c_mixMembers l g ((dg1 n nw s f).1) (n := n) (nw := nw) (f := (0 + f)) ⟨((gI_dg1 _).trans hn), ((gI_dg1 _).trans hw), hn10, hnw, hs, h1n⟩ (by omega) ((dg1 n nw s f).2)) hw_2_18 (by decide) rfl rfl rfl ⟨by decide, by decide, rfl, rfl, by decide, by decide⟩ rfl (Nat.le_of_ble_eq_true rfl) dX10_digest_58 rfl ?_
      refine r_lstore_n C (lv' := [(1, .long (mm2 ((dg1 n nw s f).1) nw (0 + f) ((dg1 n nw s f).2) n)), (3, .int (nI f)), (0, .ref (ad g 0))]) 1 dX10_digest_61 rfl (by decide) rfl ?_
      refine r_aload_n C dX10_digest_62 2 rfl ?_
      refine r_lload_n C dX10_digest_63 0 rfl ?_
      refine r_aload_n C dX10_digest_64 2 rfl ?_
      refine r_get C X (k := 0) (R := RX10) (T := TX10) (N := 12) (n := 1) (v := .ref (ad g 2)) (by decide) rfl rfl inw10 (by decide) rfl hw_1_209 rfl dX10_digest_65 ?_
      refine r_iload_n C dX10_digest_68 1 rfl ?_
      refine r_aald C X (k := 2) (n := 4) (b := 0) (by decide) rfl (by omega) (by decide) dX10_digest_69 ?_
      refine r_callV C X (As := [.long (mm2 ((dg1 n nw s f).1) nw (0 + f) ((dg1 n nw s f).2) n), .ref (ad g (fo (0 + f)))]) (rest := []) (st1 := [.long (mpA (mmM ((dg1 n nw s f).1) nw (0 + f)) n nw (0 + f) (mm2 ((dg1 n nw s f).1) nw (0 + f) ((dg1 n nw s f).2) n))]) (μ' := (mpM (mmM ((dg1 n nw s f).1) nw (0 + f)) n nw (0 + f) (mm2 ((dg1 n nw s f).1) nw (0 + f) ((dg1 n nw s f).2) n))) (k := 0) (T := TX10) miX10_mixProperties mvX10_mixProperties (c_mixProperties l g (mmM ((dg1 n nw s f).1) nw (0 + f)) (n := n) (nw := nw) (f := (0 + f)) ⟨(gI_mmM.trans ((gI_dg1 _).trans hn)), (gI_mmM.trans ((gI_dg1 _).trans hw)), hn10, hnw, hs, h1n⟩ (by omega) (mm2 ((dg1 n nw s f).1) nw (0 + f) ((dg1 n nw s f).2) n)) hw_2_45 (by decide) rfl rfl rfl ⟨by decide, by decide, rfl, rfl, by decide, by decide⟩ rfl (Nat.le_of_ble_eq_true rfl) dX10_digest_70 rfl ?_
      refine r_lstore_n C (lv' := [(1, .long (mpA (mmM ((dg1 n nw s f).1) nw (0 + f)) n nw (0 + f) (mm2 ((dg1 n nw s f).1) nw (0 + f) ((dg1 n nw s f).2) n))), (3, .int (nI f)), (0, .ref (ad g 0))]) 1 dX10_digest_73 rfl (by decide) rfl ?_
      refine r_aload_n C dX10_digest_74 2 rfl ?_
      refine r_lload_n C dX10_digest_75 0 rfl ?_
      refine r_aload_n C dX10_digest_76 2 rfl ?_
      refine r_get C X (k := 0) (R := RX10) (T := TX10) (N := 12) (n := 1) (v := .ref (ad g 2)) (by decide) rfl rfl inw10 (by decide) rfl hw_1_209 rfl dX10_digest_77 ?_
      refine r_iload_n C dX10_digest_80 1 rfl ?_
      refine r_aald C X (k := 2) (n := 4) (b := 0) (by decide) rfl (by omega) (by decide) dX10_digest_81 ?_
      refine r_callV C X (As := [.long (mpA (mmM ((dg1 n nw s f).1) nw (0 + f)) n nw (0 + f) (mm2 ((dg1 n nw s f).1) nw (0 + f) ((dg1 n nw s f).2) n)), .ref (ad g (fo (0 + f)))]) (rest := []) (st1 := [.long ((msT (mpM (mmM ((dg1 n nw s f).1) nw (0 + f)) n nw (0 + f) (mm2 ((dg1 n nw s f).1) nw (0 + f) ((dg1 n nw s f).2) n)) n nw (0 + f) (mpA (mmM ((dg1 n nw s f).1) nw (0 + f)) n nw (0 + f) (mm2 ((dg1 n nw s f).1) nw (0 + f) ((dg1 n nw s f).2) n))).2)]) (μ' := ((msT (mpM (mmM ((dg1 n nw s f).1) nw (0 + f)) n nw (0 + f) (mm2 ((dg1 n nw s f).1) nw (0 + f) ((dg1 n nw s f).2) n)) n nw (0 + f) (mpA (mmM ((dg1 n nw s f).1) nw (0 + f)) n nw (0 + f) (mm2 ((dg1 n nw s f).1) nw (0 + f) ((dg1 n nw s f).2) n))).1)) (k := 0) (T := TX10) miX10_mixStructure mvX10_mixStructure (c_mixStructure l g (mpM (mmM ((dg1 n nw s f).1) nw (0 + f)) n nw (0 + f) (mm2 ((dg1 n nw s f).1) nw (0 + f) ((dg1 n nw s f).2) n)) (n := n) (nw := nw) (f := (0 + f)) ⟨(gI_mpM.trans (gI_mmM.trans ((gI_dg1 _).trans hn))), (gI_mpM.trans (gI_mmM.trans ((gI_dg1 _).trans hw))), hn10, hnw, hs, h1n⟩ (by omega) (mpA (mmM ((dg1 n nw s f).1) nw (0 + f)) n nw (0 + f) (mm2 ((dg1 n nw s f).1) nw (0 + f) ((dg1 n nw s f).2) n))) hw_2_211 (by decide) rfl rfl rfl ⟨by decide, by decide, rfl, rfl, by decide, by decide⟩ rfl (Nat.le_of_ble_eq_true rfl) dX10_digest_82 rfl ?_
      refine r_lstore_n C (lv' := [(1, .long ((msT (mpM (mmM ((dg1 n nw s f).1) nw (0 + f)) n nw (0 + f) (mm2 ((dg1 n nw s f).1) nw (0 + f) ((dg1 n nw s f).2) n)) n nw (0 + f) (mpA (mmM ((dg1 n nw s f).1) nw (0 + f)) n nw (0 + f) (mm2 ((dg1 n nw s f).1) nw (0 + f) ((dg1 n nw s f).2) n))).2)), (3, .int (nI f)), (0, .ref (ad g 0))]) 1 dX10_digest_85 rfl (by decide) rfl ?_
      refine r_iinc C (v := (nI (f + 1))) (lv' := [(3, .int (nI (f + 1))), (1, .long ((msT (mpM (mmM ((dg1 n nw s f).1) nw (0 + f)) n nw (0 + f) (mm2 ((dg1 n nw s f).1) nw (0 + f) ((dg1 n nw s f).2) n)) n nw (0 + f) (mpA (mmM ((dg1 n nw s f).1) nw (0 + f)) n nw (0 + f) (mm2 ((dg1 n nw s f).1) nw (0 + f) ((dg1 n nw s f).2) n))).2)), (0, .ref (ad g 0))]) 3 1 dX10_digest_86 rfl (inc_N _ 1) (by decide) rfl ?_
      refine r_goto C 45 dX10_digest_89 (by decide) ?_
      exact ih (f + 1) (by omega) (by omega)
set_option maxHeartbeats 1000000 in
set_option maxRecDepth 100000 in
theorem lp_digest2 {z : Zt} {A : Nat → Prop} {l : Launch} {g : Gd} (C : Cx z A l (rmk 7 163) cX10_digest 5 "SetFamilies") (X : Kx z g A) {n nw f : Nat} {s : Mm × Int64} (hn : gI s.1 0 = nI n) (hw : gI s.1 1 = nI nw) (hn10 : n ≤ 10) (hnw : nw ≤ 16) (hs : ∀ e, e < n → 6 ≤ e → 2 ^ (e - 6) ≤ nw) (h1n : 1 ≤ n) (hf : f < 4) (KK : G z g.1 A 5 (wd g (dg2 n nw f s 4).1) 0 0 137 [(3, .int (nI f)), (1, .long ((dg2 n nw f s 4).2)), (0, .ref (ad g 0))] []) : ∀ (n_ : Nat) (k : Nat), 4 - k < n_ → k ≤ 4 → G z g.1 A 5 (wd g ((dg2 n nw f s k).1)) 0 0 102 [(4, .int (nI k)), (3, .int (nI f)), (1, .long ((dg2 n nw f s k).2)), (0, .ref (ad g 0))] [] := by
  intro n_
  induction n_ with
  | zero => intro k hm_; exact absurd hm_ (Nat.not_lt_zero _)
  | succ n_ ih =>
    intro k hm_ hk
    refine r_iload C dX10_digest_102 0 rfl ?_
    refine r_iconst C (v := (nI 4)) dX10_digest_104 rfl ?_
    refine r_icmp_ge C 137 dX10_digest_105 (by decide) (nI_leI (by omega) (by omega)) (fun h105 => ?_) (fun h105 => ?_)
    · have hk4 : k = 4 := by omega
      subst hk4
      refine G_sub (lv' := [(3, .int (nI f)), (1, .long ((dg2 n nw f s 4).2)), (0, .ref (ad g 0))]) [1, 2, 3] rfl ?_
      exact KK
    · refine r_lload_n C dX10_digest_108 2 rfl ?_
      refine r_aload_n C dX10_digest_109 3 rfl ?_
      refine r_aload_n C dX10_digest_110 3 rfl ?_
      refine r_get C X (k := 0) (R := RX10) (T := TX10) (N := 12) (n := 1) (v := .ref (ad g 2)) (by decide) rfl rfl inw10 (by decide) rfl hw_1_209 rfl dX10_digest_111 ?_
      refine r_iload_n C dX10_digest_114 1 rfl ?_
      refine r_aald C X (k := 2) (n := 4) (b := 0) (by decide) rfl (by omega) (by decide) dX10_digest_115 ?_
      refine r_aload_n C dX10_digest_116 3 rfl ?_
      refine r_get C X (k := 0) (R := RX10) (T := TX10) (N := 12) (n := 1) (v := .ref (ad g 2)) (by decide) rfl rfl inw10 (by decide) rfl hw_1_209 rfl dX10_digest_117 ?_
      refine r_iload C dX10_digest_120 0 rfl ?_
      refine r_aald C X (k := 2) (n := 4) (b := 0) (by decide) rfl (by omega) (by decide) dX10_digest_122 ?_
      refine r_callV C X (As := [.ref (ad g (fo (0 + f))), .ref (ad g (fo (0 + k)))]) (rest := [.long ((dg2 n nw f s k).2)]) (st1 := [.int (fdA ((dg2 n nw f s k).1) n nw (0 + f) (0 + k)), .long ((dg2 n nw f s k).2)]) (μ' := (fdM ((dg2 n nw f s k).1) n nw (0 + f) (0 + k))) (k := 0) (T := TX10) miX10_firstDisjointPair mvX10_firstDisjointPair (c_firstDisjointPair l g ((dg2 n nw f s k).1) (n := n) (nw := nw) (a := (0 + f)) (b := (0 + k)) ⟨((gI_dg2 _).trans hn), ((gI_dg2 _).trans hw), hn10, hnw, hs, h1n⟩ (by omega) (by omega)) hw_2_91 (by decide) rfl rfl rfl ⟨by decide, by decide, rfl, rfl, by decide, by decide⟩ rfl (Nat.le_of_ble_eq_true rfl) dX10_digest_123 rfl ?_
      refine r_i2l C (v := (((fdA ((dg2 n nw f s k).1) n nw (0 + f) (0 + k))).toInt64)) dX10_digest_126 rfl ?_
      refine r_callP C (As := [.long ((dg2 n nw f s k).2), .long (((fdA ((dg2 n nw f s k).1) n nw (0 + f) (0 + k))).toInt64)]) (rest := []) (st1 := [.long (mx ((dg2 n nw f s k).2) (((fdA ((dg2 n nw f s k).1) n nw (0 + f) (0 + k))).toInt64))]) miX10_mix msX10_mix (c_mix l ((dg2 n nw f s k).2) (((fdA ((dg2 n nw f s k).1) n nw (0 + f) (0 + k))).toInt64)) hw_2_14 rfl ⟨by decide, by decide, rfl, rfl, by decide, by decide⟩ rfl (Nat.le_of_ble_eq_true rfl) dX10_digest_127 rfl ?_
      refine G_topl (y := ((dg2 n nw f s (k + 1)).2)) rfl ?_
      refine r_lstore_n C (lv' := [(1, .long ((dg2 n nw f s (k + 1)).2)), (4, .int (nI k)), (3, .int (nI f)), (0, .ref (ad g 0))]) 1 dX10_digest_130 rfl (by decide) rfl ?_
      refine r_iinc C (v := (nI (k + 1))) (lv' := [(4, .int (nI (k + 1))), (1, .long ((dg2 n nw f s (k + 1)).2)), (3, .int (nI f)), (0, .ref (ad g 0))]) 4 1 dX10_digest_131 rfl (inc_N _ 1) (by decide) rfl ?_
      refine r_goto C 102 dX10_digest_134 (by decide) ?_
      refine G_sub (lv' := [(4, .int (nI (k + 1))), (3, .int (nI f)), (1, .long ((dg2 n nw f s (k + 1)).2)), (0, .ref (ad g 0))]) [0, 2, 1, 3] rfl ?_
      exact ih (k + 1) (by omega) (by omega)
set_option maxHeartbeats 1000000 in
set_option maxRecDepth 100000 in
theorem lp_digest3 {z : Zt} {A : Nat → Prop} {l : Launch} {g : Gd} (C : Cx z A l (rmk 7 163) cX10_digest 5 "SetFamilies") (X : Kx z g A) {n nw : Nat} {s : Mm × Int64} (hn : gI s.1 0 = nI n) (hw : gI s.1 1 = nI nw) (hn10 : n ≤ 10) (hnw : nw ≤ 16) (hs : ∀ e, e < n → 6 ≤ e → 2 ^ (e - 6) ≤ nw) (h1n : 1 ≤ n) (Rr : Rx z g A (some .long) (some (.long (dg3 n nw s 4).2)) (dg3 n nw s 4).1) : ∀ (n_ : Nat) (f : Nat), 4 - f < n_ → f ≤ 4 → G z g.1 A 5 (wd g ((dg3 n nw s f).1)) 0 0 94 [(3, .int (nI f)), (1, .long ((dg3 n nw s f).2)), (0, .ref (ad g 0))] [] := by
  intro n_
  induction n_ with
  | zero => intro f hm_; exact absurd hm_ (Nat.not_lt_zero _)
  | succ n_ ih =>
    intro f hm_ hf
    refine r_iload_n C dX10_digest_94 0 rfl ?_
    refine r_iconst C (v := (nI 4)) dX10_digest_95 rfl ?_
    refine r_icmp_ge C 143 dX10_digest_96 (by decide) (nI_leI (by omega) (by omega)) (fun h96 => ?_) (fun h96 => ?_)
    · have hf4 : f = 4 := by omega
      subst hf4
      refine r_lload_n C dX10_digest_143 1 rfl ?_
      exact r_lret C dX10_digest_144 Rr
    · refine r_iconst C (v := (nI 0)) dX10_digest_99 rfl ?_
      refine r_istore C (lv' := [(4, .int (nI 0)), (3, .int (nI f)), (1, .long ((dg3 n nw s f).2)), (0, .ref (ad g 0))]) 4 dX10_digest_100 (by decide) rfl ?_
      refine lp_digest2 C X (s := dg3 n nw s f) ((gI_dg3 _).trans hn) ((gI_dg3 _).trans hw) hn10 hnw hs h1n (by omega) ?_ 5 0 (by decide) (by decide)
      refine r_iinc C (v := (nI (f + 1))) (lv' := [(3, .int (nI (f + 1))), (1, .long ((dg3 n nw s (f + 1)).2)), (0, .ref (ad g 0))]) 3 0 dX10_digest_137 rfl (inc_N _ 1) (by decide) rfl ?_
      refine r_goto C 94 dX10_digest_140 (by decide) ?_
      exact ih (f + 1) (by omega) (by omega)
set_option maxHeartbeats 1000000 in
set_option maxRecDepth 100000 in
theorem c_digest (l : Launch) (g : Gd) (μ : Mm) {n nw d tl : Nat} (hO : Ok μ n nw) (h2 : gI μ 2 = nI d) (hd4 : d ≤ 4) (h4 : gI μ 4 = nI tl) (htl : tl ≤ 120) : Ct l yX10_digest cX10_digest 5 (some .long) (rmk 7 163) g [.ref (ad g 0)] μ (some (.long ((dgT μ n nw d tl).2))) ((dgT μ n nw d tl).1) := by
  obtain ⟨hn, hw, hn10, hnw, hs, h1n⟩ := hO
  refine Ct.of (by decide) (Nat.le_of_ble_eq_true rfl) (fun z A C X Rr => ?_)
  refine r_ldc2 C dX10_digest_0 hw_2_13 ?_
  refine r_lstore_n C (lv' := [(1, .long (18454)), (0, .ref (ad g 0))]) 1 dX10_digest_3 rfl (by decide) rfl ?_
  refine r_lload_n C dX10_digest_4 0 rfl ?_
  refine r_aload_n C dX10_digest_5 1 rfl ?_
  refine r_get C X (k := 0) (R := RX10) (T := TX10) (N := 12) (n := 2) (v := .ref (ad g 3)) (by decide) rfl rfl inw10 (by decide) rfl hw_1_210 rfl dX10_digest_6 ?_
  refine r_get C X (k := 3) (R := RX5) (T := TX5) (N := 4) (n := 0) (v := .int (gI μ 2)) (by decide) rfl rfl inw5 (by decide) rfl hw_1_79 rfl dX10_digest_9 ?_
  refine G_top (y := (nI d)) h2 ?_
  refine r_i2l C (v := (lN d)) dX10_digest_12 (nI_l (by omega)) ?_
  refine r_callP C (As := [.long (18454), .long (lN d)]) (rest := []) (st1 := [.long (mx (18454) (lN d))]) miX10_mix msX10_mix (c_mix l (18454) (lN d)) hw_2_14 rfl ⟨by decide, by decide, rfl, rfl, by decide, by decide⟩ rfl (Nat.le_of_ble_eq_true rfl) dX10_digest_13 rfl ?_
  refine r_lstore_n C (lv' := [(1, .long (mx (18454) (lN d))), (0, .ref (ad g 0))]) 1 dX10_digest_16 rfl (by decide) rfl ?_
  refine r_lload_n C dX10_digest_17 0 rfl ?_
  refine r_aload_n C dX10_digest_18 1 rfl ?_
  refine r_get C X (k := 0) (R := RX10) (T := TX10) (N := 12) (n := 3) (v := .ref (ad g 6)) (by decide) rfl rfl inw10 (by decide) rfl hw_1_211 rfl dX10_digest_19 ?_
  refine r_get C X (k := 6) (R := RX9) (T := TX9) (N := 2) (n := 0) (v := .int (gI μ 4)) (by decide) rfl rfl inw9 (by decide) rfl hw_1_100 rfl dX10_digest_22 ?_
  refine G_top (y := (nI tl)) h4 ?_
  refine r_i2l C (v := (lN tl)) dX10_digest_25 (nI_l (by omega)) ?_
  refine r_callP C (As := [.long (mx (18454) (lN d)), .long (lN tl)]) (rest := []) (st1 := [.long (mx (mx (18454) (lN d)) (lN tl))]) miX10_mix msX10_mix (c_mix l (mx (18454) (lN d)) (lN tl)) hw_2_14 rfl ⟨by decide, by decide, rfl, rfl, by decide, by decide⟩ rfl (Nat.le_of_ble_eq_true rfl) dX10_digest_26 rfl ?_
  refine r_lstore_n C (lv' := [(1, .long (mx (mx (18454) (lN d)) (lN tl))), (0, .ref (ad g 0))]) 1 dX10_digest_29 rfl (by decide) rfl ?_
  refine r_lload_n C dX10_digest_30 0 rfl ?_
  refine r_aload_n C dX10_digest_31 1 rfl ?_
  refine r_get C X (k := 0) (R := RX10) (T := TX10) (N := 12) (n := 0) (v := .ref (ad g 1)) (by decide) rfl rfl inw10 (by decide) rfl hw_1_208 rfl dX10_digest_32 ?_
  refine r_get C X (k := 1) (R := RX4) (T := TX4) (N := 2) (n := 0) (v := .int (gI μ 0)) (by decide) rfl rfl inw4 (by decide) rfl hw_1_42 rfl dX10_digest_35 ?_
  refine G_top (y := (nI n)) hn ?_
  refine r_i2l C (v := (lN n)) dX10_digest_38 (nI_l (by omega)) ?_
  refine r_callP C (As := [.long (mx (mx (18454) (lN d)) (lN tl)), .long (lN n)]) (rest := []) (st1 := [.long (mx (mx (mx (18454) (lN d)) (lN tl)) (lN n))]) miX10_mix msX10_mix (c_mix l (mx (mx (18454) (lN d)) (lN tl)) (lN n)) hw_2_14 rfl ⟨by decide, by decide, rfl, rfl, by decide, by decide⟩ rfl (Nat.le_of_ble_eq_true rfl) dX10_digest_39 rfl ?_
  refine r_lstore_n C (lv' := [(1, .long (mx (mx (mx (18454) (lN d)) (lN tl)) (lN n))), (0, .ref (ad g 0))]) 1 dX10_digest_42 rfl (by decide) rfl ?_
  refine r_iconst C (v := (nI 0)) dX10_digest_43 rfl ?_
  refine r_istore_n C (lv' := [(3, .int (nI 0)), (1, .long (mx (mx (mx (18454) (lN d)) (lN tl)) (lN n))), (0, .ref (ad g 0))]) 3 dX10_digest_44 rfl (by decide) rfl ?_
  refine lp_digest1 C X (s := (μ, dgh d tl n)) hn hw hn10 hnw hs h1n ?_ 5 0 (by decide) (by decide)
  refine r_iconst C (v := (nI 0)) dX10_digest_92 rfl ?_
  refine r_istore_n C (lv' := [(3, .int (nI 0)), (1, .long ((dg1 n nw (μ, dgh d tl n) 4).2)), (0, .ref (ad g 0))]) 3 dX10_digest_93 rfl (by decide) rfl ?_
  exact lp_digest3 C X (s := (dg1 n nw (μ, dgh d tl n) 4)) ((gI_dg1 _).trans hn) ((gI_dg1 _).trans hw) hn10 hnw hs h1n Rr 5 0 (by decide) (by decide)
