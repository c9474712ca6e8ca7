def bc (x : Int64) : Nat := cnt (fun i => x.toBitVec.getLsbD i) 64
def bc32 (x : Int32) : Nat := cnt (fun i => x.toBitVec.getLsbD i) 32
theorem bcand {a b : Nat} {c : Int64} (ha : a < 2 ^ 64) (hb : b < 2 ^ 64) (hc : lN b = c) : lN a &&& c = lN (a &&& b) := by rw [← hc, wb_and ha hb]
def pa (n : Nat) : Nat := t3 8 (t2 8 (t1 8 n))
def pb (n : Nat) : Nat := pa n + pa n / 2 ^ 8
def pc_ (n : Nat) : Nat := pb n + pb n / 2 ^ 16
def pd (n : Nat) : Nat := pc_ n + pc_ n / 2 ^ 32
theorem p_lt {n : Nat} (h : n < 2 ^ 64) : t1 8 n < 2 ^ 64 ∧ t2 8 (t1 8 n) < 2 ^ 63 ∧ pa n < 2 ^ 60 ∧ pb n < 2 ^ 61 ∧ pc_ n < 2 ^ 62 ∧ pd n < 2 ^ 63 := by
  have h1 : t1 8 n ≤ n := Nat.sub_le _ _
  have h2 : t2 8 (t1 8 n) < 2 ^ 62 + 2 ^ 62 := Nat.add_lt_add (Nat.and_lt_two_pow _ (by decide)) (Nat.and_lt_two_pow _ (by decide))
  have h3 : pa n < 2 ^ 60 := Nat.and_lt_two_pow _ (by decide)
  unfold pd pc_ pb
  omega
theorem bc_lN {n : Nat} (h : n < 2 ^ 64) : bc (lN n) = cnt n.testBit 64 := by
  apply cnt_congr
  intro i hi
  rw [wb_tb, BitVec.getLsbD_ofNat]
  simp [hi]
theorem bcend {n : Nat} (h : n < 2 ^ 64) : nI (pd n) &&& nI 127 = nI (bc (lN n)) := by
  rw [nand, show (127 : Nat) = 2 ^ 7 - 1 from rfl, Nat.and_two_pow_sub_one_eq_mod, bc_lN h]
  exact congrArg nI (pop64 h)
theorem bc_le (x : Int64) : bc x ≤ 64 := cnt_le _ _
theorem bc32_le (x : Int32) : bc32 x ≤ 32 := cnt_le _ _
set_option maxHeartbeats 4000000 in
set_option maxRecDepth 100000 in
theorem c_bitCountL (l : Launch) (x : Int64) : Cp l yJ13_bitCount_95d88 cJ13_bitCount_95d88 2 (some .int) (rmk 0 0) [.long x] (some (.int (nI (bc x)))) := by
  obtain ⟨n, hn, rfl⟩ := wb_of x
  obtain ⟨h1, h2, h3, h4, h5, h6⟩ := p_lt hn
  refine Cp.of (D := (fun _ => 0, fun _ _ => 0)) (by decide) (Nat.le_of_ble_eq_true rfl) (fun z A C Rr => ?_)
  refine r_lload_n C dJ13_bitCount_95d88_0 0 rfl ?_
  refine r_lload_n C dJ13_bitCount_95d88_1 0 rfl ?_
  refine r_iconst C (v := (nI 1)) dJ13_bitCount_95d88_2 rfl ?_
  refine r_lushr C (v := (lN (n / 2))) dJ13_bitCount_95d88_3 (wb_shr hn (by decide)) ?_
  refine r_ldc2 C dJ13_bitCount_95d88_4 hw_2_29 ?_
  refine r_land C (v := (lN (n / 2 &&& rep 0x55 8))) dJ13_bitCount_95d88_7 (bcand (by omega) (by decide) rfl) ?_
  refine r_lsub C (v := (lN (t1 8 n))) dJ13_bitCount_95d88_8 (lN_sub (Nat.le_trans Nat.and_le_left (Nat.div_le_self _ _))) ?_
  refine r_lstore_n C (lv' := [(0, .long (lN (t1 8 n)))]) 0 dJ13_bitCount_95d88_9 rfl (by decide) rfl ?_
  refine r_lload_n C dJ13_bitCount_95d88_10 0 rfl ?_
  refine r_ldc2 C dJ13_bitCount_95d88_11 hw_2_30 ?_
  refine r_land C (v := (lN (t1 8 n &&& rep 0x33 8))) dJ13_bitCount_95d88_14 (bcand h1 (by decide) rfl) ?_
  refine r_lload_n C dJ13_bitCount_95d88_15 0 rfl ?_
  refine r_iconst C (v := (nI 2)) dJ13_bitCount_95d88_16 rfl ?_
  refine r_lushr C (v := (lN (t1 8 n / 4))) dJ13_bitCount_95d88_17 (wb_shr h1 (by decide)) ?_
  refine r_ldc2 C dJ13_bitCount_95d88_18 hw_2_30 ?_
  refine r_land C (v := (lN (t1 8 n / 4 &&& rep 0x33 8))) dJ13_bitCount_95d88_21 (bcand (by omega) (by decide) rfl) ?_
  refine r_ladd C (v := (lN (t2 8 (t1 8 n)))) dJ13_bitCount_95d88_22 (lN_add _ _) ?_
  refine r_lstore_n C (lv' := [(0, .long (lN (t2 8 (t1 8 n))))]) 0 dJ13_bitCount_95d88_23 rfl (by decide) rfl ?_
  refine r_lload_n C dJ13_bitCount_95d88_24 0 rfl ?_
  refine r_lload_n C dJ13_bitCount_95d88_25 0 rfl ?_
  refine r_iconst C (v := (nI 4)) dJ13_bitCount_95d88_26 rfl ?_
  refine r_lushr C (v := (lN (t2 8 (t1 8 n) / 16))) dJ13_bitCount_95d88_27 (wb_shr (by omega) (by decide)) ?_
  refine r_ladd C (v := (lN (t2 8 (t1 8 n) + t2 8 (t1 8 n) / 16))) dJ13_bitCount_95d88_28 (lN_add _ _) ?_
  refine r_ldc2 C dJ13_bitCount_95d88_29 hw_2_31 ?_
  refine r_land C (v := (lN (pa n))) dJ13_bitCount_95d88_32 (bcand (by omega) (by decide) rfl) ?_
  refine r_lstore_n C (lv' := [(0, .long (lN (pa n)))]) 0 dJ13_bitCount_95d88_33 rfl (by decide) rfl ?_
  refine r_lload_n C dJ13_bitCount_95d88_34 0 rfl ?_
  refine r_lload_n C dJ13_bitCount_95d88_35 0 rfl ?_
  refine r_bipush C (v := (nI 8)) dJ13_bitCount_95d88_36 (by decide) ?_
  refine r_lushr C (v := (lN (pa n / 2 ^ 8))) dJ13_bitCount_95d88_38 (wb_shr (by omega) (by decide)) ?_
  refine r_ladd C (v := (lN (pb n))) dJ13_bitCount_95d88_39 (lN_add _ _) ?_
  refine r_lstore_n C (lv' := [(0, .long (lN (pb n)))]) 0 dJ13_bitCount_95d88_40 rfl (by decide) rfl ?_
  refine r_lload_n C dJ13_bitCount_95d88_41 0 rfl ?_
  refine r_lload_n C dJ13_bitCount_95d88_42 0 rfl ?_
  refine r_bipush C (v := (nI 16)) dJ13_bitCount_95d88_43 (by decide) ?_
  refine r_lushr C (v := (lN (pb n / 2 ^ 16))) dJ13_bitCount_95d88_45 (wb_shr (by omega) (by decide)) ?_
  refine r_ladd C (v := (lN (pc_ n))) dJ13_bitCount_95d88_46 (lN_add _ _) ?_
  refine r_lstore_n C (lv' := [(0, .long (lN (pc_ n)))]) 0 dJ13_bitCount_95d88_47 rfl (by decide) rfl ?_
  refine r_lload_n C dJ13_bitCount_95d88_48 0 rfl ?_
  refine r_lload_n C dJ13_bitCount_95d88_49 0 rfl ?_
  refine r_bipush C (v := (nI 32)) dJ13_bitCount_95d88_50 (by decide) ?_
  refine r_lushr C (v := (lN (pc_ n / 2 ^ 32))) dJ13_bitCount_95d88_52 (wb_shr (by omega) (by decide)) ?_
  refine r_ladd C (v := (lN (pd n))) dJ13_bitCount_95d88_53 (lN_add _ _) ?_
  refine r_lstore_n C (lv' := [(0, .long (lN (pd n)))]) 0 dJ13_bitCount_95d88_54 rfl (by decide) rfl ?_
  refine r_lload_n C dJ13_bitCount_95d88_55 0 rfl ?_
  refine r_l2i C (v := (nI (pd n))) dJ13_bitCount_95d88_56 (lN_i _) ?_
  refine r_bipush C (v := (nI 127)) dJ13_bitCount_95d88_57 (by decide) ?_
  refine r_iand C (v := (nI (bc (lN n)))) dJ13_bitCount_95d88_59 (bcend hn) ?_
  exact p_iret C dJ13_bitCount_95d88_60 Rr
