def bc (x : Int64) : Nat := cnt (fun i => x.toBitVec.getLsbD i) 64
def bc32 (x : Int32) : Nat := cnt (fun i => x.toBitVec.getLsbD i) 32
theorem bcand {a b : Nat} {c : Int64} (ha : a < 2 ^ 64) (hb : b < 2 ^ 64) (hc : lN b = c) : lN a &&& c = lN (a &&& b) := by rw [← hc, wb_and ha hb]
def pa (n : Nat) : Nat := t3 8 (t2 8 (t1 8 n))
def pb (n : Nat) : Nat := pa n + pa n / 2 ^ 8
def pc_ (n : Nat) : Nat := pb n + pb n / 2 ^ 16
def pd (n : Nat) : Nat := pc_ n + pc_ n / 2 ^ 32
theorem p_lt {n : Nat} (h : n < 2 ^ 64) : t1 8 n < 2 ^ 64 ∧ t2 8 (t1 8 n) < 2 ^ 63 ∧ pa n < 2 ^ 60 ∧ pb n < 2 ^ 61 ∧ pc_ n < 2 ^ 62 ∧ pd n < 2 ^ 63 := by
  have h1 : t1 8 n ≤ n := Nat.sub_le _ _
  have h2 : t2 8 (t1 8 n) < 2 ^ 62 + 2 ^ 62 := Nat.add_lt_add (Nat.and_lt_two_pow _ (by decide)) (Nat.and_lt_two_pow _ (by decide))
  have h3 : pa n < 2 ^ 60 := Nat.and_lt_two_pow _ (by decide)
  unfold pd pc_ pb
  omega
theorem bc_lN {n : Nat} (h : n < 2 ^ 64) : bc (lN n) = cnt n.testBit 64 := by
  apply cnt_congr
  intro i hi
  rw [wb_tb, BitVec.getLsbD_ofNat]
  simp [hi]
theorem bcend {n : Nat} (h : n < 2 ^ 64) : nI (pd n) &&& nI 127 = nI (bc (lN n)) := by
  rw [nand, show (127 : Nat) = 2 ^ 7 - 1 from rfl, Nat.and_two_pow_sub_one_eq_mod, bc_lN h]
  exact congrArg nI (pop64 h)
theorem bc_le (x : Int64) : bc x ≤ 64 := cnt_le _ _
theorem bc32_le (x : Int32) : bc32 x ≤ 32 := cnt_le _ _
set_option maxHeartbeats 1000000 in
set_option maxRecDepth 100000 in
theorem c_bitCountL (l : Launch) (x : Int64) : Cp l yJ13_bitCount_95d88 cJ13_bitCount_95d88 2 (some .int) (rmk 0 0) [.long x] (some (.int (nI (bc x)))) := by
  obtain ⟨n, hn, rfl⟩ := wb_of x
  obtain ⟨h1, h2, h3, h4, h5, h6⟩ := p_lt hn
  refine Cp.of (D := (fun _ => 0, fun _ _ => 0)) (by decide) (Nat.le_of_ble_eq_true rfl) (fun z A C Rr => ?_)
  refine r_lload_n C dJ13_bitCount_95d88_0 0 rfl ?_
  refine r_lload_n C dJ13_bitCount_95d88_1 0 rfl ?_
  refine r_iconst C (v := (nI 1)) dJ13_bitCount_95d88_2 rfl ?_
  refine r_lushr C (v := (lN (n / 2))) dJ13_bitCount_95d88_3 (wb_shr hn (by decide)) ?_
  refine r_ldc2 C dJ13_bitCount_95d88_4 hw_2_29 ?_
  refine r_land C (v := (lN (n / 2 &&& rep 0x55 8))) dJ13_bitCount_95d88_7 (bcand (by omega) (by decide) rfl) ?_
  refine r_lsub C (v := (lN (t1 8 n))) dJ13_bitCount_95d88_8 (lN_sub (Nat.le_trans Nat.and_le_left (Nat.div_le_self _ _))) ?_
  refine r_lstore_n C (lv' := [(0, .long (lN (t1 8 n)))]) 0 dJ13_bitCount_95d88_9 rfl (by decide) rfl ?_
  refine r_lload_n C dJ13_bitCount_95d88_10 0 rfl ?_
  refine r_ldc2 C dJ13_bitCount_95d88_11 hw_2_30 ?_
  refine r_land C (v := (lN (t1 8 n &&& rep 0x33 8))) dJ13_bitCount_95d88_14 (bcand h1 (by decide) rfl) ?_
  refine r_lload_n C dJ13_bitCount_95d88_15 0 rfl ?_
  refine r_iconst C (v := (nI 2)) dJ13_bitCount_95d88_16 rfl ?_
  refine r_lushr C (v := (lN (t1 8 n / 4))) dJ13_bitCount_95d88_17 (wb_shr h1 (by decide)) ?_
  refine r_ldc2 C dJ13_bitCount_95d88_18 hw_2_30 ?_
  refine r_land C (v := (lN (t1 8 n / 4 &&& rep 0x33 8))) dJ13_bitCount_95d88_21 (bcand (by omega) (by decide) rfl) ?_
  refine r_ladd C (v := (lN (t2 8 (t1 8 n)))) dJ13_bitCount_95d88_22 (lN_add _ _) ?_
  refine r_lstore_n C (lv' := [(0, .long (lN (t2 8 (t1 8 n))))]) 0 dJ13_bitCount_95d88_23 rfl (by decide) rfl ?_
  refine r_lload_n C dJ13_bitCount_95d88_24 0 rfl ?_
  refine r_lload_n C dJ13_bitCount_95d88_25 0 rfl ?_
  refine r_iconst C (v := (nI 4)) dJ13_bitCount_95d88_26 rfl ?_
  refine r_lushr C (v := (lN (t2 8 (t1 8 n) / 16))) dJ13_bitCount_95d88_27 (wb_shr (by omega) (by decide)) ?_
  refine r_ladd C (v := (lN (t2 8 (t1 8 n) + t2 8 (t1 8 n) / 16))) dJ13_bitCount_95d88_28 (lN_add _ _) ?_
  refine r_ldc2 C dJ13_bitCount_95d88_29 hw_2_31 ?_
  refine r_land C (v := (lN (pa n))) dJ13_bitCount_95d88_32 (bcand (by omega) (by decide) rfl) ?_
  refine r_lstore_n C (lv' := [(0, .long (lN (pa n)))]) 0 dJ13_bitCount_95d88_33 rfl (by decide) rfl ?_
  refine r_lload_n C dJ13_bitCount_95d88_34 0 rfl ?_
  refine r_lload_n C dJ13_bitCount_95d88_35 0 rfl ?_
  refine r_bipush C (v := (nI 8)) dJ13_bitCount_95d88_36 (by decide) ?_
  refine r_lushr C (v := (lN (pa n / 2 ^ 8))) dJ13_bitCount_95d88_38 (wb_shr (by omega) (by decide)) ?_
  refine r_ladd C (v := (lN (pb n))) dJ13_bitCount_95d88_39 (lN_add _ _) ?_
  refine r_lstore_n C (lv' := [(0, .long (lN (pb n)))]) 0 dJ13_bitCount_95d88_40 rfl (by decide) rfl ?_
  refine r_lload_n C dJ13_bitCount_95d88_41 0 rfl ?_
  refine r_lload_n C dJ13_bitCount_95d88_42 0 rfl ?_
  refine r_bipush C (v := (nI 16)) dJ13_bitCount_95d88_43 (by decide) ?_
  refine r_lushr C (v := (lN (pb n / 2 ^ 16))) dJ13_bitCount_95d88_45 (wb_shr (by omega) (by decide)) ?_
  refine r_ladd C (v := (lN (pc_ n))) dJ13_bitCount_95d88_46 (lN_add _ _) ?_
  refine r_lstore_n C (lv' := [(0, .long (lN (pc_ n)))]) 0 dJ13_bitCount_95d88_47 rfl (by decide) rfl ?_
  refine r_lload_n C dJ13_bitCount_95d88_48 0 rfl ?_
  refine r_lload_n C dJ13_bitCount_95d88_49 0 rfl ?_
  refine r_bipush C (v := (nI 32)) dJ13_bitCount_95d88_50 (by decide) ?_
  refine r_lushr C (v := (lN (pc_ n / 2 ^ 32))) dJ13_bitCount_95d88_52 (wb_shr (by omega) (by decide)) ?_
  refine r_ladd C (v := (lN (pd n))) dJ13_bitCount_95d88_53 (lN_add _ _) ?_
  refine r_lstore_n C (lv' := [(0, .long (lN (pd n)))]) 0 dJ13_bitCount_95d88_54 rfl (by decide) rfl ?_
  refine r_lload_n C dJ13_bitCount_95d88_55 0 rfl ?_
  refine r_l2i C (v := (nI (pd n))) dJ13_bitCount_95d88_56 (lN_i _) ?_
  refine r_bipush C (v := (nI 127)) dJ13_bitCount_95d88_57 (by decide) ?_
  refine r_iand C (v := (nI (bc (lN n)))) dJ13_bitCount_95d88_59 (bcend hn) ?_
  exact p_iret C dJ13_bitCount_95d88_60 Rr
def rowU {α : Type} (k : Nat) (f x : Nat → α) : Nat → α := fun w => if w < k then f w else x w
theorem rowU_0 {α : Type} (f x : Nat → α) : rowU 0 f x = x := by funext w; simp [rowU]
theorem rowU_lt {α : Type} {k w : Nat} (f x : Nat → α) (h : w < k) : rowU k f x w = f w := by simp [rowU, h]
theorem rowU_ge {α : Type} {k w : Nat} (f x : Nat → α) (h : k ≤ w) : rowU k f x w = x w := by simp [rowU, Nat.not_lt.mpr h]
theorem rowU_s (k : Nat) (f x : Nat → Int64) {v : Int64} (hv : v = f k) : vp_updL (rowU k f x) k v = rowU (k + 1) f x := by
  subst hv; funext w; unfold vp_updL rowU
  by_cases h : w = k
  · subst h; simp
  · by_cases h2 : w < k
    · simp [h, h2, show w < k + 1 by omega]
    · simp [h, h2, show ¬ w < k + 1 by omega]
theorem rowU_keep (k : Nat) (f x : Nat → Int64) (h : f k = x k) : rowU k f x = rowU (k + 1) f x := by
  funext w; unfold rowU
  by_cases h1 : w = k
  · subst h1; simp [h]
  · by_cases h2 : w < k
    · simp [h2, show w < k + 1 by omega]
    · simp [h2, show ¬ w < k + 1 by omega]
def sm (f : Nat → Nat) : Nat → Nat
  | 0 => 0
  | n + 1 => sm f n + f n
theorem sm_le {f : Nat → Nat} {b : Nat} (h : ∀ i, f i ≤ b) : ∀ n, sm f n ≤ n * b
  | 0 => Nat.zero_le _
  | n + 1 => by have := sm_le h n; have := h n; rw [Nat.succ_mul]; simp only [sm]; omega
theorem sm_congr {f g : Nat → Nat} : ∀ {n : Nat}, (∀ i, i < n → f i = g i) → sm f n = sm g n
  | 0, _ => rfl
  | n + 1, h => by simp only [sm]; rw [sm_congr (fun i hi => h i (by omega)), h n (by omega)]
theorem b0 {b : Bool} (h : b = false) : nI 0 = bI b := by subst h; rfl
theorem b1 {b : Bool} (h : b = true) : nI 1 = bI b := by subst h; rfl
section FR
variable {z : Zt} {A : Nat → Prop} {nL : Nat} {ce sl pc : Nat} {lv : List (Nat × Value)} {st : List Value} {l : Launch} {rm : Room} {cc : ByteArray} {own : String} {g : Gd} {μ μ' : Mm}
theorem r_lastF (C : Cx z A l rm cc nL own) (X : Kx z g A) {i j : Nat} {f f' : Nat → Int64} {x : Int64} (hi : i < 52) (hj : j < 16) (hf : vp_updL f j x = f') (hd : decode cc pc = .ok (.lastore, 1)) (K : G z g.1 A nL (wd g (sJ μ i f')) ce sl (pc + 1) lv st) : G z g.1 A nL (wd g (sJ μ i f)) ce sl pc lv (.long x :: .int (nI j) :: .ref (ad g (fw i)) :: st) :=
  r_last C X (μ' := sJ (sJ μ i f) i f') (fw_lt hi) ((WF_fw g _ i).trans (congrArg (jR g 16) (gJ_s _ _ _))) hj (by decide) hf hd (WF_sJ_fw g _ _ _) (WF_sJ_ne g _ hi _) (by rw [sJ_u]; exact K)
theorem r_mmin (C : Cx z A l rm cc nL own) {D : va_G} {ws : va_W} {i : Nat} {x y v : Int32} (hw : Cond.methodLink own i Lib.Math.min.name ∈ gw) (hR : 1 ≤ rm.frames ∧ (st.map fun v => v.category).sum + 13 ≤ rm.locals ∧ ce ≤ rm.cells ∧ sl ≤ rm.slots) (hd : decode cc pc = .ok (.invokestatic i, 3)) (hv : (if y < x then y else x) = v) (K : G z D A nL ws ce sl (pc + 3) lv (.int v :: st)) : G z D A nL ws ce sl pc lv (.int y :: .int x :: st) :=
  fun H locs ls hP hD hS hl => va_mmin C.hx C.hb (by rw [C.hml]; exact hl.1.symm) C.hown (C.hts _ hw) (C.hts _ hw_2_230) (C.hts _ hw_1_17) (C.hts _ hw_2_231) (by rw [C.hR]; exact hR.1) (by rw [C.hR]; exact hR.2.1) (by rw [C.hR]; exact hR.2.2.1) (by rw [C.hR]; exact hR.2.2.2) hd (by rw [hv]; exact K H locs ls hP hD hS hl)
theorem r_mmaxl (C : Cx z A l rm cc nL own) {D : va_G} {ws : va_W} {i : Nat} {x y v : Int64} (hw : Cond.methodLink own i Lib.MathLoose.max_long.x ∈ gw) (hR : 1 ≤ rm.frames ∧ (st.map fun v => v.category).sum + 15 ≤ rm.locals ∧ ce ≤ rm.cells ∧ sl ≤ rm.slots) (hd : decode cc pc = .ok (.invokestatic i, 3)) (hv : (if y < x then x else y) = v) (K : G z D A nL ws ce sl (pc + 3) lv (.long v :: st)) : G z D A nL ws ce sl pc lv (.long y :: .long x :: st) :=
  fun H locs ls hP hD hS hl => va_mmax_long C.hx C.hb (by rw [C.hml]; exact hl.1.symm) C.hown (C.hts _ hw) (C.hts _ hw_2_190) (C.hts _ hw_1_17) (C.hts _ hw_2_191) (by rw [C.hR]; exact hR.1) (by rw [C.hR]; exact hR.2.1) (by rw [C.hR]; exact hR.2.2.1) (by rw [C.hR]; exact hR.2.2.2) hd (by rw [hv]; exact K H locs ls hP hD hS hl)
/-- System.arraycopy of all sixteen words of family j to family i -/
theorem r_copyF (C : Cx z A l rm cc nL own) (X : Kx z g A) {i j x : Nat} (hi : i < 52) (hj : j < 52) (hw : Cond.methodLink own x arraycopyName ∈ gw) (hR : 1 ≤ rm.frames ∧ (st.map fun v => v.category).sum + (nativeFrameWords "java/lang/System" "arraycopy" 5 + 11) ≤ rm.locals) (hd : decode cc pc = .ok (.invokestatic x, 3)) (K : G z g.1 A nL (wd g (sJ μ i (rowU 16 (gJ μ j) (gJ μ i)))) ce sl (pc + 3) lv st) : G z g.1 A nL (wd g μ) ce sl pc lv (.int (nI 16) :: .int (nI 0) :: .ref (ad g (fw i)) :: .int (nI 0) :: .ref (ad g (fw j)) :: st) :=
  fun H locs ls hP hD hS hl => va_copyl C.hx C.hb (by rw [C.hml]; exact hl.1.symm) C.hown (C.hts _ hw) (C.hts _ hw_2_82) (C.hts _ hw_2_81) (C.hts _ hw_1_16) X.1 hP hD hS (fw j) (fw i) 2 2 (wd_at (fw_lt hj) (WF_fw g μ j)) (wd_at (fw_lt hi) (WF_fw g μ i)) rfl rfl rfl (by decide) (by decide) (by decide) (by decide) (by decide) (fun _ _ => rfl) (by rw [C.hR]; exact hR.1) (by rw [C.hR]; exact hR.2) hd (fun H1 locs1 hP1 hD1 hS1 => by
    have e : va_cpy (gJ μ j) (gJ μ i) (nI 0).toNatClampNeg (nI 0).toNatClampNeg (nI 16).toNatClampNeg = rowU 16 (gJ μ j) (gJ μ i) := by
      funext k
      have e0 : (nI 0).toNatClampNeg = 0 := by decide
      have e1 : (nI 16).toNatClampNeg = 16 := by decide
      unfold va_cpy rowU
      rw [e0, e1]
      simp
    rw [e] at hP1 hD1
    rw [wd_set (μ' := sJ μ i (rowU 16 (gJ μ j) (gJ μ i))) (fw_lt hi) (WF_sJ_fw g _ _ _) (WF_sJ_ne g _ hi _)] at hP1 hD1
    exact K H1 locs1 ls hP1 hD1 hS1 hl)
end FR
set_option maxHeartbeats 1000000 in
set_option maxRecDepth 100000 in
theorem lp_fill {z : Zt} {A : Nat → Prop} {l : Launch} {g : Gd} {μ : Mm} (C : Cx z A l (rmk 0 0) cJ7_fill_d0a16 5 "java/util/Arrays") (X : Kx z g A) {i : Nat} {v : Int64} (hi : i < 52) (Rr : Rx z g A none none (sJ μ i (rowU 16 (fun _ => v) (gJ μ i)))) : ∀ (n_ : Nat) (k : Nat), 16 - k < n_ → k ≤ 16 → G z g.1 A 5 (wd g (sJ μ i (rowU k (fun _ => v) (gJ μ i)))) 0 0 6 [(4, .int (nI 16)), (3, .int (nI k)), (0, .ref (ad g (fw i))), (1, .long v)] [] := by
  intro n_
  induction n_ with
  | zero => intro k hm_; exact absurd hm_ (Nat.not_lt_zero _)
  | succ n_ ih =>
    intro k hm_ hk
    refine r_iload_n C dJ7_fill_d0a16_6 1 rfl ?_
    refine r_iload C dJ7_fill_d0a16_7 0 rfl ?_
    refine r_icmp_ge C 22 dJ7_fill_d0a16_9 (by decide) (nI_leI (by omega) (by omega)) (fun h9 => ?_) (fun h9 => ?_)
    · have hk16 : k = 16 := by omega
      subst hk16
      exact r_vret C dJ7_fill_d0a16_22 Rr
    · refine r_aload_n C dJ7_fill_d0a16_12 2 rfl ?_
      refine r_iload_n C dJ7_fill_d0a16_13 1 rfl ?_
      refine r_lload_n C dJ7_fill_d0a16_14 3 rfl ?_
      refine r_lastF C X (f' := rowU (k + 1) (fun _ => v) (gJ μ i)) (by omega) (by omega) (rowU_s _ _ _ rfl) dJ7_fill_d0a16_15 ?_
      refine r_iinc C (v := (nI (k + 1))) (lv' := [(3, .int (nI (k + 1))), (4, .int (nI 16)), (0, .ref (ad g (fw i))), (1, .long v)]) 3 1 dJ7_fill_d0a16_16 rfl (inc_N _ 1) (by decide) rfl ?_
      refine r_goto C 6 dJ7_fill_d0a16_19 (by decide) ?_
      refine G_sub (lv' := [(4, .int (nI 16)), (3, .int (nI (k + 1))), (0, .ref (ad g (fw i))), (1, .long v)]) [1, 0, 2, 3] rfl ?_
      exact ih (k + 1) (by omega) (by omega)
set_option maxHeartbeats 1000000 in
set_option maxRecDepth 100000 in
theorem c_fill (l : Launch) (g : Gd) (μ : Mm) {i : Nat} (hi : i < 52) (v : Int64) : Ct l yJ7_fill_d0a16 cJ7_fill_d0a16 5 none (rmk 0 0) g [.ref (ad g (fw i)), .long v] μ none (sJ μ i (rowU 16 (fun _ => v) (gJ μ i))) := by
  refine Ct.of (by decide) (Nat.le_of_ble_eq_true rfl) (fun z A C X Rr => ?_)
  refine r_iconst C (v := (nI 0)) dJ7_fill_d0a16_0 rfl ?_
  refine r_istore_n C (lv' := [(3, .int (nI 0)), (0, .ref (ad g (fw i))), (1, .long v)]) 3 dJ7_fill_d0a16_1 rfl (by decide) rfl ?_
  refine r_aload_n C dJ7_fill_d0a16_2 1 rfl ?_
  refine r_alen C X (k := (fw i)) (t := 2) (n := 16) (fw_lt (by omega)) (WF_fw g _ i) rfl rfl dJ7_fill_d0a16_3 ?_
  refine r_istore C (lv' := [(4, .int (nI 16)), (3, .int (nI 0)), (0, .ref (ad g (fw i))), (1, .long v)]) 4 dJ7_fill_d0a16_4 (by decide) rfl ?_
  refine G_mem (show μ = sJ μ i (rowU 0 (fun _ => v) (gJ μ i)) by rw [rowU_0, sJ_i]) ?_
  exact lp_fill C X hi Rr 17 0 (by decide) (by decide)
def qa (n : Nat) : Nat := t3 4 (t2 4 (t1 4 n))
def qb (n : Nat) : Nat := qa n + qa n / 2 ^ 8
def qc (n : Nat) : Nat := qb n + qb n / 2 ^ 16
theorem q_lt {n : Nat} (h : n < 2 ^ 32) : t1 4 n < 2 ^ 32 ∧ t2 4 (t1 4 n) < 2 ^ 31 ∧ qa n < 2 ^ 28 ∧ qb n < 2 ^ 29 ∧ qc n < 2 ^ 30 := by
  have h1 : t1 4 n ≤ n := Nat.sub_le _ _
  have h2 : t2 4 (t1 4 n) < 2 ^ 30 + 2 ^ 30 := Nat.add_lt_add (Nat.and_lt_two_pow _ (by decide)) (Nat.and_lt_two_pow _ (by decide))
  have h3 : qa n < 2 ^ 28 := Nat.and_lt_two_pow _ (by decide)
  unfold qc qb
  omega
theorem pop32 (n : Nat) : qc n % 64 = cnt n.testBit 32 := by
  have e : cnt n.testBit 32 = cnt (n % 256).testBit 8 + cnt (n / 2 ^ 8 % 256).testBit 8 + cnt (n / 2 ^ 16 % 256).testBit 8 + cnt (n / 2 ^ 24 % 256).testBit 8 := by
    have h0 := cnt_byte n 0
    simp only [Nat.zero_add, Nat.pow_zero, Nat.div_one] at h0
    rw [show (32 : Nat) = 24 + 8 from rfl, cnt_add, cnt_byte, show (24 : Nat) = 16 + 8 from rfl, cnt_add, cnt_byte, show (16 : Nat) = 8 + 8 from rfl, cnt_add, cnt_byte, ← h0]
  have ha : qa n = SP 4 n := (SP_ok 4 n).1
  simp only [SP, Nat.div_div_eq_div_mul, Nat.reduceMul] at ha
  simp only [Nat.reducePow] at e
  rw [e]
  have q0 := cnt_le (n % 256).testBit 8
  have q1 := cnt_le (n / 256 % 256).testBit 8
  have q2 := cnt_le (n / 65536 % 256).testBit 8
  have q3 := cnt_le (n / 16777216 % 256).testBit 8
  unfold qc qb
  rw [ha]
  clear e ha
  generalize cnt (n % 256).testBit 8 = p0 at *
  generalize cnt (n / 256 % 256).testBit 8 = p1 at *
  generalize cnt (n / 65536 % 256).testBit 8 = p2 at *
  generalize cnt (n / 16777216 % 256).testBit 8 = p3 at *
  have e1 : (256 * (256 * (256 * (256 * 0 + p3) + p2) + p1) + p0) / 2 ^ 8 = 256 * (256 * p3 + p2) + p1 := by omega
  rw [e1]
  have e2 : (256 * (256 * (256 * (256 * 0 + p3) + p2) + p1) + p0 + (256 * (256 * p3 + p2) + p1)) / 2 ^ 16 = 256 * p3 + (p2 + p3) := by omega
  rw [e2]
  omega
def pN (n : Nat) : Nat := cnt n.testBit 32
theorem pN_le (n : Nat) : pN n ≤ 32 := cnt_le _ _
theorem qend (n : Nat) : nI (qc n) &&& nI 63 = nI (pN n) := by
  rw [nand, show (63 : Nat) = 2 ^ 6 - 1 from rfl, Nat.and_two_pow_sub_one_eq_mod]
  exact congrArg nI (pop32 n)
theorem nushr {n k : Nat} (hn : n < 2 ^ 32) (hk : k < 32) : ((nI n).toUInt32 >>> ((nI k).toUInt32 &&& Int32.toUInt32 31)).toInt32 = nI (n / 2 ^ k) := pk_ushrN hn _ k (by
  have := nx_cnt ⟨k, hk⟩
  exact this)
set_option maxHeartbeats 1000000 in
set_option maxRecDepth 100000 in
theorem c_bitCountI (l : Launch) {n : Nat} (hn : n < 2 ^ 32) : Cp l yJ6_bitCount_0f7a4 cJ6_bitCount_0f7a4 1 (some .int) (rmk 0 0) [.int (nI n)] (some (.int (nI (pN n)))) := by
  obtain ⟨h1, h2, h3, h4, h5⟩ := q_lt hn
  refine Cp.of (D := (fun _ => 0, fun _ _ => 0)) (by decide) (Nat.le_of_ble_eq_true rfl) (fun z A C Rr => ?_)
  refine r_iload_n C dJ6_bitCount_0f7a4_0 0 rfl ?_
  refine r_iload_n C dJ6_bitCount_0f7a4_1 0 rfl ?_
  refine r_iconst C (v := (nI 1)) dJ6_bitCount_0f7a4_2 rfl ?_
  refine r_iushr C (v := (nI (n / 2))) dJ6_bitCount_0f7a4_3 (nushr (by omega) (by decide)) ?_
  refine r_ldcw C dJ6_bitCount_0f7a4_4 hw_2_202 ?_
  refine G_top (y := (nI 1431655765)) (by decide) ?_
  refine r_iand C (v := (nI (n / 2 &&& rep 0x55 4))) dJ6_bitCount_0f7a4_7 (nand _ _) ?_
  refine r_isub C (v := (nI (t1 4 n))) dJ6_bitCount_0f7a4_8 (pk_sub (Nat.le_trans Nat.and_le_left (Nat.div_le_self _ _))) ?_
  refine r_istore_n C (lv' := [(0, .int (nI (t1 4 n)))]) 0 dJ6_bitCount_0f7a4_9 rfl (by decide) rfl ?_
  refine r_iload_n C dJ6_bitCount_0f7a4_10 0 rfl ?_
  refine r_ldcw C dJ6_bitCount_0f7a4_11 hw_2_203 ?_
  refine G_top (y := (nI 858993459)) (by decide) ?_
  refine r_iand C (v := (nI (t1 4 n &&& rep 0x33 4))) dJ6_bitCount_0f7a4_14 (nand _ _) ?_
  refine r_iload_n C dJ6_bitCount_0f7a4_15 0 rfl ?_
  refine r_iconst C (v := (nI 2)) dJ6_bitCount_0f7a4_16 rfl ?_
  refine r_iushr C (v := (nI (t1 4 n / 4))) dJ6_bitCount_0f7a4_17 (nushr (by omega) (by decide)) ?_
  refine r_ldcw C dJ6_bitCount_0f7a4_18 hw_2_203 ?_
  refine G_top (y := (nI 858993459)) (by decide) ?_
  refine r_iand C (v := (nI (t1 4 n / 4 &&& rep 0x33 4))) dJ6_bitCount_0f7a4_21 (nand _ _) ?_
  refine r_iadd C (v := (nI (t2 4 (t1 4 n)))) dJ6_bitCount_0f7a4_22 (nI_add _ _) ?_
  refine r_istore_n C (lv' := [(0, .int (nI (t2 4 (t1 4 n))))]) 0 dJ6_bitCount_0f7a4_23 rfl (by decide) rfl ?_
  refine r_iload_n C dJ6_bitCount_0f7a4_24 0 rfl ?_
  refine r_iload_n C dJ6_bitCount_0f7a4_25 0 rfl ?_
  refine r_iconst C (v := (nI 4)) dJ6_bitCount_0f7a4_26 rfl ?_
  refine r_iushr C (v := (nI (t2 4 (t1 4 n) / 16))) dJ6_bitCount_0f7a4_27 (nushr (by omega) (by decide)) ?_
  refine r_iadd C (v := (nI (t2 4 (t1 4 n) + t2 4 (t1 4 n) / 16))) dJ6_bitCount_0f7a4_28 (nI_add _ _) ?_
  refine r_ldcw C dJ6_bitCount_0f7a4_29 hw_2_204 ?_
  refine G_top (y := (nI 252645135)) (by decide) ?_
  refine r_iand C (v := (nI (qa n))) dJ6_bitCount_0f7a4_32 (nand _ _) ?_
  refine r_istore_n C (lv' := [(0, .int (nI (qa n)))]) 0 dJ6_bitCount_0f7a4_33 rfl (by decide) rfl ?_
  refine r_iload_n C dJ6_bitCount_0f7a4_34 0 rfl ?_
  refine r_iload_n C dJ6_bitCount_0f7a4_35 0 rfl ?_
  refine r_bipush C (v := (nI 8)) dJ6_bitCount_0f7a4_36 (by decide) ?_
  refine r_iushr C (v := (nI (qa n / 2 ^ 8))) dJ6_bitCount_0f7a4_38 (nushr (by omega) (by decide)) ?_
  refine r_iadd C (v := (nI (qb n))) dJ6_bitCount_0f7a4_39 (nI_add _ _) ?_
  refine r_istore_n C (lv' := [(0, .int (nI (qb n)))]) 0 dJ6_bitCount_0f7a4_40 rfl (by decide) rfl ?_
  refine r_iload_n C dJ6_bitCount_0f7a4_41 0 rfl ?_
  refine r_iload_n C dJ6_bitCount_0f7a4_42 0 rfl ?_
  refine r_bipush C (v := (nI 16)) dJ6_bitCount_0f7a4_43 (by decide) ?_
  refine r_iushr C (v := (nI (qb n / 2 ^ 16))) dJ6_bitCount_0f7a4_45 (nushr (by omega) (by decide)) ?_
  refine r_iadd C (v := (nI (qc n))) dJ6_bitCount_0f7a4_46 (nI_add _ _) ?_
  refine r_istore_n C (lv' := [(0, .int (nI (qc n)))]) 0 dJ6_bitCount_0f7a4_47 rfl (by decide) rfl ?_
  refine r_iload_n C dJ6_bitCount_0f7a4_48 0 rfl ?_
  refine r_bipush C (v := (nI 63)) dJ6_bitCount_0f7a4_49 (by decide) ?_
  refine r_iand C (v := (nI (pN n))) dJ6_bitCount_0f7a4_51 (qend _) ?_
  exact p_iret C dJ6_bitCount_0f7a4_52 Rr
