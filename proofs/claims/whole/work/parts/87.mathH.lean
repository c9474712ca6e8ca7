/-! compressions -/
def sfm (j i c : Nat) : Bool := c.testBit j && !c.testBit i
theorem cmT_tb {j i c : Nat} (hij : ¬ j = i) : (cmT j i c).testBit j = !c.testBit j ∧ (cmT j i c).testBit i = !c.testBit i := by
  unfold cmT
  exact ⟨by rw [xr_tbn _ (fun q => hij q.symm), xr_tbs], by rw [xr_tbs, xr_tbn _ hij]⟩
theorem cmT_T (j i c : Nat) : cmT j i (cmT j i c) = c := by
  unfold cmT
  apply Nat.eq_of_testBit_eq; intro k
  rw [xr_tb, xr_tb, xr_tb, xr_tb]
  cases c.testBit k <;> cases decide (j = k) <;> cases decide (i = k) <;> rfl
theorem cmT_sf {j i c : Nat} (hij : ¬ j = i) : sfm j i (cmT j i c) = sfm i j c := by
  unfold sfm; rw [(cmT_tb hij).1, (cmT_tb hij).2, Bool.not_not, Bool.and_comm]
theorem sf_ex {j i c : Nat} (h : sfm j i c = true) : sfm i j c = false := by
  unfold sfm at *; revert h; cases c.testBit j <;> cases c.testBit i <;> simp
theorem cmC_ok (F : Nat → Bool) (f j i s : Nat) : cmC F f j i s = (F (1024 * f + s) && sfm j i s) := by
  unfold cmC sfm
  rw [Bool.and_assoc]
  congr 2
  · exact Bool.eq_iff_iff.mpr (by rw [decide_eq_true_iff]; exact (dv1 s j).2)
  · exact Bool.eq_iff_iff.mpr (by rw [decide_eq_true_iff, Bool.not_eq_true']; exact (dv1 s i).1)
/-- the family behind the codes below s -/
def cmS (F : Nat → Bool) (f j i s c : Nat) : Bool := if sfm j i c = true ∧ c < s then F (1024 * f + c) && F (1024 * f + cmT j i c) else if sfm i j c = true ∧ cmT j i c < s then F (1024 * f + c) || F (1024 * f + cmT j i c) else F (1024 * f + c)
theorem cmF_ok (F : Nat → Bool) {f j i : Nat} (hij : ¬ j = i) : ∀ s, (∀ k, (cmF F f j i s).1 k = if 1024 * f ≤ k then cmS F f j i s (k - 1024 * f) else F k) ∧ (cmF F f j i s).2 = cnt (fun u => sfm j i u && (F (1024 * f + u) && !F (1024 * f + cmT j i u))) s
  | 0 => by
    refine ⟨fun k => ?_, rfl⟩
    show F k = _
    split
    · unfold cmS; rw [if_neg (fun q => absurd q.2 (Nat.not_lt_zero _)), if_neg (fun q => absurd q.2 (Nat.not_lt_zero _))]; congr 1; omega
    · rfl
  | s + 1 => by
    obtain ⟨h1, h2⟩ := cmF_ok F hij s
    have a : ∀ c, (cmF F f j i s).1 (1024 * f + c) = cmS F f j i s c := fun c => by rw [h1, if_pos (by omega)]; congr 1; omega
    have as : (cmF F f j i s).1 (1024 * f + s) = F (1024 * f + s) ∨ sfm j i s = false := by
      cases q : sfm j i s
      · exact Or.inr rfl
      · left; rw [a]; unfold cmS; rw [if_neg (by omega), if_neg (by rw [sf_ex q]; exact fun z => absurd z.1 (by decide))]
    rw [cmF, cnt_succ]
    cases hs : sfm j i s
    · have q : ¬ (cmC (cmF F f j i s).1 f j i s = true ∧ (cmF F f j i s).1 (1024 * f + cmT j i s) = false) := fun z => by rw [cmC_ok, hs] at z; simp at z
      simp only [if_neg q]
      refine ⟨fun k => ?_, by rw [h2]; simp⟩
      rw [h1]
      split
      · rename_i hk
        generalize k - 1024 * f = c
        unfold cmS
        have e1 : (sfm j i c = true ∧ c < s) ↔ (sfm j i c = true ∧ c < s + 1) := and_congr_right (fun z => ⟨fun y => by omega, fun y => by
          rcases Nat.lt_or_eq_of_le (Nat.le_of_lt_succ y) with w | w
          · exact w
          · rw [w, hs] at z; cases z⟩)
        have e2 : (sfm i j c = true ∧ cmT j i c < s) ↔ (sfm i j c = true ∧ cmT j i c < s + 1) := and_congr_right (fun z => ⟨fun y => by omega, fun y => by
          rcases Nat.lt_or_eq_of_le (Nat.le_of_lt_succ y) with w | w
          · exact w
          · rw [← cmT_sf hij, w, hs] at z; cases z⟩)
        simp only [e1, e2]
      · rfl
    · have aF : (cmF F f j i s).1 (1024 * f + s) = F (1024 * f + s) := as.elim id (fun z => by rw [hs] at z; cases z)
      have hv : sfm i j (cmT j i s) = true := by
        have := cmT_sf (c := cmT j i s) hij
        rw [cmT_T, hs] at this; exact this.symm
      have aT : (cmF F f j i s).1 (1024 * f + cmT j i s) = F (1024 * f + cmT j i s) := by
        rw [a]; unfold cmS
        rw [if_neg (by rw [cmT_sf hij, sf_ex hs]; exact fun z => absurd z.1 (by decide)), if_neg (by rw [cmT_T]; omega)]
      have hne : ¬ cmT j i s = s := fun z => by rw [z, sf_ex hs] at hv; cases hv
      have hold : ∀ c, ¬ c = s → ¬ c = cmT j i s → cmS F f j i (s + 1) c = cmS F f j i s c := fun c c1 c2 => by
        unfold cmS
        have e1 : (sfm j i c = true ∧ c < s + 1) ↔ (sfm j i c = true ∧ c < s) := and_congr_right (fun z => ⟨fun y => by omega, fun y => by omega⟩)
        have e2 : (sfm i j c = true ∧ cmT j i c < s + 1) ↔ (sfm i j c = true ∧ cmT j i c < s) := and_congr_right (fun z => ⟨fun y => by
          rcases Nat.lt_or_eq_of_le (Nat.le_of_lt_succ y) with w | w
          · exact w
          · exact absurd (by rw [← w, cmT_T]) c2, fun y => by omega⟩)
        simp only [e1, e2]
      have hns : cmS F f j i (s + 1) s = (F (1024 * f + s) && F (1024 * f + cmT j i s)) := by unfold cmS; rw [if_pos ⟨hs, by omega⟩]
      have hnt : cmS F f j i (s + 1) (cmT j i s) = (F (1024 * f + cmT j i s) || F (1024 * f + s)) := by
        unfold cmS
        rw [if_neg (by rw [cmT_sf hij, sf_ex hs]; exact fun z => absurd z.1 (by decide)), if_pos ⟨hv, by rw [cmT_T]; omega⟩, cmT_T]
      by_cases q : cmC (cmF F f j i s).1 f j i s = true ∧ (cmF F f j i s).1 (1024 * f + cmT j i s) = false
      · simp only [if_pos q]
        rw [cmC_ok, aF, hs, Bool.and_true, aT] at q
        refine ⟨fun k => ?_, by rw [h2, q.1, q.2]; rfl⟩
        unfold upB
        by_cases k1 : k = 1024 * f + cmT j i s
        · rw [if_pos k1, if_pos (by omega), show k - 1024 * f = cmT j i s by omega, hnt, q.1]; simp
        · rw [if_neg k1]
          by_cases k2 : k = 1024 * f + s
          · rw [if_pos k2, if_pos (by omega), show k - 1024 * f = s by omega, hns, q.2]; simp
          · rw [if_neg k2, h1]
            split
            · rw [hold _ (by omega) (by omega)]
            · rfl
      · simp only [if_neg q]
        rw [cmC_ok, aF, hs, Bool.and_true, aT] at q
        have hq : F (1024 * f + s) = false ∨ F (1024 * f + cmT j i s) = true := by
          cases z1 : F (1024 * f + s)
          · exact Or.inl rfl
          · cases z2 : F (1024 * f + cmT j i s)
            · exact absurd ⟨z1, z2⟩ q
            · exact Or.inr rfl
        refine ⟨fun k => ?_, by rw [h2]; rcases hq with z | z <;> rw [z] <;> simp⟩
        rw [h1]
        split
        · by_cases k1 : k - 1024 * f = cmT j i s
          · rw [k1, hnt, ← a, aT]; rcases hq with z | z <;> rw [z] <;> simp
          · by_cases k2 : k - 1024 * f = s
            · rw [k2, hns, ← a, aF]; rcases hq with z | z <;> rw [z] <;> simp
            · rw [hold _ k2 k1]
        · rfl
theorem cnt_xr : ∀ (n : Nat) (p : Nat → Bool) (m : Nat), m < 2 ^ n → cnt p (2 ^ n) = cnt (fun c => p (c ^^^ m)) (2 ^ n)
  | 0, p, m, h => by
    have : m = 0 := by omega
    subst this
    exact cnt_congr (fun c _ => by rw [Nat.xor_zero])
  | n + 1, p, m, h => by
    have hb : ∀ c, c < 2 ^ n → 2 ^ n + c = c ^^^ 2 ^ n := fun c hc => by rw [xr_add (hb_lt hc (Nat.le_refl n)), Nat.add_comm]
    rw [Nat.pow_succ, Nat.mul_two, cnt_add p, cnt_add (fun c => p (c ^^^ m))]
    rcases Nat.lt_or_ge m (2 ^ n) with q | q
    · rw [cnt_xr n p m q, cnt_xr n (fun i => p (2 ^ n + i)) m q]
      congr 1
      refine cnt_congr (fun c hc => ?_)
      rw [hb c hc, hb _ (Nat.xor_lt_two_pow hc q), Nat.xor_assoc, Nat.xor_assoc, Nat.xor_comm m]
    · obtain ⟨m', rfl⟩ : ∃ m', m = 2 ^ n + m' := ⟨m - 2 ^ n, by omega⟩
      have hm : m' < 2 ^ n := by rw [Nat.pow_succ] at h; omega
      rw [cnt_xr n p m' hm, cnt_xr n (fun i => p (2 ^ n + i)) m' hm, Nat.add_comm]
      congr 1
      · refine cnt_congr (fun c hc => ?_)
        rw [hb _ (Nat.xor_lt_two_pow hc hm), hb m' hm, Nat.xor_assoc]
      · refine cnt_congr (fun c hc => ?_)
        rw [hb c hc, hb m' hm, Nat.xor_assoc, Nat.xor_comm (2 ^ n), Nat.xor_assoc m', Nat.xor_self, Nat.xor_zero]
section CM
variable {n : Nat} {μ : Mm} {f j i : Nat} {A : Nat → Prop}
theorem ma_lx (hn : n ≤ 10) {t s a b : Nat} (hab : ¬ a = b) (ha : a < n) (hb : b < n) (ht : t ≠ 23) (hs : s ≠ 23) (h : Rq n (gJ μ s) A) : Rq n (gJ (mLX μ (wf n) t s a b) t) (fun c => sfm b a c = true ∧ A (cmT b a c)) ∧ Fs (fun q => q = 23 ∨ q = t) μ (mLX μ (wf n) t s a b) := by
  unfold mLX
  have f1 : Fs (fun q => q = 23) μ (mClr μ 23) := Fs_sJ _ _ rfl
  have r1 := ma_clr (μ := μ) (i := 23) hn
  have r2 := ma_jl (e := a) hn ha r1 (j := s) (B := A) (by rw [f1.j hs]; exact h)
  have f2 : Fs (fun q => q = 23) (mClr μ 23) (mJL (mClr μ 23) (wf n) 23 s a) := Fs_sJ _ _ rfl
  have f3 : Fs (fun q => q = t) (mJL (mClr μ 23) (wf n) 23 s a) (mClr (mJL (mClr μ 23) (wf n) 23 s a) t) := Fs_sJ _ _ rfl
  have r3 := ma_clr (μ := mJL (mClr μ 23) (wf n) 23 s a) (i := t) hn
  have r4 := ma_jr (e := b) hn hb r3 (j := 23) (B := _) (by rw [f3.j (fun q => ht q.symm)]; exact r2)
  refine ⟨r4.cg (fun c hc => ?_), (((f1.trans f2).mono (fun q z => Or.inl z)).trans (f3.mono (fun q z => Or.inr z))).trans (Fs_sJ _ _ (Or.inr rfl))⟩
  unfold sfm cmT
  rw [Bool.and_eq_true, Bool.not_eq_true', and_assoc, xr_tbn c (fun q => hab q.symm)]
  exact ⟨fun z => z.elim (fun y => y.elim) (fun y => ⟨y.1, y.2.elim (fun w => w.elim) id⟩), fun z => Or.inr ⟨z.1, Or.inr z.2⟩⟩
theorem ma_arr (hn : n ≤ 10) (hij : ¬ j = i) (hj : j < n) (hi : i < n) (hf : f < 4) (h : Rq n (gJ μ f) A) : Rq n (gJ (mArr μ (wf n) f j i) 24) (fun c => (sfm i j c = true ∧ A (cmT i j c)) ∧ ¬ A c) ∧ Fs (fun q => q = 23 ∨ q = 24) μ (mArr μ (wf n) f j i) := by
  unfold mArr
  obtain ⟨r1, f1⟩ := ma_lx (t := 24) (s := f) (a := j) (b := i) hn hij hj hi (by decide) (by omega) h
  exact ⟨ma_sub hn r1 (by rw [f1.j (by omega)]; exact h), f1.trans (Fs_sJ _ _ (Or.inr rfl))⟩
theorem ma_rep (hn : n ≤ 10) (hij : ¬ j = i) (hj : j < n) (hi : i < n) (hf : f < 4) (h : Rq n (gJ μ f) A) : Rq n (gJ (mRep μ (wf n) f j i) f) (fun c => (A c ∧ ¬ (sfm j i c = true ∧ (sfm i j (cmT j i c) = true ∧ A (cmT i j (cmT j i c))) ∧ ¬ A (cmT j i c))) ∨ ((sfm i j c = true ∧ A (cmT i j c)) ∧ ¬ A c)) ∧ Rq n (gJ (mRep μ (wf n) f j i) 24) (fun c => (sfm i j c = true ∧ A (cmT i j c)) ∧ ¬ A c) ∧ Fs (fun q => q = 23 ∨ q = 24 ∨ q = 25 ∨ q = f) μ (mRep μ (wf n) f j i) := by
  unfold mRep
  obtain ⟨r1, f1⟩ := ma_arr hn hij hj hi hf h
  obtain ⟨r2, f2⟩ := ma_lx (μ := mArr μ (wf n) f j i) (t := 25) (s := 24) (a := i) (b := j) hn (fun q => hij q.symm) hi hj (by decide) (by decide) r1
  have f3 : Fs (fun q => q = f) (mLX (mArr μ (wf n) f j i) (wf n) 25 24 i j) (mSub (mLX (mArr μ (wf n) f j i) (wf n) 25 24 i j) (wf n) f 25) := Fs_sJ _ _ rfl
  have r3 := ma_sub (μ := mLX (mArr μ (wf n) f j i) (wf n) 25 24 i j) (i := f) (j := 25) (A := A) hn (by rw [f2.j (by omega), f1.j (by omega)]; exact h) r2
  have r24 : Rq n (gJ (mSub (mLX (mArr μ (wf n) f j i) (wf n) 25 24 i j) (wf n) f 25) 24) (fun c => (sfm i j c = true ∧ A (cmT i j c)) ∧ ¬ A c) := by rw [f3.j (by omega), f2.j (by omega)]; exact r1
  have r4 := ma_join hn r3 r24
  have f4 : Fs (fun q => q = f) (mSub (mLX (mArr μ (wf n) f j i) (wf n) 25 24 i j) (wf n) f 25) (mJoin (mSub (mLX (mArr μ (wf n) f j i) (wf n) 25 24 i j) (wf n) f 25) (wf n) f 24) := Fs_sJ _ _ rfl
  refine ⟨r4, by rw [f4.j (by omega)]; exact r24, ?_⟩
  exact (f1.mono (fun q z => by omega)).trans ((f2.mono (fun q z => by omega)).trans ((f3.mono (fun q z => by omega)).trans (f4.mono (fun q z => by omega))))
end CM
theorem cmT_c (j i c : Nat) : cmT i j c = cmT j i c := by
  unfold cmT; rw [Nat.xor_assoc, Nat.xor_comm (2 ^ i), ← Nat.xor_assoc]
theorem rep_ok {n : Nat} {μ : Mm} {f j i : Nat} {F : Nat → Bool} (hn : n ≤ 10) (hij : ¬ j = i) (hj : j < n) (hi : i < n) (hf : f < 4) (h : Rq n (gJ μ f) (fun c => F (1024 * f + c) = true)) :
    Rq n (gJ (mRep μ (wf n) f j i) f) (fun c => (cmF F f j i (2 ^ n)).1 (1024 * f + c) = true) ∧ ct (mRep μ (wf n) f j i) (wf n) 24 = (cmF F f j i (2 ^ n)).2 ∧ Fs (fun q => q = 23 ∨ q = 24 ∨ q = 25 ∨ q = f) μ (mRep μ (wf n) f j i) := by
  obtain ⟨r1, r2, fr⟩ := ma_rep hn hij hj hi hf h
  obtain ⟨c1, c2⟩ := cmF_ok F (f := f) hij (2 ^ n)
  refine ⟨r1.cg (fun c hc => ?_), ?_, fr⟩
  · rw [c1, if_pos (by omega), show 1024 * f + c - 1024 * f = c by omega]
    unfold cmS
    have hT := cmT_lt (j := j) (i := i) hc hj hi
    simp only [hc, hT, and_true, cmT_c j i, cmT_T]
    have hx := cmT_sf (j := j) (i := i) (c := c) hij
    have hx2 : sfm i j (cmT j i c) = sfm j i c := by rw [← cmT_sf (c := cmT j i c) hij, cmT_T]
    rw [hx2]
    cases h1 : sfm j i c
    · cases h2 : sfm i j c <;> cases F (1024 * f + c) <;> cases F (1024 * f + cmT j i c) <;> simp
    · rw [sf_ex h1]; cases F (1024 * f + c) <;> cases F (1024 * f + cmT j i c) <;> simp
  · rw [c2]
    unfold ct
    have hm : 2 ^ j ^^^ 2 ^ i < 2 ^ n := Nat.xor_lt_two_pow (Nat.pow_lt_pow_right (by decide) hj) (Nat.pow_lt_pow_right (by decide) hi)
    rw [ct_P hn r2 (G := fun c => (sfm i j c && F (1024 * f + cmT j i c)) && !F (1024 * f + c)) (fun c hc => by rw [cmT_c j i]; simp [and_assoc]), cnt_xr n _ _ hm]
    refine cnt_congr (fun c hc => ?_)
    rw [← Nat.xor_assoc]
    show (sfm i j (cmT j i c) && F (1024 * f + cmT j i (cmT j i c)) && !F (1024 * f + cmT j i c)) = _
    have hx2 : sfm i j (cmT j i c) = sfm j i c := by rw [← cmT_sf (c := cmT j i c) hij, cmT_T]
    rw [hx2, cmT_T, Bool.and_assoc]
