/-! closures, shadows, mirrors -/
def Sb (s c : Nat) : Prop := ∀ i, s.testBit i = true → c.testBit i = true
def Ag (k s c : Nat) : Prop := ∀ i, k ≤ i → s.testBit i = c.testBit i
theorem Sb_and {s c : Nat} : Sb s c ↔ s &&& c = s := by
  constructor
  · intro h; apply Nat.eq_of_testBit_eq; intro i; rw [Nat.testBit_and]
    cases hs : s.testBit i
    · rfl
    · rw [h i hs]; rfl
  · intro h i hi
    have := congrArg (fun v => v.testBit i) h
    simp only [Nat.testBit_and, hi, Bool.true_and] at this
    exact this
theorem Sb_le {s c : Nat} (h : Sb s c) : s ≤ c := Nat.le_of_testBit h
theorem Sb_refl (c : Nat) : Sb c c := fun _ h => h
theorem Sb_trans {a b c : Nat} (h : Sb a b) (k : Sb b c) : Sb a c := fun i q => k i (h i q)
theorem Sb_anti {a b : Nat} (h : Sb a b) (k : Sb b a) : a = b := Nat.le_antisymm (Sb_le h) (Sb_le k)
theorem Ag_0 {s c : Nat} (h : Ag 0 s c) : s = c := Nat.eq_of_testBit_eq (fun i => h i (Nat.zero_le _))
theorem Ag_refl (k c : Nat) : Ag k c c := fun _ _ => rfl
theorem hb_lt {n c i : Nat} (hc : c < 2 ^ n) (h : n ≤ i) : c.testBit i = false := Nat.testBit_lt_two_pow (Nat.lt_of_lt_of_le hc (Nat.pow_le_pow_right (by decide) h))
theorem Ag_n {n s c : Nat} (hs : s < 2 ^ n) (hc : c < 2 ^ n) : Ag n s c := fun i hi => by rw [hb_lt hs hi, hb_lt hc hi]
theorem Ag_lt {n k s c : Nat} (h : Ag k s c) (hk : k ≤ n) (hc : c < 2 ^ n) : s < 2 ^ n := Nat.lt_pow_two_of_testBit _ (fun i hi => by rw [h i (by omega)]; exact hb_lt hc hi)
theorem tb_in {n c i : Nat} (hc : c < 2 ^ n) (h : c.testBit i = true) : i < n := by
  rcases Nat.lt_or_ge i n with q | q
  · exact q
  · rw [hb_lt hc q] at h; cases h
theorem up_stp {A : Nat → Prop} {k c : Nat} : (∃ s, A s ∧ Sb s c ∧ Ag (k + 1) s c) ↔ (∃ s, A s ∧ Sb s c ∧ Ag k s c) ∨ (c.testBit k = true ∧ ∃ s, A s ∧ Sb s (c ^^^ 2 ^ k) ∧ Ag k s (c ^^^ 2 ^ k)) := by
  constructor
  · rintro ⟨s, h1, h2, h3⟩
    by_cases q : s.testBit k = c.testBit k
    · refine Or.inl ⟨s, h1, h2, fun i hi => ?_⟩
      rcases Nat.lt_or_eq_of_le hi with z | z
      · exact h3 i z
      · rw [← z]; exact q
    · have hs : s.testBit k = false := by
        cases hh : s.testBit k
        · rfl
        · exact absurd (hh.trans (h2 k hh).symm) q
      have hc : c.testBit k = true := by
        cases hh : c.testBit k
        · exact absurd (hs.trans hh.symm) q
        · rfl
      refine Or.inr ⟨hc, s, h1, fun i hi => ?_, fun i hi => ?_⟩
      · rw [xr_tbn c (fun z => by rw [← z, hs] at hi; cases hi)]; exact h2 i hi
      · rcases Nat.lt_or_eq_of_le hi with z | z
        · rw [xr_tbn c (by omega)]; exact h3 i z
        · rw [← z, xr_tbs, hc, hs]; rfl
  · rintro (⟨s, h1, h2, h3⟩ | ⟨hc, s, h1, h2, h3⟩)
    · exact ⟨s, h1, h2, fun i hi => h3 i (by omega)⟩
    · refine ⟨s, h1, fun i hi => ?_, fun i hi => ?_⟩
      · have := h2 i hi
        by_cases z : k = i
        · rw [← z]; exact hc
        · rwa [xr_tbn c z] at this
      · rw [h3 i (by omega), xr_tbn c (by omega)]
theorem dn_stp {A : Nat → Prop} {k c : Nat} : (∃ s, A s ∧ Sb c s ∧ Ag (k + 1) s c) ↔ (∃ s, A s ∧ Sb c s ∧ Ag k s c) ∨ (c.testBit k = false ∧ ∃ s, A s ∧ Sb (c ^^^ 2 ^ k) s ∧ Ag k s (c ^^^ 2 ^ k)) := by
  constructor
  · rintro ⟨s, h1, h2, h3⟩
    by_cases q : s.testBit k = c.testBit k
    · refine Or.inl ⟨s, h1, h2, fun i hi => ?_⟩
      rcases Nat.lt_or_eq_of_le hi with z | z
      · exact h3 i z
      · rw [← z]; exact q
    · have hc : c.testBit k = false := by
        cases hh : c.testBit k
        · rfl
        · exact absurd ((h2 k hh).trans hh.symm) q
      have hs : s.testBit k = true := by
        cases hh : s.testBit k
        · exact absurd (hh.trans hc.symm) q
        · rfl
      refine Or.inr ⟨hc, s, h1, fun i hi => ?_, fun i hi => ?_⟩
      · by_cases z : k = i
        · rw [← z]; exact hs
        · rw [xr_tbn c z] at hi; exact h2 i hi
      · rcases Nat.lt_or_eq_of_le hi with z | z
        · rw [xr_tbn c (by omega)]; exact h3 i z
        · rw [← z, xr_tbs, hc, hs]; rfl
  · rintro (⟨s, h1, h2, h3⟩ | ⟨hc, s, h1, h2, h3⟩)
    · exact ⟨s, h1, h2, fun i hi => h3 i (by omega)⟩
    · refine ⟨s, h1, fun i hi => ?_, fun i hi => ?_⟩
      · by_cases z : k = i
        · rw [← z, hc] at hi; cases hi
        · exact h2 i (by rw [xr_tbn c z]; exact hi)
      · rw [h3 i (by omega), xr_tbn c (by omega)]
/-- nothing changes but rows of K -/
def Fs (K : Nat → Prop) (μ μ' : Mm) : Prop := (∀ k, gI μ' k = gI μ k) ∧ (∀ k, gL μ' k = gL μ k) ∧ (∀ k, gA μ' k = gA μ k) ∧ ∀ j, ¬ K j → gJ μ' j = gJ μ j
theorem Fs.refl (K : Nat → Prop) (μ : Mm) : Fs K μ μ := ⟨fun _ => rfl, fun _ => rfl, fun _ => rfl, fun _ _ => rfl⟩
theorem Fs.trans {K : Nat → Prop} {a b c : Mm} (h : Fs K a b) (k : Fs K b c) : Fs K a c := ⟨fun q => (k.1 q).trans (h.1 q), fun q => (k.2.1 q).trans (h.2.1 q), fun q => (k.2.2.1 q).trans (h.2.2.1 q), fun j hj => (k.2.2.2 j hj).trans (h.2.2.2 j hj)⟩
theorem Fs.mono {K L : Nat → Prop} {a b : Mm} (h : Fs K a b) (hKL : ∀ j, K j → L j) : Fs L a b := ⟨h.1, h.2.1, h.2.2.1, fun j hj => h.2.2.2 j (fun q => hj (hKL j q))⟩
theorem Fs.j {K : Nat → Prop} {a b : Mm} (h : Fs K a b) {j : Nat} (hj : ¬ K j) : gJ b j = gJ a j := h.2.2.2 j hj
theorem Fs_sJ {K : Nat → Prop} (μ : Mm) {i : Nat} (v : Nat → Int64) (hi : K i) : Fs K μ (sJ μ i v) := ⟨fun _ => rfl, fun _ => rfl, fun _ => rfl, fun j hj => gJ_n μ v (fun q => hj (by rw [q]; exact hi))⟩
theorem Fs_it {K : Nat → Prop} {f : Mm → Nat → Mm} (h : ∀ m e, Fs K m (f m e)) (μ : Mm) : ∀ k, Fs K μ (itM f μ k)
  | 0 => Fs.refl K μ
  | k + 1 => (Fs_it h μ k).trans (h _ k)
theorem Fs_up (μ : Mm) (nw i k : Nat) : Fs (fun j => j = i) μ (mUp μ nw i k) := Fs_it (K := fun j => j = i) (f := fun m e => mJR m nw i i e) (fun m e => Fs_sJ m _ rfl) μ k
theorem Fs_dn (μ : Mm) (nw i k : Nat) : Fs (fun j => j = i) μ (mDn μ nw i k) := Fs_it (K := fun j => j = i) (f := fun m e => mJL m nw i i e) (fun m e => Fs_sJ m _ rfl) μ k
theorem Fs_mir (μ : Mm) (nw i k : Nat) : Fs (fun j => j = i) μ (mMir μ nw i k) := Fs_it (K := fun j => j = i) (f := fun m e => mEx m nw i e) (fun m e => Fs_sJ m _ rfl) μ k
theorem Fs_sh (μ : Mm) (nw i j k : Nat) : Fs (fun q => q = i) μ (mSh μ nw i j k) := (Fs_sJ (K := fun q => q = i) μ (i := i) _ rfl).trans (Fs_it (K := fun q => q = i) (f := fun m e => mJL m nw i j e) (fun m e => Fs_sJ m _ rfl) (mClr μ i) k)
theorem Fs_us (μ : Mm) (nw i j k : Nat) : Fs (fun q => q = i) μ (mUS μ nw i j k) := (Fs_sJ (K := fun q => q = i) μ (i := i) _ rfl).trans (Fs_it (K := fun q => q = i) (f := fun m e => mJR m nw i j e) (fun m e => Fs_sJ m _ rfl) (mClr μ i) k)
section MM
variable {n : Nat} {μ : Mm} {i j : Nat} {A B : Nat → Prop}
theorem ma_clr (hn : n ≤ 10) : Rq n (gJ (mClr μ i) i) (fun _ => False) := by unfold mClr; rw [gJ_s]; exact Rq_clr n hn _
theorem ma_cpy (hn : n ≤ 10) (h : Rq n (gJ μ j) A) : Rq n (gJ (mCpy μ i j) i) A := by unfold mCpy; rw [gJ_s]; exact Rq_cpy hn h _
theorem ma_sub (hn : n ≤ 10) (h : Rq n (gJ μ i) A) (k : Rq n (gJ μ j) B) : Rq n (gJ (mSub μ (wf n) i j) i) (fun c => A c ∧ ¬ B c) := by unfold mSub; rw [gJ_s]; exact Rq_sub hn h k
theorem ma_join (hn : n ≤ 10) (h : Rq n (gJ μ i) A) (k : Rq n (gJ μ j) B) : Rq n (gJ (mJoin μ (wf n) i j) i) (fun c => A c ∨ B c) := by unfold mJoin; rw [gJ_s]; exact Rq_join hn h k
theorem ma_meet (hn : n ≤ 10) (h : Rq n (gJ μ i) A) (k : Rq n (gJ μ j) B) : Rq n (gJ (mMeet μ (wf n) i j) i) (fun c => A c ∧ B c) := by unfold mMeet; rw [gJ_s]; exact Rq_meet hn h k
theorem ma_dif (hn : n ≤ 10) (h : Rq n (gJ μ i) A) (k : Rq n (gJ μ j) B) : Rq n (gJ (mDif μ (wf n) i j) i) (fun c => ¬ (A c ↔ B c)) := by unfold mDif; rw [gJ_s]; exact Rq_dif hn h k
theorem ma_inv (hn : n ≤ 10) (h : Rq n (gJ μ i) A) : Rq n (gJ (mInv μ n (wf n) i) i) (fun c => ¬ A c) := by unfold mInv; rw [gJ_s]; exact Rq_inv hn h
theorem ma_kh (hn : n ≤ 10) {e : Nat} (h : Rq n (gJ μ i) A) : Rq n (gJ (mKH μ (wf n) i e) i) (fun c => A c ∧ c.testBit e = true) := by unfold mKH; rw [gJ_s]; exact Rq_kh hn h
theorem ma_kl (hn : n ≤ 10) {e : Nat} (h : Rq n (gJ μ i) A) : Rq n (gJ (mKL μ (wf n) i e) i) (fun c => A c ∧ c.testBit e = false) := by unfold mKL; rw [gJ_s]; exact Rq_kl hn h
theorem ma_ks (hn : n ≤ 10) {m : Nat} (h : Rq n (gJ μ i) A) : Rq n (gJ (mKS μ (wf n) i m) i) (fun c => A c ∧ pN c = m) := by unfold mKS; rw [gJ_s]; exact Rq_ks hn h
theorem ma_put {e : Nat} (h : Rq n (gJ μ i) A) (he : e < 2 ^ n) : Rq n (gJ (mPut μ i e) i) (fun c => A c ∨ c = e) := by unfold mPut; rw [gJ_s]; exact Rq_put h he
theorem ma_drp {e : Nat} (h : Rq n (gJ μ i) A) : Rq n (gJ (mDrp μ i e) i) (fun c => A c ∧ ¬ c = e) := by unfold mDrp; rw [gJ_s]; exact Rq_drp h
theorem ma_jl (hn : n ≤ 10) {e : Nat} (he : e < n) (h : Rq n (gJ μ i) A) (k : Rq n (gJ μ j) B) : Rq n (gJ (mJL μ (wf n) i j e) i) (fun c => A c ∨ (c.testBit e = false ∧ B (c ^^^ 2 ^ e))) := by unfold mJL; rw [gJ_s]; exact Rq_jl he hn h k
theorem ma_jr (hn : n ≤ 10) {e : Nat} (he : e < n) (h : Rq n (gJ μ i) A) (k : Rq n (gJ μ j) B) : Rq n (gJ (mJR μ (wf n) i j e) i) (fun c => A c ∨ (c.testBit e = true ∧ B (c ^^^ 2 ^ e))) := by unfold mJR; rw [gJ_s]; exact Rq_jr he hn h k
theorem ma_up_ (hn : n ≤ 10) (h : Rq n (gJ μ i) A) : ∀ k, k ≤ n → Rq n (gJ (mUp μ (wf n) i k) i) (fun c => ∃ s, A s ∧ Sb s c ∧ Ag k s c)
  | 0, _ => h.cg (fun c hc => ⟨fun q => ⟨c, q, Sb_refl c, Ag_refl 0 c⟩, fun ⟨s, q1, _, q3⟩ => by rw [← Ag_0 q3]; exact q1⟩)
  | k + 1, hk => by
    have ih := ma_up_ hn h k (by omega)
    exact (ma_jr hn (e := k) (by omega) ih ih).cg (fun c hc => up_stp.symm)
theorem ma_up (hn : n ≤ 10) (h : Rq n (gJ μ i) A) : Rq n (gJ (mUp μ (wf n) i n) i) (fun c => ∃ s, A s ∧ Sb s c) :=
  (ma_up_ hn h n (Nat.le_refl n)).cg (fun c hc => ⟨fun ⟨s, a, b, _⟩ => ⟨s, a, b⟩, fun ⟨s, a, b⟩ => ⟨s, a, b, Ag_n (Nat.lt_of_le_of_lt (Sb_le b) hc) hc⟩⟩)
theorem ma_dn_ (hn : n ≤ 10) (h : Rq n (gJ μ i) A) : ∀ k, k ≤ n → Rq n (gJ (mDn μ (wf n) i k) i) (fun c => ∃ s, A s ∧ Sb c s ∧ Ag k s c)
  | 0, _ => h.cg (fun c hc => ⟨fun q => ⟨c, q, Sb_refl c, Ag_refl 0 c⟩, fun ⟨s, q1, _, q3⟩ => by rw [← Ag_0 q3]; exact q1⟩)
  | k + 1, hk => by
    have ih := ma_dn_ hn h k (by omega)
    exact (ma_jl hn (e := k) (by omega) ih ih).cg (fun c hc => dn_stp.symm)
theorem ma_dn (hn : n ≤ 10) (h : Rq n (gJ μ i) A) : Rq n (gJ (mDn μ (wf n) i n) i) (fun c => ∃ s, s < 2 ^ n ∧ A s ∧ Sb c s) :=
  (ma_dn_ hn h n (Nat.le_refl n)).cg (fun c hc => ⟨fun ⟨s, a, b, d⟩ => ⟨s, Ag_lt d (Nat.le_refl n) hc, a, b⟩, fun ⟨s, d, a, b⟩ => ⟨s, a, b, Ag_n d hc⟩⟩)
theorem ltx_s {P : Nat → Prop} {k : Nat} : (∃ x, x < k + 1 ∧ P x) ↔ (∃ x, x < k ∧ P x) ∨ P k := by
  constructor
  · rintro ⟨x, h1, h2⟩
    by_cases q : x = k
    · subst q; exact Or.inr h2
    · exact Or.inl ⟨x, by omega, h2⟩
  · rintro (⟨x, h1, h2⟩ | h)
    · exact ⟨x, by omega, h2⟩
    · exact ⟨k, by omega, h⟩
theorem ma_sh_ (hn : n ≤ 10) (hij : j ≠ i) (h : Rq n (gJ μ j) A) : ∀ k, k ≤ n → Rq n (gJ (mSh μ (wf n) i j k) i) (fun c => ∃ x, x < k ∧ c.testBit x = false ∧ A (c ^^^ 2 ^ x))
  | 0, _ => (ma_clr (μ := μ) (i := i) hn).cg (fun c hc => ⟨fun q => q.elim, fun ⟨x, q, _⟩ => absurd q (Nat.not_lt_zero x)⟩)
  | k + 1, hk => by
    have ih := ma_sh_ hn hij h k (by omega)
    have hj : Rq n (gJ (mSh μ (wf n) i j k) j) A := by rw [(Fs_sh μ (wf n) i j k).j hij]; exact h
    exact (ma_jl hn (e := k) (by omega) ih hj).cg (fun c hc => ltx_s.symm)
theorem ma_us_ (hn : n ≤ 10) (hij : j ≠ i) (h : Rq n (gJ μ j) A) : ∀ k, k ≤ n → Rq n (gJ (mUS μ (wf n) i j k) i) (fun c => ∃ x, x < k ∧ c.testBit x = true ∧ A (c ^^^ 2 ^ x))
  | 0, _ => (ma_clr (μ := μ) (i := i) hn).cg (fun c hc => ⟨fun q => q.elim, fun ⟨x, q, _⟩ => absurd q (Nat.not_lt_zero x)⟩)
  | k + 1, hk => by
    have ih := ma_us_ hn hij h k (by omega)
    have hj : Rq n (gJ (mUS μ (wf n) i j k) j) A := by rw [(Fs_us μ (wf n) i j k).j hij]; exact h
    exact (ma_jr hn (e := k) (by omega) ih hj).cg (fun c hc => ltx_s.symm)
theorem ma_sh (hn : n ≤ 10) (hij : j ≠ i) (h : Rq n (gJ μ j) A) : Rq n (gJ (mSh μ (wf n) i j n) i) (fun c => ∃ x, x < n ∧ c.testBit x = false ∧ A (c ^^^ 2 ^ x)) := ma_sh_ hn hij h n (Nat.le_refl n)
theorem ma_us (hn : n ≤ 10) (hij : j ≠ i) (h : Rq n (gJ μ j) A) : Rq n (gJ (mUS μ (wf n) i j n) i) (fun c => ∃ x, x < n ∧ c.testBit x = true ∧ A (c ^^^ 2 ^ x)) := ma_us_ hn hij h n (Nat.le_refl n)
theorem xr_all (c k : Nat) : c ^^^ 2 ^ k ^^^ (2 ^ k - 1) = c ^^^ (2 ^ (k + 1) - 1) := by
  apply Nat.eq_of_testBit_eq; intro i
  rw [Nat.testBit_xor, xr_tb, Nat.testBit_xor, Nat.testBit_two_pow_sub_one, Nat.testBit_two_pow_sub_one]
  rcases Nat.lt_trichotomy i k with q | q | q
  · rw [decide_eq_false (by omega : ¬ k = i), decide_eq_true (by omega : i < k), decide_eq_true (by omega : i < k + 1)]; simp
  · subst q; simp
  · rw [decide_eq_false (by omega : ¬ k = i), decide_eq_false (by omega : ¬ i < k), decide_eq_false (by omega : ¬ i < k + 1)]; simp
theorem xr_cp {n c : Nat} (hc : c < 2 ^ n) : c ^^^ (2 ^ n - 1) = 2 ^ n - 1 - c := by
  rw [show 2 ^ n - 1 - c = 2 ^ n - (c + 1) by omega]
  apply Nat.eq_of_testBit_eq; intro i
  rw [Nat.testBit_xor, Nat.testBit_two_pow_sub_one, Nat.testBit_two_pow_sub_succ hc]
  by_cases q : i < n
  · simp [q]
  · rw [hb_lt hc (by omega)]; simp [q]
theorem ma_mir_ (hn : n ≤ 10) (h : Rq n (gJ μ i) A) : ∀ k, k ≤ n → Rq n (gJ (mMir μ (wf n) i k) i) (fun c => A (c ^^^ (2 ^ k - 1)))
  | 0, _ => h.cg (fun c hc => by simp)
  | k + 1, hk => by
    have ih := ma_mir_ hn h k (by omega)
    show Rq n (gJ (sJ (mMir μ (wf n) i k) i (exch k (wf n) (gJ (mMir μ (wf n) i k) i))) i) _
    rw [gJ_s]
    exact (Rq_ex (e := k) (by omega) hn ih).cg (fun c hc => by rw [xr_all])
theorem ma_mir (hn : n ≤ 10) (h : Rq n (gJ μ i) A) : Rq n (gJ (mMir μ (wf n) i n) i) (fun c => A (2 ^ n - 1 - c)) :=
  (ma_mir_ hn h n (Nat.le_refl n)).cg (fun c hc => by rw [xr_cp hc])
end MM
