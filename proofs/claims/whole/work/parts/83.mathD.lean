/-! families that come from one family -/
def Mn (A : Nat → Prop) (c : Nat) : Prop := A c ∧ ¬ ∃ s, A s ∧ Sb s c ∧ s ≠ c
def Mx (n : Nat) (A : Nat → Prop) (c : Nat) : Prop := A c ∧ ¬ ∃ s, s < 2 ^ n ∧ A s ∧ Sb c s ∧ s ≠ c
def Un (A : Nat → Prop) (c : Nat) : Prop := (∀ x, c.testBit x = true → ∃ s, A s ∧ s.testBit x = true ∧ Sb s c) ∧ (c = 0 → A 0)
theorem Sb_ne {s c : Nat} (h : Sb s c) (hn : s ≠ c) : ∃ x, c.testBit x = true ∧ s.testBit x = false := by
  obtain ⟨x, hx⟩ := Nat.exists_testBit_ne_of_ne hn
  refine ⟨x, ?_⟩
  cases hs : s.testBit x
  · cases hc : c.testBit x
    · rw [hs, hc] at hx; exact absurd rfl hx
    · exact ⟨rfl, rfl⟩
  · rw [hs, h x hs] at hx; exact absurd rfl hx
theorem Sb_out {c x : Nat} : Sb (c ^^^ 2 ^ x) c ↔ c.testBit x = true := by
  constructor
  · intro h
    cases hc : c.testBit x
    · have := h x (by rw [xr_tbs, hc]; rfl)
      rw [hc] at this; exact this
    · rfl
  · intro h i hi
    by_cases q : x = i
    · subst q; exact h
    · rwa [xr_tbn c q] at hi
theorem Sb_in {c x : Nat} (h : c.testBit x = false) : Sb c (c ^^^ 2 ^ x) := by
  intro i hi
  by_cases q : x = i
  · subst q; rw [h] at hi; cases hi
  · rw [xr_tbn c q]; exact hi
section MD
variable {n : Nat} {μ : Mm} {t s : Nat} {A : Nat → Prop}
theorem Fs_c (μ : Mm) (i j : Nat) : Fs (fun q => q = i) μ (mCpy μ i j) := Fs_sJ μ _ rfl
theorem Fs_s (μ : Mm) (nw i j : Nat) : Fs (fun q => q = i) μ (mSub μ nw i j) := Fs_sJ μ _ rfl
theorem ma_min (hn : n ≤ 10) (ht : t ≠ 20) (hs : s ≠ 20) (h : Rq n (gJ μ s) A) : Rq n (gJ (mLMin μ n (wf n) t s) t) (Mn A) ∧ Fs (fun j => j = 20 ∨ j = t) μ (mLMin μ n (wf n) t s) := by
  have f1 := Fs_us μ (wf n) 20 s n
  have r1 := ma_us (i := 20) hn hs h
  have f2 := Fs_up (mUS μ (wf n) 20 s n) (wf n) 20 n
  have r2 := ma_up hn r1
  have f12 := f1.trans f2
  have r3 : Rq n (gJ (mCpy (mUp (mUS μ (wf n) 20 s n) (wf n) 20 n) t s) t) A := ma_cpy hn (by rw [f12.j hs]; exact h)
  have f3 := Fs_c (mUp (mUS μ (wf n) 20 s n) (wf n) 20 n) t s
  have r4 := ma_sub hn r3 (j := 20) (B := _) (by rw [f3.j (fun q => ht q.symm)]; exact r2)
  refine ⟨r4.cg (fun c hc => ?_), ((f12.mono (fun j q => Or.inl q)).trans (f3.mono (fun j q => Or.inr q))).trans ((Fs_s _ (wf n) t 20).mono (fun j q => Or.inr q))⟩
  unfold Mn
  refine and_congr_right (fun _ => not_congr ?_)
  constructor
  · rintro ⟨u, ⟨x, hx, hu, hA⟩, hc2⟩
    refine ⟨u ^^^ 2 ^ x, hA, Sb_trans (Sb_out.mpr hu) hc2, fun q => ?_⟩
    have := hc2 x hu
    rw [← q, xr_tbs, hu] at this; cases this
  · rintro ⟨v, hA, hv, hne⟩
    obtain ⟨x, hx, hvx⟩ := Sb_ne hv hne
    refine ⟨v ^^^ 2 ^ x, ⟨x, tb_in hc hx, by rw [xr_tbs, hvx]; rfl, by rw [xr_xr]; exact hA⟩, fun i hi => ?_⟩
    by_cases q : x = i
    · subst q; exact hx
    · rw [xr_tbn v q] at hi; exact hv i hi
theorem ma_max (hn : n ≤ 10) (ht : t ≠ 20) (hs : s ≠ 20) (h : Rq n (gJ μ s) A) : Rq n (gJ (mLMax μ n (wf n) t s) t) (Mx n A) ∧ Fs (fun j => j = 20 ∨ j = t) μ (mLMax μ n (wf n) t s) := by
  have f1 := Fs_sh μ (wf n) 20 s n
  have r1 := ma_sh (i := 20) hn hs h
  have f2 := Fs_dn (mSh μ (wf n) 20 s n) (wf n) 20 n
  have r2 := ma_dn hn r1
  have f12 := f1.trans f2
  have r3 : Rq n (gJ (mCpy (mDn (mSh μ (wf n) 20 s n) (wf n) 20 n) t s) t) A := ma_cpy hn (by rw [f12.j hs]; exact h)
  have f3 := Fs_c (mDn (mSh μ (wf n) 20 s n) (wf n) 20 n) t s
  have r4 := ma_sub hn r3 (j := 20) (B := _) (by rw [f3.j (fun q => ht q.symm)]; exact r2)
  refine ⟨r4.cg (fun c hc => ?_), ((f12.mono (fun j q => Or.inl q)).trans (f3.mono (fun j q => Or.inr q))).trans ((Fs_s _ (wf n) t 20).mono (fun j q => Or.inr q))⟩
  unfold Mx
  refine and_congr_right (fun _ => not_congr ?_)
  constructor
  · rintro ⟨u, hu2, ⟨x, hx, hu, hA⟩, hc2⟩
    refine ⟨u ^^^ 2 ^ x, (xr_lt hx).mpr hu2, hA, Sb_trans hc2 (Sb_in hu), fun q => ?_⟩
    have h1 : (u ^^^ 2 ^ x).testBit x = true := by rw [xr_tbs, hu]; rfl
    rw [q] at h1
    have := hc2 x h1
    rw [hu] at this; cases this
  · rintro ⟨v, hv2, hA, hv, hne⟩
    obtain ⟨x, hx, hvx⟩ := Sb_ne hv (fun q => hne q.symm)
    refine ⟨v ^^^ 2 ^ x, (xr_lt (tb_in hv2 hx)).mpr hv2, ⟨x, tb_in hv2 hx, by rw [xr_tbs, hx]; rfl, by rw [xr_xr]; exact hA⟩, fun i hi => ?_⟩
    by_cases q : x = i
    · subst q; rw [hvx] at hi; cases hi
    · rw [xr_tbn v q]; exact hv i hi
theorem ma_lus (hn : n ≤ 10) (ht : t ≠ 21) (hs : s ≠ 21) {m : Mm} {x : Nat} {T : Nat → Prop} (h : Rq n (gJ m s) A) (hT : Rq n (gJ m t) T) : Rq n (gJ (mLUs n (wf n) t s m x) t) (fun c => T c ∧ ¬ ((¬ ∃ u, (A u ∧ u.testBit x = true) ∧ Sb u c) ∧ c.testBit x = true)) ∧ Fs (fun j => j = 21 ∨ j = t) m (mLUs n (wf n) t s m x) := by
  unfold mLUs
  have f1 := Fs_c m 21 s
  have r1 := ma_cpy (i := 21) hn h
  have r2 := ma_kh (e := x) hn r1
  have f2 : Fs (fun q => q = 21) (mCpy m 21 s) (mKH (mCpy m 21 s) (wf n) 21 x) := Fs_sJ _ _ rfl
  have r3 := ma_up hn r2
  have f3 := Fs_up (mKH (mCpy m 21 s) (wf n) 21 x) (wf n) 21 n
  have r4 := ma_inv hn r3
  have f4 : Fs (fun q => q = 21) (mUp (mKH (mCpy m 21 s) (wf n) 21 x) (wf n) 21 n) (mInv (mUp (mKH (mCpy m 21 s) (wf n) 21 x) (wf n) 21 n) n (wf n) 21) := Fs_sJ _ _ rfl
  have r5 := ma_kh (e := x) hn r4
  have f5 : Fs (fun q => q = 21) (mInv (mUp (mKH (mCpy m 21 s) (wf n) 21 x) (wf n) 21 n) n (wf n) 21) (mKH (mInv (mUp (mKH (mCpy m 21 s) (wf n) 21 x) (wf n) 21 n) n (wf n) 21) (wf n) 21 x) := Fs_sJ _ _ rfl
  have f := f1.trans (f2.trans (f3.trans (f4.trans f5)))
  exact ⟨ma_sub hn (by rw [f.j ht]; exact hT) r5, (f.mono (fun j q => Or.inl q)).trans ((Fs_s _ (wf n) t 21).mono (fun j q => Or.inr q))⟩
theorem ma_lui (hn : n ≤ 10) (ht : t ≠ 21) (hs : s ≠ 21) (hst : s ≠ t) (h : Rq n (gJ μ s) A) : ∀ k, Rq n (gJ (mLUi μ n (wf n) t s k) t) (fun c => ∀ x, x < k → c.testBit x = true → ∃ u, A u ∧ u.testBit x = true ∧ Sb u c) ∧ Fs (fun j => j = 21 ∨ j = t) μ (mLUi μ n (wf n) t s k)
  | 0 => by
    have f1 : Fs (fun j => j = 21 ∨ j = t) μ (mClr μ t) := Fs_sJ _ _ (Or.inr rfl)
    have f2 : Fs (fun j => j = 21 ∨ j = t) (mClr μ t) (mInv (mClr μ t) n (wf n) t) := Fs_sJ _ _ (Or.inr rfl)
    exact ⟨(ma_inv hn (ma_clr (μ := μ) (i := t) hn)).cg (fun c hc => ⟨fun _ x hx => absurd hx (Nat.not_lt_zero x), fun _ q => q⟩), f1.trans f2⟩
  | k + 1 => by
    obtain ⟨r, f⟩ := ma_lui hn ht hs hst h k
    obtain ⟨r2, f2⟩ := ma_lus (x := k) hn ht hs (by rw [f.j (by omega)]; exact h) r
    refine ⟨Rq.cg r2 (fun c hc => ?_), f.trans f2⟩
    constructor
    · rintro ⟨h1, h2⟩ x hx hcx
      rcases Nat.lt_or_eq_of_le (Nat.le_of_lt_succ hx) with q | q
      · exact h1 x q hcx
      · subst q
        rcases Classical.em (∃ u, (A u ∧ u.testBit x = true) ∧ Sb u c) with ⟨u, ⟨a, b⟩, d⟩ | z
        · exact ⟨u, a, b, d⟩
        · exact absurd ⟨z, hcx⟩ h2
    · intro h1
      refine ⟨fun x hx hcx => h1 x (by omega) hcx, fun ⟨z, hcx⟩ => ?_⟩
      obtain ⟨u, a, b, d⟩ := h1 k (by omega) hcx
      exact z ⟨u, ⟨a, b⟩, d⟩
theorem ma_lu (hn : n ≤ 10) (ht : t ≠ 21) (hs : s ≠ 21) (hst : s ≠ t) (h : Rq n (gJ μ s) A) : Rq n (gJ (mLU μ n (wf n) t s) t) (Un A) ∧ Fs (fun j => j = 21 ∨ j = t) μ (mLU μ n (wf n) t s) := by
  obtain ⟨r, f⟩ := ma_lui (μ := μ) hn ht hs hst h n
  have h0 : bt (gJ (mLUi μ n (wf n) t s n) s) 0 = true ↔ A 0 := by rw [f.j (by omega)]; exact h.1 0 (Nat.two_pow_pos n)
  unfold mLU
  by_cases q : bt (gJ (mLUi μ n (wf n) t s n) s) 0 = true
  · rw [if_pos q]
    exact ⟨r.cg (fun c hc => ⟨fun z => ⟨fun x hx => z x (tb_in hc hx) hx, fun _ => h0.mp q⟩, fun z x _ hx => z.1 x hx⟩), f⟩
  · rw [if_neg q]
    refine ⟨(ma_drp (e := 0) r).cg (fun c hc => ?_), f.trans (Fs_sJ _ _ (Or.inr rfl))⟩
    constructor
    · rintro ⟨z, z0⟩
      exact ⟨fun x hx => z x (tb_in hc hx) hx, fun y => absurd y z0⟩
    · rintro ⟨z, z0⟩
      exact ⟨fun x _ hx => z x hx, fun y => q (h0.mpr (z0 y))⟩
theorem ma_li (hn : n ≤ 10) (ht : t ≠ 21 ∧ t ≠ 22) (hs : s ≠ 21) (h : Rq n (gJ μ s) A) : Rq n (gJ (mLI μ n (wf n) t s) t) (fun c => Un (fun d => A (2 ^ n - 1 - d)) (2 ^ n - 1 - c)) ∧ Fs (fun j => j = 21 ∨ j = 22 ∨ j = t) μ (mLI μ n (wf n) t s) := by
  unfold mLI
  have f1 := Fs_c μ 22 s
  have r1 := ma_cpy (i := 22) hn h
  have r2 := ma_mir hn r1
  have f2 := Fs_mir (mCpy μ 22 s) (wf n) 22 n
  obtain ⟨r3, f3⟩ := ma_lu (t := t) (s := 22) hn ht.1 (by decide) (fun q => ht.2 q.symm) r2
  have f12 := f1.trans f2
  exact ⟨ma_mir hn r3, ((f12.mono (fun j q => Or.inr (Or.inl q))).trans (f3.mono (fun j q => by rcases q with q | q; exact Or.inl q; exact Or.inr (Or.inr q)))).trans ((Fs_mir _ (wf n) t n).mono (fun j q => Or.inr (Or.inr q)))⟩
theorem ma_lb (hn : n ≤ 10) (ht : t ≠ 20 ∧ t ≠ 22) (h : Rq n (gJ μ s) A) : Rq n (gJ (mLB μ n (wf n) t s) t) (Mn (fun c => ¬ ∃ u, A u ∧ Sb u (2 ^ n - 1 - c))) ∧ Fs (fun j => j = 20 ∨ j = 22 ∨ j = t) μ (mLB μ n (wf n) t s) := by
  unfold mLB
  have f1 := Fs_c μ 22 s
  have r1 := ma_cpy (i := 22) hn h
  have r2 := ma_up hn r1
  have f2 := Fs_up (mCpy μ 22 s) (wf n) 22 n
  have r3 := ma_inv hn r2
  have f3 : Fs (fun q => q = 22) (mUp (mCpy μ 22 s) (wf n) 22 n) (mInv (mUp (mCpy μ 22 s) (wf n) 22 n) n (wf n) 22) := Fs_sJ _ _ rfl
  have r4 := ma_mir hn r3
  have f4 := Fs_mir (mInv (mUp (mCpy μ 22 s) (wf n) 22 n) n (wf n) 22) (wf n) 22 n
  obtain ⟨r5, f5⟩ := ma_min (t := t) (s := 22) hn ht.1 (by decide) r4
  exact ⟨r5, ((f1.trans (f2.trans (f3.trans f4))).mono (fun j q => Or.inr (Or.inl q))).trans (f5.mono (fun j q => by rcases q with q | q; exact Or.inl q; exact Or.inr (Or.inr q)))⟩
def LyP (n : Nat) (A : Nat → Prop) (op c : Nat) : Prop := match op with
  | 0 => ∃ x, x < n ∧ c.testBit x = false ∧ A (c ^^^ 2 ^ x)
  | 1 => ∃ x, x < n ∧ c.testBit x = true ∧ A (c ^^^ 2 ^ x)
  | 2 => ∃ s, s < 2 ^ n ∧ A s ∧ Sb c s
  | 3 => ∃ s, A s ∧ Sb s c
  | 4 => Mn A c
  | 5 => Mx n A c
  | 6 => A (2 ^ n - 1 - c)
  | 7 => Mn (fun c => ¬ ∃ u, A u ∧ Sb u (2 ^ n - 1 - c)) c
  | 8 => Un A c
  | _ => Un (fun d => A (2 ^ n - 1 - d)) (2 ^ n - 1 - c)
theorem ma_lay (hn : n ≤ 10) {op : Nat} (hop : op < 10) (ht : t ≠ 20 ∧ t ≠ 21 ∧ t ≠ 22) (hs : s ≠ 20 ∧ s ≠ 21 ∧ s ≠ 22 ∧ s ≠ t) (h : Rq n (gJ μ s) A) : Rq n (gJ (mLay μ n (wf n) t op s) t) (LyP n A op) ∧ Fs (fun j => j = 20 ∨ j = 21 ∨ j = 22 ∨ j = t) μ (mLay μ n (wf n) t op s) := by
  have m1 : ∀ j, j = t → (j = 20 ∨ j = 21 ∨ j = 22 ∨ j = t) := fun j q => Or.inr (Or.inr (Or.inr q))
  rcases (show op = 0 ∨ op = 1 ∨ op = 2 ∨ op = 3 ∨ op = 4 ∨ op = 5 ∨ op = 6 ∨ op = 7 ∨ op = 8 ∨ op = 9 by omega) with rfl | rfl | rfl | rfl | rfl | rfl | rfl | rfl | rfl | rfl
  · exact ⟨ma_sh hn hs.2.2.2 h, (Fs_sh μ (wf n) t s n).mono m1⟩
  · exact ⟨ma_us hn hs.2.2.2 h, (Fs_us μ (wf n) t s n).mono m1⟩
  · exact ⟨ma_dn hn (ma_cpy (i := t) hn h), ((Fs_c μ t s).trans (Fs_dn _ (wf n) t n)).mono m1⟩
  · exact ⟨ma_up hn (ma_cpy (i := t) hn h), ((Fs_c μ t s).trans (Fs_up _ (wf n) t n)).mono m1⟩
  · obtain ⟨r, f⟩ := ma_min (t := t) hn ht.1 hs.1 h
    exact ⟨r, f.mono (fun j q => by omega)⟩
  · obtain ⟨r, f⟩ := ma_max (t := t) hn ht.1 hs.1 h
    exact ⟨r, f.mono (fun j q => by omega)⟩
  · exact ⟨ma_mir hn (ma_cpy (i := t) hn h), ((Fs_c μ t s).trans (Fs_mir _ (wf n) t n)).mono m1⟩
  · obtain ⟨r, f⟩ := ma_lb (t := t) hn ⟨ht.1, ht.2.2⟩ h
    exact ⟨r, f.mono (fun j q => by omega)⟩
  · obtain ⟨r, f⟩ := ma_lu (t := t) hn ht.2.1 hs.2.1 hs.2.2.2 h
    exact ⟨r, f.mono (fun j q => by omega)⟩
  · obtain ⟨r, f⟩ := ma_li (t := t) hn ht.2 hs.2.1 h
    exact ⟨r, f.mono (fun j q => by omega)⟩
end MD
