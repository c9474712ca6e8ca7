/-! the first disjoint pair; properties -/
theorem cnt_z {p : Nat → Bool} {N : Nat} (h : cnt p N = 0) : ∀ i, i < N → p i = false := fun i hi => by
  cases q : p i
  · rfl
  · have := cnt_ltx hi q; omega
theorem at0 {n : Nat} (hn : n ≤ 10) {x : Nat → Int64} {A : Nat → Prop} (h : Rq n x A) : (atR x (wf n) 0 0 = -1 ∧ ∀ c, c < 2 ^ n → ¬ A c) ∨ ∃ c, c < 2 ^ n ∧ atR x (wf n) 0 0 = nI c ∧ A c ∧ ∀ d, d < c → ¬ A d := by
  have h16 := wf_le hn
  rcases atR0 x (wf n) 0 with ⟨a, b⟩ | ⟨c, a, b, d, k⟩
  · rw [ct_ok hn h] at b
    exact Or.inl ⟨a, fun c hc z => by have := cnt_z (Nat.le_zero.mp b) c hc; rw [(h.1 c hc).mpr z] at this; cases this⟩
  · have hc : c < 2 ^ n := by
      rcases Nat.lt_or_ge c (2 ^ n) with q | q
      · exact q
      · rw [h.2 c (by omega) q] at d; cases d
    exact Or.inr ⟨c, hc, b, (h.1 c hc).mp d, fun e he z => by have := cnt_z k e he; rw [(h.1 e (by omega)).mpr z] at this; cases this⟩
theorem fcI_ok (F : Nat → Bool) (b s : Nat) : ∀ r t, (fcI F b s r t = none ∧ ∀ u, t ≤ u → u < t + r → ¬ (F (1024 * b + u) = true ∧ s &&& u = 0)) ∨ ∃ v, t ≤ v ∧ v < t + r ∧ fcI F b s r t = some v ∧ (F (1024 * b + v) = true ∧ s &&& v = 0) ∧ ∀ u, t ≤ u → u < v → ¬ (F (1024 * b + u) = true ∧ s &&& u = 0)
  | 0, t => Or.inl ⟨rfl, fun u a c => absurd c (by omega)⟩
  | r + 1, t => by
    rw [fcI]
    by_cases q : F (1024 * b + t) = true ∧ s &&& t = 0
    · rw [if_pos q]; exact Or.inr ⟨t, Nat.le_refl _, by omega, rfl, q, fun u a c => absurd c (by omega)⟩
    · rw [if_neg q]
      rcases fcI_ok F b s r (t + 1) with ⟨h1, h2⟩ | ⟨v, h1, h2, h3, h4, h5⟩
      · refine Or.inl ⟨h1, fun u a c => ?_⟩
        by_cases z : u = t
        · subst z; exact q
        · exact h2 u (by omega) (by omega)
      · refine Or.inr ⟨v, by omega, by omega, h3, h4, fun u a c => ?_⟩
        by_cases z : u = t
        · subst z; exact q
        · exact h5 u (by omega) c
theorem fcO_ok (F : Nat → Bool) (a b n : Nat) : ∀ r s, (fcO F a b n r s = -1 ∧ ∀ u, s ≤ u → u < s + r → F (1024 * a + u) = true → ∀ t, t < 2 ^ n → ¬ (F (1024 * b + t) = true ∧ u &&& t = 0)) ∨ ∃ u v, s ≤ u ∧ u < s + r ∧ v < 2 ^ n ∧ fcO F a b n r s = nI (1024 * u + v) ∧ F (1024 * a + u) = true ∧ (F (1024 * b + v) = true ∧ u &&& v = 0) ∧ (∀ t, t < v → ¬ (F (1024 * b + t) = true ∧ u &&& t = 0)) ∧ ∀ w, s ≤ w → w < u → F (1024 * a + w) = true → ∀ t, t < 2 ^ n → ¬ (F (1024 * b + t) = true ∧ w &&& t = 0)
  | 0, s => Or.inl ⟨rfl, fun u x y => absurd y (by omega)⟩
  | r + 1, s => by
    have key : (F (1024 * a + s) = true → ∀ t, t < 2 ^ n → ¬ (F (1024 * b + t) = true ∧ s &&& t = 0)) → fcO F a b n (r + 1) s = fcO F a b n r (s + 1) → (fcO F a b n (r + 1) s = -1 ∧ ∀ u, s ≤ u → u < s + (r + 1) → F (1024 * a + u) = true → ∀ t, t < 2 ^ n → ¬ (F (1024 * b + t) = true ∧ u &&& t = 0)) ∨ ∃ u v, s ≤ u ∧ u < s + (r + 1) ∧ v < 2 ^ n ∧ fcO F a b n (r + 1) s = nI (1024 * u + v) ∧ F (1024 * a + u) = true ∧ (F (1024 * b + v) = true ∧ u &&& v = 0) ∧ (∀ t, t < v → ¬ (F (1024 * b + t) = true ∧ u &&& t = 0)) ∧ ∀ w, s ≤ w → w < u → F (1024 * a + w) = true → ∀ t, t < 2 ^ n → ¬ (F (1024 * b + t) = true ∧ w &&& t = 0) := by
      intro hs e
      rw [e]
      rcases fcO_ok F a b n r (s + 1) with ⟨h1, h2⟩ | ⟨u, v, h1, h2, h3, h4, h5, h6, h7, h8⟩
      · refine Or.inl ⟨h1, fun u x y => ?_⟩
        by_cases z : u = s
        · subst z; exact hs
        · exact h2 u (by omega) (by omega)
      · refine Or.inr ⟨u, v, by omega, by omega, h3, h4, h5, h6, h7, fun w x y => ?_⟩
        by_cases z : w = s
        · subst z; exact hs
        · exact h8 w (by omega) y
    by_cases q : F (1024 * a + s) = true
    · rcases fcI_ok F b s (2 ^ n) 0 with ⟨h1, h2⟩ | ⟨v, h1, h2, h3, h4, h5⟩
      · exact key (fun _ t ht => h2 t (Nat.zero_le _) (by omega)) (by rw [fcO, if_pos q, h1])
      · refine Or.inr ⟨s, v, Nat.le_refl _, by omega, by omega, by rw [fcO, if_pos q, h3], q, h4, fun t ht => h5 t (Nat.zero_le _) ht, fun w x y => absurd y (by omega)⟩
    · exact key (fun z => absurd z q) (by rw [fcO, if_neg q])
theorem ma_fdK {n : Nat} (hn : n ≤ 10) {c : Nat} {M : Mm} {B : Nat → Prop} (h : Rq n (gJ M 50) B) : ∀ k, Rq n (gJ (fdK c (wf n) M k) 50) (fun u => B u ∧ ∀ x, x < k → c.testBit x = true → u.testBit x = false) ∧ Fs (fun q => q = 50) M (fdK c (wf n) M k)
  | 0 => ⟨h.cg (fun u hu => ⟨fun z => ⟨z, fun x hx => absurd hx (Nat.not_lt_zero x)⟩, fun z => z.1⟩), Fs.refl _ _⟩
  | k + 1 => by
    obtain ⟨a, b⟩ := ma_fdK (c := c) hn h k
    show Rq n (gJ (if c.testBit k = true then mKL (fdK c (wf n) M k) (wf n) 50 k else fdK c (wf n) M k) 50) _ ∧ Fs _ M (if c.testBit k = true then mKL (fdK c (wf n) M k) (wf n) 50 k else fdK c (wf n) M k)
    cases q : c.testBit k
    · rw [if_neg (by decide)]
      refine ⟨a.cg (fun u hu => and_congr_right (fun _ => ⟨fun z x hx hc => ?_, fun z x hx => z x (by omega)⟩)), b⟩
      by_cases y : x = k
      · subst y; rw [q] at hc; cases hc
      · exact z x (by omega) hc
    · rw [if_pos rfl]
      refine ⟨(ma_kl (e := k) hn a).cg (fun u hu => ?_), b.trans (Fs_sJ _ _ rfl)⟩
      constructor
      · rintro ⟨⟨z1, z2⟩, z3⟩
        refine ⟨z1, fun x hx hc => ?_⟩
        by_cases y : x = k
        · subst y; exact z3
        · exact z2 x (by omega) hc
      · rintro ⟨z1, z2⟩
        exact ⟨⟨z1, fun x hx => z2 x (by omega)⟩, z2 k (by omega) q⟩
theorem and0_iff {n u c : Nat} (hc : c < 2 ^ n) : u &&& c = 0 ↔ ∀ x, x < n → c.testBit x = true → u.testBit x = false := by
  constructor
  · intro h x _ hx
    have := congrArg (fun v => v.testBit x) h
    simp only [Nat.testBit_and, hx, Bool.and_true, Nat.zero_testBit] at this
    exact this
  · intro h
    apply Nat.eq_of_testBit_eq; intro i
    rw [Nat.testBit_and, Nat.zero_testBit]
    cases q : c.testBit i
    · simp
    · rw [h i (tb_in hc q) q]; rfl
theorem nI_mul1 (c u : Nat) : nI 1024 * nI c + nI u = nI (1024 * c + u) := by
  apply Int32.toBitVec_inj.mp
  rw [Int32.toBitVec_add, Int32.toBitVec_mul]
  show BitVec.ofNat 32 1024 * BitVec.ofNat 32 c + BitVec.ofNat 32 u = BitVec.ofNat 32 (1024 * c + u)
  rw [← BitVec.ofNat_mul, ← BitVec.ofNat_add]
theorem fd_ok {n : Nat} (hn : n ≤ 10) {μ : Mm} {a b : Nat} {F : Nat → Bool} (ha : a < 4) (hb : b < 4) (hA : Rq n (gJ μ a) (fun c => F (1024 * a + c) = true)) (hB : Rq n (gJ μ b) (fun c => F (1024 * b + c) = true)) : fdA μ n (wf n) a b = fcO F a b n (2 ^ n) 0 ∧ Fs (fun q => q = 50) μ (fdM μ n (wf n) a b) := by
  have h1024 := pw10 hn
  have f1 := Fs_c μ 50 b
  have r1 := ma_cpy (i := 50) hn hB
  have r2 := ma_up hn r1
  have f2 := Fs_up (mCpy μ 50 b) (wf n) 50 n
  have r3 := ma_mir hn r2
  have f3 := Fs_mir (mUp (mCpy μ 50 b) (wf n) 50 n) (wf n) 50 n
  have f13 := f1.trans (f2.trans f3)
  have r4 := ma_meet hn r3 (j := a) (B := fun c => F (1024 * a + c) = true) (by rw [f13.j (by omega)]; exact hA)
  have f4 : Fs (fun q => q = 50) μ (fdL μ n (wf n) a b) := f13.trans (Fs_sJ _ _ rfl)
  have r4' : Rq n (gJ (fdL μ n (wf n) a b) 50) (fun c => F (1024 * a + c) = true ∧ ∃ u, u < 2 ^ n ∧ F (1024 * b + u) = true ∧ c &&& u = 0) := r4.cg (fun c hc => by
    rw [and_comm]
    refine and_congr_right (fun _ => ?_)
    constructor
    · rintro ⟨u, x, y⟩; obtain ⟨y1, y2⟩ := (cp_sb hc).mp y; exact ⟨u, y1, x, by rw [Nat.and_comm]; exact y2⟩
    · rintro ⟨u, y1, x, y2⟩; exact ⟨u, x, (cp_sb hc).mpr ⟨y1, by rw [Nat.and_comm]; exact y2⟩⟩)
  unfold fdA fdM
  rcases at0 hn r4' with ⟨e, hno⟩ | ⟨c, hc, e, ⟨hF, u, hu, hFu, hcu⟩, hmin⟩
  · have e' : fdc μ n (wf n) a b = -1 := e
    rw [if_pos e', if_pos e']
    refine ⟨?_, f4⟩
    rcases fcO_ok F a b n (2 ^ n) 0 with ⟨h1, _⟩ | ⟨u, v, h1, h2, h3, h4, h5, h6, _⟩
    · exact h1.symm
    · exact absurd ⟨h5, v, h3, h6⟩ (hno u (by omega))
  · have e' : fdc μ n (wf n) a b = nI c := e
    have ne : ¬ fdc μ n (wf n) a b = -1 := by rw [e']; exact nI_n1 (by omega)
    rw [if_neg ne, if_neg ne, e', nI_clamp (by omega)]
    have hB2 : Rq n (gJ (mCpy (fdL μ n (wf n) a b) 50 b) 50) (fun c => F (1024 * b + c) = true) := ma_cpy hn (by rw [f4.j (by omega)]; exact hB)
    obtain ⟨r5, f5⟩ := ma_fdK (c := c) hn hB2 n
    refine ⟨?_, f4.trans ((Fs_c _ 50 b).trans f5)⟩
    have r5' : Rq n (gJ (fdB μ n (wf n) a b c) 50) (fun v => F (1024 * b + v) = true ∧ c &&& v = 0) := r5.cg (fun v hv => and_congr_right (fun _ => by rw [Nat.and_comm]; exact (and0_iff hc).symm))
    rcases at0 hn r5' with ⟨e2, hno⟩ | ⟨v, hv, e2, hFv, hmin2⟩
    · exact absurd ⟨hFu, hcu⟩ (hno u hu)
    · rw [e2, nI_mul1]
      rcases fcO_ok F a b n (2 ^ n) 0 with ⟨h1, h2⟩ | ⟨u', v', h1, h2, h3, h4, h5, h6, h7, h8⟩
      · exact absurd ⟨hFu, hcu⟩ (h2 c (Nat.zero_le _) (by omega) hF u hu)
      · have ec : c = u' := by
          rcases Nat.lt_trichotomy c u' with q | q | q
          · exact absurd ⟨hFu, hcu⟩ (h8 c (Nat.zero_le _) q hF u hu)
          · exact q
          · exact absurd ⟨h5, v', h3, h6⟩ (hmin u' q)
        subst ec
        have ev : v = v' := by
          rcases Nat.lt_trichotomy v v' with q | q | q
          · exact absurd hFv (h7 v q)
          · exact q
          · exact absurd h6 (hmin2 v' q)
        subst ev
        exact h4.symm
