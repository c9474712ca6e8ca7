/-! trace, combine, segment, read -/
theorem ma_fgt {n : Nat} {μ : Mm} {i e : Nat} {A : Nat → Prop} (hn : n ≤ 10) (he : e < n) (h : Rq n (gJ μ i) A) : Rq n (gJ (mFgt μ (wf n) i e) i) (fun c => (A c ∨ (c.testBit e = false ∧ A (c ^^^ 2 ^ e))) ∧ c.testBit e = false) ∧ Fs (fun q => q = i) μ (mFgt μ (wf n) i e) := by
  unfold mFgt
  have f1 : Fs (fun q => q = i) μ (mJL μ (wf n) i i e) := Fs_sJ _ _ rfl
  have f2 : Fs (fun q => q = i) (mJL μ (wf n) i i e) (mKL (mJL μ (wf n) i i e) (wf n) i e) := Fs_sJ _ _ rfl
  exact ⟨ma_kl hn (ma_jl hn he h h), f1.trans f2⟩
def TrP (c k : Nat) (A : Nat → Prop) (d : Nat) : Prop := ∃ s, A s ∧ ∀ i, d.testBit i = (s.testBit i && !(decide (i < k) && !c.testBit i))
theorem TrP_fgt {c k d : Nat} {A : Nat → Prop} (hk : c.testBit k = false) : ((TrP c k A d ∨ (d.testBit k = false ∧ TrP c k A (d ^^^ 2 ^ k))) ∧ d.testBit k = false) ↔ TrP c (k + 1) A d := by
  have hi : ∀ i, ¬ k = i → decide (i < k + 1) = decide (i < k) := fun i q => decide_eq_decide.mpr ⟨fun z => by omega, fun z => by omega⟩
  constructor
  · rintro ⟨⟨s, a, b⟩ | ⟨_, s, a, b⟩, hd⟩
    · refine ⟨s, a, fun i => ?_⟩
      by_cases q : k = i
      · subst q; rw [hd, hk]; simp
      · rw [hi i q]; exact b i
    · refine ⟨s, a, fun i => ?_⟩
      by_cases q : k = i
      · subst q; rw [hd, hk]; simp
      · rw [hi i q, ← b i, xr_tbn d q]
  · rintro ⟨s, a, b⟩
    have hd : d.testBit k = false := by rw [b k, hk]; simp
    refine ⟨?_, hd⟩
    cases hs : s.testBit k
    · refine Or.inl ⟨s, a, fun i => ?_⟩
      by_cases q : k = i
      · subst q; rw [hd, hs]; simp
      · rw [← hi i q]; exact b i
    · refine Or.inr ⟨hd, s, a, fun i => ?_⟩
      by_cases q : k = i
      · subst q; rw [xr_tbs, hd, hs]; simp
      · rw [xr_tbn d q, ← hi i q]; exact b i
theorem TrP_keep {c k d : Nat} {A : Nat → Prop} (hk : c.testBit k = true) : TrP c k A d ↔ TrP c (k + 1) A d := by
  have hi : ∀ i, (decide (i < k + 1) && !c.testBit i) = (decide (i < k) && !c.testBit i) := fun i => by
    by_cases q : k = i
    · subst q; rw [hk]; simp
    · congr 1; exact decide_eq_decide.mpr ⟨fun z => by omega, fun z => by omega⟩
  unfold TrP; simp only [hi]
theorem ma_tra {n : Nat} {μ : Mm} {c : Nat} {A : Nat → Prop} (hn : n ≤ 10) (h : Rq n (gJ μ 50) A) : ∀ k, k ≤ n → Rq n (gJ (mTraC c (wf n) μ k) 50) (TrP c k A) ∧ Fs (fun q => q = 50) μ (mTraC c (wf n) μ k)
  | 0, _ => ⟨h.cg (fun d hd => ⟨fun q => ⟨d, q, fun i => by simp⟩, fun ⟨s, a, b⟩ => by rw [Nat.eq_of_testBit_eq (x := d) (y := s) (fun i => by rw [b i]; simp)]; exact a⟩), Fs.refl _ _⟩
  | k + 1, hk => by
    obtain ⟨a, b⟩ := ma_tra (c := c) hn h k (by omega)
    show Rq n (gJ (if c.testBit k = true then mTraC c (wf n) μ k else mFgt (mTraC c (wf n) μ k) (wf n) 50 k) 50) _ ∧ Fs _ μ (if c.testBit k = true then mTraC c (wf n) μ k else mFgt (mTraC c (wf n) μ k) (wf n) 50 k)
    cases q : c.testBit k
    · rw [if_neg (by decide)]
      obtain ⟨a2, b2⟩ := ma_fgt (e := k) hn (by omega) a
      exact ⟨a2.cg (fun d hd => TrP_fgt q), b.trans b2⟩
    · rw [if_pos rfl]
      exact ⟨a.cg (fun d hd => TrP_keep q), b⟩
theorem TrP_n {n c d : Nat} {A : Nat → Prop} (hc : c < 2 ^ n) (hd : d < 2 ^ n) (hA : ∀ s, A s → s < 2 ^ n) : TrP c n A d ↔ ∃ s, A s ∧ d = s &&& c := by
  unfold TrP
  constructor
  · rintro ⟨s, a, b⟩
    refine ⟨s, a, Nat.eq_of_testBit_eq (fun i => ?_)⟩
    rw [b i, Nat.testBit_and]
    by_cases q : i < n
    · simp [q]
    · rw [hb_lt (hA s a) (by omega)]; simp
  · rintro ⟨s, a, b⟩
    refine ⟨s, a, fun i => ?_⟩
    rw [b, Nat.testBit_and]
    by_cases q : i < n
    · simp [q]
    · rw [hb_lt (hA s a) (by omega)]; simp
theorem tr_ok (F O : Nat → Bool) (f e c : Nat) : ∀ k, trO F O f e k c = true ↔ (O c = true ∨ ∃ s, s < k ∧ F (1024 * f + s) = true ∧ c = s &&& e)
  | 0 => by rw [trO]; exact ⟨Or.inl, fun q => q.elim id (fun ⟨x, a, _⟩ => absurd a (Nat.not_lt_zero x))⟩
  | k + 1 => by
    rw [trO, ltx_s]
    unfold upB
    by_cases q : c = k &&& e
    · rw [if_pos q, Bool.or_eq_true, ← q, tr_ok F O f e c k, or_assoc]
      exact or_congr Iff.rfl (or_congr Iff.rfl ⟨fun z => ⟨z, rfl⟩, fun z => z.1⟩)
    · rw [if_neg q, tr_ok F O f e c k]
      exact or_congr Iff.rfl ⟨Or.inl, fun z => z.elim id (fun y => absurd y.2 q)⟩
/-- a row and a row of booleans say the same, and hold nothing from 2 ^ n on -/
def Rb (n : Nat) (x : Nat → Int64) (G : Nat → Bool) : Prop := Rq n x (fun c => G c = true) ∧ ∀ c, c < 1024 → 2 ^ n ≤ c → G c = false
theorem Rb.bt {n : Nat} (hn : n ≤ 10) {x : Nat → Int64} {G : Nat → Bool} (h : Rb n x G) {c : Nat} (hc : c < 1024) : bt x c = G c := by
  rcases Nat.lt_or_ge c (2 ^ n) with q | q
  · exact Bool.eq_iff_iff.mpr (h.1.1 c q)
  · rw [h.1.2 c hc q, h.2 c hc q]
theorem Rb_cmb {n : Nat} (hn : n ≤ 10) {μ : Mm} {t a b p : Nat} {G H O : Nat → Bool} (hp : p < 4) (hbt : b ≠ t) (ha : Rb n (gJ μ a) G) (hb : Rb n (gJ μ b) H) : Rb n (gJ (mCmb μ (wf n) t p a b) t) (rowU 1024 (fun c => coV p (G c) (H c)) O) ∧ Fs (fun q => q = t) μ (mCmb μ (wf n) t p a b) := by
  have f1 := Fs_c μ t a
  have r1 := ma_cpy (i := t) hn ha.1
  have hb' : Rq n (gJ (mCpy μ t a) b) (fun c => H c = true) := by rw [f1.j hbt]; exact hb.1
  have h1024 := pw10 hn
  have hrow : ∀ c, c < 1024 → rowU 1024 (fun c => coV p (G c) (H c)) O c = coV p (G c) (H c) := fun c hc => rowU_lt _ _ hc
  refine ⟨⟨?_, fun c hc hge => ?_⟩, ?_⟩
  · rcases (show p = 0 ∨ p = 1 ∨ p = 2 ∨ p = 3 by omega) with rfl | rfl | rfl | rfl
    · exact (ma_join hn r1 hb').cg (fun c hc => by rw [hrow c (by omega)]; show _ ↔ (G c || H c) = true; rw [Bool.or_eq_true])
    · exact (ma_meet hn r1 hb').cg (fun c hc => by rw [hrow c (by omega)]; show _ ↔ (G c && H c) = true; rw [Bool.and_eq_true])
    · exact (ma_sub hn r1 hb').cg (fun c hc => by rw [hrow c (by omega)]; show _ ↔ (G c && !H c) = true; simp)
    · exact (ma_dif hn r1 hb').cg (fun c hc => by rw [hrow c (by omega)]; show _ ↔ (G c != H c) = true; cases G c <;> cases H c <;> simp)
  · rw [hrow c hc, ha.2 c hc hge, hb.2 c hc hge]
    rcases (show p = 0 ∨ p = 1 ∨ p = 2 ∨ p = 3 by omega) with rfl | rfl | rfl | rfl <;> rfl
  · rcases (show p = 0 ∨ p = 1 ∨ p = 2 ∨ p = 3 by omega) with rfl | rfl | rfl | rfl <;> exact f1.trans (Fs_sJ _ _ rfl)
theorem Rb_der {n : Nat} (hn : n ≤ 10) {μ : Mm} {f op : Nat} {F O : Nat → Bool} (hop : op < 10) (hf : f < 4) (h : Rb n (gJ μ f) (fun c => F (1024 * f + c))) : Rb n (gJ (mLay μ n (wf n) 50 op f) 50) (dvO F O n op f) ∧ Fs (fun j => j = 20 ∨ j = 21 ∨ j = 22 ∨ j = 50) μ (mLay μ n (wf n) 50 op f) := by
  obtain ⟨r, fr⟩ := ma_lay (t := 50) (s := f) hn hop (by decide) ⟨by omega, by omega, by omega, by omega⟩ h.1
  have h1024 := pw10 hn
  exact ⟨⟨r.cg (fun c hc => ((dv_ok hn hop (by omega)).1 hc).symm), fun c hc hge => (dv_ok hn hop hc).2 hge⟩, fr⟩
theorem Rb_tra {n : Nat} (hn : n ≤ 10) {μ : Mm} {f e : Nat} {F O : Nat → Bool} (hf : f < 4) (he : e < 2 ^ n) (h : Rb n (gJ μ f) (fun c => F (1024 * f + c))) : Rb n (gJ (mTraC e (wf n) (mCpy μ 50 f) n) 50) (trO F (rowU 1024 (fun _ => false) O) f e (2 ^ n)) ∧ Fs (fun j => j = 50) μ (mTraC e (wf n) (mCpy μ 50 f) n) := by
  have h1024 := pw10 hn
  have h0 : ∀ c, c < 1024 → rowU 1024 (fun _ => false) O c = false := fun c hc => rowU_lt _ _ hc
  have r1 : Rq n (gJ (mCpy μ 50 f) 50) (fun c => c < 2 ^ n ∧ F (1024 * f + c) = true) := (ma_cpy (i := 50) hn h.1).cg (fun c hc => ⟨fun z => ⟨hc, z⟩, fun z => z.2⟩)
  obtain ⟨a, b⟩ := ma_tra (c := e) hn r1 n (Nat.le_refl n)
  refine ⟨⟨a.cg (fun c hc => ?_), fun c hc hge => ?_⟩, (Fs_c μ 50 f).trans b⟩
  · rw [TrP_n he hc (fun s z => z.1), tr_ok, h0 c (by omega)]
    exact ⟨fun ⟨s, x, y⟩ => Or.inr ⟨s, x.1, x.2, y⟩, fun z => z.elim (fun y => by cases y) (fun ⟨s, x, y, w⟩ => ⟨s, ⟨x, y⟩, w⟩)⟩
  · refine Bool.eq_false_iff.mpr (fun z => ?_)
    rw [tr_ok, h0 c hc] at z
    rcases z with z | ⟨s, x, y, w⟩
    · cases z
    · have : s &&& e ≤ e := Nat.and_le_right
      omega
theorem sn_stop {k m : Nat} {O : Nat → Bool} {c : Nat} (h : (snF k O m c).2.2 = 0) : ∀ d, snF k O m (c + d) = snF k O m c
  | 0 => rfl
  | d + 1 => by
    have ih := sn_stop h d
    show (if 0 < (snF k O m (c + d)).2.2 ∧ b10 (c + d) = k then _ else snF k O m (c + d)) = _
    rw [if_neg (by rw [ih]; omega), ih]
theorem sg_ok {n k m : Nat} (hn : n ≤ 10) {O : Nat → Bool} : ∀ (r c : Nat) (M : Mm) (left : Nat) (last : Int32), c + r = 2 ^ n → Rq n (gJ M 50) (fun d => (snF k O m c).1 d = true) → left = (snF k O m c).2.2 → last = oI (snF k O m c).2.1 → Rq n (gJ (sgQ k r c left last M).1 50) (fun d => (snF k O m (2 ^ n)).1 d = true) ∧ (sgQ k r c left last M).2 = oI (snF k O m (2 ^ n)).2.1 ∧ Fs (fun q => q = 50) M (sgQ k r c left last M).1
  | 0, c, M, left, last, hc, h, _, h2 => by
    have : c = 2 ^ n := by omega
    subst this
    exact ⟨h, h2, Fs.refl _ _⟩
  | r + 1, c, M, left, last, hc, h, h1, h2 => by
    have h1024 := pw10 hn
    rw [sgQ]
    by_cases q : left = 0
    · rw [if_pos q]
      have e := sn_stop (k := k) (m := m) (O := O) (c := c) (by omega) (r + 1)
      rw [hc] at e
      rw [e]
      exact ⟨h, h2, Fs.refl _ _⟩
    · rw [if_neg q]
      have hb := b10_pN (c := c) (by omega)
      by_cases z : pN c = k
      · rw [if_pos z]
        have e : snF k O m (c + 1) = (upB (snF k O m c).1 c true, some c, (snF k O m c).2.2 - 1) := by rw [snF, if_pos ⟨by omega, by omega⟩]
        have f1 : Fs (fun q => q = 50) M (mPut M 50 c) := Fs_sJ _ _ rfl
        obtain ⟨a, b, d⟩ := sg_ok hn (k := k) (m := m) (O := O) r (c + 1) (mPut M 50 c) (left - 1) (nI c) (by omega) ((ma_put h (e := c) (by omega)).cg (fun d hd => by rw [e]; exact (upB_t _ _ _).symm)) (by rw [e, h1]) (by rw [e]; rfl)
        exact ⟨a, b, f1.trans d⟩
      · rw [if_neg z]
        have e : snF k O m (c + 1) = snF k O m c := by rw [snF, if_neg (by omega)]
        exact sg_ok hn (k := k) (m := m) (O := O) r (c + 1) M left last (by omega) (by rw [e]; exact h) (by rw [e]; exact h1) (by rw [e]; exact h2)
theorem sn_in {k m : Nat} {O : Nat → Bool} : ∀ s, (∀ c, (snF k O m s).1 c = true → O c = true ∨ c < s) ∧ (∀ c, (snF k O m s).2.1 = some c → c < s ∧ (snF k O m s).1 c = true)
  | 0 => ⟨fun c h => Or.inl h, fun c h => by cases h⟩
  | s + 1 => by
    obtain ⟨a, b⟩ := sn_in (k := k) (m := m) (O := O) s
    rw [snF]
    split
    · refine ⟨fun c h => ?_, fun c h => ?_⟩
      · rcases (upB_t _ _ _).mp h with z | z
        · rcases a c z with y | y
          · exact Or.inl y
          · exact Or.inr (by omega)
        · exact Or.inr (by omega)
      · cases h; exact ⟨by omega, (upB_t _ _ _).mpr (Or.inr rfl)⟩
    · refine ⟨fun c h => ?_, fun c h => ?_⟩
      · rcases a c h with y | y
        · exact Or.inl y
        · exact Or.inr (by omega)
      · obtain ⟨x, y⟩ := b c h
        exact ⟨by omega, y⟩
theorem Rb_seg {n k m : Nat} (hn : n ≤ 10) {μ : Mm} {O : Nat → Bool} : Rb n (gJ (sgQ k (2 ^ n) 0 m (-1) (mClr μ 50)).1 50) (snF k (rowU 1024 (fun _ => false) O) m (2 ^ n)).1 ∧ (sgQ k (2 ^ n) 0 m (-1) (mClr μ 50)).2 = oI (snF k (rowU 1024 (fun _ => false) O) m (2 ^ n)).2.1 ∧ Fs (fun q => q = 50) μ (sgQ k (2 ^ n) 0 m (-1) (mClr μ 50)).1 := by
  have h1024 := pw10 hn
  have h0 : ∀ c, c < 1024 → rowU 1024 (fun _ => false) O c = false := fun c hc => rowU_lt _ _ hc
  have f1 : Fs (fun q => q = 50) μ (mClr μ 50) := Fs_sJ _ _ rfl
  obtain ⟨a, b, c⟩ := sg_ok (k := k) (m := m) (O := rowU 1024 (fun _ => false) O) hn (2 ^ n) 0 (mClr μ 50) m (-1) (by omega) ((ma_clr (μ := μ) (i := 50) hn).cg (fun d hd => by show _ ↔ rowU 1024 (fun _ => false) O d = true; rw [h0 d (by omega)]; simp)) rfl rfl
  refine ⟨⟨a, fun d hd hge => ?_⟩, b, f1.trans c⟩
  refine Bool.eq_false_iff.mpr (fun z => ?_)
  rcases (sn_in (2 ^ n)).1 d z with y | y
  · rw [h0 d hd] at y; cases y
  · omega
/-- the text -/
def RdR (bg : Bool) (l n : Nat) (x : Option Nat) : Prop := (bg = false ∧ x = none ∧ l = 0) ∨ (bg = true ∧ (x = some l ∨ (l = n ∧ x = some 99)))
theorem ps_ok {n tl : Nat} {tb : Nat → Nat} (hn : n ≤ 10) (htl : tl ≤ 120) : ∀ (r i set l : Nat) (bg : Bool) (M : Mm) (x : Option Nat) (O : Nat → Bool), i + r = tl → RdR bg l n x → set < 2 ^ n → (bg = true → 0 < tl) → Rb n (gJ M 50) O → (((psF 50 n tl tb r i set l bg M).2 = -1 ∧ (rdF n tl tb r i set x O).2 = none ∧ Rb n (gJ (psF 50 n tl tb r i set l bg M).1 50) (rdF n tl tb r i set x O).1) ∨ ∃ j, j ≤ 120 ∧ (psF 50 n tl tb r i set l bg M).2 = nI j ∧ (rdF n tl tb r i set x O).2 = some (-10 - nI j)) ∧ Fs (fun q => q = 50) M (psF 50 n tl tb r i set l bg M).1
  | 0, i, set, l, bg, M, x, O, hi, hR, hs, hb, h => by
    rw [psF, rdF]
    rcases hR with ⟨r1, r2, r3⟩ | ⟨r1, r2⟩
    · subst r1; subst r2
      rw [if_neg (by decide)]
      by_cases q : tl = 0
      · rw [if_pos (Or.inr q), if_neg (by omega), if_neg (by omega)]
        exact ⟨Or.inl ⟨rfl, rfl, h⟩, Fs.refl _ _⟩
      · rw [if_neg (by simp [q]), if_pos ⟨rfl, by omega⟩]
        exact ⟨Or.inr ⟨tl, htl, rfl, rfl⟩, Fs.refl _ _⟩
    · subst r1
      have hx : ¬ x = none := fun z => by rcases r2 with y | ⟨_, y⟩ <;> rw [y] at z <;> cases z
      rw [if_pos rfl, if_pos (Or.inl rfl), if_neg (fun z => hx z.1), if_pos (hb rfl)]
      refine ⟨Or.inl ⟨rfl, rfl, (ma_put h.1 hs).cg (fun d hd => (upB_t _ _ _).symm), fun c hc hge => ?_⟩, Fs_sJ _ _ rfl⟩
      show upB O set true c = false
      unfold upB; rw [if_neg (by omega)]; exact h.2 c hc hge
  | r + 1, i, set, l, bg, M, x, O, hi, hR, hs, hb, h => by
    have htl0 : 0 < tl := by omega
    have hbx : bg = true ↔ ¬ x = none := by
      rcases hR with ⟨r1, r2, r3⟩ | ⟨r1, r2⟩
      · subst r1; subst r2; simp
      · subst r1; rcases r2 with y | ⟨_, y⟩ <;> rw [y] <;> simp
    rw [psF, rdF]
    by_cases q1 : bg = true ∧ tb i = 44
    · rw [if_pos q1, if_pos ⟨q1.2, hbx.mp q1.1⟩]
      have f1 : Fs (fun q => q = 50) M (mPut M 50 set) := Fs_sJ _ _ rfl
      obtain ⟨a, b⟩ := ps_ok (tb := tb) hn htl r (i + 1) 0 0 false (mPut M 50 set) none (upB O set true) (by omega) (Or.inl ⟨rfl, rfl, rfl⟩) (Nat.two_pow_pos n) (fun _ => htl0) ⟨(ma_put h.1 hs).cg (fun d hd => (upB_t _ _ _).symm), fun c hc hge => by unfold upB; rw [if_neg (by omega)]; exact h.2 c hc hge⟩
      exact ⟨a, f1.trans b⟩
    · have n1 : ¬ (tb i = 44 ∧ ¬ x = none) := fun z => q1 ⟨hbx.mpr z.2, z.1⟩
      rw [if_neg q1, if_neg n1]
      by_cases q2 : bg = false ∧ tb i = 45
      · have hx : x = none := by
          rcases hR with ⟨r1, r2, r3⟩ | ⟨r1, r2⟩
          · exact r2
          · rw [q2.1] at r1; cases r1
        rw [if_pos q2, if_pos ⟨q2.2, hx⟩]
        exact ps_ok hn htl r (i + 1) set n true M (some 99) O (by omega) (Or.inr ⟨rfl, Or.inr ⟨rfl, rfl⟩⟩) hs (fun _ => htl0) h
      · have hq2 : ¬ (tb i = 45 ∧ x = none) := fun z => q2 ⟨by
          cases hbg : bg
          · rfl
          · exact absurd z.2 (hbx.mp hbg), z.1⟩
        rw [if_neg q2, if_neg hq2]
        have hd : (48 + l ≤ tb i ∧ tb i < 48 + n) ↔ (48 + rdL x ≤ tb i ∧ tb i < 48 + n) := by
          rcases hR with ⟨r1, r2, r3⟩ | ⟨r1, r2 | ⟨r2, r3⟩⟩
          · rw [r2, r3]; rfl
          · rw [r2]; rfl
          · rw [r3, r2]; show _ ↔ (48 + 99 ≤ tb i ∧ tb i < 48 + n); omega
        by_cases q3 : 48 + l ≤ tb i ∧ tb i < 48 + n
        · rw [if_pos q3, if_pos (hd.mp q3)]
          exact ps_ok hn htl r (i + 1) _ _ true M (some (tb i - 48 + 1)) O (by omega) (Or.inr ⟨rfl, Or.inl rfl⟩) (Nat.or_lt_two_pow hs (Nat.pow_lt_pow_right (by decide) (by omega))) (fun _ => htl0) h
        · rw [if_neg q3, if_neg (fun z => q3 (hd.mpr z))]
          exact ⟨Or.inr ⟨i, by omega, rfl, rfl⟩, Fs.refl _ _⟩
