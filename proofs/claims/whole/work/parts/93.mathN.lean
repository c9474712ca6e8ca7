/-! searches by ascending codes: the rows of what was laid on the way -/
def qk (k t : Nat) : Nat := t / 2 ^ k * 2 ^ k
theorem qk_le (k t : Nat) : qk k t ≤ t := Nat.div_mul_le_self _ _
theorem qk_tb (k t i : Nat) : (qk k t).testBit i = (decide (k ≤ i) && t.testBit i) := by
  unfold qk
  rw [Nat.mul_comm, Nat.testBit_two_pow_mul]
  by_cases h : k ≤ i
  · rw [Nat.testBit_div_two_pow, show i - k + k = i by omega]
  · simp [h]
theorem dv_not {m q : Nat} (hq : 0 < q) (h : ¬ (m + 1) % q = 0) : (m + 1) / q = m / q := by
  have h1 := Nat.div_add_mod (m + 1) q
  have h2 := Nat.mod_lt (m + 1) hq
  symm
  refine Nat.div_eq_of_lt_le ?_ ?_
  · rw [Nat.mul_comm]; omega
  · rw [Nat.succ_mul, Nat.mul_comm]; omega
theorem qk_next {b c k : Nat} (hb : 2 ^ b ∣ c) (h : qk k (c + 2 ^ b) < c + 2 ^ b) : qk k (c + 2 ^ b) = qk k c := by
  obtain ⟨m, rfl⟩ := hb
  have e : 2 ^ b * m + 2 ^ b = 2 ^ b * (m + 1) := by rw [Nat.mul_add, Nat.mul_one]
  rw [e] at h ⊢
  unfold qk at *
  rcases Nat.lt_or_ge b k with q | q
  · have ek : 2 ^ k = 2 ^ b * 2 ^ (k - b) := wb_pw (by omega)
    have hd : ∀ x, 2 ^ b * x / 2 ^ k = x / 2 ^ (k - b) := fun x => by rw [ek, Nat.mul_div_mul_left _ _ (Nat.two_pow_pos b)]
    rw [hd] at h ⊢
    rw [hd]
    by_cases z : (m + 1) % 2 ^ (k - b) = 0
    · have := Nat.div_add_mod (m + 1) (2 ^ (k - b))
      rw [z, Nat.add_zero] at this
      have e3 : (m + 1) / 2 ^ (k - b) * 2 ^ k = 2 ^ b * (m + 1) := by rw [ek, Nat.mul_comm, Nat.mul_assoc, this]
      omega
    · rw [dv_not (Nat.two_pow_pos _) z]
  · have ek : 2 ^ b = 2 ^ k * 2 ^ (b - k) := wb_pw q
    have e3 : 2 ^ b * (m + 1) / 2 ^ k * 2 ^ k = 2 ^ b * (m + 1) := Nat.div_mul_cancel ⟨2 ^ (b - k) * (m + 1), by rw [ek, Nat.mul_assoc]⟩
    omega
theorem pN_sb {a b : Nat} (h : Sb a b) (hn : a ≠ b) (hb : b < 2 ^ 32) : pN a < pN b := by
  obtain ⟨x, hx, hax⟩ := Sb_ne h hn
  have hx32 := tb_in hb hx
  have h1 : pN (a ^^^ 2 ^ x) = pN a + 1 := pN_xr hx32 hax
  have h2 : pN (a ^^^ 2 ^ x) ≤ pN b := by
    unfold pN
    rw [cnt_sm, cnt_sm]
    refine sm_mon (fun i _ => ?_)
    by_cases z : (a ^^^ 2 ^ x).testBit i = true
    · rw [if_pos z]
      have : b.testBit i = true := by
        by_cases y : x = i
        · subst y; exact hx
        · rw [xr_tbn a y] at z; exact h i z
      rw [if_pos this]; exact Nat.le_refl _
    · rw [if_neg z]; exact Nat.zero_le _
  omega
theorem qk_sb (k t : Nat) : Sb (qk k t) t := fun i hi => by rw [qk_tb, Bool.and_eq_true] at hi; exact hi.2
/-- the rows from base on hold T of what is above t -/
def Stk (n base : Nat) (T : Nat → Nat → Prop) (M : Mm) (t : Nat) : Prop := ∀ k, qk k t < t → Rq n (gJ M (base + pN (qk k t))) (T (qk k t))
theorem Stk.next {n base : Nat} {T : Nat → Nat → Prop} {M M' : Mm} {c b : Nat} (hb : 2 ^ b ∣ c) (hc : c < 2 ^ 32) (h : Stk n base T M c) (hr : Rq n (gJ M' (base + pN c)) (T c)) (hf : ∀ j, j ≤ 10 → j < pN c → gJ M' (base + j) = gJ M (base + j)) (h10 : pN c ≤ 10) : Stk n base T M' (c + 2 ^ b) := by
  intro k hk
  rw [qk_next hb hk]
  rcases Nat.lt_or_eq_of_le (qk_le k c) with q | q
  · have hp := pN_sb (qk_sb k c) (by omega) hc
    rw [hf _ (by omega) hp]; exact h k q
  · rw [q]; exact hr
/-- the lowest element -/
theorem lw_ok {c : Nat} (h0 : 0 < c) (hc : c < 1024) : lowb (lN c) < 10 ∧ c.testBit (lowb (lN c)) = true ∧ (∀ i, i < lowb (lN c) → c.testBit i = false) ∧ 2 ^ lowb (lN c) ∣ c ∧ c &&& (1024 - c) = 2 ^ lowb (lN c) := by
  obtain ⟨h1, h2⟩ := lowb_lN h0 (by omega)
  have hl : lowb (lN c) < 10 := tb_in (n := 10) hc h1
  refine ⟨hl, h1, h2, ?_, ?_⟩
  · refine Nat.dvd_of_mod_eq_zero (Nat.eq_of_testBit_eq (fun i => ?_))
    rw [Nat.testBit_mod_two_pow, Nat.zero_testBit]
    by_cases q : i < lowb (lN c)
    · rw [h2 i q]; simp
    · simp [q]
  · have e := lb_ok c hc
    generalize lowb (lN c) = b at *
    apply Nat.eq_of_testBit_eq; intro i
    rw [Nat.testBit_and, Nat.testBit_two_pow]
    have hd : (1024 - c).testBit i = (2 ^ 10 - (c - 1 + 1)).testBit i := by congr 1; omega
    have hcb : c - 1 + 1 = c := by omega
    rw [hd, Nat.testBit_two_pow_sub_succ (by omega : c - 1 < 2 ^ 10)]
    have hs : ∀ i, (c - 1).testBit i = if i < b then true else if i = b then false else c.testBit i := by
      intro i
      have hx := xr_sub (c := c) (e := b) h1
      have e1 : c - 1 = (c ^^^ 2 ^ b) + (2 ^ b - 1) := by have := Nat.two_pow_pos b; omega
      have hdv : 2 ^ (b + 1) ∣ c ^^^ 2 ^ b := by
        refine Nat.dvd_of_mod_eq_zero (Nat.eq_of_testBit_eq (fun i => ?_))
        rw [Nat.testBit_mod_two_pow, Nat.zero_testBit]
        by_cases q : i < b + 1
        · by_cases z : b = i
          · subst z; rw [xr_tbs, h1]; simp
          · rw [xr_tbn c z, h2 i (by omega)]; simp
        · simp [q]
      obtain ⟨m, hm⟩ := hdv
      have hlt : 2 ^ b - 1 < 2 ^ (b + 1) := by rw [Nat.pow_succ]; have := Nat.two_pow_pos b; omega
      rw [e1, hm, Nat.testBit_two_pow_mul_add m hlt i, Nat.testBit_two_pow_sub_one]
      by_cases q : i < b
      · rw [if_pos (by omega), if_pos q, decide_eq_true q]
      · rw [if_neg q]
        by_cases z : i = b
        · rw [if_pos z, if_pos (by omega), decide_eq_false q]
        · rw [if_neg z, if_neg (by omega)]
          have : c.testBit i = (c ^^^ 2 ^ b).testBit i := (xr_tbn c (by omega)).symm
          rw [this, hm, Nat.testBit_two_pow_mul]; simp [show b + 1 ≤ i by omega]
    rw [hs]
    rcases Nat.lt_trichotomy i b with q | q | q
    · rw [h2 i q, decide_eq_false (by omega : ¬ b = i)]; rfl
    · subst q; rw [h1, if_neg (by omega), if_pos rfl]; simp [hl]
    · rw [if_neg (by omega), if_neg (by omega), decide_eq_false (by omega : ¬ b = i)]; cases c.testBit i <;> simp
theorem par_ok {c : Nat} (h0 : 0 < c) (hc : c < 1024) : qk (lowb (lN c) + 1) c = c ^^^ 2 ^ lowb (lN c) ∧ c ^^^ 2 ^ lowb (lN c) < c ∧ pN (c ^^^ 2 ^ lowb (lN c)) + 1 = pN c := by
  obtain ⟨h1, h2, h3, _, _⟩ := lw_ok h0 hc
  generalize lowb (lN c) = b at *
  have hx := xr_sub h2
  refine ⟨Nat.eq_of_testBit_eq (fun i => ?_), by have := Nat.two_pow_pos b; omega, ?_⟩
  · rw [qk_tb]
    rcases Nat.lt_trichotomy i b with q | q | q
    · rw [xr_tbn c (by omega), h3 i q]; simp
    · subst q; rw [xr_tbs, h2]; simp
    · rw [xr_tbn c (by omega), decide_eq_true (by omega)]; rfl
  · have := pN_xr (c := c ^^^ 2 ^ b) (x := b) (by omega) (by rw [xr_tbs, h2]; rfl)
    rw [xr_xr] at this; omega
/-- the next code of the search, and what a branch leaves out -/
theorem be_ok {n c : Nat} (hn : n ≤ 10) (hc : c < 2 ^ n) : ∃ b, 2 ^ b ∣ c ∧ be c (2 ^ n - 1) = c + 2 ^ b ∧ ∀ d, c < d → d < c + 2 ^ b → Sb c d := by
  have h1024 := pw10 hn
  unfold be
  by_cases q : c = 0
  · rw [if_pos q]
    refine ⟨n, by rw [q]; exact Nat.dvd_zero _, by have := Nat.two_pow_pos n; omega, fun d _ _ i hi => by rw [q, Nat.zero_testBit] at hi; cases hi⟩
  · rw [if_neg q]
    obtain ⟨h1, h2, h3, h4, h5⟩ := lw_ok (c := c) (by omega) (by omega)
    rw [h5]
    generalize lowb (lN c) = b at *
    refine ⟨b, h4, rfl, fun d hd1 hd2 => ?_⟩
    obtain ⟨m, hm⟩ := h4
    intro i hi
    have hib : b ≤ i := by
      rcases Nat.lt_or_ge i b with z | z
      · rw [h3 i z] at hi; cases hi
      · exact z
    obtain ⟨e, he⟩ : ∃ e, d = 2 ^ b * m + e := ⟨d - c, by omega⟩
    have h7 := Nat.testBit_two_pow_mul_add m (b := e) (i := b) (by omega) i
    have h8 : c.testBit i = (2 ^ b * m + 0).testBit i := by rw [hm, Nat.add_zero]
    have h9 := Nat.testBit_two_pow_mul_add m (b := 0) (i := b) (Nat.two_pow_pos b) i
    rw [he, h7, if_neg (by omega)]
    rw [h8, h9, if_neg (by omega)] at hi
    exact hi
theorem pN_cp {n d : Nat} (hn : n ≤ 10) (hd : d < 2 ^ n) : pN (2 ^ n - 1 ^^^ d) + pN d = n := by
  have e : ∀ k, cnt (2 ^ n - 1 ^^^ d).testBit k + cnt d.testBit k = min k n := by
    intro k
    induction k with
    | zero => show 0 + 0 = _; omega
    | succ k ih =>
      rw [cnt_succ, cnt_succ, Nat.testBit_xor, Nat.testBit_two_pow_sub_one]
      by_cases q : k < n
      · rw [decide_eq_true q]
        cases d.testBit k <;> simp <;> omega
      · rw [decide_eq_false q, hb_lt hd (by omega)]; simp; omega
  have := e 32
  unfold pN
  omega
/-- what is laid at a code -/
def TrD (A : Nat → Prop) (D d : Nat) : Prop := ∃ s, A s ∧ ∀ i, d.testBit i = (s.testBit i && !D.testBit i)
theorem TrD_fgt {A : Nat → Prop} {D b d : Nat} (hb : D.testBit b = true) : ((TrD A (D ^^^ 2 ^ b) d ∨ (d.testBit b = false ∧ TrD A (D ^^^ 2 ^ b) (d ^^^ 2 ^ b))) ∧ d.testBit b = false) ↔ TrD A D d := by
  have hi : ∀ i, ¬ b = i → (D ^^^ 2 ^ b).testBit i = D.testBit i := fun i q => xr_tbn D q
  have hbb : (D ^^^ 2 ^ b).testBit b = false := by rw [xr_tbs, hb]; rfl
  constructor
  · rintro ⟨⟨s, a, e⟩ | ⟨_, s, a, e⟩, hd⟩
    · refine ⟨s, a, fun i => ?_⟩
      by_cases q : b = i
      · subst q; rw [hd, hb]; simp
      · rw [← hi i q]; exact e i
    · refine ⟨s, a, fun i => ?_⟩
      by_cases q : b = i
      · subst q; rw [hd, hb]; simp
      · rw [← hi i q, ← e i, xr_tbn d q]
  · rintro ⟨s, a, e⟩
    have hd : d.testBit b = false := by rw [e b, hb]; simp
    refine ⟨?_, hd⟩
    cases hs : s.testBit b
    · refine Or.inl ⟨s, a, fun i => ?_⟩
      by_cases q : b = i
      · subst q; rw [hd, hs]; simp
      · rw [hi i q]; exact e i
    · refine Or.inr ⟨hd, s, a, fun i => ?_⟩
      by_cases q : b = i
      · subst q; rw [xr_tbs, hd, hs, hbb]; rfl
      · rw [xr_tbn d q, hi i q]; exact e i
theorem ma_tr {n : Nat} (hn : n ≤ 10) {M : Mm} {f c : Nat} {A : Nat → Prop} (hf : f < 4) (hc : c < 2 ^ n) (hA : Rq n (gJ M f) A) (h : Stk n 26 (TrD A) M c) : Rq n (gJ (mTr M (wf n) f c) (26 + pN c)) (TrD A c) ∧ Fs (fun q => q = 26 + pN c) M (mTr M (wf n) f c) := by
  have h1024 := pw10 hn
  unfold mTr
  by_cases q : pN c = 0
  · have hc0 : c = 0 := pN_z (by omega) q
    subst hc0
    rw [if_pos q]
    refine ⟨(ma_cpy hn hA).cg (fun d hd => ⟨fun z => ⟨d, z, fun i => by simp⟩, fun ⟨s, a, e⟩ => by rw [Nat.eq_of_testBit_eq (x := d) (y := s) (fun i => by rw [e i]; simp)]; exact a⟩), Fs_c _ _ _⟩
  · have h0 : 0 < c := Nat.pos_of_ne_zero (fun z => q (by rw [z]; exact pN_n0))
    rw [if_neg q]
    obtain ⟨p1, p2, p3⟩ := par_ok h0 (by omega)
    obtain ⟨l1, l2, l3, _, _⟩ := lw_ok h0 (by omega)
    have hs := h (lowb (lN c) + 1) (by rw [p1]; exact p2)
    rw [p1, show pN (c ^^^ 2 ^ lowb (lN c)) = pN c - 1 by omega] at hs
    obtain ⟨a, b⟩ := ma_fgt (e := lowb (lN c)) hn (tb_in hc l2) (ma_cpy (i := 26 + pN c) hn hs)
    exact ⟨a.cg (fun d hd => TrD_fgt l2), (Fs_c _ _ _).trans b⟩
def LkD (A : Nat → Prop) (D d : Nat) : Prop := d &&& D = 0 ∧ A (d ||| D)
theorem LkD_low {A : Nat → Prop} {D b d : Nat} (hb : D.testBit b = true) : (False ∨ (d.testBit b = false ∧ LkD A (D ^^^ 2 ^ b) (d ^^^ 2 ^ b))) ↔ LkD A D d := by
  unfold LkD
  have key : d.testBit b = false → (d ^^^ 2 ^ b ||| D ^^^ 2 ^ b) = (d ||| D) := fun hd => by
    apply Nat.eq_of_testBit_eq; intro i
    rw [Nat.testBit_or, Nat.testBit_or]
    by_cases q : b = i
    · subst q; rw [xr_tbs, xr_tbs, hd, hb]; rfl
    · rw [xr_tbn d q, xr_tbn D q]
  have key2 : d.testBit b = false → ((d ^^^ 2 ^ b) &&& (D ^^^ 2 ^ b) = 0 ↔ d &&& D = 0) := fun hd => by
    have e : (d ^^^ 2 ^ b) &&& (D ^^^ 2 ^ b) = d &&& D := by
      apply Nat.eq_of_testBit_eq; intro i
      rw [Nat.testBit_and, Nat.testBit_and]
      by_cases q : b = i
      · subst q; rw [xr_tbs, xr_tbs, hd, hb]; rfl
      · rw [xr_tbn d q, xr_tbn D q]
    rw [e]
  constructor
  · rintro (z | ⟨z1, z2, z3⟩)
    · exact z.elim
    · rw [key z1] at z3; exact ⟨(key2 z1).mp z2, z3⟩
  · rintro ⟨z1, z2⟩
    have hd : d.testBit b = false := by
      have := congrArg (fun v => v.testBit b) z1
      simp only [Nat.testBit_and, hb, Bool.and_true, Nat.zero_testBit] at this
      exact this
    exact Or.inr ⟨hd, (key2 hd).mpr z1, by rw [key hd]; exact z2⟩
theorem ma_lk {n : Nat} (hn : n ≤ 10) {M : Mm} {f c : Nat} {A : Nat → Prop} (hf : f < 4) (hc : c < 2 ^ n) (hA : Rq n (gJ M f) A) (h : Stk n 37 (LkD A) M c) : Rq n (gJ (mLk M (wf n) f c) (37 + pN c)) (LkD A c) ∧ Fs (fun q => q = 37 + pN c) M (mLk M (wf n) f c) := by
  have h1024 := pw10 hn
  unfold mLk
  by_cases q : pN c = 0
  · have hc0 : c = 0 := pN_z (by omega) q
    subst hc0
    rw [if_pos q]
    refine ⟨(ma_cpy hn hA).cg (fun d hd => by unfold LkD; rw [Nat.and_zero, Nat.or_zero]; exact ⟨fun z => ⟨rfl, z⟩, fun z => z.2⟩), Fs_c _ _ _⟩
  · have h0 : 0 < c := Nat.pos_of_ne_zero (fun z => q (by rw [z]; exact pN_n0))
    rw [if_neg q]
    obtain ⟨p1, p2, p3⟩ := par_ok h0 (by omega)
    obtain ⟨l1, l2, l3, _, _⟩ := lw_ok h0 (by omega)
    have hs := h (lowb (lN c) + 1) (by rw [p1]; exact p2)
    rw [p1, show pN (c ^^^ 2 ^ lowb (lN c)) = pN c - 1 by omega] at hs
    have f1 : Fs (fun q => q = 37 + pN c) M (mClr M (37 + pN c)) := Fs_sJ _ _ rfl
    have r := ma_jl (i := 37 + pN c) (j := 37 + (pN c - 1)) (e := lowb (lN c)) hn (tb_in hc l2) (ma_clr (μ := M) (i := 37 + pN c) hn) (by rw [f1.j (by omega)]; exact hs)
    exact ⟨r.cg (fun d hd => LkD_low l2), f1.trans (Fs_sJ _ _ rfl)⟩
