/-! counting -/
theorem cnt_iff {p q : Nat → Bool} {N : Nat} (h : ∀ c, c < N → (p c = true ↔ q c = true)) : cnt p N = cnt q N := cnt_congr (fun c hc => Bool.eq_iff_iff.mpr (h c hc))
theorem cnt_sm (p : Nat → Bool) : ∀ N, cnt p N = sm (fun c => if p c = true then 1 else 0) N
  | 0 => rfl
  | N + 1 => by rw [cnt_succ, sm, cnt_sm p N]; cases p N <;> rfl
theorem cnt_first (p : Nat → Bool) (r : Nat) : cnt p (r + 1) = (p 0).toNat + cnt (fun i => p (i + 1)) r := by
  rw [Nat.add_comm r 1, cnt_add]
  congr 1
  · show 0 + (p 0).toNat = _; rw [Nat.zero_add]
  · exact cnt_congr (fun i _ => by rw [Nat.add_comm])
theorem b10_pN {c : Nat} (hc : c < 1024) : b10 c = pN c := by
  have h1 : ∀ k, sm (fun x => c / 2 ^ x &&& 1) k = cnt c.testBit k := by
    intro k
    induction k with
    | zero => rfl
    | succ k ih =>
      rw [sm, cnt_succ, ih]
      congr 1
      cases hb : c.testBit k
      · exact (dv1 c k).1.mpr hb
      · exact (dv1 c k).2.mpr hb
  unfold b10 pN
  rw [h1, show 32 = 10 + 22 from rfl, cnt_add]
  rw [cnt_zero (p := fun i => c.testBit (10 + i)) (fun i _ => hb_lt (n := 10) hc (by omega))]; rfl
theorem b10_l (c : Nat) : b10 c ≤ 10 := Nat.le_trans (sm_le (b := 1) (fun x => Nat.and_le_right) 10) (by decide)
theorem ct_ok {n : Nat} (hn : n ≤ 10) {x : Nat → Int64} {A : Nat → Prop} (h : Rq n x A) : cnt (bt x) (wf n * 64) = cnt (bt x) (2 ^ n) := by
  by_cases q : 6 ≤ n
  · rw [wf_64 q]
  · have h6 : 2 ^ n ≤ 2 ^ 6 := Nat.pow_le_pow_right (by decide) (by omega)
    rw [wf_lo (by omega), show 1 * 64 = 2 ^ n + (64 - 2 ^ n) by omega, cnt_add, cnt_zero (p := fun i => bt x (2 ^ n + i)) (fun i hi => h.2 _ (by omega) (by omega))]; rfl
theorem ct_B {n : Nat} (hn : n ≤ 10) {x : Nat → Int64} {G : Nat → Bool} (h : Rq n x (fun c => G c = true)) : sm (fun w => bc (x w)) (wf n) = cnt G (2 ^ n) := by
  rw [← cnt_row, ct_ok hn h]
  exact cnt_iff (fun c hc => h.1 c hc)
theorem ct_P {n : Nat} (hn : n ≤ 10) {x : Nat → Int64} {A : Nat → Prop} (h : Rq n x A) {G : Nat → Bool} (hG : ∀ c, c < 2 ^ n → (A c ↔ G c = true)) : sm (fun w => bc (x w)) (wf n) = cnt G (2 ^ n) := ct_B hn (h.cg hG)
theorem ct_row {n : Nat} (hn : n ≤ 10) {f x : Nat → Int64} {A : Nat → Prop} (h : Rq n (rowU (wf n) f x) A) {G : Nat → Bool} (hG : ∀ c, c < 2 ^ n → (A c ↔ G c = true)) : sm (fun w => bc (f w)) (wf n) = cnt G (2 ^ n) := by
  rw [← ct_P hn h hG]
  exact sm_congr (fun w hw => by rw [rowU_lt _ _ hw])
theorem csz_ok {n k : Nat} (hn : n ≤ 10) {x : Nat → Int64} {G : Nat → Bool} (h : Rq n x (fun c => G c = true)) : sm (fun w => bc (x w &&& oz w k)) (wf n) = cnt (fun c => G c && decide (pN c = k)) (2 ^ n) :=
  ct_row hn (Rq_ks (m := k) hn h) (fun c hc => by rw [Bool.and_eq_true, decide_eq_true_iff])
theorem chl_ok {n e : Nat} (hn : n ≤ 10) {x : Nat → Int64} {G : Nat → Bool} (h : Rq n x (fun c => G c = true)) : sm (fun w => bc (x w &&& (lk w e ^^^ (-1)))) (wf n) = cnt (fun c => G c && c.testBit e) (2 ^ n) :=
  ct_row hn (Rq_kh (e := e) hn h) (fun c hc => by rw [Bool.and_eq_true])
theorem nI_n1 {k : Nat} (h : k < 2 ^ 31) : ¬ nI k = -1 := fun q => by
  have := congrArg Int32.toInt q
  rw [nI_toInt h] at this
  have h1 : (-1 : Int32).toInt = -1 := by decide
  omega
theorem sz_all (F : Nat → Bool) (f N : Nat) : szF F f (-1) N = cnt (fun s => F (1024 * f + s)) N := by
  rw [cnt_sm]; unfold szF
  exact sm_congr (fun s _ => by unfold szc; by_cases q : F (1024 * f + s) = true <;> simp [q])
theorem sz_lv (F : Nat → Bool) (f : Nat) {n k : Nat} (hn : n ≤ 10) (hk : k ≤ 10) : szF F f (nI k) (2 ^ n) = cnt (fun s => F (1024 * f + s) && decide (pN s = k)) (2 ^ n) := by
  rw [cnt_sm]; unfold szF
  refine sm_congr (fun s hs => ?_)
  have h1024 := pw10 hn
  have hb := b10_l s
  unfold szc
  have e : (nI k = -1 ∨ nI (b10 s) = nI k) ↔ pN s = k := by
    rw [← b10_pN (by omega : s < 1024)]
    exact ⟨fun q => q.elim (fun z => absurd z (nI_n1 (by omega))) (fun z => (nI_eq (by omega) (by omega)).mp z), fun q => Or.inr (by rw [q])⟩
  simp only [Bool.and_eq_true, decide_eq_true_iff, e]
theorem dg_ok (F : Nat → Bool) (f x N : Nat) : dgF F f x N = cnt (fun s => F (1024 * f + s) && s.testBit x) N := by
  rw [cnt_sm]; unfold dgF
  refine sm_congr (fun s _ => ?_)
  unfold dgc
  by_cases q : F (1024 * f + s) = true
  · rw [if_pos q]
    cases hb : s.testBit x
    · rw [(dv1 s x).1.mpr hb, q]; rfl
    · rw [(dv1 s x).2.mpr hb, q]; rfl
  · rw [if_neg q]; simp [q]
/-- the m-th of the codes of G below N -/
def Nth (G : Nat → Bool) (N m : Nat) (v : Int32) : Prop := (v = -1 ∧ cnt G N ≤ m) ∨ ∃ c, c < N ∧ v = nI c ∧ G c = true ∧ cnt G c = m
theorem cnt_ltx {G : Nat → Bool} {c d : Nat} (h : c < d) (hG : G c = true) : cnt G c < cnt G d := by
  have := cnt_mono G (show c + 1 ≤ d from h)
  rw [cnt_succ, hG] at this
  simp at this; omega
theorem Nth_u {G : Nat → Bool} {N m : Nat} {v w : Int32} (h : Nth G N m v) (k : Nth G N m w) : v = w := by
  rcases h with ⟨a1, a2⟩ | ⟨c, a1, a2, a3, a4⟩ <;> rcases k with ⟨b1, b2⟩ | ⟨d, b1, b2, b3, b4⟩
  · rw [a1, b1]
  · have := cnt_ltx b1 b3; omega
  · have := cnt_ltx a1 a3; omega
  · rcases Nat.lt_trichotomy c d with q | q | q
    · have := cnt_ltx q a3; omega
    · rw [a2, b2, q]
    · have := cnt_ltx q b3; omega
theorem Nth_at {n : Nat} (hn : n ≤ 10) {x : Nat → Int64} {G : Nat → Bool} (h : Rq n x (fun c => G c = true)) (m : Nat) : Nth G (2 ^ n) m (atR x (wf n) 0 m) := by
  have h16 := wf_le hn
  have e : ∀ c, c ≤ 2 ^ n → cnt (bt x) c = cnt G c := fun c hc => cnt_iff (fun d hd => h.1 d (by omega))
  rcases atR0 x (wf n) m with ⟨a, b⟩ | ⟨c, a, b, d, k⟩
  · exact Or.inl ⟨a, by rw [ct_ok hn h, e _ (Nat.le_refl _)] at b; exact b⟩
  · have hc : c < 2 ^ n := by
      rcases Nat.lt_or_ge c (2 ^ n) with q | q
      · exact q
      · rw [h.2 c (by omega) q] at d; cases d
    exact Or.inr ⟨c, hc, b, (h.1 c hc).mp d, by rw [← e c (by omega)]; exact k⟩
def nthL (p : Nat → Bool) : Nat → Nat → Nat → Int32
  | 0, _, _ => -1
  | r + 1, s, k => if p s = true then (if k = 0 then nI s else nthL p r (s + 1) (k - 1)) else nthL p r (s + 1) k
theorem nthL_ok (p : Nat → Bool) : ∀ r s k, (nthL p r s k = -1 ∧ cnt (fun i => p (s + i)) r ≤ k) ∨ ∃ c, c < r ∧ nthL p r s k = nI (s + c) ∧ p (s + c) = true ∧ cnt (fun i => p (s + i)) c = k
  | 0, s, k => Or.inl ⟨rfl, Nat.zero_le _⟩
  | r + 1, s, k => by
    have e : ∀ c, cnt (fun i => p (s + i)) (c + 1) = (p s).toNat + cnt (fun i => p (s + 1 + i)) c := fun c => by
      rw [cnt_first]; congr 1; exact cnt_congr (fun i _ => by rw [Nat.add_assoc, Nat.add_comm 1 i])
    rw [nthL]
    by_cases q : p s = true
    · rw [if_pos q]
      by_cases z : k = 0
      · rw [if_pos z]; exact Or.inr ⟨0, by omega, rfl, q, z.symm⟩
      · rw [if_neg z]
        rcases nthL_ok p r (s + 1) (k - 1) with ⟨a, b⟩ | ⟨c, a, b, d, y⟩
        · exact Or.inl ⟨a, by rw [e, q]; simp; omega⟩
        · exact Or.inr ⟨c + 1, by omega, by rw [b]; congr 1; omega, by rw [← d]; congr 1; omega, by rw [e, q, y]; simp; omega⟩
    · rw [if_neg q]
      have q' : p s = false := Bool.eq_false_iff.mpr q
      rcases nthL_ok p r (s + 1) k with ⟨a, b⟩ | ⟨c, a, b, d, y⟩
      · exact Or.inl ⟨a, by rw [e, q']; simpa using b⟩
      · exact Or.inr ⟨c + 1, by omega, by rw [b]; congr 1; omega, by rw [← d]; congr 1; omega, by rw [e, q', y]; simp⟩
theorem Nth_L (p : Nat → Bool) (N k : Nat) : Nth p N k (nthL p N 0 k) := by
  have := nthL_ok p N 0 k
  simp only [Nat.zero_add] at this
  exact this
theorem gtL_L (F : Nat → Bool) (f : Nat) : ∀ r s k, gtL F f r s k = nthL (fun c => F (1024 * f + c)) r s k
  | 0, _, _ => rfl
  | r + 1, s, k => by rw [gtL, nthL, gtL_L F f r (s + 1) (k - 1), gtL_L F f r (s + 1) k]
theorem urF_L (j : Nat) : ∀ r s k, urF j r s k = nthL (fun c => decide (b10 c = j)) r s k
  | 0, _, _ => rfl
  | r + 1, s, k => by rw [urF, nthL, urF_L j r (s + 1) (k - 1), urF_L j r (s + 1) k]; simp only [decide_eq_true_iff]
theorem get_ok {n : Nat} (hn : n ≤ 10) {x : Nat → Int64} {F : Nat → Bool} {f : Nat} (h : Rq n x (fun c => F (1024 * f + c) = true)) (m : Nat) : atR x (wf n) 0 m = gtL F f (2 ^ n) 0 m := by
  rw [gtL_L]; exact Nth_u (Nth_at (G := fun c => F (1024 * f + c)) hn h m) (Nth_L _ _ _)
