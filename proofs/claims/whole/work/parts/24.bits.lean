/-! the bits of a word -/
abbrev wb (x : Int64) (i : Nat) : Bool := x.toBitVec.getLsbD i
theorem wb_lN (n i : Nat) : wb (lN n) i = (decide (i < 64) && n.testBit i) := by show (lN n).toBitVec.getLsbD i = _; rw [wb_tb, BitVec.getLsbD_ofNat]
theorem nat_drop {n j : Nat} (h1 : n.testBit j = true) (h2 : ∀ i, i < j → n.testBit i = false) (i : Nat) : (n &&& (n - 1)).testBit i = (n.testBit i && !decide (i = j)) := by
  have hm : n % 2 ^ (j + 1) = 2 ^ j := by
    apply Nat.eq_of_testBit_eq
    intro k
    rw [Nat.testBit_mod_two_pow, Nat.testBit_two_pow]
    rcases Nat.lt_trichotomy k j with q | q | q
    · rw [h2 k q]; simp [show ¬ j = k by omega]
    · subst q; simp [h1]
    · simp [show ¬ k < j + 1 by omega, show ¬ j = k by omega]
  have hp := Nat.two_pow_pos j
  have e1 : n = 2 ^ (j + 1) * (n / 2 ^ (j + 1)) + 2 ^ j := by have := Nat.div_add_mod n (2 ^ (j + 1)); omega
  have e2 : n - 1 = 2 ^ (j + 1) * (n / 2 ^ (j + 1)) + (2 ^ j - 1) := by omega
  have hlt : 2 ^ j < 2 ^ (j + 1) := Nat.pow_lt_pow_right (by decide) (by omega)
  rw [Nat.testBit_and]
  have t1 : n.testBit i = if i < j + 1 then (2 ^ j).testBit i else (n / 2 ^ (j + 1)).testBit (i - (j + 1)) := by
    conv => lhs; rw [e1]
    exact Nat.testBit_two_pow_mul_add _ hlt i
  have t2 : (n - 1).testBit i = if i < j + 1 then (2 ^ j - 1).testBit i else (n / 2 ^ (j + 1)).testBit (i - (j + 1)) := by
    rw [e2]
    exact Nat.testBit_two_pow_mul_add _ (by omega) i
  rw [t2]
  rcases Nat.lt_trichotomy i j with q | q | q
  · rw [h2 i q]; simp
  · subst q; rw [if_pos (by omega), Nat.testBit_two_pow_sub_one]; simp
  · rw [if_neg (by omega)]
    rw [if_neg (by omega)] at t1
    rw [← t1]; simp [show ¬ i = j by omega]
theorem dropw {x : Int64} {j : Nat} (hj : j < 64) (h1 : wb x j = true) (h2 : ∀ i, i < j → wb x i = false) (i : Nat) : wb (x &&& (x - 1)) i = (wb x i && !decide (i = j)) := by
  obtain ⟨n, hn, rfl⟩ := wb_of x
  have hb : ∀ i, i < 64 → wb (lN n) i = n.testBit i := fun i hi => by rw [wb_lN]; simp [hi]
  have b1 : n.testBit j = true := by rw [← hb j hj]; exact h1
  have hn0 : 0 < n := Nat.pos_of_ne_zero (fun q => by rw [q] at b1; simp at b1)
  have e : lN n &&& (lN n - 1) = lN (n &&& (n - 1)) := by
    rw [show (1 : Int64) = lN 1 from rfl, lN_sub hn0, wb_and hn (by omega)]
  rw [e, wb_lN, wb_lN, nat_drop b1 (fun i hi => by rw [← hb i (by omega)]; exact h2 i hi)]
  by_cases q : i < 64 <;> simp [q]
theorem cnt_pos {p : Nat → Bool} : ∀ {n : Nat}, 0 < cnt p n → ∃ j, j < n ∧ p j = true ∧ ∀ i, i < j → p i = false := by
  intro n h
  have : ∃ j, j < n ∧ p j = true := by
    rcases Classical.em (∃ j, j < n ∧ p j = true) with q | q
    · exact q
    · rw [cnt_zero (fun i hi => Bool.eq_false_iff.mpr (fun z => q ⟨i, hi, z⟩))] at h; exact absurd h (by decide)
  obtain ⟨j, ⟨a, b⟩, c⟩ := pk_least (fun j => j < n ∧ p j = true) this
  exact ⟨j, a, b, fun i hi => Bool.eq_false_iff.mpr (fun z => c i hi ⟨by omega, z⟩)⟩
theorem cnt_mono (p : Nat → Bool) {a b : Nat} (h : a ≤ b) : cnt p a ≤ cnt p b := by
  obtain ⟨d, rfl⟩ : ∃ d, b = a + d := ⟨b - a, by omega⟩
  rw [cnt_add]; omega
theorem cnt_succ (p : Nat → Bool) (n : Nat) : cnt p (n + 1) = cnt p n + (p n).toNat := rfl
/-- the word behind m droppings: the set bits that have m or more below them -/
theorem dropb_bits (x : Int64) : ∀ m, m ≤ bc x → ∀ i, i < 64 → wb (dropb x m) i = (wb x i && decide (m ≤ cnt (wb x) i))
  | 0, _, i, _ => by simp [dropb]
  | m + 1, hm, i, hi => by
    have ih := dropb_bits x m (by omega)
    -- the lowest bit of dropb x m is the m-th set bit of x
    have hex : ∃ j, j < 64 ∧ wb x j = true ∧ cnt (wb x) j = m := by
      have : ∃ j, m < cnt (wb x) j := ⟨64, by unfold bc at hm; exact hm⟩
      obtain ⟨j, h1, h2⟩ := pk_least _ this
      rcases j with _ | j
      · exact absurd h1 (by simp [cnt])
      · have h3 : ¬ m < cnt (wb x) j := h2 j (by omega)
        rw [cnt_succ] at h1
        have h4 : (wb x j).toNat = 1 := by have := Bool.toNat_le (wb x j); omega
        have hj64 : j < 64 := by
          rcases Nat.lt_or_ge j 64 with q | q
          · exact q
          · have : wb x j = false := BitVec.getLsbD_of_ge _ _ q
            rw [this] at h4; exact absurd h4 (by decide)
        exact ⟨j, hj64, by cases hh : wb x j <;> rw [hh] at h4 <;> simp at h4 ⊢, by omega⟩
    obtain ⟨j, hj, hb, hc⟩ := hex
    have g1 : wb (dropb x m) j = true := by rw [ih j hj, hb, hc]; simp
    have g2 : ∀ k, k < j → wb (dropb x m) k = false := fun k hk => by
      rw [ih k (by omega)]
      cases hh : wb x k
      · rfl
      · have : cnt (wb x) (k + 1) ≤ cnt (wb x) j := cnt_mono _ (by omega)
        rw [cnt_succ, hh, hc] at this
        have : ¬ m ≤ cnt (wb x) k := by simp at this; omega
        simp [this]
    show wb (dropb x m &&& (dropb x m - 1)) i = _
    rw [dropw hj g1 g2, ih i hi]
    cases hh : wb x i
    · rfl
    · rcases Nat.lt_trichotomy i j with q | q | q
      · have : cnt (wb x) (i + 1) ≤ cnt (wb x) j := cnt_mono _ (by omega)
        rw [cnt_succ, hh, hc] at this
        simp at this
        simp [show ¬ m ≤ cnt (wb x) i by omega, show ¬ m + 1 ≤ cnt (wb x) i by omega]
      · subst q; simp [hc]
      · have : cnt (wb x) (j + 1) ≤ cnt (wb x) i := cnt_mono _ (by omega)
        rw [cnt_succ, hb, hc] at this
        simp at this
        simp [show m ≤ cnt (wb x) i by omega, show m + 1 ≤ cnt (wb x) i by omega, show ¬ i = j by omega]
theorem lowb_drop {x : Int64} {m : Nat} (h : m < bc x) : ∃ j, j < 64 ∧ lowb (dropb x m) = j ∧ wb x j = true ∧ cnt (wb x) j = m := by
  have hb := dropb_bits x m (by omega)
  have hex : ∃ j, j < 64 ∧ wb x j = true ∧ cnt (wb x) j = m := by
    have : ∃ j, m < cnt (wb x) j := ⟨64, by unfold bc at h; exact h⟩
    obtain ⟨j, h1, h2⟩ := pk_least _ this
    rcases j with _ | j
    · exact absurd h1 (by simp [cnt])
    · have h3 : ¬ m < cnt (wb x) j := h2 j (by omega)
      rw [cnt_succ] at h1
      have h4 : (wb x j).toNat = 1 := by have := Bool.toNat_le (wb x j); omega
      have hj64 : j < 64 := by
        rcases Nat.lt_or_ge j 64 with q | q
        · exact q
        · have : wb x j = false := BitVec.getLsbD_of_ge _ _ q
          rw [this] at h4; exact absurd h4 (by decide)
      exact ⟨j, hj64, by cases hh : wb x j <;> rw [hh] at h4 <;> simp at h4 ⊢, by omega⟩
  obtain ⟨j, hj, hbj, hc⟩ := hex
  refine ⟨j, hj, lowb_eq hj (by have := hb j hj; rw [hbj, hc] at this; simpa using this) (fun i hi => ?_), hbj, hc⟩
  have := hb i (by omega)
  show wb (dropb x m) i = false
  rw [this]
  cases hh : wb x i
  · rfl
  · have h5 : cnt (wb x) (i + 1) ≤ cnt (wb x) j := cnt_mono _ (by omega)
    rw [cnt_succ, hh, hc] at h5
    simp at h5
    simp [show ¬ m ≤ cnt (wb x) i by omega]
theorem bt_wb (x : Nat → Int64) {k i : Nat} (hi : i < 64) : bt x (k * 64 + i) = wb (x k) i := by
  unfold bt
  rw [show (k * 64 + i) / 64 = k by omega, show (k * 64 + i) % 64 = i by omega]
theorem cnt_word (x : Nat → Int64) (k : Nat) : cnt (fun i => bt x (k * 64 + i)) 64 = bc (x k) := cnt_congr (fun i hi => bt_wb x hi)
/-- all bits of a row of words, counted word by word -/
theorem cnt_row (x : Nat → Int64) : ∀ nw, cnt (bt x) (nw * 64) = sm (fun w => bc (x w)) nw
  | 0 => by simp [cnt, sm]
  | nw + 1 => by rw [Nat.succ_mul, cnt_add, cnt_row x nw, sm, cnt_word]
/-- what atR finds -/
theorem atR_spec (x : Nat → Int64) : ∀ (f k m : Nat), (atR x f k m = -1 ∧ cnt (fun i => bt x (k * 64 + i)) (f * 64) ≤ m) ∨ ∃ c, k * 64 ≤ c ∧ c < (k + f) * 64 ∧ atR x f k m = nI c ∧ bt x c = true ∧ cnt (fun i => bt x (k * 64 + i)) (c - k * 64) = m
  | 0, k, m => Or.inl ⟨rfl, by simp [cnt]⟩
  | f + 1, k, m => by
    rw [atR]
    by_cases h : m < bc (x k)
    · rw [if_pos h]
      obtain ⟨j, hj, e, hb, hc⟩ := lowb_drop h
      rw [e]
      refine Or.inr ⟨k * 64 + j, by omega, by omega, rfl, by rw [bt_wb x hj]; exact hb, ?_⟩
      rw [show k * 64 + j - k * 64 = j by omega, ← hc]
      exact cnt_congr (fun i hi => bt_wb x (by omega))
    · rw [if_neg h]
      have hw := cnt_word x k
      have hs : ∀ d, cnt (fun i => bt x (k * 64 + i)) (64 + d) = bc (x k) + cnt (fun i => bt x ((k + 1) * 64 + i)) d := fun d => by
        rw [cnt_add, hw]
        congr 1
        exact cnt_congr (fun i _ => by rw [show k * 64 + (64 + i) = (k + 1) * 64 + i by omega])
      rcases atR_spec x f (k + 1) (m - bc (x k)) with ⟨h1, h2⟩ | ⟨c, h1, h2, h3, h4, h5⟩
      · refine Or.inl ⟨h1, ?_⟩
        rw [show (f + 1) * 64 = 64 + f * 64 by omega, hs]
        omega
      · refine Or.inr ⟨c, by omega, by omega, h3, h4, ?_⟩
        rw [show c - k * 64 = 64 + (c - (k + 1) * 64) by omega, hs, h5]
        omega
theorem atR0 (x : Nat → Int64) (nw m : Nat) : (atR x nw 0 m = -1 ∧ cnt (bt x) (nw * 64) ≤ m) ∨ ∃ c, c < nw * 64 ∧ atR x nw 0 m = nI c ∧ bt x c = true ∧ cnt (bt x) c = m := by
  rcases atR_spec x nw 0 m with ⟨h1, h2⟩ | ⟨c, h1, h2, h3, h4, h5⟩
  · refine Or.inl ⟨h1, ?_⟩
    simpa using h2
  · refine Or.inr ⟨c, by omega, h3, h4, ?_⟩
    simpa using h5
