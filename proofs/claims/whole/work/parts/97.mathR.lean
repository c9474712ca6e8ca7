/-! pairs -/
theorem sm_ad (f g : Nat → Nat) : ∀ N, sm (fun i => f i + g i) N = sm f N + sm g N
  | 0 => rfl
  | N + 1 => by rw [sm, sm, sm, sm_ad f g N]; omega
theorem sm_ml (a : Nat) (f : Nat → Nat) : ∀ N, sm (fun i => a * f i) N = a * sm f N
  | 0 => (Nat.mul_zero a).symm
  | N + 1 => by rw [sm, sm, sm_ml a f N, Nat.mul_add]
theorem sm_z : ∀ N, sm (fun _ => 0) N = 0
  | 0 => rfl
  | N + 1 => by rw [sm, sm_z N]
theorem sm_z' {f : Nat → Nat} {N : Nat} (h : ∀ i, i < N → f i = 0) : sm f N = 0 := by rw [sm_congr (g := fun _ => 0) h, sm_z]
theorem sm_sw (f : Nat → Nat → Nat) (M : Nat) : ∀ N, sm (fun i => sm (fun j => f i j) M) N = sm (fun j => sm (fun i => f i j) N) M
  | 0 => (sm_z M).symm
  | N + 1 => by
    rw [sm, sm_sw f M N, ← sm_ad]
    exact sm_congr (fun j _ => rfl)
theorem sm_sp (f : Nat → Nat) (a : Nat) : ∀ b, sm f (a + b) = sm f a + sm (fun i => f (a + i)) b
  | 0 => rfl
  | b + 1 => by rw [← Nat.add_assoc, sm, sm, sm_sp f a b, Nat.add_assoc]
theorem sm_mr (a : Nat) (f : Nat → Nat) (N : Nat) : sm (fun i => f i * a) N = sm f N * a := by
  rw [Nat.mul_comm, ← sm_ml]; exact sm_congr (fun i _ => Nat.mul_comm _ _)
/-- pairs out of a marked ones -/
theorem sm_tri (x : Nat → Nat) (hx : ∀ i, x i = 0 ∨ x i = 1) : ∀ N, 2 * sm (fun s => x s * sm x s) N + sm x N = sm x N * sm x N
  | 0 => rfl
  | N + 1 => by
    have ih := sm_tri x hx N
    rw [sm, sm]
    generalize sm (fun s => x s * sm x s) N = S at *
    generalize sm x N = a at *
    rcases hx N with q | q <;> rw [q]
    · rw [Nat.add_zero, Nat.zero_mul]; omega
    · rw [Nat.one_mul, Nat.add_mul a 1, Nat.mul_add a a 1, Nat.mul_one, Nat.one_mul]; omega
theorem sm_tri2 (x : Nat → Nat) (hx : ∀ i, x i = 0 ∨ x i = 1) (N : Nat) : sm (fun s => x s * sm x s) N = sm x N * (sm x N - 1) / 2 := by
  have h := sm_tri x hx N
  rw [Nat.mul_sub, Nat.mul_one]
  omega
theorem sub_ct : ∀ n, n ≤ 32 → ∀ m j, m < 2 ^ n → cnt (fun c => decide (c &&& m = c) && decide (pN c = j)) (2 ^ n) = ch (pN m) j
  | 0, _, m, j, hm => by
    have : m = 0 := by omega
    subst this
    show 0 + (decide (0 &&& 0 = 0) && decide (pN 0 = j)).toNat = ch (pN 0) j
    rw [pN_n0]
    cases j with
    | zero => rfl
    | succ j => rw [ch_gt (by omega)]; rfl
  | n + 1, hn, m, j, hm => by
    have hp := Nat.two_pow_pos n
    have hb : ∀ c, c < 2 ^ n → 2 ^ n + c = c ^^^ 2 ^ n := fun c hc => by rw [xr_add (hb_lt hc (Nat.le_refl n)), Nat.add_comm]
    rw [Nat.pow_succ, Nat.mul_two, cnt_add]
    rcases Nat.lt_or_ge m (2 ^ n) with q | q
    · rw [sub_ct n (by omega) m j q, cnt_zero (fun c hc => ?_), Nat.add_zero]
      rw [decide_eq_false, Bool.false_and]
      intro z
      have : (2 ^ n + c) &&& m ≤ m := Nat.and_le_right
      omega
    · obtain ⟨m', rfl⟩ : ∃ m', m = 2 ^ n + m' := ⟨m - 2 ^ n, by omega⟩
      have hm' : m' < 2 ^ n := by rw [Nat.pow_succ] at hm; omega
      have e1 : cnt (fun c => decide (c &&& (2 ^ n + m') = c) && decide (pN c = j)) (2 ^ n) = cnt (fun c => decide (c &&& m' = c) && decide (pN c = j)) (2 ^ n) := cnt_congr (fun c hc => by
        congr 1
        refine decide_eq_decide.mpr ?_
        rw [← Sb_and, ← Sb_and, hb m' hm']
        unfold Sb
        refine forall_congr' (fun i => forall_congr' (fun hi => ?_))
        rw [xr_tbn m' (fun z => by subst z; rw [hb_lt hc (Nat.le_refl _)] at hi; cases hi)])
      have e2 : cnt (fun c => decide ((2 ^ n + c) &&& (2 ^ n + m') = 2 ^ n + c) && decide (pN (2 ^ n + c) = j)) (2 ^ n) = cnt (fun c => decide (c &&& m' = c) && decide (pN c + 1 = j)) (2 ^ n) := cnt_congr (fun c hc => by
        rw [pN_hi (by omega) hc]
        congr 1
        refine decide_eq_decide.mpr ?_
        rw [← Sb_and, ← Sb_and, hb m' hm', hb c hc]
        unfold Sb
        constructor
        · intro h i hi
          have hne : ¬ n = i := fun z => by subst z; rw [hb_lt hc (Nat.le_refl _)] at hi; cases hi
          have := h i (by rw [xr_tbn c hne]; exact hi)
          rwa [xr_tbn m' hne] at this
        · intro h i hi
          by_cases z : n = i
          · subst z; rw [xr_tbs, hb_lt hm' (Nat.le_refl _)]; rfl
          · rw [xr_tbn c z] at hi; rw [xr_tbn m' z]; exact h i hi)
      rw [e1, e2, sub_ct n (by omega) m' j hm', pN_hi (by omega) hm']
      cases j with
      | zero => rw [cnt_zero (fun c _ => by rw [decide_eq_false (by omega : ¬ pN c + 1 = 0), Bool.and_false]), ch_0, ch_0]
      | succ j =>
        rw [ch_s, Nat.add_comm, ← sub_ct n (by omega) m' j hm']
        congr 1
        exact cnt_congr (fun c _ => by congr 1; exact decide_eq_decide.mpr (by omega))
def ind (b : Bool) : Nat := if b = true then 1 else 0
theorem ind_01 (b : Bool) : ind b = 0 ∨ ind b = 1 := by cases b; exact Or.inl rfl; exact Or.inr rfl
theorem ind_and (a b : Bool) : ind (a && b) = ind a * ind b := by cases a <;> cases b <;> rfl
theorem cnt_ind (p : Nat → Bool) (N : Nat) : cnt p N = sm (fun c => ind (p c)) N := cnt_sm p N
/-- the pairs with u elements in common -/
def prN (G : Nat → Bool) (N u : Nat) : Nat := sm (fun s => ind (G s) * sm (fun t => ind (G t) * ind (decide (pN (s &&& t) = u))) s) N
def abv (G : Nat → Bool) (N c : Nat) : Nat := cnt (fun s => G s && decide (c &&& s = c)) N
theorem ind_pick {f : Nat → Nat} {v N : Nat} (hv : v < N) : sm (fun u => f u * ind (decide (v = u))) N = f v := by
  have := sm_one (g := fun _ => 0) (h := fun u => f u * ind (decide (v = u))) (k := v) (fun c hc => by
    show f c * ind (decide (v = c)) = 0
    rw [decide_eq_false (fun z => hc z.symm)]; exact Nat.mul_zero _) N hv
  rw [sm_z] at this
  have e : f v * ind (decide (v = v)) = f v := by rw [decide_eq_true rfl]; exact Nat.mul_one _
  omega
theorem pairs_sum {n : Nat} (hn : n ≤ 10) (G : Nat → Bool) (j : Nat) : sm (fun c => ind (decide (pN c = j)) * (abv G (2 ^ n) c * (abv G (2 ^ n) c - 1) / 2)) (2 ^ n) = sm (fun u => ch u j * prN G (2 ^ n) u) (n + 1) := by
  -- the left side, as a sum over c, s, t
  have e1 : ∀ c, abv G (2 ^ n) c * (abv G (2 ^ n) c - 1) / 2 = sm (fun s => (ind (G s) * ind (decide (c &&& s = c))) * sm (fun t => ind (G t) * ind (decide (c &&& t = c))) s) (2 ^ n) := fun c => by
    unfold abv
    rw [cnt_ind, ← sm_tri2 _ (fun i => ind_01 _)]
    refine sm_congr (fun s _ => ?_)
    rw [ind_and]
    congr 1
    exact sm_congr (fun t _ => ind_and _ _)
  have eL : sm (fun c => ind (decide (pN c = j)) * (abv G (2 ^ n) c * (abv G (2 ^ n) c - 1) / 2)) (2 ^ n) = sm (fun s => sm (fun c => ind (decide (pN c = j)) * ((ind (G s) * ind (decide (c &&& s = c))) * sm (fun t => ind (G t) * ind (decide (c &&& t = c))) s)) (2 ^ n)) (2 ^ n) := by
    rw [← sm_sw]
    exact sm_congr (fun c _ => by rw [e1 c, ← sm_ml])
  have eR : sm (fun u => ch u j * prN G (2 ^ n) u) (n + 1) = sm (fun s => sm (fun u => ch u j * (ind (G s) * sm (fun t => ind (G t) * ind (decide (pN (s &&& t) = u))) s)) (n + 1)) (2 ^ n) := by
    rw [← sm_sw]
    exact sm_congr (fun u _ => by unfold prN; rw [← sm_ml])
  rw [eL, eR]
  refine sm_congr (fun s hs => ?_)
  -- for each s
  have l1 : ∀ c, ind (decide (pN c = j)) * (ind (G s) * ind (decide (c &&& s = c)) * sm (fun t => ind (G t) * ind (decide (c &&& t = c))) s) = sm (fun t => ind (G s) * (ind (G t) * (ind (decide (pN c = j)) * (ind (decide (c &&& s = c)) * ind (decide (c &&& t = c)))))) s := fun c => by
    rw [← sm_ml, ← sm_ml]
    refine sm_congr (fun t _ => ?_)
    rcases ind_01 (G s) with a | a <;> rcases ind_01 (G t) with b | b <;> rcases ind_01 (decide (pN c = j)) with d | d <;> rcases ind_01 (decide (c &&& s = c)) with e | e <;> rw [a, b, d, e] <;> simp
  have m1 : sm (fun c => ind (decide (pN c = j)) * ((ind (G s) * ind (decide (c &&& s = c))) * sm (fun t => ind (G t) * ind (decide (c &&& t = c))) s)) (2 ^ n) = sm (fun t => sm (fun c => ind (G s) * (ind (G t) * (ind (decide (pN c = j)) * (ind (decide (c &&& s = c)) * ind (decide (c &&& t = c)))))) (2 ^ n)) s := by
    rw [← sm_sw]
    exact sm_congr (fun c _ => l1 c)
  have l2 : ∀ u, ch u j * (ind (G s) * sm (fun t => ind (G t) * ind (decide (pN (s &&& t) = u))) s) = sm (fun t => ind (G s) * (ind (G t) * (ch u j * ind (decide (pN (s &&& t) = u))))) s := fun u => by
    rw [← sm_ml, ← sm_ml]
    refine sm_congr (fun t _ => ?_)
    rcases ind_01 (G s) with a | a <;> rcases ind_01 (G t) with b | b <;> rw [a, b] <;> simp
  have m2 : sm (fun u => ch u j * (ind (G s) * sm (fun t => ind (G t) * ind (decide (pN (s &&& t) = u))) s)) (n + 1) = sm (fun t => sm (fun u => ind (G s) * (ind (G t) * (ch u j * ind (decide (pN (s &&& t) = u))))) (n + 1)) s := by
    rw [← sm_sw]
    exact sm_congr (fun u _ => l2 u)
  rw [m1, m2]
  refine sm_congr (fun t ht => ?_)
  rw [sm_ml, sm_ml, sm_ml, sm_ml]
  congr 2
  have hst : s &&& t < 2 ^ n := Nat.lt_of_le_of_lt Nat.and_le_left hs
  have hpn : pN (s &&& t) < n + 1 := by have := pN_cp hn hst; omega
  rw [ind_pick (f := fun u => ch u j) hpn, ← sub_ct n (by omega) (s &&& t) j hst, cnt_ind]
  refine sm_congr (fun c _ => ?_)
  rw [ind_and, Nat.mul_comm, ← ind_and]
  congr 2
  refine Bool.eq_iff_iff.mpr ?_
  rw [Bool.and_eq_true, decide_eq_true_iff, decide_eq_true_iff, decide_eq_true_iff, ← Sb_and, ← Sb_and, ← Sb_and]
  unfold Sb
  constructor
  · rintro ⟨a, b⟩ i hi; rw [Nat.testBit_and, a i hi, b i hi]; rfl
  · intro a
    refine ⟨fun i hi => ?_, fun i hi => ?_⟩
    · have := a i hi; rw [Nat.testBit_and, Bool.and_eq_true] at this; exact this.1
    · have := a i hi; rw [Nat.testBit_and, Bool.and_eq_true] at this; exact this.2
