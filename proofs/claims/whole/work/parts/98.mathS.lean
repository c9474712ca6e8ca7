theorem cnt_or {p q : Nat → Bool} : ∀ {N : Nat}, (∀ i, i < N → ¬ (p i = true ∧ q i = true)) → cnt (fun i => p i || q i) N = cnt p N + cnt q N
  | 0, _ => rfl
  | N + 1, h => by
    rw [cnt_succ, cnt_succ, cnt_succ, cnt_or (fun i hi => h i (by omega))]
    have := h N (by omega)
    revert this
    cases p N <;> cases q N <;> simp <;> omega
theorem ag_dv {x s c : Nat} : s / 2 ^ x = c / 2 ^ x ↔ Ag x s c := by
  rw [Nat.eq_iff_testBit_eq]
  unfold Ag
  constructor
  · intro h i hi
    have := h (i - x)
    rwa [Nat.testBit_div_two_pow, Nat.testBit_div_two_pow, show i - x + x = i by omega] at this
  · intro h i
    rw [Nat.testBit_div_two_pow, Nat.testBit_div_two_pow]; exact h _ (by omega)
def abq (G : Nat → Bool) (x c s : Nat) : Bool := G s && (decide (c &&& s = c) && decide (s / 2 ^ x = c / 2 ^ x))
theorem abq_ok {G : Nat → Bool} {x c s : Nat} : abq G x c s = true ↔ G s = true ∧ Sb c s ∧ Ag x s c := by
  unfold abq; rw [Bool.and_eq_true, Bool.and_eq_true, decide_eq_true_iff, decide_eq_true_iff, ag_dv, Sb_and]
theorem ab_in {G : Nat → Bool} {x c N : Nat} (h : c.testBit x = true) : cnt (abq G (x + 1) c) N = cnt (abq G x c) N := cnt_iff (fun s _ => by
  rw [abq_ok, abq_ok]
  refine and_congr_right (fun _ => and_congr_right (fun hs => ⟨fun z i hi => ?_, fun z i hi => z i (by omega)⟩))
  rcases Nat.lt_or_eq_of_le hi with w | w
  · exact z i w
  · rw [← w, h, hs x h])
theorem ab_out {G : Nat → Bool} {x c N : Nat} (h : c.testBit x = false) : cnt (abq G (x + 1) c) N = cnt (abq G x c) N + cnt (abq G x (c + 2 ^ x)) N := by
  rw [← xr_add h, ← cnt_or (fun s _ z => by
    have z1 := (abq_ok.mp z.1).2.2 x (Nat.le_refl _)
    have z2 := (abq_ok.mp z.2).2.2 x (Nat.le_refl _)
    rw [xr_tbs] at z2
    rw [z1] at z2
    cases hc : c.testBit x <;> rw [hc] at z2 <;> cases z2)]
  refine cnt_iff (fun s _ => ?_)
  rw [Bool.or_eq_true, abq_ok, abq_ok, abq_ok]
  have := dn_stp (A := fun u => u = s) (k := x) (c := c)
  constructor
  · rintro ⟨g, a, b⟩
    rcases this.mp ⟨s, rfl, a, b⟩ with ⟨u, rfl, a', b'⟩ | ⟨_, u, rfl, a', b'⟩
    · exact Or.inl ⟨g, a', b'⟩
    · exact Or.inr ⟨g, a', b'⟩
  · rintro (⟨g, a, b⟩ | ⟨g, a, b⟩)
    · obtain ⟨u, rfl, a', b'⟩ := this.mpr (Or.inl ⟨s, rfl, a, b⟩); exact ⟨g, a', b'⟩
    · obtain ⟨u, rfl, a', b'⟩ := this.mpr (Or.inr ⟨h, s, rfl, a, b⟩); exact ⟨g, a', b'⟩
theorem bI_ind (b : Bool) : bI b = nI (ind b) := by cases b <;> rfl
theorem ab_ok {n : Nat} (hn : n ≤ 10) {G : Nat → Bool} {r : Nat → Int32} (hr : ∀ c, c < 2 ^ n → r c = bI (G c)) : ∀ x, x ≤ n → ∀ c, c < 2 ^ n → abR n r x c = nI (cnt (abq G x c) (2 ^ n))
  | 0, _, c, hc => by
    show r c = _
    rw [hr c hc, bI_ind, cnt_ind]
    congr 1
    have := ind_pick (f := fun s => ind (G s)) hc
    rw [← this]
    refine sm_congr (fun s _ => ?_)
    unfold abq
    rw [ind_and]
    congr 2
    refine Bool.eq_iff_iff.mpr ?_
    rw [decide_eq_true_iff, Bool.and_eq_true, decide_eq_true_iff, decide_eq_true_iff, Nat.pow_zero, Nat.div_one, Nat.div_one]
    exact ⟨fun z => ⟨by rw [← z, Nat.and_self], z.symm⟩, fun z => z.2.symm⟩
  | x + 1, hx, c, hc => by
    have ih := ab_ok hn hr x (by omega)
    have hp := Nat.two_pow_pos x
    have hpn := Nat.two_pow_pos n
    show abS (2 ^ n - 1) (2 ^ x) (abR n r x) c = _
    unfold abS
    have hand := and_p2 c x
    cases q : c.testBit x
    · have hlt := (xr_lt (n := n) (e := x) (c := c) (by omega)).mpr hc
      rw [xr_add q] at hlt
      rw [rowU_lt _ _ (by omega), if_pos (hand.mpr q), ih c hc, ih _ hlt, nI_add, ab_out q]
    · have hne : ¬ c &&& 2 ^ x = 0 := fun z => by rw [hand.mp z] at q; cases q
      rw [ab_in q, ← ih c hc]
      unfold rowU
      split
      · show (if c &&& 2 ^ x = 0 then _ else abR n r x c) = _
        rw [if_neg hne]
      · rfl
theorem ab_fin {n : Nat} {G : Nat → Bool} {c : Nat} (hc : c < 2 ^ n) : cnt (abq G n c) (2 ^ n) = abv G (2 ^ n) c := cnt_iff (fun s hs => by
  rw [abq_ok, Bool.and_eq_true, decide_eq_true_iff, ← Sb_and]
  exact ⟨fun z => ⟨z.1, z.2.1⟩, fun z => ⟨z.1, z.2, Ag_n hs hc⟩⟩)
theorem a2 {a : Nat} (ha : a ≤ 1024) : (lN a * (lN a - lN 1)) / 2 = lN (a * (a - 1) / 2) := by
  have h2 : (2 : Int64) = lN 2 := rfl
  rw [h2]
  rcases Nat.eq_zero_or_pos a with q | q
  · subst q; rw [zmul, Nat.zero_mul, pk_lDiv (by decide) (by decide) (by decide)]
  · have hb : a * (a - 1) ≤ 1024 * 1024 := Nat.mul_le_mul ha (by omega)
    rw [lN_sub (show 1 ≤ a from q), lN_mul, pk_lDiv (by omega) (by decide) (by decide)]
theorem cs_ok {ab : Nat → Int32} {a : Nat → Nat} {r : Nat → Int64} : ∀ k, (∀ c, c < k → ab c = nI (a c) ∧ a c ≤ 1024) → ∀ j, csF ab r k j = r j + lN (sm (fun c => ind (decide (pN c = j)) * (a c * (a c - 1) / 2)) k)
  | 0, _, j => by show r j = r j + lN 0; rw [show lN 0 = (0 : Int64) from rfl, Int64.add_zero]
  | k + 1, h, j => by
    have ih := cs_ok (r := r) k (fun c hc => h c (by omega))
    obtain ⟨h1, h2⟩ := h k (by omega)
    rw [csF, h1, nI_l (by omega), a2 h2, sm]
    by_cases q : j = pN k
    · subst q
      rw [upL_s, ih, decide_eq_true rfl, Int64.add_assoc, lN_add]
      congr 2
      show _ + _ = _ + ind true * _
      rw [show ind true = 1 from rfl, Nat.one_mul]
    · rw [upL_n _ _ q, ih, decide_eq_false (fun z => q z.symm), show ind false = 0 from rfl, Nat.zero_mul, Nat.add_zero]
theorem ca_I {c : Nat} {r : Nat → Int64} {R : Nat} {P : Nat → Nat} : ∀ k, r c = lN R → (∀ i, i < k → r (c + 1 + i) = lN (P (c + 1 + i))) → sm (fun i => ch (c + 1 + i) c * P (c + 1 + i)) k ≤ R → caI c r k c = lN (R - sm (fun i => ch (c + 1 + i) c * P (c + 1 + i)) k) ∧ ∀ j, ¬ j = c → caI c r k j = r j
  | 0, h, _, _ => ⟨h, fun _ _ => rfl⟩
  | k + 1, h, hi, hR => by
    rw [sm] at hR ⊢
    obtain ⟨a, b⟩ := ca_I (P := P) k h (fun i hk => hi i (by omega)) (by omega)
    refine ⟨?_, fun j hj => ?_⟩
    · rw [caI, upL_s, a, b _ (by omega), hi k (by omega), lN_mul, lN_sub (by omega)]
      congr 1; omega
    · rw [caI, upL_n _ _ hj]; exact b j hj
theorem ca_O {n : Nat} {r : Nat → Int64} {P : Nat → Nat} (hr : ∀ j, j ≤ n → r j = lN (sm (fun u => ch u j * P u) (n + 1))) : ∀ s, s ≤ n + 1 → (∀ j, j ≤ n → n < j + s → caO n r s j = lN (P j)) ∧ (∀ j, j ≤ n → ¬ n < j + s → caO n r s j = r j)
  | 0, _ => ⟨fun j h1 h2 => absurd h2 (by omega), fun j _ _ => rfl⟩
  | s + 1, hs => by
    obtain ⟨a, b⟩ := ca_O hr s (by omega)
    have e : sm (fun u => ch u (n - s) * P u) (n + 1) = P (n - s) + sm (fun i => ch (n - s + 1 + i) (n - s) * P (n - s + 1 + i)) s := by
      have e1 := sm_sp (fun u => ch u (n - s) * P u) (n - s + 1) s
      rw [show n - s + 1 + s = n + 1 by omega] at e1
      rw [e1, sm, sm_z' (fun i hi => by rw [ch_gt hi, Nat.zero_mul]), ch_nn]
      omega
    obtain ⟨c1, c2⟩ := ca_I (c := n - s) (r := caO n r s) (R := sm (fun u => ch u (n - s) * P u) (n + 1)) (P := P) s (by rw [b (n - s) (by omega) (by omega), hr _ (by omega)]) (fun i hi => a _ (by omega) (by omega)) (by rw [e]; omega)
    refine ⟨fun j h1 h2 => ?_, fun j h1 h2 => ?_⟩
    · rw [caO]
      by_cases q : j = n - s
      · rw [q, c1, e]; congr 1; omega
      · rw [c2 j q]; exact a j h1 (by omega)
    · rw [caO, c2 j (by omega)]; exact b j h1 (by omega)
theorem cp_I (F : Nat → Bool) (f s : Nat) (r : Nat → Int32) (j : Nat) (hs : s < 1024) : ∀ t, cpI F f s r t j = r j + nI (sm (fun t => ind (F (1024 * f + t)) * ind (decide (pN (s &&& t) = j))) t)
  | 0 => by show r j = r j + 0; rw [Int32.add_zero]
  | t + 1 => by
    have ih := cp_I F f s r j hs t
    have hb : b10 (s &&& t) = pN (s &&& t) := b10_pN (Nat.lt_of_le_of_lt Nat.and_le_left hs)
    rw [cpI, sm]
    by_cases q : F (1024 * f + t) = true
    · rw [if_pos q, hb, q, show ind true = 1 from rfl, Nat.one_mul]
      by_cases z : j = pN (s &&& t)
      · subst z
        rw [show upd (cpI F f s r t) (pN (s &&& t)) (cpI F f s r t (pN (s &&& t)) + nI 1) (pN (s &&& t)) = cpI F f s r t (pN (s &&& t)) + nI 1 by simp [upd], ih, decide_eq_true rfl, Int32.add_assoc, nI_add]; rfl
      · rw [show upd (cpI F f s r t) (pN (s &&& t)) (cpI F f s r t (pN (s &&& t)) + nI 1) j = cpI F f s r t j by simp [upd, z], ih, decide_eq_false (fun y => z y.symm)]; rfl
    · rw [if_neg q, Bool.eq_false_iff.mpr q, show ind false = 0 from rfl, Nat.zero_mul, Nat.add_zero]; exact ih
theorem cp_O (F : Nat → Bool) (f : Nat) (r : Nat → Int32) (j : Nat) : ∀ s, s ≤ 1024 → cpO F f r s j = r j + nI (prN (fun c => F (1024 * f + c)) s j)
  | 0, _ => by show r j = r j + 0; rw [Int32.add_zero]
  | s + 1, hs => by
    have ih := cp_O F f r j s (by omega)
    have e : prN (fun c => F (1024 * f + c)) (s + 1) j = prN (fun c => F (1024 * f + c)) s j + ind (F (1024 * f + s)) * sm (fun t => ind (F (1024 * f + t)) * ind (decide (pN (s &&& t) = j))) s := rfl
    rw [cpO, e]
    by_cases q : F (1024 * f + s) = true
    · rw [if_pos q, cp_I F f s _ j (by omega), ih, q, show ind true = 1 from rfl, Nat.one_mul, Int32.add_assoc, nI_add]
    · rw [if_neg q, ih, Bool.eq_false_iff.mpr q, show ind false = 0 from rfl, Nat.zero_mul, Nat.add_zero]
theorem pc_ok {n : Nat} (hn : n ≤ 10) {μ : Mm} {f : Nat} {F : Nat → Bool} (h : Rq n (gJ μ f) (fun c => F (1024 * f + c) = true)) {k : Nat} (hk : k ≤ n) (r : Nat → Int32) : (gJ (mPC μ n f) 52 k).toInt32 = cpO F f (cpZ 11 r) (2 ^ n) k := by
  have h1024 := pw10 hn
  have hG : ∀ c, c < 2 ^ n → ab0 μ n f c = bI (F (1024 * f + c)) := fun c hc => by
    unfold ab0; rw [rowU_lt _ _ hc, Bool.eq_iff_iff.mpr (h.1 c hc)]
  have hab : ∀ c, c < 2 ^ n → gA (mAb μ n f) 3 c = nI (abv (fun c => F (1024 * f + c)) (2 ^ n) c) ∧ abv (fun c => F (1024 * f + c)) (2 ^ n) c ≤ 1024 := fun c hc => by
    refine ⟨?_, Nat.le_trans (cnt_le _ _) h1024⟩
    unfold mAb
    rw [gA_s, ab_ok (G := fun c => F (1024 * f + c)) hn hG n (Nat.le_refl _) c hc, ab_fin hc]
  have hcs : ∀ j, j ≤ n → gJ (mCs (mAb μ n f) n) 52 j = lN (sm (fun u => ch u j * prN (fun c => F (1024 * f + c)) (2 ^ n) u) (n + 1)) := fun j hj => by
    unfold mCs
    rw [gJ_s, cs_ok (a := abv (fun c => F (1024 * f + c)) (2 ^ n)) (2 ^ n) hab j, rowU_lt _ _ (by omega), lN_add, Nat.zero_add, pairs_sum hn]
  unfold mPC
  rw [gJ_s, ((ca_O (P := prN (fun c => F (1024 * f + c)) (2 ^ n)) hcs (n + 1) (Nat.le_refl _)).1 k hk (by omega)), lN_i, cp_O F f _ k (2 ^ n) h1024]
  unfold cpZ
  rw [rowU_lt _ _ (by omega), nI_add, Nat.zero_add]
theorem Fx_pc (μ : Mm) (n f : Nat) : Fx KQ QQ μ (mPC μ n f) := by
  refine ⟨fun _ => rfl, fun _ => rfl, fun k hk => ?_, fun j hj => ?_⟩
  · show gA (sA μ 3 _) k = gA μ k
    exact gA_n μ _ (fun z => hk (Or.inr (Or.inl z)))
  · unfold mPC mCs
    have hj2 : j ≠ 52 := fun z => hj (by rw [z]; unfold KQ; omega)
    rw [gJ_n _ _ hj2, gJ_n _ _ hj2]; rfl
