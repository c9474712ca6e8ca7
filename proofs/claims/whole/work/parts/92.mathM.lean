/-! numbers -/
theorem gt_eq (m i : Nat) : ∀ f1 f2 t, m < ch (t + f1 + 1) i → m < ch (t + f2 + 1) i → gtF m i f1 t = gtF m i f2 t
  | 0, 0, t, _, _ => rfl
  | 0, f2 + 1, t, h1, _ => by rw [gtF, gtF, if_neg (by rw [Nat.add_zero] at h1; omega)]
  | f1 + 1, 0, t, _, h2 => by rw [gtF, gtF, if_neg (by rw [Nat.add_zero] at h2; omega)]
  | f1 + 1, f2 + 1, t, h1, h2 => by
    rw [gtF, gtF]
    by_cases q : ch (t + 1) i ≤ m
    · rw [if_pos q, if_pos q]
      exact gt_eq m i f1 f2 (t + 1) (by rw [show t + 1 + f1 + 1 = t + (f1 + 1) + 1 by omega]; exact h1) (by rw [show t + 1 + f2 + 1 = t + (f2 + 1) + 1 by omega]; exact h2)
    · rw [if_neg q, if_neg q]
theorem ch_1501 {i : Nat} (h2 : 2 ≤ i) (h10 : i ≤ 10) : 1000000 < ch 1501 i := by
  have e := ch_mul 1500 1
  simp only [Nat.reduceAdd, ch_1] at e
  have h := ch_upto (a := 1501) (by omega) (i - 2) 2 (by omega)
  rw [show 2 + (i - 2) = i by omega] at h
  omega
theorem gtop_grt {m i : Nat} (hm : m ≤ 1000000) (h1 : 1 ≤ i) (h10 : i ≤ 10) : gtop m i = grt m i := by
  unfold gtop grt
  by_cases q : i = 1
  · rw [if_pos q, if_pos q]
  · rw [if_neg q, if_neg q]
    refine gt_eq m i _ _ i ?_ ?_
    · rw [show i + (1500 - i) + 1 = 1501 by omega]
      have := ch_1501 (i := i) (by omega) h10; omega
    · have := ch_lin h1 (m + 21 - i)
      rw [show i + (m + 20 - i) + 1 = i + (m + 21 - i) by omega]
      omega
theorem lsh_eq : ∀ i m, i ≤ 10 → m ≤ 1000000 → lshF i m = lshG i m
  | 0, _, _, _ => rfl
  | i + 1, m, hi, hm => by
    rw [lshF, lshG, gtop_grt hm (by omega) hi, lsh_eq i _ (by omega) (by omega)]
theorem cas_eq (k ix : Nat) (hk : k ≤ 10) : ∀ i m, i ≤ k → m ≤ 1000000 → casF k ix i m = csM ix i m (k - i)
  | 0, _, _, _ => rfl
  | i + 1, m, hi, hm => by
    rw [casF, csM, gtop_grt hm (by omega) (by omega), cas_eq k ix hk i _ (by omega) (by omega), show k - (i + 1) + 1 = k - i by omega]
theorem rk_eq (c : Nat) : ∀ x, rkF c x = rkM c x
  | 0 => rfl
  | x + 1 => by
    rw [rkF, rkM, rk_eq c x]
    cases q : c.testBit x
    · rw [if_neg (by decide), if_neg (fun z => by rw [(dv1 c x).2.mp z] at q; cases q)]
    · rw [if_pos rfl, if_pos ((dv1 c x).2.mpr q)]
/-- how many elements -/
theorem pN_xr {c x : Nat} (hx : x < 32) (h : c.testBit x = false) : pN (c ^^^ 2 ^ x) = pN c + 1 := by
  unfold pN
  rw [cnt_sm, cnt_sm]
  have := sm_one (g := fun i => if c.testBit i = true then 1 else 0) (h := fun i => if (c ^^^ 2 ^ x).testBit i = true then 1 else 0) (k := x) (fun i hi => by rw [xr_tbn c (fun z => hi z.symm)]) 32 hx
  simp only [h, xr_tbs, Bool.not_false, if_true, Bool.false_eq_true, if_false] at this
  omega
theorem pN_hi {c x : Nat} (hx : x < 32) (hc : c < 2 ^ x) : pN (2 ^ x + c) = pN c + 1 := by
  have hb := hb_lt hc (Nat.le_refl x)
  rw [Nat.add_comm, ← xr_add hb, pN_xr hx hb]
theorem pN_n0 : pN 0 = 0 := by decide
theorem pN_z {c : Nat} (hc : c < 2 ^ 32) (h : pN c = 0) : c = 0 := by
  unfold pN at h
  apply Nat.eq_of_testBit_eq; intro i
  rw [Nat.zero_testBit]
  rcases Nat.lt_or_ge i 32 with q | q
  · exact cnt_z h i q
  · exact hb_lt hc q
theorem cnt_pk : ∀ x, x ≤ 32 → ∀ k, cnt (fun c => decide (pN c = k)) (2 ^ x) = ch x k
  | 0, _, 0 => by show 0 + (decide (pN 0 = 0)).toNat = 1; rw [pN_n0]; rfl
  | 0, _, k + 1 => by show 0 + (decide (pN 0 = k + 1)).toNat = 0; rw [pN_n0, decide_eq_false (by omega)]; rfl
  | x + 1, hx, k => by
    have ih := cnt_pk x (by omega)
    rw [Nat.pow_succ, Nat.mul_two, cnt_add, ih]
    have e : cnt (fun i => decide (pN (2 ^ x + i) = k)) (2 ^ x) = cnt (fun i => decide (pN i + 1 = k)) (2 ^ x) := cnt_congr (fun i hi => by rw [pN_hi (by omega) hi])
    rw [e]
    rcases k with _ | k
    · rw [ch_0, ch_0, cnt_zero (fun i _ => decide_eq_false (by omega))]
    · rw [ch_s, Nat.add_comm, ← ih k]
      congr 1
      exact cnt_congr (fun i _ => decide_eq_decide.mpr (by omega))
theorem so_ok : ∀ x size left set, x ≤ 32 → left < ch x size → ∃ u, u < 2 ^ x ∧ soF x size left set = set ||| u ∧ pN u = size ∧ cnt (fun c => decide (pN c = size)) u = left
  | 0, 0, left, set, _, h => ⟨0, by decide, by rw [Nat.or_zero]; rfl, pN_n0, by rw [ch_0] at h; show 0 = left; omega⟩
  | 0, s + 1, left, set, _, h => by rw [ch_gt (by omega)] at h; omega
  | x + 1, 0, left, set, _, h => ⟨0, Nat.two_pow_pos _, by rw [Nat.or_zero]; rfl, pN_n0, by rw [ch_0] at h; show 0 = left; omega⟩
  | x + 1, s + 1, left, set, hx, h => by
    have hp : 2 ^ x < 2 ^ (x + 1) := Nat.pow_lt_pow_right (by decide) (by omega)
    rw [soF, if_neg (by omega)]
    rw [ch_s] at h
    by_cases q : ch x (s + 1) ≤ left
    · rw [if_pos q]
      obtain ⟨u, a, b, c, d⟩ := so_ok x s (left - ch x (s + 1)) (set ||| 2 ^ x) (by omega) (by omega)
      rw [show s + 1 - 1 = s from rfl, b]
      refine ⟨2 ^ x + u, by rw [Nat.pow_succ]; omega, ?_, by rw [pN_hi (by omega) a, c], ?_⟩
      · rw [Nat.or_assoc]; congr 1; rw [Nat.add_comm, ← Nat.or_two_pow_eq_add_of_lt a, Nat.or_comm]
      · rw [cnt_add, cnt_pk x (by omega)]
        have e : cnt (fun i => decide (pN (2 ^ x + i) = s + 1)) u = cnt (fun c => decide (pN c = s)) u := cnt_congr (fun i hi => by rw [pN_hi (by omega) (by omega)]; exact decide_eq_decide.mpr (by omega))
        rw [e, d]; omega
    · rw [if_neg q]
      obtain ⟨u, a, b, c, d⟩ := so_ok x (s + 1) left set (by omega) (by omega)
      exact ⟨u, by omega, b, c, d⟩
theorem unrank_ok {k ix : Nat} : (if ix < ch 10 k then nI (soF 10 k ix 0) else (-1)) = urF k 1024 0 ix := by
  rw [urF_L]
  have e : Nth (fun c => decide (b10 c = k)) 1024 ix (nthL (fun c => decide (b10 c = k)) 1024 0 ix) := Nth_L _ _ _
  have hc : ∀ u, u ≤ 1024 → cnt (fun c => decide (b10 c = k)) u = cnt (fun c => decide (pN c = k)) u := fun u hu => cnt_congr (fun i hi => by rw [b10_pN (by omega)])
  refine Nth_u ?_ e
  by_cases q : ix < ch 10 k
  · rw [if_pos q]
    obtain ⟨u, a, b, c, d⟩ := so_ok 10 k ix 0 (by omega) q
    have a' : u < 1024 := a
    rw [Nat.zero_or] at b
    exact Or.inr ⟨u, a', by rw [b], by show decide (b10 u = k) = true; rw [b10_pN a', decide_eq_true_iff]; exact c, by rw [hc u (by omega)]; exact d⟩
  · rw [if_neg q]
    refine Or.inl ⟨rfl, ?_⟩
    have := cnt_pk 10 (by omega) k
    rw [hc 1024 (Nat.le_refl _)]
    have e2 : (2 : Nat) ^ 10 = 1024 := rfl
    rw [e2] at this
    omega
theorem gd_ok : ∀ k a b r, b < 2 ^ k → 2 * k + 1 ≤ r → gdF r a b = Nat.gcd a b
  | 0, a, b, r, h, hr => by
    have : b = 0 := by omega
    subst this
    obtain ⟨r', rfl⟩ : ∃ r', r = r' + 1 := ⟨r - 1, by omega⟩
    rw [gdF, if_pos rfl, Nat.gcd_zero_right]
  | k + 1, a, b, r, h, hr => by
    obtain ⟨r', rfl⟩ : ∃ r', r = r' + 1 + 1 := ⟨r - 2, by omega⟩
    rw [gdF]
    by_cases q : b = 0
    · rw [if_pos q, q, Nat.gcd_zero_right]
    · rw [if_neg q, gdF]
      have e1 : Nat.gcd a b = Nat.gcd b (a % b) := by rw [Nat.gcd_comm, Nat.gcd_rec, Nat.gcd_comm]
      rw [e1]
      by_cases z : a % b = 0
      · rw [if_pos z, z, Nat.gcd_zero_right]
      · rw [if_neg z]
        have h1 : a % b < b := Nat.mod_lt _ (by omega)
        have h2 : b % (a % b) < a % b := Nat.mod_lt _ (by omega)
        have h3 := Nat.div_add_mod b (a % b)
        have h4 : 1 ≤ b / (a % b) := (Nat.le_div_iff_mul_le (by omega)).mpr (by omega)
        have h5 : a % b ≤ (a % b) * (b / (a % b)) := Nat.le_mul_of_pos_right _ (by omega)
        rw [gd_ok k (a % b) (b % (a % b)) r' (by rw [Nat.pow_succ] at h; omega) (by omega), Nat.gcd_comm b, Nat.gcd_rec (a % b) b, Nat.gcd_comm]
theorem ch_dv : ∀ n, n < 11 → ∀ k, k < 11 → k ≤ n → 2520 % ch n k = 0 := by decide +kernel
theorem wg_inv (F : Nat → Bool) (f : Nat) {n : Nat} (hn : n ≤ 10) {N : Nat → Nat} (h0 : N 0 = 0) (hN : ∀ k, k ≤ n → N (k + 1) = N k + szF F f (nI k) (2 ^ n) * (2520 / ch n k)) : ∀ k, k ≤ n + 1 → (wgF F f n k).1 * 2520 = N k * (wgF F f n k).2 ∧ Nat.gcd (wgF F f n k).2 (wgF F f n k).1 = 1 ∧ 0 < (wgF F f n k).2
  | 0, _ => ⟨by show 0 * 2520 = N 0 * 1; rw [h0], by show Nat.gcd 1 0 = 1; rfl, by show 0 < 1; decide⟩
  | k + 1, hk => by
    obtain ⟨i1, i2, i3⟩ := wg_inv F f hn h0 hN k (by omega)
    have e : wgF F f n (k + 1) = _ := wgF_step (F := F) (f := f) (n := n) (k := k) (u := (wgF F f n k).1) (d := (wgF F f n k).2) rfl
    have hC := ch_pos (n := n) (k := k) (by omega)
    have hNk := hN k (by omega)
    have hdv := Nat.div_add_mod 2520 (ch n k)
    rw [ch_dv n (by omega) k (by omega) (by omega), Nat.add_zero] at hdv
    rw [e]
    unfold wgU
    generalize (wgF F f n k).1 = u at *
    generalize (wgF F f n k).2 = d at *
    generalize szF F f (nI k) (2 ^ n) = s at *
    generalize hCe : ch n k = C at *
    have hV : 0 < d * C := Nat.mul_pos i3 hC
    generalize hg : Nat.gcd (d * C) (u * C + s * d) = g
    have hgp : 0 < g := by rw [← hg]; exact Nat.gcd_pos_of_pos_left _ hV
    have g1 : g * ((u * C + s * d) / g) = u * C + s * d := Nat.mul_div_cancel' (by rw [← hg]; exact Nat.gcd_dvd_right _ _)
    have g2 : g * (d * C / g) = d * C := Nat.mul_div_cancel' (by rw [← hg]; exact Nat.gcd_dvd_left _ _)
    refine ⟨?_, ?_, ?_⟩
    · refine Nat.eq_of_mul_eq_mul_left hgp ?_
      show g * ((u * C + s * d) / g * 2520) = g * (N (k + 1) * (d * C / g))
      rw [← Nat.mul_assoc, g1, Nat.mul_left_comm, g2, hNk, Nat.add_mul, Nat.add_mul]
      have a1 : u * C * 2520 = N k * (d * C) := by rw [Nat.mul_right_comm, i1, Nat.mul_assoc]
      have a2 : s * d * 2520 = s * (2520 / C) * (d * C) := by
        conv => lhs; rw [← hdv]
        rw [Nat.mul_assoc, Nat.mul_assoc, Nat.mul_comm C, Nat.mul_left_comm d]
      rw [a1, a2]
    · show Nat.gcd (d * C / g) ((u * C + s * d) / g) = 1
      rw [← hg]; exact Nat.gcd_div_gcd_div_gcd_of_pos_left hV
    · show 0 < d * C / g
      exact Nat.div_pos (Nat.le_of_dvd hV (by rw [← hg]; exact Nat.gcd_dvd_left _ _)) hgp
theorem red_u {u d N D : Nat} (hD : 0 < D) (h : u * D = N * d) (hg : Nat.gcd d u = 1) (hd : 0 < d) : u = N / Nat.gcd N D ∧ d = D / Nat.gcd N D := by
  generalize hG : Nat.gcd N D = G
  have hGp : 0 < G := by rw [← hG]; exact Nat.gcd_pos_of_pos_right _ hD
  have e1 : G * (N / G) = N := Nat.mul_div_cancel' (by rw [← hG]; exact Nat.gcd_dvd_left _ _)
  have e2 : G * (D / G) = D := Nat.mul_div_cancel' (by rw [← hG]; exact Nat.gcd_dvd_right _ _)
  have e3 : Nat.gcd (D / G) (N / G) = 1 := by rw [← hG, Nat.gcd_comm N D]; exact Nat.gcd_div_gcd_div_gcd_of_pos_left hD
  have e4 : u * (D / G) = (N / G) * d := by
    refine Nat.eq_of_mul_eq_mul_left hGp ?_
    rw [Nat.mul_left_comm, e2, ← Nat.mul_assoc, e1, h]
  have d1 : d ∣ D / G := Nat.Coprime.dvd_of_dvd_mul_left (show Nat.Coprime d u from hg) ⟨N / G, by rw [e4, Nat.mul_comm]⟩
  have d2 : D / G ∣ d := Nat.Coprime.dvd_of_dvd_mul_left (show Nat.Coprime (D / G) (N / G) from e3) ⟨u, by rw [← e4, Nat.mul_comm]⟩
  have e5 : d = D / G := Nat.dvd_antisymm d1 d2
  refine ⟨?_, e5⟩
  rw [← e5] at e4
  exact Nat.eq_of_mul_eq_mul_right hd e4
theorem wt_ok {n : Nat} (hn : n ≤ 10) {μ : Mm} {f : Nat} {F : Nat → Bool} (h : Rq n (gJ μ f) (fun c => F (1024 * f + c) = true)) (dn : Bool) : wtA μ n (wf n) f dn = if dn = true then (wgF F f n (n + 1)).2 else (wgF F f n (n + 1)).1 := by
  obtain ⟨a, b, c⟩ := wg_inv F f hn (N := wtN μ n (wf n) f) rfl (fun k hk => by
    rw [wtN]; congr 2
    unfold csz
    rw [csz_ok (G := fun c => F (1024 * f + c)) hn h, sz_lv F f hn (by omega)]) (n + 1) (Nat.le_refl _)
  obtain ⟨r1, r2⟩ := red_u (by decide) a b c
  unfold wtA
  rw [gd_ok 12 _ 2520 1000 (by decide) (by decide)]
  have hp : 0 < Nat.gcd (wtN μ n (wf n) f (n + 1)) 2520 := Nat.gcd_pos_of_pos_right _ (by decide)
  rw [show max 1 (Nat.gcd (wtN μ n (wf n) f (n + 1)) 2520) = Nat.gcd (wtN μ n (wf n) f (n + 1)) 2520 by omega, r1, r2]
  cases dn <;> rfl
theorem ex_X (F : Nat → Bool) (f t : Nat) : ∀ r x, exX F f t r x = true ↔ ∃ y, x ≤ y ∧ y < x + r ∧ t.testBit y = false ∧ F (1024 * f + (t ||| 2 ^ y)) = true
  | 0, x => ⟨fun h => absurd (show false = true from h) (by decide), fun ⟨y, a, b, _⟩ => absurd b (by omega)⟩
  | r + 1, x => by
    rw [exX]
    by_cases q : t / 2 ^ x &&& 1 = 0 ∧ F (1024 * f + (t ||| 2 ^ x)) = true
    · rw [if_pos q]; exact ⟨fun _ => ⟨x, Nat.le_refl _, by omega, (dv1 t x).1.mp q.1, q.2⟩, fun _ => rfl⟩
    · rw [if_neg q, ex_X F f t r (x + 1)]
      constructor
      · rintro ⟨y, a, b, c⟩; exact ⟨y, by omega, by omega, c⟩
      · rintro ⟨y, a, b, c, d⟩
        have : ¬ y = x := fun z => by subst z; exact q ⟨(dv1 t y).1.mpr c, d⟩
        exact ⟨y, by omega, by omega, c, d⟩
theorem or_xr {t y : Nat} (h : t.testBit y = false) : t ||| 2 ^ y = t ^^^ 2 ^ y := by
  apply Nat.eq_of_testBit_eq; intro i
  rw [Nat.testBit_or, Nat.testBit_xor, Nat.testBit_two_pow]
  by_cases q : y = i
  · subst q; rw [h]; simp
  · simp [q]
theorem ex_ok {n : Nat} (hn : n ≤ 10) {μ : Mm} {f lv : Nat} {F : Nat → Bool} (hf : f < 4) (hl : 1 ≤ lv) (hln : lv ≤ n) (h : Rq n (gJ μ f) (fun c => F (1024 * f + c) = true)) : exA μ n (wf n) f lv = exR F n f lv ∧ Fs KQ μ (exM μ n (wf n) f lv) := by
  have h1024 := pw10 hn
  have f1 := Fs_c μ 51 f
  have r1 := ma_cpy (i := 51) hn h
  have r2 := ma_ks (m := lv) hn r1
  have f2 : Fs (fun q => q = 51) (mCpy μ 51 f) (mKS (mCpy μ 51 f) (wf n) 51 lv) := Fs_sJ _ _ rfl
  have r3 := ma_sh (i := 50) (j := 51) hn (by decide) r2
  have f3 := Fs_sh (mKS (mCpy μ 51 f) (wf n) 51 lv) (wf n) 50 51 n
  refine ⟨?_, ((f1.trans f2).mono (fun j q => by unfold KQ; omega)).trans (f3.mono (fun j q => by unfold KQ; omega))⟩
  have c51 : ct (exM μ n (wf n) f lv) (wf n) 51 = szF F f (nI lv) (2 ^ n) := by
    unfold ct exM
    rw [f3.j (by decide), sz_lv F f hn (by omega)]
    exact ct_P hn r2 (fun c hc => by rw [Bool.and_eq_true, decide_eq_true_iff])
  have c50 : ct (exM μ n (wf n) f lv) (wf n) 50 = exF F n f lv (2 ^ n) := by
    unfold ct exF
    rw [show sm (exc F n f lv) (2 ^ n) = cnt (exC F n f lv) (2 ^ n) from (cnt_sm _ _).symm]
    refine ct_P hn r3 (fun c hc => ?_)
    unfold exC
    have e : b10 c = lv - 1 ↔ pN c + 1 = lv := by rw [b10_pN (by omega)]; omega
    by_cases q : b10 c = lv - 1
    · rw [if_pos q, ex_X]
      constructor
      · rintro ⟨x, hx, hb, hF, _⟩
        exact ⟨x, Nat.zero_le _, by omega, hb, by rw [or_xr hb]; exact hF⟩
      · rintro ⟨x, _, hx, hb, hF⟩
        rw [or_xr hb] at hF
        exact ⟨x, by omega, hb, hF, by rw [pN_xr (by omega) hb]; exact e.mp q⟩
    · rw [if_neg q]
      refine ⟨?_, fun z => absurd z (by decide)⟩
      rintro ⟨x, hx, hb, _, hp⟩
      rw [pN_xr (by omega) hb] at hp
      exact absurd (e.mpr hp) q
  unfold exA exR
  rw [c51, c50, lsh_eq lv _ (by omega)]
  have := szK F f (n := n) (k := lv) hn hln
  have h3 := ch10 n (by omega) lv (by omega)
  omega
