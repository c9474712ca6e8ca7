/-! the calls that change no state -/
theorem inI_ex {v : Int32} {a b : Nat} (ha : a < 2 ^ 31) (hb : b < 2 ^ 31) (h : inI v (nI a) (nI b) = true) : ∃ k, a ≤ k ∧ k ≤ b ∧ v = nI k := by
  unfold inI at h
  rw [decide_eq_true_iff] at h
  obtain ⟨h1, h2⟩ := h
  rw [Int32.le_iff_toInt_le, nI_toInt ha] at h1
  rw [Int32.le_iff_toInt_le, nI_toInt hb] at h2
  refine ⟨v.toInt.toNat, by omega, by omega, ?_⟩
  apply Int32.toInt_inj.mp
  rw [nI_toInt (by omega)]; omega
theorem inI_mk {k a b : Nat} (hb : b < 2 ^ 31) (h1 : a ≤ k) (h2 : k ≤ b) : inI (nI k) (nI a) (nI b) = true := by
  unfold inI
  rw [decide_eq_true_iff]
  exact ⟨(nI_leI (by omega) (by omega)).mpr h1, (nI_leI (by omega) hb).mpr h2⟩
theorem nn_ex {v : Int32} (h : ¬ v < 0) : ∃ k, k < 2 ^ 31 ∧ v = nI k := by
  have h1 : ¬ v.toInt < 0 := fun z => h (by rw [Int32.lt_iff_toInt_lt]; exact z)
  have h2 := v.toInt_lt
  refine ⟨v.toInt.toNat, by omega, ?_⟩
  apply Int32.toInt_inj.mp
  rw [nI_toInt (by omega)]; omega
theorem Fm_5 (μ : Mm) (v : Int32) : Fm μ (sI μ 5 v) := ⟨fun k h5 _ => gI_n μ v h5, fun _ _ _ => rfl, fun _ => rfl⟩
section ST
variable {i n p d tl m : Nat} {F P O : Nat → Bool} {tb : Nat → Nat} {μ μ' μ2 : Mm} {w : Nat → Int64}
theorem IvD.q5 (h : IvD μ n p d tl m F P O tb) (hm : m ≤ 1000 * i) (v : Int32) : Iv (i + 5) (sI μ 5 v) :=
  ⟨n, p, d, tl, m, F, P, O, tb, by omega, h.q (Eqv_5 μ v) h.2.2.1.2.2.2.2.2.1 (h.2.2.2.2.2.2.fr (gI_n μ v (by decide)) rfl)⟩
theorem IvD.qe (h : IvD μ n p d tl m F P O tb) {m' : Nat} (hm : m' ≤ 1000 * (i + 5)) (e1 : Fx KQ QQ μ μ') (e2 : Fm (sJ μ' 53 w) μ2) (hme : Me m' μ2) : Iv (i + 5) μ2 :=
  ⟨n, p, d, tl, m', F, P, O, tb, hm, h.q (e1.eqv.trans ((Eqv_out μ' w).trans e2.eqv)) ((e2.2.1 9 (by decide) (by decide)).trans ((e1.2.2.1 9 (by unfold QQ; omega)).trans h.2.2.1.2.2.2.2.2.1)) hme⟩
theorem IvD.me (h : IvD μ n p d tl m F P O tb) (e1 : Fx KQ QQ μ μ') : Me m (sJ μ' 53 w) := h.2.2.2.2.2.2.fr (e1.1 9) (e1.2.2.1 10 (by unfold QQ; omega))
theorem IvD.qs (h : IvD μ n p d tl m F P O tb) (hm : m ≤ 1000 * i) (e1 : Fx KQ QQ μ μ') (v : Int32) : Iv (i + 5) (sI (sJ μ' 53 w) 5 v) :=
  h.qe (by omega) e1 (Fm_5 _ v) ((h.me e1).fr (gI_n _ _ (by decide)) rfl)
theorem IvD.k6 (h : IvD μ n p d tl m F P O tb) (e1 : Fx KQ QQ μ μ') : gI (sJ μ' 53 w) 6 = nI n := (e1.1 6).trans h.2.2.1.1
theorem IvD.k5 (h : IvD μ n p d tl m F P O tb) (e1 : Fx KQ QQ μ μ') : gA (sJ μ' 53 w) 5 = bR F := (e1.2.2.1 5 (by unfold QQ; omega)).trans h.2.2.1.2.2.2.1
theorem out0 (μ : Mm) (x : Int64) (v : Int32) : gJ (sI (sJ μ 53 (vp_updL (gJ μ 53) 0 x)) 5 v) 53 0 = x := by
  show gJ (sJ μ 53 _) 53 0 = x
  rw [gJ_s, upL_s]
theorem out1 {μ μ2 : Mm} {x : Int64} (e : Fm (sJ μ 53 (vp_updL (gJ μ 53) 0 x)) μ2) : gJ μ2 53 0 = x := by rw [e.2.2 53, gJ_s, upL_s]
theorem gI_mCPx (μ : Mm) (F : Nat → Bool) (n f k : Nat) : gI (mCP μ F n f) k = gI μ k := rfl
end ST
theorem st_has {l : Launch} {g : Gd} (hl : l.stackTraces = false) : St_has l g Iv := by
  intro i μ p0 p1 hi hI
  obtain ⟨n, p, d, tl, m, F, P, O, tb, hm, hD⟩ := hI
  have hO := hD.ok
  have h0 := hD.1.1
  have h1 := hD.1.2
  have hM := hD.2.2.1
  have hf := hD.2.2.2.1
  have m1 := hM.1
  have m7 := hM.2.2.2.2.2.2.1
  have m8 := hM.2.2.2.2.2.2.2
  have h1024 := pw10 m8
  have h2n := Nat.two_pow_pos n
  have hwf := wf_le m8
  have hw0 := Fx.refl KQ QQ μ
  cases ha : inI p0 (nI 0) (nI 3)
  · (have hNn := n_has l g μ m1 m7 m8 p0 p1 (by rw [ha]; rfl); rw [ha] at hNn; exact ⟨1, μ, mgM μ false (inI p1 (nI 0) (nI (2 ^ n - 1))), false, _, _, by decide, wx_has1 l g μ (z_has1 l g μ hl hO ha), hNn, gI_s _ _ _, fun h => absurd h (by decide), hD.q5 hm _⟩)
  · obtain ⟨f, _, hf4, rfl⟩ := inI_ex (by decide) (by decide) ha
    have hf4 : f < 4 := by omega
    have hR := (hf f hf4).1
    cases hb : inI p1 (nI 0) (nI (2 ^ n - 1))
    · (have hNn := n_has l g μ m1 m7 m8 (nI f) p1 (by rw [ha, hb]; rfl); rw [ha, hb] at hNn; exact ⟨2, μ, mgM μ true false, false, _, _, by decide, wx_has2 l g μ (z_has2 l g μ hl hO hf4 hb), hNn, gI_s _ _ _, fun h => absurd h (by decide), hD.q5 hm _⟩)
    · obtain ⟨e, _, he, rfl⟩ := inI_ex (by decide) (by omega) hb
      have hC := y_hasC l g μ h0 m8 h1 hwf hf4 (show e < 2 ^ n by omega)
      rw [Nat.zero_add, (hf f hf4).bt m8 (by omega)] at hC
      exact ⟨0, _, mgM _ true true, F (1024 * f + e), _, _, by decide, wt_has l g μ hC, y_has l g _ (hD.k6 hw0) m8 (hD.k5 hw0) hf4 (by omega), gI_s _ _ _, fun _ => out0 _ _ _, hD.qs hm hw0 _⟩

theorem st_degree {l : Launch} {g : Gd} (hl : l.stackTraces = false) : St_degree l g Iv := by
  intro i μ p0 p1 hi hI
  obtain ⟨n, p, d, tl, m, F, P, O, tb, hm, hD⟩ := hI
  have hO := hD.ok
  have h0 := hD.1.1
  have h1 := hD.1.2
  have hM := hD.2.2.1
  have hf := hD.2.2.2.1
  have m1 := hM.1
  have m7 := hM.2.2.2.2.2.2.1
  have m8 := hM.2.2.2.2.2.2.2
  have h1024 := pw10 m8
  have h2n := Nat.two_pow_pos n
  have hwf := wf_le m8
  have hw0 := Fx.refl KQ QQ μ
  cases ha : inI p0 (nI 0) (nI 3)
  · (have hNn := n_degree l g μ m1 m7 m8 p0 p1 (by rw [ha]; rfl); rw [ha] at hNn; exact ⟨1, μ, mgM μ false (inI p1 (nI 0) (nI (n - 1))), _, _, _, by decide, wx_degree1 l g μ (z_degree1 l g μ hl hO ha), hNn, gI_s _ _ _, fun h => absurd h (by decide), hD.q5 hm _⟩)
  · obtain ⟨f, _, hf4, rfl⟩ := inI_ex (by decide) (by decide) ha
    have hf4 : f < 4 := by omega
    have hR := (hf f hf4).1
    cases hb : inI p1 (nI 0) (nI (n - 1))
    · (have hNn := n_degree l g μ m1 m7 m8 (nI f) p1 (by rw [ha, hb]; rfl); rw [ha, hb] at hNn; exact ⟨2, μ, mgM μ true false, _, _, _, by decide, wx_degree2 l g μ (z_degree2 l g μ hl hO hf4 hb), hNn, gI_s _ _ _, fun h => absurd h (by decide), hD.q5 hm _⟩)
    · obtain ⟨e, _, he, rfl⟩ := inI_ex (by decide) (by omega) hb
      have hC := y_degreeC l g μ h0 m8 h1 hwf hf4 (show e < n by omega)
      rw [Nat.zero_add, chl_ok (G := fun c => F (1024 * f + c)) m8 hR, ← dg_ok] at hC
      exact ⟨0, _, mgM _ true true, _, _, _, by decide, wt_degree l g μ hC, y_degree l g _ (hD.k6 hw0) m8 (hD.k5 hw0) hf4 (by omega), gI_s _ _ _, fun _ => out0 _ _ _, hD.qs hm hw0 _⟩

theorem st_is {l : Launch} {g : Gd} (hl : l.stackTraces = false) : St_is l g Iv := by
  intro i μ p0 p1 hi hI
  obtain ⟨n, p, d, tl, m, F, P, O, tb, hm, hD⟩ := hI
  have hO := hD.ok
  have h0 := hD.1.1
  have h1 := hD.1.2
  have hM := hD.2.2.1
  have hf := hD.2.2.2.1
  have m1 := hM.1
  have m7 := hM.2.2.2.2.2.2.1
  have m8 := hM.2.2.2.2.2.2.2
  have h1024 := pw10 m8
  have h2n := Nat.two_pow_pos n
  have hwf := wf_le m8
  have hw0 := Fx.refl KQ QQ μ
  cases ha : inI p0 (nI 0) (nI 3)
  · (have hNn := n_is l g μ m1 m7 m8 p0 p1 (by rw [ha]; rfl); rw [ha] at hNn; exact ⟨1, μ, mgM μ false (inI p1 (nI 0) (nI 5)), false, _, _, by decide, wx_is1 l g μ (z_is1 l g μ hl hO ha), hNn, gI_s _ _ _, fun h => absurd h (by decide), hD.q5 hm _⟩)
  · obtain ⟨f, _, hf4, rfl⟩ := inI_ex (by decide) (by decide) ha
    have hf4 : f < 4 := by omega
    have hR := (hf f hf4).1
    cases hb : inI p1 (nI 0) (nI 5)
    · (have hNn := n_is l g μ m1 m7 m8 (nI f) p1 (by rw [ha, hb]; rfl); rw [ha, hb] at hNn; exact ⟨2, μ, mgM μ true false, false, _, _, by decide, wx_is2 l g μ (z_is2 l g μ hl hO hf4 hb), hNn, gI_s _ _ _, fun h => absurd h (by decide), hD.q5 hm _⟩)
    · obtain ⟨e, _, he, rfl⟩ := inI_ex (by decide) (by decide) hb
      have hC := y_isC l g μ hO hf4 (show e < 6 by omega)
      obtain ⟨ev, efr⟩ := hp_ok (μ := μ) m7 m8 hf4 (show e < 6 by omega) hR
      rw [Nat.zero_add, ev] at hC
      exact ⟨0, _, mgM _ true true, _, _, _, by decide, wt_is l g μ hC, y_is l g _ (hD.k6 efr.fx) m8 (hD.k5 efr.fx) hf4 (by omega), gI_s _ _ _, fun _ => out0 _ _ _, hD.qs hm efr.fx _⟩

theorem st_excess {l : Launch} {g : Gd} (hl : l.stackTraces = false) : St_excess l g Iv := by
  intro i μ p0 p1 hi hI
  obtain ⟨n, p, d, tl, m, F, P, O, tb, hm, hD⟩ := hI
  have hO := hD.ok
  have h0 := hD.1.1
  have h1 := hD.1.2
  have hM := hD.2.2.1
  have hf := hD.2.2.2.1
  have m1 := hM.1
  have m7 := hM.2.2.2.2.2.2.1
  have m8 := hM.2.2.2.2.2.2.2
  have h1024 := pw10 m8
  have h2n := Nat.two_pow_pos n
  have hwf := wf_le m8
  have hw0 := Fx.refl KQ QQ μ
  cases ha : inI p0 (nI 0) (nI 3)
  · (have hNn := n_excess l g μ m1 m7 m8 p0 p1 (by rw [ha]; rfl); rw [ha] at hNn; exact ⟨1, μ, mgM μ false (inI p1 (nI 1) (nI n)), _, _, _, by decide, wx_excess1 l g μ (z_excess1 l g μ hl hO ha), hNn, gI_s _ _ _, fun h => absurd h (by decide), hD.q5 hm _⟩)
  · obtain ⟨f, _, hf4, rfl⟩ := inI_ex (by decide) (by decide) ha
    have hf4 : f < 4 := by omega
    have hR := (hf f hf4).1
    cases hb : inI p1 (nI 1) (nI n)
    · (have hNn := n_excess l g μ m1 m7 m8 (nI f) p1 (by rw [ha, hb]; rfl); rw [ha, hb] at hNn; exact ⟨2, μ, mgM μ true false, _, _, _, by decide, wx_excess2 l g μ (z_excess2 l g μ hl hO hf4 hb), hNn, gI_s _ _ _, fun h => absurd h (by decide), hD.q5 hm _⟩)
    · obtain ⟨e, he1, he, rfl⟩ := inI_ex (by decide) (by omega) hb
      have hC := y_excessC l g μ hO hf4 he1 he
      obtain ⟨ev, efr⟩ := ex_ok (μ := μ) m8 hf4 he1 he hR
      rw [Nat.zero_add, ev] at hC
      exact ⟨0, _, mgM _ true true, _, _, _, by decide, wt_excess l g μ hC, y_excess l g _ (hD.k6 efr.fx) m8 (hD.k5 efr.fx) hf4 he1 he, gI_s _ _ _, fun _ => out0 _ _ _, hD.qs hm efr.fx _⟩

theorem st_pairs {l : Launch} {g : Gd} (hl : l.stackTraces = false) : St_pairs l g Iv := by
  intro i μ p0 p1 hi hI
  obtain ⟨n, p, d, tl, m, F, P, O, tb, hm, hD⟩ := hI
  have hO := hD.ok
  have h0 := hD.1.1
  have h1 := hD.1.2
  have hM := hD.2.2.1
  have hf := hD.2.2.2.1
  have m1 := hM.1
  have m7 := hM.2.2.2.2.2.2.1
  have m8 := hM.2.2.2.2.2.2.2
  have h1024 := pw10 m8
  have h2n := Nat.two_pow_pos n
  have hwf := wf_le m8
  have hw0 := Fx.refl KQ QQ μ
  cases ha : inI p0 (nI 0) (nI 3)
  · (have hNn := n_pairs l g μ m1 m7 m8 p0 p1 (by rw [ha]; rfl); rw [ha] at hNn; exact ⟨1, μ, mgM μ false (inI p1 (nI 0) (nI n)), _, _, _, by decide, wx_pairs1 l g μ (z_pairs1 l g μ hl hO ha), hNn, gI_s _ _ _, fun h => absurd h (by decide), hD.q5 hm _⟩)
  · obtain ⟨f, _, hf4, rfl⟩ := inI_ex (by decide) (by decide) ha
    have hf4 : f < 4 := by omega
    have hR := (hf f hf4).1
    cases hb : inI p1 (nI 0) (nI n)
    · (have hNn := n_pairs l g μ m1 m7 m8 (nI f) p1 (by rw [ha, hb]; rfl); rw [ha, hb] at hNn; exact ⟨2, μ, mgM μ true false, _, _, _, by decide, wx_pairs2 l g μ (z_pairs2 l g μ hl hO hf4 hb), hNn, gI_s _ _ _, fun h => absurd h (by decide), hD.q5 hm _⟩)
    · obtain ⟨e, _, he, rfl⟩ := inI_ex (by decide) (by omega) hb
      have hC := y_pairsC l g μ hO hf4 he
      have ev := pc_ok (μ := μ) m8 hR he (gA μ 11)
      have efr := Fx_pc μ n f
      rw [Nat.zero_add, ev] at hC
      have k11 : gA (sJ (mPC μ n f) 53 (vp_updL (gJ (mPC μ n f) 53) 0 (cpO F f (cpZ 11 (gA μ 11)) (2 ^ n) e).toInt64)) 11 = gA μ 11 := efr.2.2.1 11 (by unfold QQ; omega)
      have hY := y_pairs l g (sJ (mPC μ n f) 53 (vp_updL (gJ (mPC μ n f) 53) 0 (cpO F f (cpZ 11 (gA μ 11)) (2 ^ n) e).toInt64)) (hD.k6 efr) m8 (hD.k5 efr) hf4 he
      rw [k11] at hY
      have e2 : Fm (sJ (mPC μ n f) 53 (vp_updL (gJ (mPC μ n f) 53) 0 (cpO F f (cpZ 11 (gA μ 11)) (2 ^ n) e).toInt64)) (mCP (mgM (sJ (mPC μ n f) 53 (vp_updL (gJ (mPC μ n f) 53) 0 (cpO F f (cpZ 11 (gA μ 11)) (2 ^ n) e).toInt64)) true true) F n f) := (Fm_5 _ _).trans ⟨fun _ _ _ => rfl, fun k _ h11 => gA_n _ _ h11, fun _ => rfl⟩
      exact ⟨0, _, _, _, _, _, by decide, wt_pairs l g μ hC, hY, (gI_mCPx _ _ _ _ _).trans (gI_s _ _ _), fun _ => out1 e2, hD.qe (by omega) efr e2 ((hD.me efr).fr ((gI_mCPx _ _ _ _ _).trans (gI_n _ _ (by decide))) (gA_n _ _ (by decide)))⟩

theorem st_get {l : Launch} {g : Gd} (hl : l.stackTraces = false) : St_get l g Iv := by
  intro i μ p0 p1 hi hI
  obtain ⟨n, p, d, tl, m, F, P, O, tb, hm, hD⟩ := hI
  have hO := hD.ok
  have h0 := hD.1.1
  have h1 := hD.1.2
  have hM := hD.2.2.1
  have hf := hD.2.2.2.1
  have m1 := hM.1
  have m7 := hM.2.2.2.2.2.2.1
  have m8 := hM.2.2.2.2.2.2.2
  have h1024 := pw10 m8
  have h2n := Nat.two_pow_pos n
  have hwf := wf_le m8
  have hw0 := Fx.refl KQ QQ μ
  cases ha : inI p0 (nI 0) (nI 3)
  · (have hNn := n_get l g μ m1 m7 m8 p0 p1 (by rw [ha]; rfl); rw [ha] at hNn; exact ⟨1, μ, mgM μ false (decide (0 ≤ p1)), _, _, _, by decide, wx_get1 l g μ (z_get1 l g μ hl hO ha), hNn, gI_s _ _ _, fun h => absurd h (by decide), hD.q5 hm _⟩)
  · obtain ⟨f, _, hf4, rfl⟩ := inI_ex (by decide) (by decide) ha
    have hf4 : f < 4 := by omega
    have hR := (hf f hf4).1
    cases hb : decide (0 ≤ p1)
    · (have hNn := n_get l g μ m1 m7 m8 (nI f) p1 (by rw [ha, hb]; rfl); rw [ha, hb] at hNn; exact ⟨2, μ, mgM μ true false, _, _, _, by decide, wx_get2 l g μ (z_get2 l g μ hl hO hf4 (Int32.not_le.mp (of_decide_eq_false hb))), hNn, gI_s _ _ _, fun h => absurd h (by decide), hD.q5 hm _⟩)
    · obtain ⟨e, he, rfl⟩ := nn_ex (v := p1) (Int32.not_lt.mpr (of_decide_eq_true hb))
      have hC := y_getC l g μ h0 m8 h1 hwf hf4 he
      rw [Nat.zero_add, get_ok m8 hR] at hC
      exact ⟨0, _, mgM _ true true, _, _, _, by decide, wt_get l g μ hC, y_get l g _ (hD.k6 hw0) m8 (hD.k5 hw0) hf4 he, gI_s _ _ _, fun _ => out0 _ _ _, hD.qs hm hw0 _⟩

theorem in_m1 {n : Nat} (h : n ≤ 10) : inI (-1) (-1) (nI n) = true := by
  unfold inI
  rw [decide_eq_true_iff, Int32.le_iff_toInt_le, Int32.le_iff_toInt_le, nI_toInt (by omega)]
  have h1 : (-1 : Int32).toInt = -1 := by decide
  omega
theorem sz_in {v b : Int32} (h : ¬ v = -1) : inI v (-1) b = inI v (nI 0) b := by
  unfold inI
  refine decide_eq_decide.mpr (and_congr_left (fun _ => ?_))
  rw [Int32.le_iff_toInt_le, Int32.le_iff_toInt_le]
  have h1 : (-1 : Int32).toInt = -1 := by decide
  have h2 : (nI 0).toInt = 0 := by decide
  have h3 : ¬ v.toInt = -1 := fun z => h (Int32.toInt_inj.mp (by rw [h1]; exact z))
  omega
theorem st_size {l : Launch} {g : Gd} (hl : l.stackTraces = false) : St_size l g Iv := by
  intro i μ p0 p1 hi hI
  obtain ⟨n, p, d, tl, m, F, P, O, tb, hm, hD⟩ := hI
  have hO := hD.ok
  have h0 := hD.1.1
  have h1 := hD.1.2
  have hM := hD.2.2.1
  have hf := hD.2.2.2.1
  have m1 := hM.1
  have m7 := hM.2.2.2.2.2.2.1
  have m8 := hM.2.2.2.2.2.2.2
  have h1024 := pw10 m8
  have h2n := Nat.two_pow_pos n
  have hwf := wf_le m8
  have hw0 := Fx.refl KQ QQ μ
  cases ha : inI p0 (nI 0) (nI 3)
  · (have hNn := n_size l g μ m1 m7 m8 p0 p1 (by rw [ha]; rfl); rw [ha] at hNn; exact ⟨1, μ, mgM μ false (inI p1 (-1) (nI n)), _, _, _, by decide, wx_size1 l g μ (z_size1 l g μ hl hO ha), hNn, gI_s _ _ _, fun h => absurd h (by decide), hD.q5 hm _⟩)
  · obtain ⟨f, _, hf4, rfl⟩ := inI_ex (by decide) (by decide) ha
    have hf4 : f < 4 := by omega
    have hR := (hf f hf4).1
    cases hb : inI p1 (-1) (nI n)
    · have hq : ¬ p1 = -1 := fun z => by
        rw [z] at hb
        rw [in_m1 m8] at hb; cases hb
      have hb2 : inI p1 (nI 0) (nI n) = false := by rw [sz_in hq] at hb; exact hb
      (have hNn := n_size l g μ m1 m7 m8 (nI f) p1 (by rw [ha, hb]; rfl); rw [ha, hb] at hNn; exact ⟨2, μ, mgM μ true false, _, _, _, by decide, wx_size2 l g μ (z_size2 l g μ hl hO hf4 hb2 hq), hNn, gI_s _ _ _, fun h => absurd h (by decide), hD.q5 hm _⟩)
    · by_cases hq : p1 = -1
      · subst hq
        have hC := y_sizeC1 l g μ hO hD.2.1 hf4
        rw [Nat.zero_add, ct_B (G := fun c => F (1024 * f + c)) m8 hR, ← sz_all] at hC
        exact ⟨0, _, mgM _ true true, _, _, _, by decide, wt_size l g μ hC, y_size l g _ (hD.k6 hw0) m8 (hD.k5 hw0) hf4 hb, gI_s _ _ _, fun _ => out0 _ _ _, hD.qs hm hw0 _⟩
      · obtain ⟨e, _, he, rfl⟩ := inI_ex (by decide) (by omega) (sz_in hq ▸ hb : inI p1 (nI 0) (nI n) = true)
        have hC := y_sizeC2 l g μ hO hD.2.1 hf4 he
        rw [Nat.zero_add, csz_ok (G := fun c => F (1024 * f + c)) m8 hR, ← sz_lv F f m8 (by omega)] at hC
        exact ⟨0, _, mgM _ true true, _, _, _, by decide, wt_size l g μ hC, y_size l g _ (hD.k6 hw0) m8 (hD.k5 hw0) hf4 hb, gI_s _ _ _, fun _ => out0 _ _ _, hD.qs hm hw0 _⟩

theorem st_sunflower {l : Launch} {g : Gd} (hl : l.stackTraces = false) : St_sunflower l g Iv := by
  intro i μ p0 hi hI
  obtain ⟨n, p, d, tl, m, F, P, O, tb, hm, hD⟩ := hI
  have hO := hD.ok
  have h0 := hD.1.1
  have h1 := hD.1.2
  have hM := hD.2.2.1
  have hf := hD.2.2.2.1
  have m1 := hM.1
  have m7 := hM.2.2.2.2.2.2.1
  have m8 := hM.2.2.2.2.2.2.2
  have h1024 := pw10 m8
  have h2n := Nat.two_pow_pos n
  have hwf := wf_le m8
  have hw0 := Fx.refl KQ QQ μ
  cases ha : inI p0 (nI 0) (nI 3)
  · (have hNn := n_sunflower l g μ m1 m7 m8 p0 (by rw [ha]; rfl); rw [ha] at hNn; exact ⟨1, μ, mgM μ false true, _, _, _, by decide, wx_sunflower1 l g μ (z_sunflower1 l g μ hl hO ha), hNn, gI_s _ _ _, fun h => absurd h (by decide), hD.q5 hm _⟩)
  · obtain ⟨f, _, hf4, rfl⟩ := inI_ex (by decide) (by decide) ha
    have hf4 : f < 4 := by omega
    have hR := (hf f hf4).1
    have hC := y_sunflowerC l g μ hO hf4
    rw [Nat.zero_add] at hC
    obtain ⟨ev, efr⟩ := sun_ok (μ := μ) m8 hf4 hR
    rw [ev] at hC
    exact ⟨0, _, mgM _ true true, _, _, _, by decide, wt_sunflower l g μ hC, y_sunflower l g _ (hD.k6 efr) m8 (hD.k5 efr) hf4, gI_s _ _ _, fun _ => out0 _ _ _, hD.qs hm efr _⟩

theorem st_weight {l : Launch} {g : Gd} (hl : l.stackTraces = false) : St_weight l g Iv := by
  intro i μ p0 p1 hi hI
  obtain ⟨n, p, d, tl, m, F, P, O, tb, hm, hD⟩ := hI
  have hO := hD.ok
  have h0 := hD.1.1
  have h1 := hD.1.2
  have hM := hD.2.2.1
  have hf := hD.2.2.2.1
  have m1 := hM.1
  have m7 := hM.2.2.2.2.2.2.1
  have m8 := hM.2.2.2.2.2.2.2
  have h1024 := pw10 m8
  have h2n := Nat.two_pow_pos n
  have hwf := wf_le m8
  have hw0 := Fx.refl KQ QQ μ
  cases ha : inI p0 (nI 0) (nI 3)
  · (have hNn := n_weight l g μ m1 m7 m8 p0 p1 (by rw [ha]; rfl); rw [ha] at hNn; exact ⟨1, μ, mgM μ false true, _, _, _, by decide, wx_weight1 l g μ (z_weight1 l g μ hl hO ha), hNn, gI_s _ _ _, fun h => absurd h (by decide), hD.q5 hm _⟩)
  · obtain ⟨f, _, hf4, rfl⟩ := inI_ex (by decide) (by decide) ha
    have hf4 : f < 4 := by omega
    have hR := (hf f hf4).1
    have hC := y_weightC l g μ hO hf4 p1
    rw [Nat.zero_add, wt_ok m8 hR p1] at hC
    have hY := y_weight l g (sJ μ 53 (vp_updL (gJ μ 53) 0 (lN (if p1 = true then (wgF F f n (n + 1)).2 else (wgF F f n (n + 1)).1)))) (hD.k6 hw0) m8 (hD.k5 hw0) hf4 p1
    have e2 : Fm (sJ μ 53 (vp_updL (gJ μ 53) 0 (lN (if p1 = true then (wgF F f n (n + 1)).2 else (wgF F f n (n + 1)).1)))) (mW (mgM (sJ μ 53 (vp_updL (gJ μ 53) 0 (lN (if p1 = true then (wgF F f n (n + 1)).2 else (wgF F f n (n + 1)).1)))) true true) (wgF F f n (n + 1)).1 (wgF F f n (n + 1)).2) := (Fm_5 _ _).trans ⟨fun _ _ _ => rfl, fun _ _ _ => rfl, fun _ => rfl⟩
    exact ⟨0, _, _, _, _, _, by decide, wt_weight l g μ hC, hY, (gI_mW _ _ _ _).trans (gI_s _ _ _), fun _ => out1 e2, hD.qe (by omega) hw0 e2 ((hD.me hw0).fr ((gI_mW _ _ _ _).trans (gI_n _ _ (by decide))) rfl)⟩

theorem fs5g (F : Nat → Bool) (n f : Nat) : ∀ r s b M, gI (fsF F n f r s b M).1 5 = gI M 5
  | 0, _, _, _ => rfl
  | r + 1, s, b, M => by
    rw [fsF]; split
    · rw [fs5g F n f r]; exact (gI_A _ _ _ _).trans (gI_n M _ (by decide))
    · exact fs5g F n f r _ _ _
theorem fs5 (F : Nat → Bool) (n f r s : Nat) (M : Mm) : gI (fsF F n f r s none (mgM M true true)).1 5 = nI 0 := by rw [fs5g]; exact gI_s _ _ _
theorem st_shattered {l : Launch} {g : Gd} (hl : l.stackTraces = false) : St_shattered l g Iv := by
  intro i μ p0 hi hI
  obtain ⟨n, p, d, tl, m, F, P, O, tb, hm, hD⟩ := hI
  have hO := hD.ok
  have h0 := hD.1.1
  have h1 := hD.1.2
  have hM := hD.2.2.1
  have hf := hD.2.2.2.1
  have m1 := hM.1
  have m7 := hM.2.2.2.2.2.2.1
  have m8 := hM.2.2.2.2.2.2.2
  have h1024 := pw10 m8
  have h2n := Nat.two_pow_pos n
  have hwf := wf_le m8
  have hw0 := Fx.refl KQ QQ μ
  cases ha : inI p0 (nI 0) (nI 3)
  · (have hNn := n_shattered l g μ m1 m7 m8 p0 (by rw [ha]; rfl); rw [ha] at hNn; exact ⟨1, μ, mgM μ false true, _, _, _, by decide, wx_shattered1 l g μ (z_shattered1 l g μ hl hO ha), hNn, gI_s _ _ _, fun h => absurd h (by decide), hD.q5 hm _⟩)
  · obtain ⟨f, _, hf4, rfl⟩ := inI_ex (by decide) (by decide) ha
    have hf4 : f < 4 := by omega
    have hR := (hf f hf4).1
    have hC := y_shatteredC l g μ hO hf4
    rw [Nat.zero_add] at hC
    have efr := (fl_fin (μ := μ) m8 hf4 hR).2
    generalize hW : vp_updL (gJ (flM μ n (wf n) f) 53) 0 (flA μ n (wf n) f).toInt64 = w
    have hm9 : Me m (mgM (sJ (flM μ n (wf n) f) 53 w) true true) := (hD.me efr.fx).fr (gI_n _ _ (by decide)) rfl
    obtain ⟨s1, s2, _, s4, m', s5, s6⟩ := shat_ok (μ := μ) (M := mgM (sJ (flM μ n (wf n) f) 53 w) true true) m8 hf4 hR hm9 (by omega)
    have hY := y_shattered l g (sJ (flM μ n (wf n) f) 53 w) (hD.k6 efr.fx) m8 (hD.k5 efr.fx) hf4
    have e2 := (Fm_5 (sJ (flM μ n (wf n) f) 53 w) (nI (mgT true true))).trans s4
    have hW2 := wt_shattered l g μ hC
    rw [hW] at hW2
    rw [← s1] at hY
    refine ⟨0, _, _, _, _, _, by decide, hW2, hY, ?_, fun _ => ?_, hD.qe (by omega) efr.fx e2 s6⟩
    · exact fs5 _ _ _ _ _ _
    · rw [e2.2.2 53, gJ_s, ← hW, upL_s]

theorem st_dimension {l : Launch} {g : Gd} (hl : l.stackTraces = false) : St_dimension l g Iv := by
  intro i μ p0 hi hI
  obtain ⟨n, p, d, tl, m, F, P, O, tb, hm, hD⟩ := hI
  have hO := hD.ok
  have h0 := hD.1.1
  have h1 := hD.1.2
  have hM := hD.2.2.1
  have hf := hD.2.2.2.1
  have m1 := hM.1
  have m7 := hM.2.2.2.2.2.2.1
  have m8 := hM.2.2.2.2.2.2.2
  have h1024 := pw10 m8
  have h2n := Nat.two_pow_pos n
  have hwf := wf_le m8
  have hw0 := Fx.refl KQ QQ μ
  cases ha : inI p0 (nI 0) (nI 3)
  · (have hNn := n_dimension l g μ m1 m7 m8 p0 (by rw [ha]; rfl); rw [ha] at hNn; exact ⟨1, μ, mgM μ false true, _, _, _, by decide, wx_dimension1 l g μ (z_dimension1 l g μ hl hO ha), hNn, gI_s _ _ _, fun h => absurd h (by decide), hD.q5 hm _⟩)
  · obtain ⟨f, _, hf4, rfl⟩ := inI_ex (by decide) (by decide) ha
    have hf4 : f < 4 := by omega
    have hR := (hf f hf4).1
    have hC := y_dimensionC l g μ hO hf4
    rw [Nat.zero_add] at hC
    have efr := (fl_fin (μ := μ) m8 hf4 hR).2
    generalize hW : vp_updL (gJ (flM μ n (wf n) f) 53) 0 (sonA (flA μ n (wf n) f)).toInt64 = w
    have hm9 : Me m (mgM (sJ (flM μ n (wf n) f) 53 w) true true) := (hD.me efr.fx).fr (gI_n _ _ (by decide)) rfl
    obtain ⟨s1, s2, _, s4, m', s5, s6⟩ := shat_ok (μ := μ) (M := mgM (sJ (flM μ n (wf n) f) 53 w) true true) m8 hf4 hR hm9 (by omega)
    have hY := y_dimension l g (sJ (flM μ n (wf n) f) 53 w) (hD.k6 efr.fx) m8 (hD.k5 efr.fx) hf4
    have e2 := (Fm_5 (sJ (flM μ n (wf n) f) 53 w) (nI (mgT true true))).trans s4
    have hW2 := wt_dimension l g μ hC
    rw [hW] at hW2
    rw [← s2] at hY
    refine ⟨0, _, _, _, _, _, by decide, hW2, hY, ?_, fun _ => ?_, hD.qe (by omega) efr.fx e2 s6⟩
    · exact fs5 _ _ _ _ _ _
    · rw [e2.2.2 53, gJ_s, ← hW, upL_s]

theorem st_crossing {l : Launch} {g : Gd} (hl : l.stackTraces = false) : St_crossing l g Iv := by
  intro i μ p0 p1 hi hI
  obtain ⟨n, p, d, tl, m, F, P, O, tb, hm, hD⟩ := hI
  have hO := hD.ok
  have h0 := hD.1.1
  have h1 := hD.1.2
  have hM := hD.2.2.1
  have hf := hD.2.2.2.1
  have m1 := hM.1
  have m7 := hM.2.2.2.2.2.2.1
  have m8 := hM.2.2.2.2.2.2.2
  have h1024 := pw10 m8
  have h2n := Nat.two_pow_pos n
  have hwf := wf_le m8
  have hw0 := Fx.refl KQ QQ μ
  cases ha : inI p0 (nI 0) (nI 3)
  · (have hNn := n_crossing l g μ m1 m7 m8 p0 p1 (by rw [ha]; rfl); rw [ha] at hNn; exact ⟨1, μ, mgM μ false true, _, _, _, by decide, wx_crossing1 l g μ (z_crossing1 l g μ hl hO ha), hNn, gI_s _ _ _, fun h => absurd h (by decide), hD.q5 hm _⟩)
  · obtain ⟨a, _, ha4, rfl⟩ := inI_ex (by decide) (by decide) ha
    have ha4 : a < 4 := by omega
    cases hb : inI p1 (nI 0) (nI 3)
    · (have hNn := n_crossing l g μ m1 m7 m8 (nI a) p1 (by rw [ha, hb]; rfl); rw [ha, hb] at hNn; exact ⟨1, μ, mgM μ false true, _, _, _, by decide, wx_crossing1 l g μ (z_crossing2 l g μ hl hO ha4 hb), hNn, gI_s _ _ _, fun h => absurd h (by decide), hD.q5 hm _⟩)
    · obtain ⟨b, _, hb4, rfl⟩ := inI_ex (by decide) (by decide) hb
      have hb4 : b < 4 := by omega
      have hC := y_crossingC l g μ hO ha4 hb4
      obtain ⟨ev, efr'⟩ := fd_ok (μ := μ) m8 ha4 hb4 (hf a ha4).1 (hf b hb4).1
      have efr : Fs KQ μ (fdM μ n (wf n) a b) := efr'.mono (fun j q => by unfold KQ; omega)
      rw [Nat.zero_add, Nat.zero_add, ev] at hC
      exact ⟨0, _, mgM _ true true, _, _, _, by decide, wt_crossing l g μ hC, y_crossing l g _ (hD.k6 efr.fx) m8 (hD.k5 efr.fx) ha4 hb4, gI_s _ _ _, fun _ => out0 _ _ _, hD.qs hm efr.fx _⟩

theorem st_rank {l : Launch} {g : Gd} (hl : l.stackTraces = false) : St_rank l g Iv := by
  intro i μ p0 hi hI
  obtain ⟨n, p, d, tl, m, F, P, O, tb, hm, hD⟩ := hI
  have hO := hD.ok
  have h0 := hD.1.1
  have h1 := hD.1.2
  have hM := hD.2.2.1
  have hf := hD.2.2.2.1
  have m1 := hM.1
  have m7 := hM.2.2.2.2.2.2.1
  have m8 := hM.2.2.2.2.2.2.2
  have h1024 := pw10 m8
  have h2n := Nat.two_pow_pos n
  have hwf := wf_le m8
  have hw0 := Fx.refl KQ QQ μ
  cases ha : inI p0 (nI 0) (nI 1023)
  · exact ⟨1, μ, _, _, _, _, by decide, wx_rank1 l g μ (z_rank1 l g μ hl hO ha), n_rank l g μ p0 (ha), gI_s _ _ _, fun h => absurd h (by decide), hD.q5 hm _⟩
  · obtain ⟨e, _, he, rfl⟩ := inI_ex (by decide) (by decide) ha
    have hC := y_rankC l g μ h0 m8 h1 hwf (show e < 1024 by omega)
    rw [rk_eq] at hC
    exact ⟨0, _, _, _, _, _, by decide, wt_rank l g μ hC, y_rank l g _ (by omega), gI_s _ _ _, fun _ => out0 _ _ _, hD.qs hm hw0 _⟩

theorem st_unrank {l : Launch} {g : Gd} (hl : l.stackTraces = false) : St_unrank l g Iv := by
  intro i μ p0 p1 hi hI
  obtain ⟨n, p, d, tl, m, F, P, O, tb, hm, hD⟩ := hI
  have hO := hD.ok
  have h0 := hD.1.1
  have h1 := hD.1.2
  have hM := hD.2.2.1
  have hf := hD.2.2.2.1
  have m1 := hM.1
  have m7 := hM.2.2.2.2.2.2.1
  have m8 := hM.2.2.2.2.2.2.2
  have h1024 := pw10 m8
  have h2n := Nat.two_pow_pos n
  have hwf := wf_le m8
  have hw0 := Fx.refl KQ QQ μ
  cases ha : inI p0 (nI 0) (nI 10)
  · exact ⟨1, μ, _, _, _, _, by decide, wx_unrank1 l g μ (z_unrank1 l g μ hl hO ha), n_unrank l g μ p0 p1 (by rw [ha]; rfl), gI_s _ _ _, fun h => absurd h (by decide), hD.q5 hm _⟩
  · obtain ⟨k, _, hk, rfl⟩ := inI_ex (by decide) (by decide) ha
    cases hb : decide (0 ≤ p1)
    · exact ⟨1, μ, _, _, _, _, by decide, wx_unrank1 l g μ (z_unrank2 l g μ hl hO hk (Int32.not_le.mp (of_decide_eq_false hb))), n_unrank l g μ (nI k) p1 (by rw [ha, hb]; rfl), gI_s _ _ _, fun h => absurd h (by decide), hD.q5 hm _⟩
    · obtain ⟨e, he, rfl⟩ := nn_ex (v := p1) (Int32.not_lt.mpr (of_decide_eq_true hb))
      have hC := y_unrankC l g μ h0 m8 h1 hwf hk he
      rw [unrank_ok] at hC
      exact ⟨0, _, _, _, _, _, by decide, wt_unrank l g μ hC, y_unrank l g _ hk he, gI_s _ _ _, fun _ => out0 _ _ _, hD.qs hm hw0 _⟩

theorem st_shadowBound {l : Launch} {g : Gd} (hl : l.stackTraces = false) : St_shadowBound l g Iv := by
  intro i μ p0 p1 hi hI
  obtain ⟨n, p, d, tl, m, F, P, O, tb, hm, hD⟩ := hI
  have hO := hD.ok
  have h0 := hD.1.1
  have h1 := hD.1.2
  have hM := hD.2.2.1
  have hf := hD.2.2.2.1
  have m1 := hM.1
  have m7 := hM.2.2.2.2.2.2.1
  have m8 := hM.2.2.2.2.2.2.2
  have h1024 := pw10 m8
  have h2n := Nat.two_pow_pos n
  have hwf := wf_le m8
  have hw0 := Fx.refl KQ QQ μ
  cases ha : inI p0 (nI 0) (nI 1000000)
  · exact ⟨1, μ, _, _, _, _, by decide, wx_shadowBound1 l g μ (z_shadowBound1 l g μ hl hO ha), n_shadowBound l g μ p0 p1 (by rw [ha]; rfl), gI_s _ _ _, fun h => absurd h (by decide), hD.q5 hm _⟩
  · obtain ⟨q, _, hq, rfl⟩ := inI_ex (by decide) (by decide) ha
    cases hb : inI p1 (nI 1) (nI 10)
    · exact ⟨1, μ, _, _, _, _, by decide, wx_shadowBound1 l g μ (z_shadowBound2 l g μ hl hO hq hb), n_shadowBound l g μ (nI q) p1 (by rw [ha, hb]; rfl), gI_s _ _ _, fun h => absurd h (by decide), hD.q5 hm _⟩
    · obtain ⟨k, hk1, hk, rfl⟩ := inI_ex (by decide) (by decide) hb
      have hC := y_shadowBoundC l g μ hO hq hk1 hk
      rw [lsh_eq k q hk hq] at hC
      exact ⟨0, _, _, _, _, _, by decide, wt_shadowBound l g μ hC, y_shadowBound l g _ hq hk1 hk, gI_s _ _ _, fun _ => out0 _ _ _, hD.qs hm hw0 _⟩

theorem st_cascade {l : Launch} {g : Gd} (hl : l.stackTraces = false) : St_cascade l g Iv := by
  intro i μ p0 p1 p2 hi hI
  obtain ⟨n, p, d, tl, m, F, P, O, tb, hm, hD⟩ := hI
  have hO := hD.ok
  have h0 := hD.1.1
  have h1 := hD.1.2
  have hM := hD.2.2.1
  have hf := hD.2.2.2.1
  have m1 := hM.1
  have m7 := hM.2.2.2.2.2.2.1
  have m8 := hM.2.2.2.2.2.2.2
  have h1024 := pw10 m8
  have h2n := Nat.two_pow_pos n
  have hwf := wf_le m8
  have hw0 := Fx.refl KQ QQ μ
  cases ha : inI p0 (nI 1) (nI 1000000)
  · exact ⟨1, μ, _, _, _, _, by decide, wx_cascade1 l g μ (z_cascade1 l g μ hl hO ha), n_cascade l g μ p0 p1 p2 (by rw [ha]; rfl), gI_s _ _ _, fun h => absurd h (by decide), hD.q5 hm _⟩
  · obtain ⟨q, hq1, hq, rfl⟩ := inI_ex (by decide) (by decide) ha
    cases hb : inI p1 (nI 1) (nI 10)
    · exact ⟨1, μ, _, _, _, _, by decide, wx_cascade1 l g μ (z_cascade2 l g μ hl hO ⟨hq1, hq⟩ hb), n_cascade l g μ (nI q) p1 p2 (by rw [ha, hb]; rfl), gI_s _ _ _, fun h => absurd h (by decide), hD.q5 hm _⟩
    · obtain ⟨k, hk1, hk, rfl⟩ := inI_ex (by decide) (by decide) hb
      cases hc : decide (0 ≤ p2)
      · exact ⟨1, μ, _, _, _, _, by decide, wx_cascade1 l g μ (z_cascade3 l g μ hl hO ⟨hq1, hq⟩ ⟨hk1, hk⟩ (Int32.not_le.mp (of_decide_eq_false hc))), n_cascade l g μ (nI q) (nI k) p2 (by rw [ha, hb, hc]; rfl), gI_s _ _ _, fun h => absurd h (by decide), hD.q5 hm _⟩
      · obtain ⟨e, he, rfl⟩ := nn_ex (v := p2) (Int32.not_lt.mpr (of_decide_eq_true hc))
        have hC := y_cascadeC l g μ hO hq1 hq hk1 hk he
        rw [cas_eq k e hk k q (Nat.le_refl _) hq, Nat.sub_self] at hC
        exact ⟨0, _, _, _, _, _, by decide, wt_cascade l g μ hC, y_cascade l g _ hq1 hq hk1 hk he, gI_s _ _ _, fun _ => out0 _ _ _, hD.qs hm hw0 _⟩

theorem dgA10 (μ : Mm) (n d tl : Nat) {F : Nat → Bool} (m7 : 1 ≤ n) (m8 : n ≤ 10) (hR : ∀ f, f < 4 → Rq n (gJ μ f) (fun c => F (1024 * f + c) = true)) : gA (sL (sI (dgT μ n (wf n) d tl).1 5 (nI 0)) 2 (dgh d tl n)) 10 = gA μ 10 := by
  obtain ⟨_, b, _⟩ := dg1_ok (N := sL (sI (sA μ 10 (fun _ => nI 0)) 9 (nI 0)) 2 (dgh d tl n)) (M := μ) (F := F) (m := 0) m7 m8 hR ⟨(gI_L _ _ _ _).trans (gI_s _ _ _), fun c _ => ⟨0, Nat.le_refl _, by show gA (sA μ 10 _) 10 c = _; rw [gA_s]⟩⟩ (by decide) (gL_s _ _ _) 4 (Nat.le_refl _)
  have hR2 : ∀ f, f < 4 → Rq n (gJ (dg1 n (wf n) (μ, dgh d tl n) 4).1 f) (fun c => F (1024 * f + c) = true) := fun f hf => by rw [b.j (by unfold KQ; omega)]; exact hR f hf
  obtain ⟨_, b3⟩ := dg3_ok (M := (dg1 n (wf n) (μ, dgh d tl n) 4).1) m8 hR2 (dg1 n (wf n) (μ, dgh d tl n) 4).2 4 (Nat.le_refl _)
  exact (b.trans b3.fx).2.2.1 10 (by unfold QQ; omega)
theorem st_clearText {l : Launch} {g : Gd} : St_clearText l g Iv := by
  intro i μ hi hI
  obtain ⟨n, p, d, tl, m, F, P, O, tb, hm, hD⟩ := hI
  have hO := hD.ok
  obtain ⟨t1, t2, t3, t4⟩ := hD.2.2.2.2.2.1
  refine ⟨_, _, _, _, _, by decide, y_clearTextC l g μ hO t1, c_clearText l g (sI μ 4 (nI 0)) ((gI_n μ _ (by decide)).trans t2), ?_⟩
  obtain ⟨⟨a, b⟩, ⟨o1, o2, o3, o4⟩, ⟨m1, m2, m3, m4, m5, m6, m7, m8⟩, hf, hh, ht, hme⟩ := hD
  have gi : ∀ k, k ≠ 4 → k ≠ 5 → k ≠ 8 → gI (sI (sI (sI μ 4 (nI 0)) 5 (nI 0)) 8 (nI 0)) k = gI μ k := fun k h4 h5 h8 => by rw [gI_n _ _ h8, gI_n _ _ h5, gI_n _ _ h4]
  exact ⟨n, p, d, 0, m, F, P, O, tb, by omega, ⟨(gi 0 (by decide) (by decide) (by decide)).trans a, (gi 1 (by decide) (by decide) (by decide)).trans b⟩, ⟨(gi 2 (by decide) (by decide) (by decide)).trans o1, (gi 3 (by decide) (by decide) (by decide)).trans o2, o3, o4⟩, ⟨(gi 6 (by decide) (by decide) (by decide)).trans m1, (gi 7 (by decide) (by decide) (by decide)).trans m2, m3, m4, m5, m6, m7, m8⟩, hf, hh, ⟨by rw [gI_n _ _ (by decide), gI_n _ _ (by decide), gI_s], gI_s _ _ _, by decide, fun i hi => absurd hi (Nat.not_lt_zero i)⟩, hme.fr (gi 9 (by decide) (by decide) (by decide)) rfl⟩
theorem st_digest {l : Launch} {g : Gd} : St_digest l g Iv := by
  intro i μ hi hI
  obtain ⟨n, p, d, tl, m, F, P, O, tb, hm, hD⟩ := hI
  have hO := hD.ok
  obtain ⟨t1, t2, t3, t4⟩ := hD.2.2.2.2.2.1
  have hM := hD.2.2.1
  have hR : ∀ f, f < 4 → Rq n (gJ μ f) (fun c => F (1024 * f + c) = true) := fun f hf => (hD.2.2.2.1 f hf).1
  have m7 := hM.2.2.2.2.2.2.1
  have m8 := hM.2.2.2.2.2.2.2
  have hC := c_digest l g μ hO hD.2.1.1 hD.2.1.2.2.2 t1 t3
  -- the component's memory behind it does not matter to the model
  have hN : Me m (sL (sI (dgT μ n (wf n) d tl).1 5 (nI 0)) 2 (dgh d tl n)) := hD.2.2.2.2.2.2.fr ((gI_L _ _ _ _).trans ((gI_n _ _ (by decide)).trans (show gI (dgT μ n (wf n) d tl).1 9 = gI μ 9 by unfold dgT; rw [gI_dg3, gI_dg1]))) (dgA10 μ n d tl m7 m8 hR)
  obtain ⟨a, b, c, m', e, q⟩ := dg1_ok (N := sL (sI (dgT μ n (wf n) d tl).1 5 (nI 0)) 2 (dgh d tl n)) (M := μ) (F := F) m7 m8 hR hN (by omega) (gL_s _ _ _) 4 (Nat.le_refl _)
  have hR2 : ∀ f, f < 4 → Rq n (gJ (dg1 n (wf n) (μ, dgh d tl n) 4).1 f) (fun c => F (1024 * f + c) = true) := fun f hf => by rw [b.j (by unfold KQ; omega)]; exact hR f hf
  obtain ⟨a3, b3⟩ := dg3_ok (M := (dg1 n (wf n) (μ, dgh d tl n) 4).1) m8 hR2 (dg1 n (wf n) (μ, dgh d tl n) 4).2 4 (Nat.le_refl _)
  have efr : Fx KQ QQ μ (dgT μ n (wf n) d tl).1 := b.trans b3.fx
  have hY := c_digestM l g (dgT μ n (wf n) d tl).1 (F := F) (n := n) (ps := d) (ty := tl) ((efr.1 6).trans hM.1) m8 ((efr.2.2.1 5 (by unfold QQ; omega)).trans hM.2.2.2.1) ((efr.1 7).trans hM.2.1) hM.2.2.1 ((efr.1 8).trans t2) t3
  have ev : (dgT μ n (wf n) d tl).2 = dgO F n (gL (dgN (dgT μ n (wf n) d tl).1 F n d tl) 2) 4 := by
    show (dg3 n (wf n) (dg1 n (wf n) (μ, dgh d tl n) 4) 4).2 = _
    rw [show dg1 n (wf n) (μ, dgh d tl n) 4 = ((dg1 n (wf n) (μ, dgh d tl n) 4).1, (dg1 n (wf n) (μ, dgh d tl n) 4).2) from rfl, a3, a]; rfl
  rw [← ev] at hY
  refine ⟨_, _, _, _, _, by decide, hC, hY, n, p, d, tl, m', F, P, O, tb, by omega, ?_⟩
  have e2 : Fm (dgT μ n (wf n) d tl).1 (sL (dgN (dgT μ n (wf n) d tl).1 F n d tl) 2 (dgT μ n (wf n) d tl).2) := (Fm_5 _ _).trans (Fm.trans ⟨fun _ _ _ => rfl, fun _ _ _ => rfl, fun _ => rfl⟩ (c.trans ⟨fun _ _ _ => rfl, fun _ _ _ => rfl, fun _ => rfl⟩))
  exact hD.q (efr.eqv.trans e2.eqv) ((e2.2.1 9 (by decide) (by decide)).trans ((efr.2.2.1 9 (by unfold QQ; omega)).trans hM.2.2.2.2.2.1)) q
