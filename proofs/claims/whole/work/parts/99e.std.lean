theorem cl4 (μ : Mm) : ∀ k, k ≤ 4 → ((∀ j, gI (mCl4 μ k) j = gI μ j) ∧ (∀ j, gA (mCl4 μ k) j = gA μ j)) ∧ (∀ j, (∀ f, f < k → j ≠ f) → gJ (mCl4 μ k) j = gJ μ j) ∧ ∀ f, f < k → ∃ x, gJ (mCl4 μ k) f = rowU 16 (fun _ => lN 0) x
  | 0, _ => ⟨⟨fun _ => rfl, fun _ => rfl⟩, fun _ _ => rfl, fun f hf => absurd hf (Nat.not_lt_zero f)⟩
  | k + 1, hk => by
    obtain ⟨⟨a1, a2⟩, b, c⟩ := cl4 μ k (by omega)
    have e : mCl4 μ (k + 1) = sJ (mCl4 μ k) (0 + k) (rowU 16 (fun _ => lN 0) (gJ (mCl4 μ k) (0 + k))) := rfl
    rw [e, Nat.zero_add]
    refine ⟨⟨a1, a2⟩, fun j hj => ?_, fun f hf => ?_⟩
    · rw [gJ_n _ _ (hj k (by omega))]; exact b j (fun f hf => hj f (by omega))
    · rcases Nat.lt_or_eq_of_le (Nat.le_of_lt_succ hf) with z | z
      · rw [gJ_n _ _ (by omega)]; exact c f z
      · subst z; exact ⟨_, gJ_s _ _ _⟩
theorem Chg_sg {μ : Mm} {p d n e : Nat} (h0 : gI μ 0 = nI n) (h1 : gI μ 1 = nI (wf n)) : Chg μ p d n e (mSG μ p d n e) ∧ ∀ f, f < 4 → ∃ x, gJ (mSG μ p d n e) f = rowU 16 (fun _ => lN 0) x := by
  obtain ⟨cS, cJ⟩ := Chg_save (μ := μ) (p := p) (d := d) h0 h1
  obtain ⟨⟨x1, x2⟩, ⟨x3, x4⟩, x5, x6, x7, x8, x9⟩ := cS
  unfold mSG
  generalize mSave μ p d n = S at *
  obtain ⟨⟨a1, a2⟩, b, c⟩ := cl4 (sI (sI S 0 (nI e)) 1 (nI (wf e))) 4 (Nat.le_refl _)
  have gi : ∀ k, k ≠ 0 → k ≠ 1 → gI (mCl4 (sI (sI S 0 (nI e)) 1 (nI (wf e))) 4) k = gI S k := fun k h0 h1 => by rw [a1, gI_n _ _ h1, gI_n _ _ h0]
  have ga : ∀ k, gA (mCl4 (sI (sI S 0 (nI e)) 1 (nI (wf e))) 4) k = gA S k := fun k => by rw [a2, gA_I, gA_I]
  have gj : ∀ j, 4 ≤ j → gJ (mCl4 (sI (sI S 0 (nI e)) 1 (nI (wf e))) 4) j = gJ S j := fun j hj => by rw [b j (fun f hf => by omega), gJ_I, gJ_I]
  refine ⟨⟨⟨by rw [a1, gI_n _ _ (by decide), gI_s], by rw [a1, gI_s]⟩, ⟨(gi 2 (by decide) (by decide)).trans x3, (gi 3 (by decide) (by decide)).trans x4⟩, fun k hk => (gi k (by omega) (by omega)).trans (x5 k hk), (ga 0).trans x6, fun k q1 q2 q3 q4 => (ga k).trans (x7 k q1 q2 q3 q4), fun j q1 q2 q3 => (gj j q1).trans (x8 j q1 q2 q3), fun f hf => (gj _ (by omega)).trans (x9 f hf)⟩, c⟩
theorem Rb_clr {n : Nat} (hn : n ≤ 10) (x : Nat → Int64) {G : Nat → Bool} (hG : ∀ c, c < 1024 → G c = false) : Rb n (rowU 16 (fun _ => lN 0) x) G := by
  have := pw10 hn
  exact ⟨(Rq_clr n hn x).cg (fun c hc => by rw [hG c (by omega)]; simp), fun c hc _ => hG c hc⟩
theorem st_setGround {l : Launch} {g : Gd} (hl : l.stackTraces = false) : St_setGround l g Iv := by
  intro i μ p0 hi hI
  obtain ⟨n, p, d, tl, m, F, P, O, tb, hm, hD⟩ := hI
  have hO := hD.ok
  have h0 := hD.1.1
  have h1 := hD.1.2
  have hH := hD.2.1
  have hM := hD.2.2.1
  have hf := hD.2.2.2.1
  have m1 := hM.1
  have m7 := hM.2.2.2.2.2.2.1
  have m8 := hM.2.2.2.2.2.2.2
  have h1024 := pw10 m8
  have h2n := Nat.two_pow_pos n
  obtain ⟨cS, cJ⟩ := Chg_save (μ := μ) (p := p) (d := d) h0 h1
  cases ha : inI p0 (nI 1) (nI 10)
  · exact ⟨1, μ, _, _, _, _, by decide, wx_setGround1 l g μ (z_setGround1 l g μ hl hO ha), n_setGround l g μ p0 ha, gI_s _ _ _, fun h => absurd h (by decide), hD.q5 hm _⟩
  · obtain ⟨e, he1, he, rfl⟩ := inI_ex (by decide) (by decide) ha
    have hC := y_setGroundC l g μ hO hH he1 he
    obtain ⟨c1, hcl⟩ := Chg_sg (μ := μ) (p := p) (d := d) (e := e) h0 h1
    have hR : ∀ f, f < 4 → Rb e (gJ (mSG μ p d n e) f) (fun c => rowU 4096 (fun _ => false) F (1024 * f + c)) := fun f h4 => by
      obtain ⟨x, hx⟩ := hcl f h4
      rw [hx]
      exact Rb_clr he x (fun c hc => rowU_lt _ _ (by omega))
    have hMo := c1.mo (w := vp_updL (gJ (mSG μ p d n e) 53) 0 (nI n).toInt64) hM
    have hY := y_setGround l g _ hMo he1 he
    have cM := ((ChM_note (v := 0) hMo).n (e := e)).f (G := rowU 4096 (fun _ => false) F)
    exact ⟨0, _, _, _, _, _, by decide, wt_setGround l g μ hC, hY, (gI_A _ _ _ _).trans ((gI_n _ _ (by decide)).trans (note5 _ _ _ _ _ _)), fun _ => outc cM, hD.ic hm ⟨he1, he⟩ c1 hR cM⟩

theorem st_type {l : Launch} {g : Gd} (hl : l.stackTraces = false) : St_type l g Iv := by
  intro i μ p0 hi hI
  obtain ⟨n, p, d, tl, m, F, P, O, tb, hm, hD⟩ := hI
  have hO := hD.ok
  have h0 := hD.1.1
  have h1 := hD.1.2
  have hH := hD.2.1
  have hM := hD.2.2.1
  have hf := hD.2.2.2.1
  have m1 := hM.1
  have m7 := hM.2.2.2.2.2.2.1
  have m8 := hM.2.2.2.2.2.2.2
  have h1024 := pw10 m8
  have h2n := Nat.two_pow_pos n
  obtain ⟨cS, cJ⟩ := Chg_save (μ := μ) (p := p) (d := d) h0 h1
  obtain ⟨t1, t2, t3, t4⟩ := hD.2.2.2.2.2.1
  cases ha : inI p0 (nI 0) (nI 127)
  · exact ⟨1, μ, _, _, _, _, by decide, wx_type1 l g μ (z_type1 l g μ hl hO ha), n_type1 l g μ ha, gI_s _ _ _, fun h => absurd h (by decide), hD.q5 hm _⟩
  · have ha' := ha
    obtain ⟨v, _, hv, rfl⟩ := inI_ex (by decide) (by decide) ha
    have hv : v < 128 := by omega
    by_cases hq : tl = 120
    · subst hq
      exact ⟨2, μ, _, _, _, _, by decide, wx_type2 l g μ (z_type2 l g μ hl hO hv t1), n_type2 l g μ t2 ha', gI_s _ _ _, fun h => absurd h (by decide), hD.q5 hm _⟩
    · have hC := y_typeC l g μ hO hH hv t1 (show tl < 120 by omega)
      generalize hM1 : sI (sA μ 1 (upd (gA μ 1) tl (nI v))) 4 (nI (tl + 1)) = M1 at hC
      have g4 : gI M1 4 = nI (tl + 1) := by rw [← hM1, gI_s]
      have gk : ∀ k, k ≠ 4 → gI M1 k = gI μ k := fun k hk => by rw [← hM1, gI_n _ _ hk, gI_A]
      have a1 : gA M1 1 = upd (gA μ 1) tl (nI v) := by rw [← hM1, gA_I, gA_s]
      have ak : ∀ k, k ≠ 1 → gA M1 k = gA μ k := fun k hk => by rw [← hM1, gA_I, gA_n _ _ hk]
      have jk : ∀ j, gJ M1 j = gJ μ j := fun j => by rw [← hM1, gJ_I, gJ_A]
      generalize hW : vp_updL (gJ M1 53) 0 (nI (tl + 1)).toInt64 = w
      have hW2 := wt_type l g μ hC
      rw [hW] at hW2
      have hY := y_type l g (sJ M1 53 w) (v := v) (ty := tl) ((gk 8 (by decide)).trans t2) (by omega) hv
      generalize hM2 : sI (sA (sI (sJ M1 53 w) 5 (nI 0)) 8 (upd (gA (sJ M1 53 w) 8) tl (nI v))) 8 (nI (tl + 1)) = M2 at hY
      have i8 : gI M2 8 = nI (tl + 1) := by rw [← hM2, gI_s]
      have i5 : gI M2 5 = nI 0 := by rw [← hM2, gI_n _ _ (by decide), gI_A, gI_s]
      have ik : ∀ k, k ≠ 5 → k ≠ 8 → gI M2 k = gI M1 k := fun k h5 h8 => by rw [← hM2, gI_n _ _ h8, gI_A, gI_n _ _ h5]; rfl
      have b8 : gA M2 8 = upd (gA μ 8) tl (nI v) := by rw [← hM2, gA_I, gA_s]; show upd (gA M1 8) tl (nI v) = _; rw [ak 8 (by decide)]
      have bk : ∀ k, k ≠ 8 → gA M2 k = gA M1 k := fun k h8 => by rw [← hM2, gA_I, gA_n _ _ h8]; rfl
      have jj : ∀ j, gJ M2 j = gJ (sJ M1 53 w) j := fun j => by rw [← hM2, gJ_I, gJ_A, gJ_I]
      have j20 : ∀ j, j < 20 → gJ M2 j = gJ μ j := fun j hj => by rw [jj, gJ_n _ _ (by omega), jk]
      refine ⟨0, _, _, _, _, _, by decide, hW2, hY, i5, fun _ => by rw [jj, gJ_s, ← hW, upL_s], ?_⟩
      obtain ⟨⟨a, b⟩, ⟨o1, o2, o3, o4⟩, ⟨k1, k2, k3, k4, k5, k6, k7, k8⟩, hf', hh, ht, hme⟩ := hD
      refine ⟨n, p, d, tl + 1, m, F, P, O, fun j => if j = tl then v else tb j, by omega, ⟨(ik 0 (by decide) (by decide)).trans ((gk 0 (by decide)).trans a), (ik 1 (by decide) (by decide)).trans ((gk 1 (by decide)).trans b)⟩, ⟨(ik 2 (by decide) (by decide)).trans ((gk 2 (by decide)).trans o1), (ik 3 (by decide) (by decide)).trans ((gk 3 (by decide)).trans o2), o3, o4⟩, ⟨(ik 6 (by decide) (by decide)).trans ((gk 6 (by decide)).trans k1), (ik 7 (by decide) (by decide)).trans ((gk 7 (by decide)).trans k2), k3, (bk 5 (by decide)).trans ((ak 5 (by decide)).trans k4), (bk 6 (by decide)).trans ((ak 6 (by decide)).trans k5), (bk 9 (by decide)).trans ((ak 9 (by decide)).trans k6), k7, k8⟩, fun f h4 => by rw [j20 f (by omega)]; exact hf' f h4, hh.fr ((bk 0 (by decide)).trans (ak 0 (by decide))) ((bk 7 (by decide)).trans (ak 7 (by decide))) j20, ⟨(ik 4 (by decide) (by decide)).trans g4, i8, by omega, fun j hj => ?_⟩, hme.fr ((ik 9 (by decide) (by decide)).trans (gk 9 (by decide))) ((bk 10 (by decide)).trans (ak 10 (by decide)))⟩
      rw [bk 1 (by decide), a1, b8]
      show (if j = tl then nI v else gA μ 1 j) = nI (if j = tl then v else tb j) ∧ (if j = tl then nI v else gA μ 8 j) = nI (if j = tl then v else tb j) ∧ (if j = tl then v else tb j) < 128
      by_cases z : j = tl
      · rw [if_pos z, if_pos z, if_pos z]; exact ⟨rfl, rfl, hv⟩
      · rw [if_neg z, if_neg z, if_neg z]; exact t4 j (by omega)

theorem st_read {l : Launch} {g : Gd} (hl : l.stackTraces = false) : St_read l g Iv := by
  intro i μ p0 hi hI
  obtain ⟨n, p, d, tl, m, F, P, O, tb, hm, hD⟩ := hI
  have hO := hD.ok
  have h0 := hD.1.1
  have h1 := hD.1.2
  have hH := hD.2.1
  have hM := hD.2.2.1
  have hf := hD.2.2.2.1
  have m1 := hM.1
  have m7 := hM.2.2.2.2.2.2.1
  have m8 := hM.2.2.2.2.2.2.2
  have h1024 := pw10 m8
  have h2n := Nat.two_pow_pos n
  obtain ⟨cS, cJ⟩ := Chg_save (μ := μ) (p := p) (d := d) h0 h1
  obtain ⟨t1, t2, t3, t4⟩ := hD.2.2.2.2.2.1
  have t41 : ∀ i, i < tl → gA μ 1 i = nI (tb i) ∧ tb i < 128 := fun i hi => ⟨(t4 i hi).1, (t4 i hi).2.2⟩
  cases ha : inI p0 (nI 0) (nI 3)
  · (have hNn := n_read l g μ m1 m7 m8 p0 (by rw [ha]; rfl); rw [ha] at hNn; exact ⟨1, μ, _, _, _, _, by decide, wx_read1 l g μ (z_read1 l g μ hl hO ha), hNn, gI_s _ _ _, fun h => absurd h (by decide), hD.q5 hm _⟩)
  · obtain ⟨f, _, hf4, rfl⟩ := inI_ex (by decide) (by decide) ha
    have hf4 : f < 4 := by omega
    have fc : Fs (fun q => q = 50) μ (mClr μ 50) := Fs_sJ _ _ rfl
    obtain ⟨hcase, fr⟩ := ps_ok (tb := tb) m8 t3 tl 0 0 0 false (mClr μ 50) none (rowU 1024 (fun _ => false) O) (by omega) (Or.inl ⟨rfl, rfl, rfl⟩) h2n (fun z => absurd z (by decide)) (by unfold mClr; rw [gJ_s]; exact Rb_clr m8 _ (fun c hc => rowU_lt _ _ hc))
    have efr : Fx KQ QQ μ (psF 50 n tl tb tl 0 0 0 false (mClr μ 50)).1 := ((fc.trans fr).mono (L := KQ) (fun j z => by unfold KQ; omega)).fx
    rcases hcase with ⟨k1, k2, k3⟩ | ⟨j, hj, k1, k2⟩
    · have hC := y_readC1 l g μ hO hH hf4 t1 t3 t41 k1
      rw [Nat.zero_add] at hC
      obtain ⟨c1, hR, ev⟩ := lay_ok (p := p) (d := d) (q := f) m8 h0 h1 hf hf4 efr k3
      rw [ev] at hC
      generalize hw : vp_updL (gJ (mLayP (psF 50 n tl tb tl 0 0 0 false (mClr μ 50)).1 p d n f) 53) 0 (nI (szF (lyB F (rdF n tl tb tl 0 0 none (rowU 1024 (fun _ => false) O)).1 f 1024) f (-1) (2 ^ n))).toInt64 = w
      have hMo := c1.mo (w := w) hM
      have x1 := c1.2.2.1 8 (by decide)
      have x2 := c1.2.2.2.2.1 8 (by decide) (by decide) (by decide) (by decide)
      have hY := y_read l g _ hMo hf4 (tb := tb) (ty := tl) (x1.trans t2) t3 (fun i hi => by
        refine ⟨?_, (t4 i hi).2.2⟩
        show gA (mLayP (psF 50 n tl tb tl 0 0 0 false (mClr μ 50)).1 p d n f) 8 i = _
        rw [x2]; exact (t4 i hi).2.1)
      have er : rdF n tl tb tl 0 0 none (rowU 1024 (fun _ => false) O) = ((rdF n tl tb tl 0 0 none (rowU 1024 (fun _ => false) O)).1, none) := Prod.ext rfl k2
      rw [er] at hY
      have cM := ChM_lays (v := mgT true true) (q := f) (rdF n tl tb tl 0 0 none (rowU 1024 (fun _ => false) O)).1 hMo
      have hW2 := wt_read l g μ hC
      rw [hw] at hW2
      exact ⟨0, _, _, _, _, _, by decide, hW2, hY, lays5 _ _ _ _ _ _ _ _ _, fun _ => by rw [← hw] at cM; rw [← hw]; exact outc cM, hD.ic hm ⟨m7, m8⟩ c1 hR cM⟩
    · have hC := y_readC2 l g μ hO hH hf4 t1 t3 t41 (by rw [k1]; exact nI_n1 (by omega))
      rw [k1] at hC
      generalize hw : vp_updL (gJ (psF 50 n tl tb tl 0 0 0 false (mClr μ 50)).1 53) 0 ((-10) - nI j).toInt64 = w
      have hMo : Mo (sJ (psF 50 n tl tb tl 0 0 0 false (mClr μ 50)).1 53 w) F P O n d := ⟨(efr.1 6).trans hM.1, (efr.1 7).trans hM.2.1, hM.2.2.1, (efr.2.2.1 5 (by unfold QQ; omega)).trans hM.2.2.2.1, (efr.2.2.1 6 (by unfold QQ; omega)).trans hM.2.2.2.2.1, (efr.2.2.1 9 (by unfold QQ; omega)).trans hM.2.2.2.2.2.1, m7, m8⟩
      have hY := y_read l g _ hMo hf4 (tb := tb) (ty := tl) ((efr.1 8).trans t2) t3 (fun i hi => by
        refine ⟨?_, (t4 i hi).2.2⟩
        show gA (psF 50 n tl tb tl 0 0 0 false (mClr μ 50)).1 8 i = _
        rw [efr.2.2.1 8 (by unfold QQ; omega)]; exact (t4 i hi).2.1)
      have er : rdF n tl tb tl 0 0 none (rowU 1024 (fun _ => false) O) = ((rdF n tl tb tl 0 0 none (rowU 1024 (fun _ => false) O)).1, some (-10 - nI j)) := Prod.ext rfl k2
      rw [er] at hY
      have hW2 := wt_read l g μ hC
      rw [hw] at hW2
      generalize (rdF n tl tb tl 0 0 none (rowU 1024 (fun _ => false) O)).1 = O2 at hY
      have e2 : Eqv (sJ (psF 50 n tl tb tl 0 0 0 false (mClr μ 50)).1 53 w) (sA (mgM (sJ (psF 50 n tl tb tl 0 0 0 false (mClr μ 50)).1 53 w) true true) 9 (bR O2)) := (Eqv_5 _ _).trans ⟨fun _ _ _ => rfl, fun k _ _ _ h9 _ _ => gA_n _ _ h9, fun _ _ => rfl⟩
      refine ⟨0, _, _, _, _, _, by decide, hW2, hY, (gI_A _ _ _ _).trans (gI_s _ _ _), fun _ => ?_, n, p, d, tl, m, F, P, O2, tb, by omega, hD.q (efr.eqv.trans ((Eqv_out _ w).trans e2)) (gA_s _ _ _) ((hD.me (w := w) efr).fr ((gI_A _ _ _ _).trans (gI_n _ _ (by decide))) (gA_n _ _ (by decide)))⟩
      show gJ (sJ (psF 50 n tl tb tl 0 0 0 false (mClr μ 50)).1 53 w) 53 0 = _
      rw [gJ_s, ← hw, upL_s]; rfl

theorem rsC (q : Nat) (μ : Mm) (hq : q < 4) : ∀ k, k ≤ 4 → ((∀ j, gI (mRsC q μ k) j = gI μ j) ∧ (∀ j, gA (mRsC q μ k) j = gA μ j)) ∧ (∀ j, (∀ f, f < k → j ≠ f) → gJ (mRsC q μ k) j = gJ μ j) ∧ ∀ f, f < k → gJ (mRsC q μ k) f = rowU 16 (gJ μ (4 + (q * 4 + f))) (gJ μ f)
  | 0, _ => ⟨⟨fun _ => rfl, fun _ => rfl⟩, fun _ _ => rfl, fun f hf => absurd hf (Nat.not_lt_zero f)⟩
  | k + 1, hk => by
    obtain ⟨⟨a1, a2⟩, b, c⟩ := rsC q μ hq k (by omega)
    have e : mRsC q μ (k + 1) = sJ (mRsC q μ k) (0 + k) (rowU 16 (gJ (mRsC q μ k) (4 + (q * 4 + k))) (gJ (mRsC q μ k) (0 + k))) := rfl
    rw [e, Nat.zero_add]
    refine ⟨⟨a1, a2⟩, fun j hj => ?_, fun f hf => ?_⟩
    · rw [gJ_n _ _ (hj k (by omega))]; exact b j (fun f hf => hj f (by omega))
    · rcases Nat.lt_or_eq_of_le (Nat.le_of_lt_succ hf) with z | z
      · rw [gJ_n _ _ (by omega)]; exact c f z
      · subst z
        rw [gJ_s, b f (fun f' hf' => by omega), b _ (fun f' hf' => by omega)]
theorem st_undo {l : Launch} {g : Gd} (hl : l.stackTraces = false) : St_undo l g Iv := by
  intro i μ hi hI
  obtain ⟨n, p, d, tl, m, F, P, O, tb, hm, hD⟩ := hI
  have hO := hD.ok
  have h0 := hD.1.1
  have h1 := hD.1.2
  have hH := hD.2.1
  have hM := hD.2.2.1
  have hf := hD.2.2.2.1
  have m1 := hM.1
  have m7 := hM.2.2.2.2.2.2.1
  have m8 := hM.2.2.2.2.2.2.2
  have h1024 := pw10 m8
  have h2n := Nat.two_pow_pos n
  obtain ⟨cS, cJ⟩ := Chg_save (μ := μ) (p := p) (d := d) h0 h1
  obtain ⟨o1, o2, o3, o4⟩ := hH
  by_cases hd : d = 0
  · subst hd
    exact ⟨1, μ, _, _, _, _, by decide, wx_undo1 l g μ (z_undo1 l g μ hl hO o1), n_undo l g μ hM.2.1, gI_s _ _ _, fun h => absurd h (by decide), hD.q5 hm _⟩
  · obtain ⟨en, e1, e2, e3, e4, e5⟩ := hD.2.2.2.2.1 0 (by omega)
    have hs : (p + 4 - 0) % 4 = p := by omega
    rw [hs] at e3 e5
    rw [Nat.sub_zero] at e4 e5
    have hC := y_undoC l g μ hO ⟨o1, o2, o3, o4⟩ (by omega) e3 e2
    obtain ⟨⟨a1, a2⟩, b, c⟩ := rsC p (sI (sI μ 0 (nI en)) 1 (nI (wf en))) o3 4 (Nat.le_refl _)
    unfold mRest at hC
    generalize mRsC p (sI (sI μ 0 (nI en)) 1 (nI (wf en))) 4 = X at *
    generalize hM1 : sI (sI X 3 (nI ((p + 3) % 4))) 2 (nI (d - 1)) = M1 at hC
    have gk : ∀ k, 4 ≤ k → gI M1 k = gI μ k := fun k hk => by rw [← hM1, gI_n _ _ (by omega), gI_n _ _ (by omega), a1, gI_n _ _ (by omega), gI_n _ _ (by omega)]
    have i0 : gI M1 0 = nI en := by rw [← hM1, gI_n _ _ (by decide), gI_n _ _ (by decide), a1, gI_n _ _ (by decide), gI_s]
    have i1 : gI M1 1 = nI (wf en) := by rw [← hM1, gI_n _ _ (by decide), gI_n _ _ (by decide), a1, gI_s]
    have i2 : gI M1 2 = nI (d - 1) := by rw [← hM1, gI_s]
    have i3 : gI M1 3 = nI ((p + 3) % 4) := by rw [← hM1, gI_n _ _ (by decide), gI_s]
    have ak : ∀ k, gA M1 k = gA μ k := fun k => by rw [← hM1, gA_I, gA_I, a2, gA_I, gA_I]
    have jx : ∀ j, gJ M1 j = gJ X j := fun j => by rw [← hM1, gJ_I, gJ_I]
    have jm : ∀ j, gJ (sI (sI μ 0 (nI en)) 1 (nI (wf en))) j = gJ μ j := fun j => by rw [gJ_I, gJ_I]
    have jk : ∀ j, 4 ≤ j → gJ M1 j = gJ μ j := fun j hj => by rw [jx, b j (fun f hf => by omega), jm]
    have jf : ∀ f, f < 4 → gJ M1 f = rowU 16 (gJ μ (4 + (p * 4 + f))) (gJ μ f) := fun f hf => by rw [jx, c f hf, jm, jm]
    generalize hW : vp_updL (gJ M1 53) 0 (nI (d - 1)).toInt64 = w
    have hW2 := wt_undo l g μ hC
    rw [hW] at hW2
    have hY := y_undo l g (sJ M1 53 w) (F := F) (P := P) (q := d - 1) (((gk 7 (by decide)).trans hM.2.1).trans (by congr 1; omega)) (by omega) ((ak 5).trans hM.2.2.2.1) ((ak 6).trans hM.2.2.2.2.1)
    generalize hM2 : sI (sA (sI (sI (sJ M1 53 w) 5 (nI 0)) 7 (nI (d - 1))) 5 (bR (rowU 4096 (fun c => P (4096 * (d - 1) + c)) F))) 6 (gA (sJ M1 53 w) 7 (d - 1)) = M2 at hY
    have k5 : gI M2 5 = nI 0 := by rw [← hM2, gI_n _ _ (by decide), gI_A, gI_n _ _ (by decide), gI_s]
    have k6 : gI M2 6 = nI en := by rw [← hM2, gI_s]; show gA M1 7 (d - 1) = nI en; rw [ak 7]; exact e4
    have k7 : gI M2 7 = nI (d - 1) := by rw [← hM2, gI_n _ _ (by decide), gI_A, gI_s]
    have kk : ∀ k, k ≠ 5 → k ≠ 6 → k ≠ 7 → gI M2 k = gI M1 k := fun k h5 h6 h7 => by rw [← hM2, gI_n _ _ h6, gI_A, gI_n _ _ h7, gI_n _ _ h5]; rfl
    have l5 : gA M2 5 = bR (rowU 4096 (fun c => P (4096 * (d - 1) + c)) F) := by rw [← hM2, gA_I, gA_s]
    have lk : ∀ k, k ≠ 5 → gA M2 k = gA μ k := fun k h5 => by rw [← hM2, gA_I, gA_n _ _ h5]; exact ak k
    have jj : ∀ j, gJ M2 j = gJ (sJ M1 53 w) j := fun j => by rw [← hM2]; rfl
    have j20 : ∀ j, j < 20 → gJ M2 j = gJ M1 j := fun j hj => by rw [jj, gJ_n _ _ (by omega)]
    refine ⟨0, _, _, _, _, _, by decide, hW2, hY, k5, fun _ => by rw [jj, gJ_s, ← hW, upL_s], en, (p + 3) % 4, d - 1, tl, m, rowU 4096 (fun c => P (4096 * (d - 1) + c)) F, P, O, tb, by omega, ⟨(kk 0 (by decide) (by decide) (by decide)).trans i0, (kk 1 (by decide) (by decide) (by decide)).trans i1⟩, ⟨(kk 2 (by decide) (by decide) (by decide)).trans i2, (kk 3 (by decide) (by decide) (by decide)).trans i3, Nat.mod_lt _ (by decide), by omega⟩, ⟨k6, k7, by omega, l5, (lk 6 (by decide)).trans hM.2.2.2.2.1, (lk 9 (by decide)).trans hM.2.2.2.2.2.1, e1, e2⟩, fun f h4 => ?_, fun a ha => ?_, hD.2.2.2.2.2.1.fr ((kk 4 (by decide) (by decide) (by decide)).trans (gk 4 (by decide))) ((kk 8 (by decide) (by decide) (by decide)).trans (gk 8 (by decide))) (lk 1 (by decide)) (lk 8 (by decide)), hD.2.2.2.2.2.2.fr ((kk 9 (by decide) (by decide) (by decide)).trans (gk 9 (by decide))) (lk 10 (by decide))⟩
    · rw [j20 f (by omega), jf f h4]
      refine Rb.cg e2 (Rb_cpy e2 (e5 f h4) _) (fun c hc => ?_)
      rw [rowU_lt _ _ (by omega)]
    · obtain ⟨en', x1, x2, x3, x4, x5⟩ := hD.2.2.2.2.1 (a + 1) (by omega)
      have hs2 : ((p + 3) % 4 + 4 - a) % 4 = (p + 4 - (a + 1)) % 4 := by omega
      have hi2 : d - 1 - 1 - a = d - 1 - (a + 1) := by omega
      rw [hs2, hi2, lk 0 (by decide), lk 7 (by decide)]
      exact ⟨en', x1, x2, x3, x4, fun f h4 => by rw [j20 _ (by omega), jk _ (by omega)]; exact x5 f h4⟩

theorem all_st {l : Launch} {g : Gd} (hl : l.stackTraces = false) : AllSt l g Iv := ⟨st_setGround hl, st_add hl, st_remove hl, st_has hl, st_size hl, st_get hl, st_degree hl, st_combine hl, st_derive hl, st_compress hl, st_shift hl, st_trace hl, st_segment hl, st_rank hl, st_unrank hl, st_cascade hl, st_shadowBound hl, st_excess hl, st_is hl, st_weight hl, st_dimension hl, st_shattered hl, st_crossing hl, st_sunflower hl, st_pairs hl, st_type hl, st_clearText, st_read hl, st_undo hl, st_digest⟩
