/-! the calls that change the state -/
theorem Chg.mo {μ M : Mm} {p d n n' : Nat} {F P O : Nat → Bool} {w : Nat → Int64} (h : Chg μ p d n n' M) (hM : Mo μ F P O n d) : Mo (sJ M 53 w) F P O n d := by
  obtain ⟨m1, m2, m3, m4, m5, m6, m7, m8⟩ := hM
  obtain ⟨_, _, c5, _, c7, _, _⟩ := h
  exact ⟨(c5 6 (by decide)).trans m1, (c5 7 (by decide)).trans m2, m3, (c7 5 (by decide) (by decide) (by decide) (by decide)).trans m4, (c7 6 (by decide) (by decide) (by decide) (by decide)).trans m5, (c7 9 (by decide) (by decide) (by decide) (by decide)).trans m6, m7, m8⟩
theorem note5 (μ : Mm) (v : Int32) (F P : Nat → Bool) (n d : Nat) : gI (mNote (sI μ 5 v) F P n d) 5 = v := by
  unfold mNote; rw [gI_n _ _ (by decide), gI_A, gI_A, gI_s]
theorem noteA5 (μ : Mm) (v : Int32) (F P G : Nat → Bool) (n d : Nat) : gI (sA (mNote (sI μ 5 v) F P n d) 5 (bR G)) 5 = v := (gI_A _ _ _ _).trans (note5 μ v F P n d)
theorem lays5 (μ : Mm) (v : Int32) (F P G H : Nat → Bool) (n d q : Nat) : gI (mLays (sA (sI μ 5 v) 9 (bR H)) F P G n d q) 5 = v := by
  unfold mLays
  rw [gI_A]
  unfold mNote; rw [gI_n _ _ (by decide), gI_A, gI_A, gI_A, gI_s]
section SC
variable {i n p d tl m n' : Nat} {F P O F' : Nat → Bool} {tb : Nat → Nat} {μ M μ2 : Mm} {w : Nat → Int64} {x : Int64}
theorem IvD.ic (h : IvD μ n p d tl m F P O tb) (hm : m ≤ 1000 * i) (hn' : 1 ≤ n' ∧ n' ≤ 10) (hC : Chg μ p d n n' M) (hR : ∀ f, f < 4 → Rb n' (gJ M f) (fun c => F' (1024 * f + c))) (hM : ChM (sJ M 53 w) F P n d n' F' μ2) : Iv (i + 5) μ2 := by
  obtain ⟨O', h2⟩ := h.ch hn' hC hR hM
  exact ⟨n', _, _, tl, m, F', _, O', tb, by omega, h2⟩
theorem outc (hM : ChM (sJ M 53 (vp_updL (gJ M 53) 0 x)) F P n d n' F' μ2) : gJ μ2 53 0 = x := by rw [hM.2.2.2.2.2 53, gJ_s, upL_s]
end SC
theorem Rb_up {n f e : Nat} (hn : n ≤ 10) {x y : Nat → Int64} {F : Nat → Bool} {b : Bool} (h : Rb n x (fun c => F (1024 * f + c))) (he : e < 2 ^ n) (hy : ∀ c, bt y c = if c = e then b else bt x c) : Rb n y (fun c => upB F (1024 * f + e) b (1024 * f + c)) := by
  have e1 : ∀ c, upB F (1024 * f + e) b (1024 * f + c) = if c = e then b else F (1024 * f + c) := fun c => by
    unfold upB
    by_cases q : c = e
    · rw [if_pos q, if_pos (by omega)]
    · rw [if_neg q, if_neg (by omega)]
  refine ⟨⟨fun c hc => ?_, fun c hc hge => ?_⟩, fun c hc hge => ?_⟩
  · show bt y c = true ↔ upB F (1024 * f + e) b (1024 * f + c) = true
    rw [hy, e1]
    split
    · exact Iff.rfl
    · exact h.1.1 c hc
  · rw [hy, if_neg (by omega)]; exact h.1.2 c hc hge
  · show upB F (1024 * f + e) b (1024 * f + c) = false
    rw [e1, if_neg (by omega)]; exact h.2 c hc hge
theorem up_oth {F : Nat → Bool} {f f' e c : Nat} {b : Bool} (hff : f' ≠ f) (hc : c < 1024) (he : e < 1024) : upB F (1024 * f + e) b (1024 * f' + c) = F (1024 * f' + c) := by unfold upB; rw [if_neg (by omega)]
theorem cm_oth {f f' n c : Nat} (hn : n ≤ 10) (hff : f' ≠ f) (hc : c < 1024) : 1024 * f' + c < 1024 * f ∨ 1024 * f + 2 ^ n ≤ 1024 * f' + c := by
  have := pw10 hn
  rcases Nat.lt_or_ge f' f with q | q
  · left; omega
  · right; omega
theorem st_add {l : Launch} {g : Gd} (hl : l.stackTraces = false) : St_add l g Iv := by
  intro i μ p0 p1 hi hI
  obtain ⟨n, p, d, tl, m, F, P, O, tb, hm, hD⟩ := hI
  have hO := hD.ok
  have h0 := hD.1.1
  have h1 := hD.1.2
  have hH := hD.2.1
  have hM := hD.2.2.1
  have hf := hD.2.2.2.1
  have m1 := hM.1
  have m7 := hM.2.2.2.2.2.2.1
  have m8 := hM.2.2.2.2.2.2.2
  have h1024 := pw10 m8
  have h2n := Nat.two_pow_pos n
  obtain ⟨cS, cJ⟩ := Chg_save (μ := μ) (p := p) (d := d) h0 h1
  cases ha : inI p0 (nI 0) (nI 3)
  · (have hNn := n_add l g μ m1 m7 m8 p0 p1 (by rw [ha]; rfl); rw [ha] at hNn; exact ⟨1, μ, _, false, _, _, by decide, wx_add1 l g μ (z_add1 l g μ hl hO ha), hNn, gI_s _ _ _, fun h => absurd h (by decide), hD.q5 hm _⟩)
  · obtain ⟨f, _, hf4, rfl⟩ := inI_ex (by decide) (by decide) ha
    have hf4 : f < 4 := by omega
    cases hb : inI p1 (nI 0) (nI (2 ^ n - 1))
    · (have hNn := n_add l g μ m1 m7 m8 (nI f) p1 (by rw [ha, hb]; rfl); rw [ha, hb] at hNn; exact ⟨2, μ, _, false, _, _, by decide, wx_add2 l g μ (z_add2 l g μ hl hO hf4 hb), hNn, gI_s _ _ _, fun h => absurd h (by decide), hD.q5 hm _⟩)
    · obtain ⟨e, _, he, rfl⟩ := inI_ex (by decide) (by omega) hb
      have he : e < 2 ^ n := by omega
      have hC := y_addC l g μ hO hH hf4 he
      rw [Nat.zero_add, cJ f (by omega), (hf f hf4).bt m8 (by omega)] at hC
      have f1 : Fs (fun q => q = f) (mSave μ p d n) (mPut (mSave μ p d n) f e) := Fs_sJ _ _ rfl
      have c1 := cS.fx (K := fun q => q = f) (fun j z => by omega) f1.fx
      have hR : ∀ f', f' < 4 → Rb n (gJ (mPut (mSave μ p d n) f e) f') (fun c => upB F (1024 * f + e) true (1024 * f' + c)) := fun f' h4 => by
        by_cases z : f' = f
        · subst z
          refine Rb_up m8 (hf f' h4) he (fun c => ?_)
          unfold mPut
          rw [gJ_s, bt_put, cJ f' (by omega)]
          by_cases y : c = e
          · rw [if_pos y, decide_eq_true y]; simp
          · rw [if_neg y, decide_eq_false y]; simp
        · rw [f1.j z, cJ f' (by omega)]
          exact Rb.cg m8 (hf f' h4) (fun c hc => (up_oth z hc (by omega)).symm)
      have hY := y_add l g _ (c1.mo (w := vp_updL (gJ (mPut (mSave μ p d n) f e) 53) 0 (bL (!F (1024 * f + e)))) hM) hf4 he
      rw [(show (F (1024 * f + e) != true) = !F (1024 * f + e) by cases F (1024 * f + e) <;> rfl)] at hY
      have cM := (ChM_note (v := mgT true true) (c1.mo (w := vp_updL (gJ (mPut (mSave μ p d n) f e) 53) 0 (bL (!F (1024 * f + e)))) hM)).f (G := upB F (1024 * f + e) true)
      exact ⟨0, _, _, _, _, _, by decide, wt_add l g μ hC, hY, noteA5 _ _ _ _ _ _ _, fun _ => outc cM, hD.ic hm ⟨m7, m8⟩ c1 hR cM⟩

theorem st_remove {l : Launch} {g : Gd} (hl : l.stackTraces = false) : St_remove l g Iv := by
  intro i μ p0 p1 hi hI
  obtain ⟨n, p, d, tl, m, F, P, O, tb, hm, hD⟩ := hI
  have hO := hD.ok
  have h0 := hD.1.1
  have h1 := hD.1.2
  have hH := hD.2.1
  have hM := hD.2.2.1
  have hf := hD.2.2.2.1
  have m1 := hM.1
  have m7 := hM.2.2.2.2.2.2.1
  have m8 := hM.2.2.2.2.2.2.2
  have h1024 := pw10 m8
  have h2n := Nat.two_pow_pos n
  obtain ⟨cS, cJ⟩ := Chg_save (μ := μ) (p := p) (d := d) h0 h1
  cases ha : inI p0 (nI 0) (nI 3)
  · (have hNn := n_remove l g μ m1 m7 m8 p0 p1 (by rw [ha]; rfl); rw [ha] at hNn; exact ⟨1, μ, _, false, _, _, by decide, wx_remove1 l g μ (z_remove1 l g μ hl hO ha), hNn, gI_s _ _ _, fun h => absurd h (by decide), hD.q5 hm _⟩)
  · obtain ⟨f, _, hf4, rfl⟩ := inI_ex (by decide) (by decide) ha
    have hf4 : f < 4 := by omega
    cases hb : inI p1 (nI 0) (nI (2 ^ n - 1))
    · (have hNn := n_remove l g μ m1 m7 m8 (nI f) p1 (by rw [ha, hb]; rfl); rw [ha, hb] at hNn; exact ⟨2, μ, _, false, _, _, by decide, wx_remove2 l g μ (z_remove2 l g μ hl hO hf4 hb), hNn, gI_s _ _ _, fun h => absurd h (by decide), hD.q5 hm _⟩)
    · obtain ⟨e, _, he, rfl⟩ := inI_ex (by decide) (by omega) hb
      have he : e < 2 ^ n := by omega
      have hC := y_removeC l g μ hO hH hf4 he
      rw [Nat.zero_add, cJ f (by omega), (hf f hf4).bt m8 (by omega)] at hC
      have f1 : Fs (fun q => q = f) (mSave μ p d n) (mDrp (mSave μ p d n) f e) := Fs_sJ _ _ rfl
      have c1 := cS.fx (K := fun q => q = f) (fun j z => by omega) f1.fx
      have hR : ∀ f', f' < 4 → Rb n (gJ (mDrp (mSave μ p d n) f e) f') (fun c => upB F (1024 * f + e) false (1024 * f' + c)) := fun f' h4 => by
        by_cases z : f' = f
        · subst z
          refine Rb_up m8 (hf f' h4) he (fun c => ?_)
          unfold mDrp
          rw [gJ_s, bt_drop, cJ f' (by omega)]
          by_cases y : c = e
          · rw [if_pos y, decide_eq_true y]; simp
          · rw [if_neg y, decide_eq_false y]; simp
        · rw [f1.j z, cJ f' (by omega)]
          exact Rb.cg m8 (hf f' h4) (fun c hc => (up_oth z hc (by omega)).symm)
      have hY := y_remove l g _ (c1.mo (w := vp_updL (gJ (mDrp (mSave μ p d n) f e) 53) 0 (bL (F (1024 * f + e)))) hM) hf4 he
      rw [(show (F (1024 * f + e) != false) = F (1024 * f + e) by cases F (1024 * f + e) <;> rfl)] at hY
      have cM := (ChM_note (v := mgT true true) (c1.mo (w := vp_updL (gJ (mDrp (mSave μ p d n) f e) 53) 0 (bL (F (1024 * f + e)))) hM)).f (G := upB F (1024 * f + e) false)
      exact ⟨0, _, _, _, _, _, by decide, wt_remove l g μ hC, hY, noteA5 _ _ _ _ _ _ _, fun _ => outc cM, hD.ic hm ⟨m7, m8⟩ c1 hR cM⟩

theorem st_combine {l : Launch} {g : Gd} (hl : l.stackTraces = false) : St_combine l g Iv := by
  intro i μ p0 p1 p2 p3 hi hI
  obtain ⟨n, p, d, tl, m, F, P, O, tb, hm, hD⟩ := hI
  have hO := hD.ok
  have h0 := hD.1.1
  have h1 := hD.1.2
  have hH := hD.2.1
  have hM := hD.2.2.1
  have hf := hD.2.2.2.1
  have m1 := hM.1
  have m7 := hM.2.2.2.2.2.2.1
  have m8 := hM.2.2.2.2.2.2.2
  have h1024 := pw10 m8
  have h2n := Nat.two_pow_pos n
  obtain ⟨cS, cJ⟩ := Chg_save (μ := μ) (p := p) (d := d) h0 h1
  cases ha : inI p0 (nI 0) (nI 3)
  · (have hNn := n_combine l g μ m1 m7 m8 p0 p1 p2 p3 (by rw [ha]; rfl); rw [ha] at hNn; exact ⟨1, μ, _, _, _, _, by decide, wx_combine1 l g μ (z_combine1 l g μ hl hO ha), hNn, gI_s _ _ _, fun h => absurd h (by decide), hD.q5 hm _⟩)
  · obtain ⟨q, _, hq, rfl⟩ := inI_ex (by decide) (by decide) ha
    have hq : q < 4 := by omega
    cases hb : inI p2 (nI 0) (nI 3)
    · (have hNn := n_combine l g μ m1 m7 m8 (nI q) p1 p2 p3 (by rw [ha, hb]; rfl); rw [ha, hb] at hNn; exact ⟨1, μ, _, _, _, _, by decide, wx_combine1 l g μ (z_combine2 l g μ hl hO hq hb), hNn, gI_s _ _ _, fun h => absurd h (by decide), hD.q5 hm _⟩)
    obtain ⟨a, _, ha4, rfl⟩ := inI_ex (by decide) (by decide) hb
    have ha4 : a < 4 := by omega
    cases hc : inI p3 (nI 0) (nI 3)
    · (have hNn := n_combine l g μ m1 m7 m8 (nI q) p1 (nI a) p3 (by rw [ha, hb, hc]; rfl); rw [ha, hb, hc] at hNn; exact ⟨1, μ, _, _, _, _, by decide, wx_combine1 l g μ (z_combine3 l g μ hl hO hq ha4 hc), hNn, gI_s _ _ _, fun h => absurd h (by decide), hD.q5 hm _⟩)
    obtain ⟨b, _, hb4, rfl⟩ := inI_ex (by decide) (by decide) hc
    have hb4 : b < 4 := by omega
    cases hd : inI p1 (nI 0) (nI 3)
    · (have hNn := n_combine l g μ m1 m7 m8 (nI q) p1 (nI a) (nI b) (by rw [ha, hb, hc, hd]; rfl); rw [ha, hb, hc, hd] at hNn; exact ⟨2, μ, _, _, _, _, by decide, wx_combine2 l g μ (z_combine4 l g μ hl hO hq hd ha4 hb4), hNn, gI_s _ _ _, fun h => absurd h (by decide), hD.q5 hm _⟩)
    · obtain ⟨op, _, hop, rfl⟩ := inI_ex (by decide) (by decide) hd
      have hop : op < 4 := by omega
      have hC := y_combineC l g μ hO hH hq hop ha4 hb4
      simp only [Nat.zero_add] at hC
      obtain ⟨hG, efr'⟩ := Rb_cmb (O := O) (t := 50) m8 hop (show b ≠ 50 by omega) (hf a ha4) (hf b hb4)
      have efr : Fx KQ QQ μ (mCmb μ (wf n) 50 op a b) := (efr'.mono (L := KQ) (fun j z => by unfold KQ; omega)).fx
      obtain ⟨c1, hR, ev⟩ := lay_ok (p := p) (d := d) (q := q) m8 h0 h1 hf (by omega) efr hG
      rw [ev] at hC
      have hMo := c1.mo (w := vp_updL (gJ (mLayP (mCmb μ (wf n) 50 op a b) p d n q) 53) 0 (nI (szF (lyB F (rowU 1024 (fun c => coV op (F (1024 * a + c)) (F (1024 * b + c))) O) q 1024) q (-1) (2 ^ n))).toInt64) hM
      have hY := y_combine l g _ hMo hq hop ha4 hb4
      have cM := ChM_lays (v := mgT true true) (q := q) (rowU 1024 (fun c => coV op (F (1024 * a + c)) (F (1024 * b + c))) O) hMo
      exact ⟨0, _, _, _, _, _, by decide, wt_combine l g μ hC, hY, lays5 _ _ _ _ _ _ _ _ _, fun _ => outc cM, hD.ic hm ⟨m7, m8⟩ c1 hR cM⟩

theorem st_derive {l : Launch} {g : Gd} (hl : l.stackTraces = false) : St_derive l g Iv := by
  intro i μ p0 p1 p2 hi hI
  obtain ⟨n, p, d, tl, m, F, P, O, tb, hm, hD⟩ := hI
  have hO := hD.ok
  have h0 := hD.1.1
  have h1 := hD.1.2
  have hH := hD.2.1
  have hM := hD.2.2.1
  have hf := hD.2.2.2.1
  have m1 := hM.1
  have m7 := hM.2.2.2.2.2.2.1
  have m8 := hM.2.2.2.2.2.2.2
  have h1024 := pw10 m8
  have h2n := Nat.two_pow_pos n
  obtain ⟨cS, cJ⟩ := Chg_save (μ := μ) (p := p) (d := d) h0 h1
  cases ha : inI p0 (nI 0) (nI 3)
  · (have hNn := n_derive l g μ m1 m7 m8 p0 p1 p2 (by rw [ha]; rfl); rw [ha] at hNn; exact ⟨1, μ, _, _, _, _, by decide, wx_derive1 l g μ (z_derive1 l g μ hl hO ha), hNn, gI_s _ _ _, fun h => absurd h (by decide), hD.q5 hm _⟩)
  · obtain ⟨q, _, hq, rfl⟩ := inI_ex (by decide) (by decide) ha
    have hq : q < 4 := by omega
    cases hb : inI p2 (nI 0) (nI 3)
    · (have hNn := n_derive l g μ m1 m7 m8 (nI q) p1 p2 (by rw [ha, hb]; rfl); rw [ha, hb] at hNn; exact ⟨1, μ, _, _, _, _, by decide, wx_derive1 l g μ (z_derive2 l g μ hl hO hq hb), hNn, gI_s _ _ _, fun h => absurd h (by decide), hD.q5 hm _⟩)
    obtain ⟨f, _, hf4, rfl⟩ := inI_ex (by decide) (by decide) hb
    have hf4 : f < 4 := by omega
    cases hd : inI p1 (nI 0) (nI 9)
    · (have hNn := n_derive l g μ m1 m7 m8 (nI q) p1 (nI f) (by rw [ha, hb, hd]; rfl); rw [ha, hb, hd] at hNn; exact ⟨2, μ, _, _, _, _, by decide, wx_derive2 l g μ (z_derive3 l g μ hl hO hq hd hf4), hNn, gI_s _ _ _, fun h => absurd h (by decide), hD.q5 hm _⟩)
    · obtain ⟨op, _, hop, rfl⟩ := inI_ex (by decide) (by decide) hd
      have hop : op < 10 := by omega
      have hC := y_deriveC l g μ hO hH hq hop hf4
      simp only [Nat.zero_add] at hC
      obtain ⟨hG, efr'⟩ := Rb_der (O := O) m8 hop hf4 (hf f hf4)
      have efr : Fx KQ QQ μ (mLay μ n (wf n) 50 op f) := (efr'.mono (L := KQ) (fun j z => by unfold KQ; omega)).fx
      obtain ⟨c1, hR, ev⟩ := lay_ok (p := p) (d := d) (q := q) m8 h0 h1 hf (by omega) efr hG
      rw [ev] at hC
      have hMo := c1.mo (w := vp_updL (gJ (mLayP (mLay μ n (wf n) 50 op f) p d n q) 53) 0 (nI (szF (lyB F (dvO F O n op f) q 1024) q (-1) (2 ^ n))).toInt64) hM
      have hY := y_derive l g _ hMo hq hop hf4
      have cM := ChM_lays (v := mgT true true) (q := q) (dvO F O n op f) hMo
      exact ⟨0, _, _, _, _, _, by decide, wt_derive l g μ hC, hY, lays5 _ _ _ _ _ _ _ _ _, fun _ => outc cM, hD.ic hm ⟨m7, m8⟩ c1 hR cM⟩

theorem st_trace {l : Launch} {g : Gd} (hl : l.stackTraces = false) : St_trace l g Iv := by
  intro i μ p0 p1 p2 hi hI
  obtain ⟨n, p, d, tl, m, F, P, O, tb, hm, hD⟩ := hI
  have hO := hD.ok
  have h0 := hD.1.1
  have h1 := hD.1.2
  have hH := hD.2.1
  have hM := hD.2.2.1
  have hf := hD.2.2.2.1
  have m1 := hM.1
  have m7 := hM.2.2.2.2.2.2.1
  have m8 := hM.2.2.2.2.2.2.2
  have h1024 := pw10 m8
  have h2n := Nat.two_pow_pos n
  obtain ⟨cS, cJ⟩ := Chg_save (μ := μ) (p := p) (d := d) h0 h1
  cases ha : inI p0 (nI 0) (nI 3)
  · (have hNn := n_trace l g μ m1 m7 m8 p0 p1 p2 (by rw [ha]; rfl); rw [ha] at hNn; exact ⟨1, μ, _, _, _, _, by decide, wx_trace1 l g μ (z_trace1 l g μ hl hO ha), hNn, gI_s _ _ _, fun h => absurd h (by decide), hD.q5 hm _⟩)
  · obtain ⟨q, _, hq, rfl⟩ := inI_ex (by decide) (by decide) ha
    have hq : q < 4 := by omega
    cases hb : inI p1 (nI 0) (nI 3)
    · (have hNn := n_trace l g μ m1 m7 m8 (nI q) p1 p2 (by rw [ha, hb]; rfl); rw [ha, hb] at hNn; exact ⟨1, μ, _, _, _, _, by decide, wx_trace1 l g μ (z_trace2 l g μ hl hO hq hb), hNn, gI_s _ _ _, fun h => absurd h (by decide), hD.q5 hm _⟩)
    obtain ⟨f, _, hf4, rfl⟩ := inI_ex (by decide) (by decide) hb
    have hf4 : f < 4 := by omega
    cases hd : inI p2 (nI 0) (nI (2 ^ n - 1))
    · (have hNn := n_trace l g μ m1 m7 m8 (nI q) (nI f) p2 (by rw [ha, hb, hd]; rfl); rw [ha, hb, hd] at hNn; exact ⟨2, μ, _, _, _, _, by decide, wx_trace2 l g μ (z_trace3 l g μ hl hO hq hf4 hd), hNn, gI_s _ _ _, fun h => absurd h (by decide), hD.q5 hm _⟩)
    · obtain ⟨e, _, he, rfl⟩ := inI_ex (by decide) (by omega) hd
      have he : e < 2 ^ n := by omega
      have hC := y_traceC l g μ hO hH hq hf4 he
      simp only [Nat.zero_add] at hC
      obtain ⟨hG, efr'⟩ := Rb_tra (O := O) m8 hf4 he (hf f hf4)
      have efr : Fx KQ QQ μ (mTraC e (wf n) (mCpy μ 50 f) n) := (efr'.mono (L := KQ) (fun j z => by unfold KQ; omega)).fx
      obtain ⟨c1, hR, ev⟩ := lay_ok (p := p) (d := d) (q := q) m8 h0 h1 hf (by omega) efr hG
      rw [ev] at hC
      have hMo := c1.mo (w := vp_updL (gJ (mLayP (mTraC e (wf n) (mCpy μ 50 f) n) p d n q) 53) 0 (nI (szF (lyB F (trO F (rowU 1024 (fun _ => false) O) f e (2 ^ n)) q 1024) q (-1) (2 ^ n))).toInt64) hM
      have hY := y_trace l g _ hMo hq hf4 he
      have cM := ChM_lays (v := mgT true true) (q := q) (trO F (rowU 1024 (fun _ => false) O) f e (2 ^ n)) hMo
      exact ⟨0, _, _, _, _, _, by decide, wt_trace l g μ hC, hY, lays5 _ _ _ _ _ _ _ _ _, fun _ => outc cM, hD.ic hm ⟨m7, m8⟩ c1 hR cM⟩

theorem Rb_cm {n f f' : Nat} {F F' : Nat → Bool} (hn : n ≤ 10) {x y : Nat → Int64} (h : Rb n x (fun c => F (1024 * f' + c))) (hout : ∀ k, k < 1024 * f ∨ 1024 * f + 2 ^ n ≤ k → F' k = F k) (hy : f' = f → Rq n y (fun c => F' (1024 * f + c) = true)) (hxy : f' ≠ f → y = x) : Rb n y (fun c => F' (1024 * f' + c)) := by
  by_cases z : f' = f
  · subst z
    exact ⟨hy rfl, fun c hc hge => by show F' (1024 * f' + c) = false; rw [hout _ (by omega)]; exact h.2 c hc hge⟩
  · rw [hxy z]
    exact Rb.cg hn h (fun c hc => (hout _ (cm_oth hn z hc)).symm)
theorem st_compress {l : Launch} {g : Gd} (hl : l.stackTraces = false) : St_compress l g Iv := by
  intro i μ p0 p1 p2 hi hI
  obtain ⟨n, p, d, tl, m, F, P, O, tb, hm, hD⟩ := hI
  have hO := hD.ok
  have h0 := hD.1.1
  have h1 := hD.1.2
  have hH := hD.2.1
  have hM := hD.2.2.1
  have hf := hD.2.2.2.1
  have m1 := hM.1
  have m7 := hM.2.2.2.2.2.2.1
  have m8 := hM.2.2.2.2.2.2.2
  have h1024 := pw10 m8
  have h2n := Nat.two_pow_pos n
  obtain ⟨cS, cJ⟩ := Chg_save (μ := μ) (p := p) (d := d) h0 h1
  cases ha : inI p0 (nI 0) (nI 3)
  · (have hNn := n_compress l g μ m1 m7 m8 p0 p1 p2 (by rw [ha]; rfl); rw [ha] at hNn; exact ⟨1, μ, _, _, _, _, by decide, wx_compress1 l g μ (z_compress1 l g μ hl hO ha), hNn, gI_s _ _ _, fun h => absurd h (by decide), hD.q5 hm _⟩)
  · obtain ⟨f, _, hf4, rfl⟩ := inI_ex (by decide) (by decide) ha
    have hf4 : f < 4 := by omega
    cases hb : inI p1 (nI 0) (nI (n - 1))
    · (have hNn := n_compress l g μ m1 m7 m8 (nI f) p1 p2 (by rw [ha, hb]; rfl); rw [ha, hb] at hNn; exact ⟨2, μ, _, _, _, _, by decide, wx_compress2 l g μ (z_compress2 l g μ hl hO hf4 hb), hNn, gI_s _ _ _, fun h => absurd h (by decide), hD.q5 hm _⟩)
    obtain ⟨j, _, hj, rfl⟩ := inI_ex (by decide) (by omega) hb
    have hj : j < n := by omega
    cases hc : inI p2 (nI 0) (nI (n - 1))
    · (have hNn := n_compress l g μ m1 m7 m8 (nI f) (nI j) p2 (by rw [ha, hb, hc]; rfl); rw [ha, hb, hc] at hNn; exact ⟨2, μ, _, _, _, _, by decide, wx_compress2 l g μ (z_compress3 l g μ hl hO hf4 hj hc), hNn, gI_s _ _ _, fun h => absurd h (by decide), hD.q5 hm _⟩)
    obtain ⟨k, _, hk, rfl⟩ := inI_ex (by decide) (by omega) hc
    have hk : k < n := by omega
    by_cases hjk : j = k
    · subst hjk
      (have hNn := n_compress l g μ m1 m7 m8 (nI f) (nI j) (nI j) (by rw [ha, hb, decide_eq_true rfl]; rfl); rw [ha, hb, decide_eq_true (rfl : nI j = nI j)] at hNn; exact ⟨2, μ, _, _, _, _, by decide, wx_compress2 l g μ (z_compress4 l g μ hl hO hf4 hj), hNn, gI_s _ _ _, fun h => absurd h (by decide), hD.q5 hm _⟩)
    · have hC := y_compressC l g μ hO hH hf4 hj hk (fun z => hjk z.symm)
      rw [Nat.zero_add] at hC
      obtain ⟨r1, ev, fr⟩ := rep_ok (μ := mSave μ p d n) (F := F) m8 hjk hj hk hf4 (by rw [cJ f (by omega)]; exact (hf f hf4).1)
      rw [ev] at hC
      have c1 := cS.fx (K := fun q => q = 23 ∨ q = 24 ∨ q = 25 ∨ q = f) (fun j z => by omega) fr.fx
      have hR : ∀ f', f' < 4 → Rb n (gJ (mRep (mSave μ p d n) (wf n) f j k) f') (fun c => (cmF F f j k (2 ^ n)).1 (1024 * f' + c)) := fun f' h4 => Rb_cm m8 (hf f' h4) (fun q hq => cmF_out hjk hj hk hq) (fun z => by subst z; exact r1) (fun z => by rw [fr.j (by omega), cJ f' (by omega)])
      have hMo := c1.mo (w := vp_updL (gJ (mRep (mSave μ p d n) (wf n) f j k) 53) 0 (nI (cmF F f j k (2 ^ n)).2).toInt64) hM
      have hY := y_compress l g _ hMo hf4 hj hk hjk
      have cM := (ChM_note (v := mgT true true) hMo).f (G := (cmF F f j k (2 ^ n)).1)
      exact ⟨0, _, _, _, _, _, by decide, wt_compress l g μ hC, hY, noteA5 _ _ _ _ _ _ _, fun _ => outc cM, hD.ic hm ⟨m7, m8⟩ c1 hR cM⟩

theorem st_shift {l : Launch} {g : Gd} (hl : l.stackTraces = false) : St_shift l g Iv := by
  intro i μ p0 hi hI
  obtain ⟨n, p, d, tl, m, F, P, O, tb, hm, hD⟩ := hI
  have hO := hD.ok
  have h0 := hD.1.1
  have h1 := hD.1.2
  have hH := hD.2.1
  have hM := hD.2.2.1
  have hf := hD.2.2.2.1
  have m1 := hM.1
  have m7 := hM.2.2.2.2.2.2.1
  have m8 := hM.2.2.2.2.2.2.2
  have h1024 := pw10 m8
  have h2n := Nat.two_pow_pos n
  obtain ⟨cS, cJ⟩ := Chg_save (μ := μ) (p := p) (d := d) h0 h1
  cases ha : inI p0 (nI 0) (nI 3)
  · (have hNn := n_shift l g μ m1 m7 m8 p0 (by rw [ha]; rfl); rw [ha] at hNn; exact ⟨1, μ, _, _, _, _, by decide, wx_shift1 l g μ (z_shift1 l g μ hl hO ha), hNn, gI_s _ _ _, fun h => absurd h (by decide), hD.q5 hm _⟩)
  · obtain ⟨f, _, hf4, rfl⟩ := inI_ex (by decide) (by decide) ha
    have hf4 : f < 4 := by omega
    have hC := y_shiftC l g μ hO hH hf4
    rw [Nat.zero_add] at hC
    obtain ⟨r1, ev, fr⟩ := shift_ok (μ := mSave μ p d n) (F := F) m7 m8 hf4 (by rw [cJ f (by omega)]; exact (hf f hf4).1)
    rw [ev] at hC
    have c1 := cS.fx (K := fun q => q = 23 ∨ q = 24 ∨ q = 25 ∨ q = f) (fun j z => by omega) fr.fx
    have hR : ∀ f', f' < 4 → Rb n (gJ (raR n (wf n) f 100000 (mSave μ p d n) 0).1 f') (fun c => (sgW f n 1048577 (F, 0)).1 (1024 * f' + c)) := fun f' h4 => Rb_cm m8 (hf f' h4) (fun q hq => sgW_out hq 1048577 (F, 0)) (fun z => by subst z; exact r1) (fun z => by rw [fr.j (by omega), cJ f' (by omega)])
    have hMo := c1.mo (w := vp_updL (gJ (raR n (wf n) f 100000 (mSave μ p d n) 0).1 53) 0 (nI (sgW f n 1048577 (F, 0)).2).toInt64) hM
    have hY := y_shift l g _ hMo hf4
    have cM := (ChM_note (v := mgT true true) hMo).f (G := (sgW f n 1048577 (F, 0)).1)
    exact ⟨0, _, _, _, _, _, by decide, wt_shift l g μ hC, hY, noteA5 _ _ _ _ _ _ _, fun _ => outc cM, hD.ic hm ⟨m7, m8⟩ c1 hR cM⟩

theorem sgO_ok {F O : Nat → Bool} {n q k m : Nat} (hn : n ≤ 10) : sgO F O n q k m = oI (snF k (rowU 1024 (fun _ => false) O) m (2 ^ n)).2.1 := by
  have h1024 := pw10 hn
  unfold sgO
  by_cases z : szF (lyB F (snF k (rowU 1024 (fun _ => false) O) m (2 ^ n)).1 q 1024) q (-1) (2 ^ n) = 0
  · rw [if_pos z, sz_all] at *
    cases h : (snF k (rowU 1024 (fun _ => false) O) m (2 ^ n)).2.1 with
    | none => rfl
    | some c =>
      obtain ⟨c1, c2⟩ := (sn_in (2 ^ n)).2 c h
      have := cnt_z z c c1
      rw [lyB_in (by omega), c2] at this; cases this
  · rw [if_neg z]
theorem st_segment {l : Launch} {g : Gd} (hl : l.stackTraces = false) : St_segment l g Iv := by
  intro i μ p0 p1 p2 hi hI
  obtain ⟨n, p, d, tl, m, F, P, O, tb, hm, hD⟩ := hI
  have hO := hD.ok
  have h0 := hD.1.1
  have h1 := hD.1.2
  have hH := hD.2.1
  have hM := hD.2.2.1
  have hf := hD.2.2.2.1
  have m1 := hM.1
  have m7 := hM.2.2.2.2.2.2.1
  have m8 := hM.2.2.2.2.2.2.2
  have h1024 := pw10 m8
  have h2n := Nat.two_pow_pos n
  obtain ⟨cS, cJ⟩ := Chg_save (μ := μ) (p := p) (d := d) h0 h1
  cases ha : inI p0 (nI 0) (nI 3)
  · have hZ := wx_segment1 l g μ (z_segment1 l g μ hl hO ha (k := p1) (m := p2))
    cases hb : inI p1 (nI 0) (nI n)
    · (have hNn := n_segment1 l g μ m1 m7 m8 p0 p1 p2 hb; rw [ha] at hNn; exact ⟨1, μ, _, _, _, _, by decide, hZ, hNn, gI_s _ _ _, fun h => absurd h (by decide), hD.q5 hm _⟩)
    · by_cases hc : p2 < 0
      · (have hNn := n_segment2 l g μ m1 m7 m8 p0 p1 p2 hb hc; rw [ha] at hNn; exact ⟨1, μ, _, _, _, _, by decide, hZ, hNn, gI_s _ _ _, fun h => absurd h (by decide), hD.q5 hm _⟩)
      · obtain ⟨k, _, hk, rfl⟩ := inI_ex (by decide) (by omega) hb
        obtain ⟨q2, hq2, rfl⟩ := nn_ex hc
        by_cases hd : ch n k < q2
        · (have hNn := n_segment3 l g μ m1 m7 m8 p0 hk hq2 hd; rw [ha] at hNn; exact ⟨1, μ, _, _, _, _, by decide, hZ, hNn, gI_s _ _ _, fun h => absurd h (by decide), hD.q5 hm _⟩)
        · (have hNn := n_segment4 l g μ m1 m7 m8 p0 hk (show q2 ≤ ch n k by omega) ha; rw [ha] at hNn; exact ⟨1, μ, _, _, _, _, by decide, hZ, hNn, gI_s _ _ _, fun h => absurd h (by decide), hD.q5 hm _⟩)
  · obtain ⟨q, _, hq, rfl⟩ := inI_ex (by decide) (by decide) ha
    have hq : q < 4 := by omega
    cases hb : inI p1 (nI 0) (nI n)
    · (have hNn := n_segment1 l g μ m1 m7 m8 (nI q) p1 p2 hb; rw [ha] at hNn; exact ⟨2, μ, _, _, _, _, by decide, wx_segment2 l g μ (z_segment2 l g μ hl hO hq hb), hNn, gI_s _ _ _, fun h => absurd h (by decide), hD.q5 hm _⟩)
    · have hch : ∀ k, k ≤ n → ch n k ≤ 252 := fun k hk => ch10 n (by omega) k (by omega)
      by_cases hc : p2 < 0
      · have hNn := n_segment2 l g μ m1 m7 m8 (nI q) p1 p2 hb hc
        obtain ⟨k, _, hk, rfl⟩ := inI_ex (by decide) (by omega) hb
        have hno : inI p2 (nI 0) (nI (ch n k)) = false := by
          unfold inI; rw [decide_eq_false_iff_not]; exact fun z => absurd hc (Int32.not_lt.mpr z.1)
        (rw [ha] at hNn; exact ⟨2, μ, _, _, _, _, by decide, wx_segment2 l g μ (z_segment3 l g μ hl hO hq hk hno), hNn, gI_s _ _ _, fun h => absurd h (by decide), hD.q5 hm _⟩)
      · obtain ⟨k, _, hk, rfl⟩ := inI_ex (by decide) (by omega) hb
        obtain ⟨q2, hq2, rfl⟩ := nn_ex hc
        have hch2 := hch k hk
        by_cases hd : ch n k < q2
        · have hno : inI (nI q2) (nI 0) (nI (ch n k)) = false := by
            unfold inI; rw [decide_eq_false_iff_not]; exact fun z => absurd ((nI_leI (by omega) (by omega)).mp z.2) (by omega)
          (have hNn := n_segment3 l g μ m1 m7 m8 (nI q) hk hq2 hd; rw [ha] at hNn; exact ⟨2, μ, _, _, _, _, by decide, wx_segment2 l g μ (z_segment3 l g μ hl hO hq hk hno), hNn, gI_s _ _ _, fun h => absurd h (by decide), hD.q5 hm _⟩)
        · have hmk : q2 ≤ ch n k := by omega
          have hC := y_segmentC l g μ hO hH hq hk hmk
          rw [Nat.zero_add] at hC
          obtain ⟨hG, ev, efr'⟩ := Rb_seg (k := k) (m := q2) (μ := μ) (O := O) m8
          have efr : Fx KQ QQ μ (sgQ k (2 ^ n) 0 q2 (-1) (mClr μ 50)).1 := (efr'.mono (L := KQ) (fun j z => by unfold KQ; omega)).fx
          obtain ⟨c1, hR, _⟩ := lay_ok (p := p) (d := d) (q := q) m8 h0 h1 hf hq efr hG
          rw [ev] at hC
          have hMo := c1.mo (w := vp_updL (gJ (mLayP (sgQ k (2 ^ n) 0 q2 (-1) (mClr μ 50)).1 p d n q) 53) 0 (oI (snF k (rowU 1024 (fun _ => false) O) q2 (2 ^ n)).2.1).toInt64) hM
          have hY := y_segment l g _ hMo hq hk hmk
          rw [sgO_ok m8] at hY
          have cM := ChM_lays (v := mgT true true) (q := q) (snF k (rowU 1024 (fun _ => false) O) q2 (2 ^ n)).1 hMo
          exact ⟨0, _, _, _, _, _, by decide, wt_segment l g μ hC, hY, lays5 _ _ _ _ _ _ _ _ _, fun _ => outc cM, hD.ic hm ⟨m7, m8⟩ c1 hR cM⟩

