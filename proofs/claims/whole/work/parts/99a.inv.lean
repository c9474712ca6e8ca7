/-! what holds between the calls -/
def Hst (μ : Mm) (P : Nat → Bool) (p d : Nat) : Prop := ∀ a, a < d → ∃ en, 1 ≤ en ∧ en ≤ 10 ∧ gA μ 0 ((p + 4 - a) % 4) = nI en ∧ gA μ 7 (d - 1 - a) = nI en ∧ ∀ f, f < 4 → Rb en (gJ μ (4 + ((p + 4 - a) % 4 * 4 + f))) (fun c => P (4096 * (d - 1 - a) + (1024 * f + c)))
def Txt (μ : Mm) (tl : Nat) (tb : Nat → Nat) : Prop := gI μ 4 = nI tl ∧ gI μ 8 = nI tl ∧ tl ≤ 120 ∧ ∀ i, i < tl → gA μ 1 i = nI (tb i) ∧ gA μ 8 i = nI (tb i) ∧ tb i < 128
def IvD (μ : Mm) (n p d tl m : Nat) (F P O : Nat → Bool) (tb : Nat → Nat) : Prop :=
  (gI μ 0 = nI n ∧ gI μ 1 = nI (wf n)) ∧ Ok2 μ p d ∧ Mo μ F P O n d ∧ (∀ f, f < 4 → Rb n (gJ μ f) (fun c => F (1024 * f + c))) ∧ Hst μ P p d ∧ Txt μ tl tb ∧ Me m μ
def Iv (i : Nat) (μ : Mm) : Prop := ∃ (n p d tl m : Nat) (F P O : Nat → Bool) (tb : Nat → Nat), m ≤ 1000 * i ∧ IvD μ n p d tl m F P O tb
theorem IvD.ok {μ : Mm} {n p d tl m : Nat} {F P O : Nat → Bool} {tb : Nat → Nat} (h : IvD μ n p d tl m F P O tb) : Ok μ n (wf n) := by
  obtain ⟨⟨a, b⟩, _, ⟨_, _, _, _, _, _, e1, e2⟩, _⟩ := h
  refine ⟨a, b, e2, wf_le e2, fun e he h6 => ?_, e1⟩
  unfold wf
  rw [if_neg (by omega)]
  exact Nat.pow_le_pow_right (by decide) (by omega)
theorem Iv.w {i : Nat} {μ : Mm} (h : Iv i μ) : Iv (i + 5) μ := by
  obtain ⟨n, p, d, tl, m, F, P, O, tb, a, b⟩ := h
  exact ⟨n, p, d, tl, m, F, P, O, tb, by omega, b⟩
/-- a call that changes no state -/
def Eqv (μ μ' : Mm) : Prop := (∀ k, k ≠ 5 → k ≠ 9 → gI μ' k = gI μ k) ∧ (∀ k, k ≠ 2 → k ≠ 3 → k ≠ 4 → k ≠ 9 → k ≠ 10 → k ≠ 11 → gA μ' k = gA μ k) ∧ ∀ j, j < 20 → gJ μ' j = gJ μ j
theorem Eqv.refl (μ : Mm) : Eqv μ μ := ⟨fun _ _ _ => rfl, fun _ _ _ _ _ _ _ => rfl, fun _ _ => rfl⟩
theorem Eqv.trans {a b c : Mm} (h : Eqv a b) (k : Eqv b c) : Eqv a c := ⟨fun q x y => (k.1 q x y).trans (h.1 q x y), fun q a1 a2 a3 a4 a5 a6 => (k.2.1 q a1 a2 a3 a4 a5 a6).trans (h.2.1 q a1 a2 a3 a4 a5 a6), fun j hj => (k.2.2 j hj).trans (h.2.2 j hj)⟩
theorem Fx.eqv {μ μ' : Mm} (h : Fx KQ QQ μ μ') : Eqv μ μ' := ⟨fun k _ _ => h.1 k, fun k a b c _ _ _ => h.2.2.1 k (by unfold QQ; omega), fun j hj => h.2.2.2 j (by unfold KQ; omega)⟩
theorem Fm.eqv {μ μ' : Mm} (h : Fm μ μ') : Eqv μ μ' := ⟨h.1, fun k _ _ _ _ a b => h.2.1 k a b, fun j _ => h.2.2 j⟩
theorem Eqv_out (μ : Mm) (v : Nat → Int64) : Eqv μ (sJ μ 53 v) := ⟨fun _ _ _ => rfl, fun _ _ _ _ _ _ _ => rfl, fun j hj => gJ_n μ v (by omega)⟩
theorem Eqv_5 (μ : Mm) (v : Int32) : Eqv μ (sI μ 5 v) := ⟨fun k h5 _ => gI_n μ v h5, fun _ _ _ _ _ _ _ => rfl, fun _ _ => rfl⟩
theorem Me.fr {m : Nat} {μ μ' : Mm} (h : Me m μ) (h1 : gI μ' 9 = gI μ 9) (h2 : gA μ' 10 = gA μ 10) : Me m μ' := ⟨h1.trans h.1, fun c hc => by rw [h2]; exact h.2 c hc⟩
theorem Txt.fr {μ μ' : Mm} {tl : Nat} {tb : Nat → Nat} (h : Txt μ tl tb) (h1 : gI μ' 4 = gI μ 4) (h2 : gI μ' 8 = gI μ 8) (h3 : gA μ' 1 = gA μ 1) (h4 : gA μ' 8 = gA μ 8) : Txt μ' tl tb := ⟨h1.trans h.1, h2.trans h.2.1, h.2.2.1, by rw [h3, h4]; exact h.2.2.2⟩
theorem Hst.fr {μ μ' : Mm} {P : Nat → Bool} {p d : Nat} (h : Hst μ P p d) (h1 : gA μ' 0 = gA μ 0) (h2 : gA μ' 7 = gA μ 7) (h3 : ∀ j, j < 20 → gJ μ' j = gJ μ j) : Hst μ' P p d := fun a ha => by
  obtain ⟨en, e1, e2, e3, e4, e5⟩ := h a ha
  refine ⟨en, e1, e2, by rw [h1]; exact e3, by rw [h2]; exact e4, fun f hf => ?_⟩
  rw [h3 _ (by omega)]; exact e5 f hf
theorem IvD.q {μ μ' : Mm} {n p d tl m m' : Nat} {F P O O' : Nat → Bool} {tb : Nat → Nat} (h : IvD μ n p d tl m F P O tb) (e : Eqv μ μ') (hO : gA μ' 9 = bR O') (hm : Me m' μ') : IvD μ' n p d tl m' F P O' tb := by
  obtain ⟨⟨a, b⟩, ⟨o1, o2, o3, o4⟩, ⟨m1, m2, m3, m4, m5, _, m7, m8⟩, hf, hh, ht, _⟩ := h
  have gi : ∀ k, k ≠ 5 → k ≠ 9 → gI μ' k = gI μ k := e.1
  refine ⟨⟨(gi 0 (by decide) (by decide)).trans a, (gi 1 (by decide) (by decide)).trans b⟩, ⟨(gi 2 (by decide) (by decide)).trans o1, (gi 3 (by decide) (by decide)).trans o2, o3, o4⟩, ⟨(gi 6 (by decide) (by decide)).trans m1, (gi 7 (by decide) (by decide)).trans m2, m3, (e.2.1 5 (by decide) (by decide) (by decide) (by decide) (by decide) (by decide)).trans m4, (e.2.1 6 (by decide) (by decide) (by decide) (by decide) (by decide) (by decide)).trans m5, hO, m7, m8⟩, fun f h4 => by rw [e.2.2 f (by omega)]; exact hf f h4, ?_, ?_, hm⟩
  · exact hh.fr (e.2.1 0 (by decide) (by decide) (by decide) (by decide) (by decide) (by decide)) (e.2.1 7 (by decide) (by decide) (by decide) (by decide) (by decide) (by decide)) e.2.2
  · exact ht.fr (gi 4 (by decide) (by decide)) (gi 8 (by decide) (by decide)) (e.2.1 1 (by decide) (by decide) (by decide) (by decide) (by decide) (by decide)) (e.2.1 8 (by decide) (by decide) (by decide) (by decide) (by decide) (by decide))
/-- a call that saves, and changes -/
def Chg (μ : Mm) (p d n n' : Nat) (M : Mm) : Prop := (gI M 0 = nI n' ∧ gI M 1 = nI (wf n')) ∧ (gI M 2 = nI (min (d + 1) 4) ∧ gI M 3 = nI ((p + 1) % 4)) ∧ (∀ k, 4 ≤ k → gI M k = gI μ k) ∧ gA M 0 = upd (gA μ 0) ((p + 1) % 4) (nI n) ∧ (∀ k, 1 ≤ k → k ≠ 2 → k ≠ 3 → k ≠ 4 → gA M k = gA μ k) ∧ (∀ j, 4 ≤ j → j < 20 → (∀ f, f < 4 → j ≠ 4 + ((p + 1) % 4 * 4 + f)) → gJ M j = gJ μ j) ∧ ∀ f, f < 4 → gJ M (4 + ((p + 1) % 4 * 4 + f)) = rowU 16 (gJ μ f) (gJ μ (4 + ((p + 1) % 4 * 4 + f)))
def ChM (μ : Mm) (F P : Nat → Bool) (n d n' : Nat) (F' : Nat → Bool) (M : Mm) : Prop := (gI M 6 = nI n' ∧ gI M 7 = nI (min d 3 + 1)) ∧ (∀ k, k ≠ 5 → k ≠ 6 → k ≠ 7 → gI M k = gI μ k) ∧ (gA M 5 = bR F' ∧ gA M 6 = bR (ntP F P d) ∧ gA M 7 = ntN (gA μ 7) n d) ∧ (∃ O', gA M 9 = bR O') ∧ (∀ k, k ≠ 5 → k ≠ 6 → k ≠ 7 → k ≠ 9 → gA M k = gA μ k) ∧ ∀ j, gJ M j = gJ μ j
theorem Rb_cpy {n : Nat} (hn : n ≤ 10) {y : Nat → Int64} {G : Nat → Bool} (h : Rb n y G) (x : Nat → Int64) : Rb n (rowU 16 y x) G := ⟨Rq_cpy hn h.1 x, h.2⟩
theorem Rb.cg {n : Nat} {x : Nat → Int64} {G H : Nat → Bool} (hn : n ≤ 10) (h : Rb n x G) (e : ∀ c, c < 1024 → G c = H c) : Rb n x H := by
  have := pw10 hn
  exact ⟨h.1.cg (fun c hc => by rw [e c (by omega)]), fun c hc hge => by rw [← e c hc]; exact h.2 c hc hge⟩
theorem ntP_new {F P : Nat → Bool} {d k : Nat} (hk : k < 4096) : ntP F P d (4096 * min d 3 + k) = F k := by
  unfold ntP cpB
  rw [if_pos ⟨by omega, by omega⟩]; congr 1; omega
theorem ntP_old {F P : Nat → Bool} {d a k : Nat} (hd : d ≤ 4) (ha : 1 ≤ a) (hq : a ≤ min d 3) (hk : k < 4096) : ntP F P d (4096 * (min d 3 - a) + k) = P (4096 * (d - a) + k) := by
  unfold ntP cpB ntQ
  rw [if_neg (by omega)]
  by_cases z : d = 4
  · rw [if_pos z, rowU_lt _ _ (by omega)]; congr 1; omega
  · rw [if_neg z]; congr 1; omega
theorem ntN_new {r : Nat → Int32} {n d : Nat} : ntN r n d (min d 3) = nI n := by unfold ntN; simp [upd]
theorem ntN_old {r : Nat → Int32} {n d a : Nat} (hd : d ≤ 4) (ha : 1 ≤ a) (hq : a ≤ min d 3) : ntN r n d (min d 3 - a) = r (d - a) := by
  unfold ntN
  have hne : ¬ min d 3 - a = min d 3 := by omega
  by_cases z : d = 4
  · rw [if_pos z]
    show (if min d 3 - a = min d 3 then _ else _) = _
    rw [if_neg hne, rowU_lt _ _ (by omega)]; congr 1; omega
  · rw [if_neg z]
    show (if min d 3 - a = min d 3 then _ else _) = _
    rw [if_neg hne]; congr 1; omega
theorem IvD.ch {μ M μ2 : Mm} {n p d tl m n' : Nat} {F P O F' : Nat → Bool} {tb : Nat → Nat} {w : Nat → Int64} (h : IvD μ n p d tl m F P O tb) (hn' : 1 ≤ n' ∧ n' ≤ 10) (hC : Chg μ p d n n' M) (hR : ∀ f, f < 4 → Rb n' (gJ M f) (fun c => F' (1024 * f + c))) (hM : ChM (sJ M 53 w) F P n d n' F' μ2) : ∃ O', IvD μ2 n' ((p + 1) % 4) (min (d + 1) 4) tl m F' (ntP F P d) O' tb := by
  obtain ⟨⟨a, b⟩, ⟨o1, o2, o3, o4⟩, ⟨m1, m2, m3, m4, m5, m6, m7, m8⟩, hf, hh, ht, hm⟩ := h
  obtain ⟨⟨c1, c2⟩, ⟨c3, c4⟩, c5, c6, c7, c8, c9⟩ := hC
  obtain ⟨⟨d1, d2⟩, d3, ⟨d4, d5, d6⟩, ⟨O', d7⟩, d8, d9⟩ := hM
  have gi : ∀ k, k ≠ 5 → k ≠ 6 → k ≠ 7 → gI μ2 k = gI M k := d3
  have ga : ∀ k, k ≠ 5 → k ≠ 6 → k ≠ 7 → k ≠ 9 → gA μ2 k = gA M k := d8
  have gj : ∀ j, j < 20 → gJ μ2 j = gJ M j := fun j hj => (d9 j).trans (gJ_n M w (by omega))
  have e7 : gA (sJ M 53 w) 7 = gA μ 7 := c7 7 (by decide) (by decide) (by decide) (by decide)
  have hmin : min d 3 + 1 = min (d + 1) 4 := by omega
  refine ⟨O', ⟨(gi 0 (by decide) (by decide) (by decide)).trans c1, (gi 1 (by decide) (by decide) (by decide)).trans c2⟩, ⟨(gi 2 (by decide) (by decide) (by decide)).trans c3, (gi 3 (by decide) (by decide) (by decide)).trans c4, Nat.mod_lt _ (by decide), by omega⟩, ⟨d1, by rw [d2, hmin], by omega, d4, d5, d7, hn'.1, hn'.2⟩, fun f h4 => by rw [gj f (by omega)]; exact hR f h4, ?_, ?_, ?_⟩
  · intro x hx
    have e0 : gA μ2 0 = upd (gA μ 0) ((p + 1) % 4) (nI n) := (ga 0 (by decide) (by decide) (by decide) (by decide)).trans c6
    rcases Nat.eq_zero_or_pos x with q | q
    · subst q
      have hs : ((p + 1) % 4 + 4 - 0) % 4 = (p + 1) % 4 := by omega
      have hi : min (d + 1) 4 - 1 - 0 = min d 3 := by omega
      rw [hs, hi]
      refine ⟨n, m7, m8, by rw [e0]; simp [upd], by rw [d6, ntN_new], fun f h4 => ?_⟩
      rw [gj _ (by omega), c9 f h4]
      refine Rb.cg m8 (Rb_cpy m8 (hf f h4) _) (fun c hc => (ntP_new (by omega)).symm)
    · obtain ⟨en, e1, e2, e3, e4, e5⟩ := hh (x - 1) (by omega)
      have hs : ((p + 1) % 4 + 4 - x) % 4 = (p + 4 - (x - 1)) % 4 := by omega
      have hi : min (d + 1) 4 - 1 - x = min d 3 - x := by omega
      have hi2 : d - 1 - (x - 1) = d - x := by omega
      have hne : ¬ (p + 4 - (x - 1)) % 4 = (p + 1) % 4 := by omega
      rw [hs, hi]
      rw [hi2] at e4 e5
      refine ⟨en, e1, e2, ?_, by rw [d6, e7, ntN_old o4 q (by omega)]; exact e4, fun f h4 => ?_⟩
      · rw [e0]
        show (if (p + 4 - (x - 1)) % 4 = (p + 1) % 4 then _ else _) = _
        rw [if_neg hne]; exact e3
      · rw [gj _ (by omega), c8 _ (by omega) (by omega) (fun f' hf' => by omega)]
        exact Rb.cg e2 (e5 f h4) (fun c hc => (ntP_old o4 q (by omega) (by omega)).symm)
  · exact ht.fr ((gi 4 (by decide) (by decide) (by decide)).trans (c5 4 (by decide))) ((gi 8 (by decide) (by decide) (by decide)).trans (c5 8 (by decide))) ((ga 1 (by decide) (by decide) (by decide) (by decide)).trans (c7 1 (by decide) (by decide) (by decide) (by decide))) ((ga 8 (by decide) (by decide) (by decide) (by decide)).trans (c7 8 (by decide) (by decide) (by decide) (by decide)))
  · exact hm.fr ((gi 9 (by decide) (by decide) (by decide)).trans (c5 9 (by decide))) ((ga 10 (by decide) (by decide) (by decide) (by decide)).trans (c7 10 (by decide) (by decide) (by decide) (by decide)))
/-- what save does -/
theorem svC (q : Nat) (μ : Mm) : ∀ k, k ≤ 4 → ((∀ j, gI (mSvC q μ k) j = gI μ j) ∧ (∀ j, gA (mSvC q μ k) j = gA μ j)) ∧ (∀ j, (∀ f, f < k → j ≠ 4 + (q * 4 + f)) → gJ (mSvC q μ k) j = gJ μ j) ∧ ∀ f, f < k → gJ (mSvC q μ k) (4 + (q * 4 + f)) = rowU 16 (gJ μ f) (gJ μ (4 + (q * 4 + f)))
  | 0, _ => ⟨⟨fun _ => rfl, fun _ => rfl⟩, fun _ _ => rfl, fun f hf => absurd hf (Nat.not_lt_zero f)⟩
  | k + 1, hk => by
    obtain ⟨⟨a1, a2⟩, b, c⟩ := svC q μ k (by omega)
    have e : mSvC q μ (k + 1) = sJ (mSvC q μ k) (4 + (q * 4 + k)) (rowU 16 (gJ (mSvC q μ k) (0 + k)) (gJ (mSvC q μ k) (4 + (q * 4 + k)))) := rfl
    rw [e]
    refine ⟨⟨a1, a2⟩, fun j hj => ?_, fun f hf => ?_⟩
    · rw [gJ_n _ _ (hj k (by omega))]; exact b j (fun f hf => hj f (by omega))
    · rcases Nat.lt_or_eq_of_le (Nat.le_of_lt_succ hf) with z | z
      · rw [gJ_n _ _ (by omega)]; exact c f z
      · subst z
        rw [gJ_s, Nat.zero_add, b f (fun f' hf' => by omega), b _ (fun f' hf' => by omega)]
theorem Chg_save {μ : Mm} {p d n : Nat} (h0 : gI μ 0 = nI n) (h1 : gI μ 1 = nI (wf n)) : Chg μ p d n n (mSave μ p d n) ∧ ∀ j, j < 4 ∨ 20 ≤ j → gJ (mSave μ p d n) j = gJ μ j := by
  have hp := Nat.mod_lt (p + 1) (show 4 > 0 by decide)
  unfold mSave
  obtain ⟨⟨a1, a2⟩, b, c⟩ := svC ((p + 1) % 4) (sA (sI μ 3 (nI ((p + 1) % 4))) 0 (upd (gA μ 0) ((p + 1) % 4) (nI n))) 4 (Nat.le_refl _)
  generalize mSvC ((p + 1) % 4) (sA (sI μ 3 (nI ((p + 1) % 4))) 0 (upd (gA μ 0) ((p + 1) % 4) (nI n))) 4 = X at *
  have gi : ∀ k, k ≠ 2 → k ≠ 3 → gI (sI X 2 (nI (min (d + 1) 4))) k = gI μ k := fun k h2 h3 => by
    rw [gI_n _ _ h2, a1, gI_A, gI_n _ _ h3]
  have gj : ∀ j, gJ (sI X 2 (nI (min (d + 1) 4))) j = gJ X j := fun j => gJ_I _ _ _ _
  have gj2 : ∀ j, gJ (sA (sI μ 3 (nI ((p + 1) % 4))) 0 (upd (gA μ 0) ((p + 1) % 4) (nI n))) j = gJ μ j := fun j => (gJ_A _ _ _ _).trans (gJ_I _ _ _ _)
  have e3 : gI (sI X 2 (nI (min (d + 1) 4))) 3 = nI ((p + 1) % 4) := by rw [gI_n _ _ (by decide), a1, gI_A, gI_s]
  have e0 : gA (sI X 2 (nI (min (d + 1) 4))) 0 = upd (gA μ 0) ((p + 1) % 4) (nI n) := by rw [gA_I, a2, gA_s]
  have ek : ∀ k, 1 ≤ k → gA (sI X 2 (nI (min (d + 1) 4))) k = gA μ k := fun k hk => by rw [gA_I, a2, gA_n _ _ (by omega), gA_I]
  refine ⟨⟨⟨(gi 0 (by decide) (by decide)).trans h0, (gi 1 (by decide) (by decide)).trans h1⟩, ⟨gI_s _ _ _, e3⟩, fun k hk => gi k (by omega) (by omega), e0, fun k hk _ _ _ => ek k hk, fun j h4 h20 hj => ?_, fun f hf => ?_⟩, fun j hj => ?_⟩
  · rw [gj, b j hj, gj2]
  · rw [gj, c f hf, gj2, gj2]
  · rw [gj, b j (fun f hf => by omega), gj2]
theorem Chg.fx {μ M M' : Mm} {p d n n' : Nat} (h : Chg μ p d n n' M) {K : Nat → Prop} (hK : ∀ j, K j → j < 4 ∨ 20 ≤ j) (f : Fx K QQ M M') : Chg μ p d n n' M' := by
  obtain ⟨⟨c1, c2⟩, ⟨c3, c4⟩, c5, c6, c7, c8, c9⟩ := h
  refine ⟨⟨(f.1 0).trans c1, (f.1 1).trans c2⟩, ⟨(f.1 2).trans c3, (f.1 3).trans c4⟩, fun k hk => (f.1 k).trans (c5 k hk), (f.2.2.1 0 (by unfold QQ; omega)).trans c6, fun k h1 h2 h3 h4 => (f.2.2.1 k (by unfold QQ; omega)).trans (c7 k h1 h2 h3 h4), fun j h4 h20 hj => ?_, fun q hq => ?_⟩
  · rw [f.j (fun z => by have := hK j z; omega)]; exact c8 j h4 h20 hj
  · rw [f.j (fun z => by have := hK _ z; omega)]; exact c9 q hq
/-- what note does -/
theorem ChM_note {μ : Mm} {F P O : Nat → Bool} {n d v : Nat} (hM : Mo μ F P O n d) : ChM μ F P n d n F (mNote (sI μ 5 (nI v)) F P n d) := by
  obtain ⟨m1, m2, m3, m4, m5, m6, m7, m8⟩ := hM
  unfold mNote
  refine ⟨⟨?_, gI_s _ _ _⟩, fun k h5 h6 h7 => ?_, ⟨?_, ?_, ?_⟩, ⟨O, ?_⟩, fun k h5 h6 h7 h9 => ?_, fun j => rfl⟩
  · rw [gI_n _ _ (by decide), gI_A, gI_A, gI_n _ _ (by decide)]; exact m1
  · rw [gI_n _ _ h7, gI_A, gI_A, gI_n _ _ h5]
  · show gA (sA (sA _ 6 _) 7 _) 5 = _
    rw [gA_n _ _ (by decide), gA_n _ _ (by decide)]; exact m4
  · show gA (sA (sA _ 6 _) 7 _) 6 = _
    rw [gA_n _ _ (by decide), gA_s]
  · show gA (sA (sA _ 6 _) 7 _) 7 = _
    rw [gA_s]; rfl
  · show gA (sA (sA _ 6 _) 7 _) 9 = _
    rw [gA_n _ _ (by decide), gA_n _ _ (by decide)]; exact m6
  · show gA (sA (sA _ 6 _) 7 _) k = _
    rw [gA_n _ _ h7, gA_n _ _ h6]; rfl
theorem ChM.f {μ M : Mm} {F P F' G : Nat → Bool} {n d n' : Nat} (h : ChM μ F P n d n' F' M) : ChM μ F P n d n' G (sA M 5 (bR G)) := by
  obtain ⟨⟨d1, d2⟩, d3, ⟨d4, d5, d6⟩, ⟨O', d7⟩, d8, d9⟩ := h
  exact ⟨⟨d1, d2⟩, d3, ⟨gA_s _ _ _, (gA_n M _ (by decide)).trans d5, (gA_n M _ (by decide)).trans d6⟩, ⟨O', (gA_n M _ (by decide)).trans d7⟩, fun k h5 h6 h7 h9 => (gA_n M _ h5).trans (d8 k h5 h6 h7 h9), d9⟩
theorem ChM.n {μ M : Mm} {F P F' : Nat → Bool} {n d n' e : Nat} (h : ChM μ F P n d n' F' M) : ChM μ F P n d e F' (sI M 6 (nI e)) := by
  obtain ⟨⟨d1, d2⟩, d3, ⟨d4, d5, d6⟩, ⟨O', d7⟩, d8, d9⟩ := h
  exact ⟨⟨gI_s _ _ _, (gI_n M _ (by decide)).trans d2⟩, fun k h5 h6 h7 => (gI_n M _ h6).trans (d3 k h5 h6 h7), ⟨d4, d5, d6⟩, ⟨O', d7⟩, d8, d9⟩
/-- lays: the model lays O at q -/
theorem ChM_lays {μ : Mm} {F P O : Nat → Bool} {n d v q : Nat} (G : Nat → Bool) (hM : Mo μ F P O n d) : ChM μ F P n d n (lyB F G q 1024) (mLays (sA (sI μ 5 (nI v)) 9 (bR G)) F P G n d q) := by
  obtain ⟨m1, m2, m3, m4, m5, m6, m7, m8⟩ := hM
  have hM2 : Mo (sA μ 9 (bR G)) F P G n d := ⟨m1, m2, m3, (gA_n μ _ (by decide)).trans m4, (gA_n μ _ (by decide)).trans m5, gA_s _ _ _, m7, m8⟩
  have h := ChM_note (v := v) hM2
  obtain ⟨⟨d1, d2⟩, d3, ⟨d4, d5, d6⟩, ⟨O', d7⟩, d8, d9⟩ := h.f (G := lyB F G q 1024)
  exact ⟨⟨d1, d2⟩, d3, ⟨d4, d5, d6⟩, ⟨O', d7⟩, fun k h5 h6 h7 h9 => (d8 k h5 h6 h7 h9).trans (gA_n μ _ h9), d9⟩
theorem lyB_in {F G : Nat → Bool} {q c : Nat} (hc : c < 1024) : lyB F G q 1024 (1024 * q + c) = G c := by
  unfold lyB; rw [if_pos ⟨by omega, by omega⟩]; congr 1; omega
theorem lyB_out {F G : Nat → Bool} {q f c : Nat} (hc : c < 1024) (hf : f ≠ q) : lyB F G q 1024 (1024 * f + c) = F (1024 * f + c) := by
  unfold lyB; rw [if_neg (by omega)]
/-- result is laid at a place -/
theorem lay_ok {μ μ' : Mm} {n p d q : Nat} {F G : Nat → Bool} (hn : n ≤ 10) (h0 : gI μ 0 = nI n) (h1 : gI μ 1 = nI (wf n)) (hf : ∀ f, f < 4 → Rb n (gJ μ f) (fun c => F (1024 * f + c))) (hq : q < 4) (e : Fx KQ QQ μ μ') (hG : Rb n (gJ μ' 50) G) : Chg μ p d n n (mLayP μ' p d n q) ∧ (∀ f, f < 4 → Rb n (gJ (mLayP μ' p d n q) f) (fun c => lyB F G q 1024 (1024 * f + c))) ∧ ct (mLayP μ' p d n q) (wf n) 50 = szF (lyB F G q 1024) q (-1) (2 ^ n) := by
  obtain ⟨c, cj⟩ := Chg_save (μ := μ') (p := p) (d := d) (n := n) ((e.1 0).trans h0) ((e.1 1).trans h1)
  have f1 : Fs (fun j => j = q) (mSave μ' p d n) (mLayP μ' p d n q) := Fs_c _ _ _
  have c2 : Chg μ' p d n n (mLayP μ' p d n q) := c.fx (K := fun j => j = q) (fun j z => by omega) f1.fx
  have hG2 : Rb n (gJ (mSave μ' p d n) 50) G := by rw [cj 50 (by omega)]; exact hG
  have h1024 := pw10 hn
  refine ⟨?_, fun f h4 => ?_, ?_⟩
  · obtain ⟨⟨x1, x2⟩, ⟨x3, x4⟩, x5, x6, x7, x8, x9⟩ := c2
    refine ⟨⟨x1, x2⟩, ⟨x3, x4⟩, fun k hk => (x5 k hk).trans (e.1 k), by rw [x6, e.2.2.1 0 (by unfold QQ; omega)], fun k a1 a2 a3 a4 => (x7 k a1 a2 a3 a4).trans (e.2.2.1 k (by unfold QQ; omega)), fun j a1 a2 a3 => (x8 j a1 a2 a3).trans (e.j (by unfold KQ; omega)), fun f h4 => ?_⟩
    rw [x9 f h4, e.j (by unfold KQ; omega), e.j (by unfold KQ; omega)]
  · by_cases z : f = q
    · subst z
      unfold mLayP mCpy
      rw [gJ_s]
      exact Rb.cg hn (Rb_cpy hn hG2 _) (fun c hc => (lyB_in hc).symm)
    · rw [f1.j z, cj f (by omega), e.j (by unfold KQ; omega)]
      exact Rb.cg hn (hf f h4) (fun c hc => (lyB_out hc z).symm)
  · unfold ct
    rw [f1.j (by omega), sz_all]
    exact ct_P hn hG2.1 (fun c hc => by rw [lyB_in (by omega)])
