/-! the checksum -/
theorem fold_cg {f g : Nat → Int64} {h : Int64} : ∀ {k : Nat}, (∀ i, i < k → f i = g i) → foldx f h k = foldx g h k
  | 0, _ => rfl
  | k + 1, e => by rw [foldx, foldx, fold_cg (fun i hi => e i (by omega)), e k (by omega)]
section DG
variable {n : Nat} {f : Nat} {F : Nat → Bool}
theorem mm1_ok (hn : n ≤ 10) {x : Nat → Int64} (h : Rq n x (fun c => F (1024 * f + c) = true)) (h0 : Int64) : ∀ s, s ≤ 2 ^ n → foldx (fun i => (atR x (wf n) 0 i).toInt64) h0 (cnt (fun c => F (1024 * f + c)) s) = hm1 F f h0 s
  | 0, _ => rfl
  | s + 1, hs => by
    have h1024 := pw10 hn
    rw [hm1, cnt_succ]
    by_cases q : F (1024 * f + s) = true
    · rw [if_pos q, q]
      show foldx _ h0 (_ + 1) = _
      rw [foldx, mm1_ok hn h h0 s (by omega)]
      have hN := Nth_at (G := fun c => F (1024 * f + c)) hn h (cnt (fun c => F (1024 * f + c)) s)
      have e : atR x (wf n) 0 (cnt (fun c => F (1024 * f + c)) s) = nI s := Nth_u hN (Or.inr ⟨s, by omega, rfl, q, rfl⟩)
      rw [e, nI_l (by omega)]
    · rw [if_neg q, Bool.eq_false_iff.mpr q]
      exact mm1_ok hn h h0 s (by omega)
theorem mm2_ok (hn : n ≤ 10) {M : Mm} (h : Rq n (gJ M f) (fun c => F (1024 * f + c) = true)) (h0 : Int64) : mm2 M (wf n) f h0 n = hm2 F n f (hm1 F f (mx h0 (lN (szF F f (-1) (2 ^ n)))) (2 ^ n)) n := by
  have hct : ct M (wf n) f = cnt (fun c => F (1024 * f + c)) (2 ^ n) := ct_B hn h
  unfold mm2 mm1
  rw [hct, sz_all, mm1_ok hn h _ (2 ^ n) (Nat.le_refl _)]
  generalize hm1 F f _ (2 ^ n) = h1
  have key : ∀ k, foldx (fun e => lN (chl M (wf n) f e)) h1 k = hm2 F n f h1 k := by
    intro k
    induction k with
    | zero => rfl
    | succ k ih =>
      rw [foldx, hm2, ih, dg_ok]
      congr 2
      unfold chl
      exact chl_ok (G := fun c => F (1024 * f + c)) hn h
  exact key n
theorem mpS_ok (h1n : 1 ≤ n) (hn : n ≤ 10) (hf : f < 4) {M : Mm} (h : Rq n (gJ M f) (fun c => F (1024 * f + c) = true)) (h0 : Int64) : ∀ k, k ≤ 6 → (mpS n (wf n) f (M, h0) k).2 = hm3 F n f h0 k ∧ Fs KQ M (mpS n (wf n) f (M, h0) k).1
  | 0, _ => ⟨rfl, Fs.refl _ _⟩
  | k + 1, hk => by
    obtain ⟨a, b⟩ := mpS_ok h1n hn hf h h0 k (by omega)
    obtain ⟨c, d⟩ := hp_ok (μ := (mpS n (wf n) f (M, h0) k).1) (p := k) h1n hn hf (by omega) (by rw [b.j (by unfold KQ; omega)]; exact h)
    refine ⟨?_, b.trans d⟩
    show mx (mpS n (wf n) f (M, h0) k).2 (lN (hpA (mpS n (wf n) f (M, h0) k).1 n (wf n) f k).toNat) = mx (hm3 F n f h0 k) _
    rw [a, c]
    congr 2
    cases hlO F n f k (2 ^ n) <;> rfl
theorem ms2_ok (hn : n ≤ 10) (hf : f < 4) {M : Mm} (h : Rq n (gJ M f) (fun c => F (1024 * f + c) = true)) (h0 : Int64) : ∀ k, k ≤ n → (ms2 n (wf n) f (M, h0) k).2 = hm5 F n f h0 k ∧ Fs KQ M (ms2 n (wf n) f (M, h0) k).1
  | 0, _ => ⟨rfl, Fs.refl _ _⟩
  | k + 1, hk => by
    obtain ⟨a, b⟩ := ms2_ok hn hf h h0 k (by omega)
    obtain ⟨c, d⟩ := ex_ok (μ := (ms2 n (wf n) f (M, h0) k).1) (lv := k + 1) hn hf (by omega) hk (by rw [b.j (by unfold KQ; omega)]; exact h)
    refine ⟨?_, b.trans d⟩
    show mx (ms2 n (wf n) f (M, h0) k).2 (exA (ms2 n (wf n) f (M, h0) k).1 n (wf n) f (k + 1)).toInt64 = mx (hm5 F n f h0 k) _
    rw [a, c]
theorem fsV_ok (b : Option Nat) : (dmI b).toInt64 = fsV b := by
  cases b with
  | none => rfl
  | some c => exact nI_l (by have := b10_l c; omega)
theorem hm4_ok {r : Nat → Int32} {x : Nat → Int64} {h : Int64} : ∀ k, (∀ i, i < k → (x i).toInt32 = r i) → foldx (fun c => (x c).toInt32.toInt64) h k = hm4 r h k
  | 0, _ => rfl
  | k + 1, e => by rw [foldx, hm4, hm4_ok k (fun i hi => e i (by omega)), e k (by omega)]
theorem fam_ok (h1n : 1 ≤ n) (hn : n ≤ 10) (hf : f < 4) {M N : Mm} {m : Nat} (h : Rq n (gJ M f) (fun c => F (1024 * f + c) = true)) (hN : Me m N) (hm : m + 1024 < 2 ^ 31) (h0 : Int64) : (msT (mpM (mmM M (wf n) f) n (wf n) f (mm2 M (wf n) f h0 n)) n (wf n) f (mpA (mmM M (wf n) f) n (wf n) f (mm2 M (wf n) f h0 n))).2 = gL (mfM N F n f h0) 2 ∧ Fx KQ QQ M (msT (mpM (mmM M (wf n) f) n (wf n) f (mm2 M (wf n) f h0 n)) n (wf n) f (mpA (mmM M (wf n) f) n (wf n) f (mm2 M (wf n) f h0 n))).1 ∧ Fm N (mfM N F n f h0) ∧ ∃ m', m' ≤ m + 1024 ∧ Me m' (mfM N F n f h0) := by
  have f0 : Fx KQ QQ M (mmM M (wf n) f) := ⟨fun _ => rfl, fun _ => rfl, fun k hk => gA_n M _ (fun z => hk (by unfold QQ; omega)), fun _ _ => rfl⟩
  have h1 : Rq n (gJ (mmM M (wf n) f) f) (fun c => F (1024 * f + c) = true) := h
  obtain ⟨p1, p2⟩ := mpS_ok h1n hn hf h1 (mm2 M (wf n) f h0 n) 6 (Nat.le_refl _)
  generalize hM1 : mmM M (wf n) f = M1 at *
  have p2' : Fs KQ M1 (mpM M1 n (wf n) f (mm2 M (wf n) f h0 n)) := p2
  have h2 : Rq n (gJ (mpM M1 n (wf n) f (mm2 M (wf n) f h0 n)) f) (fun c => F (1024 * f + c) = true) := by rw [p2'.j (by unfold KQ; omega)]; exact h1
  have eH : (mpS n (wf n) f (M1, mm2 M (wf n) f h0 n) 6).2 = mfH F n f h0 := by rw [p1, mm2_ok hn h]; rfl
  have eA : mpA M1 n (wf n) f (mm2 M (wf n) f h0 n) = mx (mx (mfH F n f h0) (lN (wgF F f n (n + 1)).1)) (lN (wgF F f n (n + 1)).2) := by
    unfold mpA
    rw [eH, wt_ok hn h2 false, wt_ok hn h2 true]; rfl
  rw [eA]
  generalize hM2 : mpM M1 n (wf n) f (mm2 M (wf n) f h0 n) = M2 at *
  generalize hX : mx (mx (mfH F n f h0) (lN (wgF F f n (n + 1)).1)) (lN (wgF F f n (n + 1)).2) = X at *
  -- the model's memory
  have hNW : Me m (mfW N F n f h0) := hN.fr rfl rfl
  have fNW : Fm N (mfW N F n f h0) := ⟨fun _ _ _ => rfl, fun _ _ _ => rfl, fun _ => rfl⟩
  obtain ⟨s1, s2, s3, s4, m', s5, s6⟩ := shat_ok (M := mfW N F n f h0) hn hf h2 hNW hm
  have h3 : Rq n (gJ (flM M2 n (wf n) f) f) (fun c => F (1024 * f + c) = true) := by rw [s3.j (by unfold KQ; omega)]; exact h2
  obtain ⟨u1, u2⟩ := sun_ok hn hf h3
  have h4 : Rq n (gJ (lcF n (wf n) f (2 ^ n) 0 0 (flM M2 n (wf n) f)).1 f) (fun c => F (1024 * f + c) = true) := by rw [u2.j (by unfold KQ; omega)]; exact h3
  have g0 : Fx KQ QQ M2 (ms0 M2 n (wf n) f) := (s3.fx.trans u2).trans (Fx_pc _ n f)
  have h5 : Rq n (gJ (ms0 M2 n (wf n) f) f) (fun c => F (1024 * f + c) = true) := by rw [g0.j (by unfold KQ; omega)]; exact h2
  have emsh : msh M2 n (wf n) f X = mx (mx (mx X (fsV (fsF F n f (2 ^ n) 0 none (mfW N F n f h0)).2)) (oI (fsF F n f (2 ^ n) 0 none (mfW N F n f h0)).2).toInt64) (lcM F n f (2 ^ n) 0).toInt64 := by
    unfold msh
    rw [s2, s1, u1, fsV_ok]
  have hmf : mfM N F n f h0 = mfT (fsF F n f (2 ^ n) 0 none (mfW N F n f h0)).1 (fsF F n f (2 ^ n) 0 none (mfW N F n f h0)).2 X F n f := by unfold mfM; rw [hX]
  rw [hmf]
  generalize (fsF F n f (2 ^ n) 0 none (mfW N F n f h0)).1 = N2 at *
  generalize (fsF F n f (2 ^ n) 0 none (mfW N F n f h0)).2 = bb at *
  unfold msT
  rw [emsh]
  generalize hY : mx (mx (mx X (fsV bb)) (oI bb).toInt64) (lcM F n f (2 ^ n) 0).toInt64 = Y at *
  have e1 : ms1 (ms0 M2 n (wf n) f) Y (n + 1) = hm4 (gA (mCP (sL N2 2 Y) F n f) 11) Y (n + 1) := by
    unfold ms1
    refine hm4_ok (n + 1) (fun i hi => ?_)
    unfold mCP
    rw [gA_s]
    exact pc_ok hn h4 (by omega) _
  obtain ⟨v1, v2⟩ := ms2_ok hn hf h5 (ms1 (ms0 M2 n (wf n) f) Y (n + 1)) n (Nat.le_refl _)
  refine ⟨?_, (f0.trans p2'.fx).trans (g0.trans v2.fx), ?_, m', s5, ?_⟩
  · rw [v1, e1]
    unfold mfT
    rw [hY, gL_s]
  · refine fNW.trans (s4.trans ⟨fun _ _ _ => rfl, fun k h10 h11 => ?_, fun _ => rfl⟩)
    exact gA_n (sL N2 2 _) _ h11
  · exact s6.fr rfl (gA_n (sL N2 2 _) _ (by decide))
end DG
theorem ar3 {m m' m2 k : Nat} (d : m' ≤ m + 1024 * k) (d2 : m2 ≤ m' + 1024) : m2 ≤ m + 1024 * (k + 1) := by rw [Nat.mul_succ]; exact Nat.le_trans d2 (by rw [← Nat.add_assoc]; exact Nat.add_le_add_right d 1024)
theorem dg1_ok {n : Nat} (h1n : 1 ≤ n) (hn : n ≤ 10) {F : Nat → Bool} {M N : Mm} {m : Nat} (h : ∀ f, f < 4 → Rq n (gJ M f) (fun c => F (1024 * f + c) = true)) (hN : Me m N) (hm : m + 4096 < 2 ^ 31) {h0 : Int64} (e0 : gL N 2 = h0) : ∀ k, k ≤ 4 → (dg1 n (wf n) (M, h0) k).2 = gL (dgM F n N k) 2 ∧ Fx KQ QQ M (dg1 n (wf n) (M, h0) k).1 ∧ Fm N (dgM F n N k) ∧ ∃ m', m' ≤ m + 1024 * k ∧ Me m' (dgM F n N k)
  | 0, _ => ⟨e0.symm, Fx.refl _ _ _, Fm.refl _, m, by omega, hN⟩
  | k + 1, hk => by
    obtain ⟨a, b, c, m', d, e⟩ := dg1_ok h1n hn h hN hm e0 k (by omega)
    obtain ⟨a2, b2, c2, m2, d2, e2⟩ := fam_ok (f := k) (F := F) (M := (dg1 n (wf n) (M, h0) k).1) (N := dgM F n N k) h1n hn (by omega) (by rw [b.j (by unfold KQ; omega)]; exact h k (by omega)) e (by omega) (dg1 n (wf n) (M, h0) k).2
    rw [dg1, dgM]
    simp only [Nat.zero_add]
    rw [← a]
    exact ⟨a2, b.trans b2, c.trans c2, m2, ar3 d d2, e2⟩
theorem dg2_ok {n : Nat} (hn : n ≤ 10) {F : Nat → Bool} {M : Mm} {f : Nat} (hf : f < 4) (h : ∀ f, f < 4 → Rq n (gJ M f) (fun c => F (1024 * f + c) = true)) (h0 : Int64) : ∀ k, k ≤ 4 → (dg2 n (wf n) f (M, h0) k).2 = dgI F n f h0 k ∧ Fs KQ M (dg2 n (wf n) f (M, h0) k).1
  | 0, _ => ⟨rfl, Fs.refl _ _⟩
  | k + 1, hk => by
    obtain ⟨a, b⟩ := dg2_ok hn hf h h0 k (by omega)
    obtain ⟨c, d⟩ := fd_ok (μ := (dg2 n (wf n) f (M, h0) k).1) (a := f) (b := k) (F := F) hn hf (by omega) (by rw [b.j (by unfold KQ; omega)]; exact h f hf) (by rw [b.j (by unfold KQ; omega)]; exact h k (by omega))
    rw [dg2, dgI, Nat.zero_add, Nat.zero_add, a, c]
    exact ⟨rfl, b.trans (d.mono (fun j q => by unfold KQ; omega))⟩
theorem dg3_ok {n : Nat} (hn : n ≤ 10) {F : Nat → Bool} {M : Mm} (h : ∀ f, f < 4 → Rq n (gJ M f) (fun c => F (1024 * f + c) = true)) (h0 : Int64) : ∀ k, k ≤ 4 → (dg3 n (wf n) (M, h0) k).2 = dgO F n h0 k ∧ Fs KQ M (dg3 n (wf n) (M, h0) k).1
  | 0, _ => ⟨rfl, Fs.refl _ _⟩
  | k + 1, hk => by
    obtain ⟨a, b⟩ := dg3_ok hn h h0 k (by omega)
    obtain ⟨c, d⟩ := dg2_ok (f := k) (M := (dg3 n (wf n) (M, h0) k).1) (F := F) hn (by omega) (fun f hf => by rw [b.j (by unfold KQ; omega)]; exact h f hf) (dg3 n (wf n) (M, h0) k).2 4 (Nat.le_refl _)
    rw [dg3, dgO, ← a]
    exact ⟨c, b.trans d⟩
