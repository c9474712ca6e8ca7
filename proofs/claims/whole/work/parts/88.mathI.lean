/-! shift: the sum of all elements falls -/
theorem sm_mon {f g : Nat → Nat} : ∀ {N : Nat}, (∀ i, i < N → f i ≤ g i) → sm f N ≤ sm g N
  | 0, _ => Nat.le_refl _
  | N + 1, h => Nat.add_le_add (sm_mon (fun i hi => h i (by omega))) (h N (by omega))
def esx (c x : Nat) : Nat := if c.testBit x = true then x else 0
def es (c : Nat) : Nat := sm (esx c) 10
theorem es_le (c : Nat) : es c ≤ 45 := Nat.le_trans (sm_mon (g := fun x => x) (fun x _ => by unfold esx; split; exact Nat.le_refl _; exact Nat.zero_le _)) (by decide)
theorem es_out {u j : Nat} (hj : j < 10) (h : u.testBit j = true) : es (u ^^^ 2 ^ j) + j = es u := by
  have := sm_one (g := esx u) (h := esx (u ^^^ 2 ^ j)) (k := j) (fun c hc => by unfold esx; rw [xr_tbn u (fun q => hc q.symm)]) 10 hj
  rw [show esx u j = j by unfold esx; rw [if_pos h], show esx (u ^^^ 2 ^ j) j = 0 by unfold esx; rw [xr_tbs, h]; rfl] at this
  exact this
theorem es_cm {j i s : Nat} (hij : i < j) (hj : j < 10) (h : sfm j i s = true) : es (cmT j i s) < es s := by
  unfold sfm at h
  rw [Bool.and_eq_true, Bool.not_eq_true'] at h
  have h1 := es_out hj h.1
  have h2 := es_out (u := cmT j i s) (j := i) (by omega) (by unfold cmT; rw [xr_tbs, xr_tbn s (by omega), h.2]; rfl)
  rw [show cmT j i s ^^^ 2 ^ i = s ^^^ 2 ^ j by unfold cmT; rw [xr_xr]] at h2
  omega
def eS (F : Nat → Bool) (f c : Nat) : Nat := if F (1024 * f + c) = true then es c else 0
def eF (F : Nat → Bool) (f : Nat) : Nat → Nat := sm (eS F f)
theorem eF_le (F : Nat → Bool) (f N : Nat) : eF F f N ≤ N * 45 := sm_le (fun c => by unfold eS; split; exact es_le c; exact Nat.zero_le _) N
theorem eF_up {F : Nat → Bool} {f k N : Nat} (b : Bool) (hk : k < N) : eF (upB F (1024 * f + k) b) f N + eS F f k = eF F f N + (if b = true then es k else 0) := by
  have h := sm_one (g := eS F f) (h := eS (upB F (1024 * f + k) b) f) (k := k) (fun c hc => by unfold eS upB; rw [if_neg (show ¬ 1024 * f + c = 1024 * f + k by omega)]) N hk
  rw [show eS (upB F (1024 * f + k) b) f k = if b = true then es k else 0 by unfold eS upB; rw [if_pos rfl]] at h
  exact h
theorem cmF_E (F : Nat → Bool) (f : Nat) {j i n : Nat} (hij : i < j) (hj : j < n) (hn : n ≤ 10) : ∀ s, s ≤ 2 ^ n → eF (cmF F f j i s).1 f (2 ^ n) + (cmF F f j i s).2 ≤ eF F f (2 ^ n)
  | 0, _ => Nat.le_refl _
  | s + 1, h => by
    have ih := cmF_E F f hij hj hn s (by omega)
    rw [cmF]
    by_cases q : cmC (cmF F f j i s).1 f j i s = true ∧ (cmF F f j i s).1 (1024 * f + cmT j i s) = false
    · have q1 := q.1
      rw [cmC_ok, Bool.and_eq_true] at q1
      have hd := es_cm hij (by omega) q1.2
      have hT := cmT_lt (i := i) (show s < 2 ^ n by omega) hj (by omega)
      have hne : ¬ cmT j i s = s := fun z => by rw [z] at hd; omega
      have a1 := eF_up (F := (cmF F f j i s).1) (f := f) (k := s) (N := 2 ^ n) false (by omega)
      have a2 := eF_up (F := upB (cmF F f j i s).1 (1024 * f + s) false) (f := f) (k := cmT j i s) (N := 2 ^ n) true hT
      rw [show eS (cmF F f j i s).1 f s = es s by unfold eS; rw [if_pos q1.1], if_neg (by decide)] at a1
      rw [show eS (upB (cmF F f j i s).1 (1024 * f + s) false) f (cmT j i s) = 0 by unfold eS upB; rw [if_neg (show ¬ 1024 * f + cmT j i s = 1024 * f + s by omega), if_neg (ts_f q.2)], if_pos rfl] at a2
      simp only [if_pos q]
      omega
    · simp only [if_neg q]; exact ih
theorem sgJ_E (f n i : Nat) (hn : n ≤ 10) (x : (Nat → Bool) × Nat) : ∀ k, i + 1 + k ≤ n → eF (sgJ f n i x k).1 f (2 ^ n) + (sgJ f n i x k).2 ≤ eF x.1 f (2 ^ n) + x.2
  | 0, _ => Nat.le_refl _
  | k + 1, h => by
    have ih := sgJ_E f n i hn x k (by omega)
    have a := cmF_E (sgJ f n i x k).1 f (show i < i + 1 + k by omega) (show i + 1 + k < n by omega) hn (2 ^ n) (Nat.le_refl _)
    have e : sgJ f n i x (k + 1) = ((cmF (sgJ f n i x k).1 f (i + 1 + k) i (2 ^ n)).1, (sgJ f n i x k).2 + (cmF (sgJ f n i x k).1 f (i + 1 + k) i (2 ^ n)).2) := rfl
    rw [e]; simp only; omega
theorem sgP_E (f n : Nat) (hn : n ≤ 10) (x : (Nat → Bool) × Nat) : ∀ i, i ≤ n → eF (sgP f n x i).1 f (2 ^ n) + (sgP f n x i).2 ≤ eF x.1 f (2 ^ n) + x.2
  | 0, _ => Nat.le_refl _
  | i + 1, h => Nat.le_trans (sgJ_E f n i hn (sgP f n x i) (n - (i + 1)) (by omega)) (sgP_E f n hn x i (by omega))
/-- nothing outside the family's codes changes -/
theorem cmF_out {F : Nat → Bool} {f j i n : Nat} (hij : ¬ j = i) (hj : j < n) (hi : i < n) {k : Nat} (hk : k < 1024 * f ∨ 1024 * f + 2 ^ n ≤ k) : (cmF F f j i (2 ^ n)).1 k = F k := by
  rw [(cmF_ok F hij (2 ^ n)).1]
  split
  · rename_i z
    unfold cmS
    have h1 : ¬ k - 1024 * f < 2 ^ n := by omega
    have h2 : ¬ cmT j i (k - 1024 * f) < 2 ^ n := by unfold cmT; rw [xr_lt hi, xr_lt hj]; exact h1
    rw [if_neg (fun q => h1 q.2), if_neg (fun q => h2 q.2)]; congr 1; omega
  · rfl
theorem sgJ_out {f n i : Nat} {x : (Nat → Bool) × Nat} {q : Nat} (hq : q < 1024 * f ∨ 1024 * f + 2 ^ n ≤ q) : ∀ k, i + 1 + k ≤ n → (sgJ f n i x k).1 q = x.1 q
  | 0, _ => rfl
  | k + 1, h => (cmF_out (by omega) (by omega) (by omega) hq).trans (sgJ_out hq k (by omega))
theorem sgP_out {f n : Nat} {x : (Nat → Bool) × Nat} {q : Nat} (hq : q < 1024 * f ∨ 1024 * f + 2 ^ n ≤ q) : ∀ i, i ≤ n → (sgP f n x i).1 q = x.1 q
  | 0, _ => rfl
  | i + 1, h => (sgJ_out hq (n - (i + 1)) (by omega)).trans (sgP_out hq i (by omega))
theorem sgW_out {f n : Nat} {q : Nat} (hq : q < 1024 * f ∨ 1024 * f + 2 ^ n ≤ q) : ∀ r (x : (Nat → Bool) × Nat), (sgW f n r x).1 q = x.1 q
  | 0, _ => rfl
  | r + 1, x => by
    rw [sgW]; split
    · exact (sgW_out hq r _).trans (sgP_out hq n (Nat.le_refl _))
    · exact sgP_out hq n (Nat.le_refl _)
section SI
variable {n f : Nat}
theorem ro_I (hn : n ≤ 10) (hf : f < 4) {i : Nat} {s : Mm × Nat} {x : (Nat → Bool) × Nat} (h : Rq n (gJ s.1 f) (fun c => x.1 (1024 * f + c) = true)) : ∀ t, i + 1 + t ≤ n → Rq n (gJ (roI (wf n) f i s t).1 f) (fun c => (sgJ f n i x t).1 (1024 * f + c) = true) ∧ (roI (wf n) f i s t).2 + x.2 = (sgJ f n i x t).2 + s.2 ∧ Fs (fun q => q = 23 ∨ q = 24 ∨ q = 25 ∨ q = f) s.1 (roI (wf n) f i s t).1
  | 0, _ => ⟨h, Nat.add_comm _ _, Fs.refl _ _⟩
  | t + 1, ht => by
    obtain ⟨a, b, c⟩ := ro_I (i := i) (s := s) (x := x) hn hf h t (by omega)
    obtain ⟨a2, b2, c2⟩ := rep_ok (j := i + 1 + t) (i := i) hn (by omega) (by omega) (by omega) hf a
    refine ⟨a2, ?_, c.trans c2⟩
    show (roI (wf n) f i s t).2 + ct (mRep (roI (wf n) f i s t).1 (wf n) f (i + 1 + t) i) (wf n) 24 + x.2 = (sgJ f n i x t).2 + (cmF (sgJ f n i x t).1 f (i + 1 + t) i (2 ^ n)).2 + s.2
    omega
theorem ro_O (hn : n ≤ 10) (hf : f < 4) {μ : Mm} {x : (Nat → Bool) × Nat} (h : Rq n (gJ μ f) (fun c => x.1 (1024 * f + c) = true)) : ∀ i, i ≤ n → Rq n (gJ (roO n (wf n) f μ i).1 f) (fun c => (sgP f n x i).1 (1024 * f + c) = true) ∧ (roO n (wf n) f μ i).2 + x.2 = (sgP f n x i).2 ∧ Fs (fun q => q = 23 ∨ q = 24 ∨ q = 25 ∨ q = f) μ (roO n (wf n) f μ i).1
  | 0, _ => ⟨h, Nat.zero_add _, Fs.refl _ _⟩
  | i + 1, hi => by
    obtain ⟨a, b, c⟩ := ro_O hn hf h i (by omega)
    obtain ⟨a2, b2, c2⟩ := ro_I (i := i) (s := roO n (wf n) f μ i) hn hf a (n - (i + 1)) (by omega)
    refine ⟨a2, ?_, c.trans c2⟩
    show (roI (wf n) f i (roO n (wf n) f μ i) (n - (i + 1))).2 + x.2 = (sgJ f n i (sgP f n x i) (n - (i + 1))).2
    omega
theorem ra_R (h1n : 1 ≤ n) (hn : n ≤ 10) (hf : f < 4) : ∀ (r1 r2 : Nat) (μ : Mm) (x : (Nat → Bool) × Nat), Rq n (gJ μ f) (fun c => x.1 (1024 * f + c) = true) → eF x.1 f (2 ^ n) < r1 → eF x.1 f (2 ^ n) < r2 → Rq n (gJ (raR n (wf n) f r1 μ x.2).1 f) (fun c => (sgW f n r2 x).1 (1024 * f + c) = true) ∧ (raR n (wf n) f r1 μ x.2).2 = (sgW f n r2 x).2 ∧ Fs (fun q => q = 23 ∨ q = 24 ∨ q = 25 ∨ q = f) μ (raR n (wf n) f r1 μ x.2).1
  | 0, _, _, _, _, h, _ => absurd h (Nat.not_lt_zero _)
  | _ + 1, 0, _, _, _, _, h => absurd h (Nat.not_lt_zero _)
  | r1 + 1, r2 + 1, μ, x, h, e1, e2 => by
    obtain ⟨a, b, c⟩ := ro_O hn hf h (n - 1) (by omega)
    have hlast : sgP f n x n = sgP f n x (n - 1) := by
      obtain ⟨m, rfl⟩ : ∃ m, n = m + 1 := ⟨n - 1, by omega⟩
      show sgJ f (m + 1) m (sgP f (m + 1) x m) (m + 1 - (m + 1)) = _
      rw [Nat.sub_self]; rfl
    have hE := sgP_E f n hn x n (Nat.le_refl _)
    rw [raR, sgW, hlast]
    rw [hlast] at hE
    by_cases q : (roO n (wf n) f μ (n - 1)).2 = 0
    · rw [if_pos q, if_neg (by omega)]
      exact ⟨a, by show x.2 = _; omega, c⟩
    · rw [if_neg q, if_pos (by omega)]
      have hb : x.2 + (roO n (wf n) f μ (n - 1)).2 = (sgP f n x (n - 1)).2 := by omega
      rw [hb]
      obtain ⟨a2, b2, c2⟩ := ra_R h1n hn hf r1 r2 (roO n (wf n) f μ (n - 1)).1 (sgP f n x (n - 1)) a (by omega) (by omega)
      exact ⟨a2, b2, c.trans c2⟩
end SI
theorem shift_ok {n f : Nat} (h1n : 1 ≤ n) (hn : n ≤ 10) (hf : f < 4) {μ : Mm} {F : Nat → Bool} (h : Rq n (gJ μ f) (fun c => F (1024 * f + c) = true)) : Rq n (gJ (raR n (wf n) f 100000 μ 0).1 f) (fun c => (sgW f n 1048577 (F, 0)).1 (1024 * f + c) = true) ∧ (raR n (wf n) f 100000 μ 0).2 = (sgW f n 1048577 (F, 0)).2 ∧ Fs (fun q => q = 23 ∨ q = 24 ∨ q = 25 ∨ q = f) μ (raR n (wf n) f 100000 μ 0).1 := by
  have h1 := eF_le F f (2 ^ n)
  have h2 := pw10 hn
  exact ra_R h1n hn hf 100000 1048577 μ (F, 0) h (by show eF F f (2 ^ n) < _; omega) (by show eF F f (2 ^ n) < _; omega)
