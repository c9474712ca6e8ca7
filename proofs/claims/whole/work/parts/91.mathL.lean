/-! properties -/
theorem eqTo_ok (x y : Nat → Int64) : ∀ N, eqTo x y N = true ↔ ∀ w, w < N → x w = y w
  | 0 => ⟨fun _ w h => absurd h (Nat.not_lt_zero w), fun _ => rfl⟩
  | N + 1 => by
    rw [eqTo, Bool.and_eq_true, decide_eq_true_iff, eqTo_ok x y N]
    constructor
    · rintro ⟨a, b⟩ w hw
      by_cases q : w = N
      · subst q; exact b
      · exact a w (by omega)
    · exact fun h => ⟨fun w hw => h w (by omega), h N (by omega)⟩
theorem eqTo_R {n : Nat} (hn : n ≤ 10) {x y : Nat → Int64} {A B : Nat → Prop} (hx : Rq n x A) (hy : Rq n y B) : eqTo x y (wf n) = true ↔ ∀ c, c < 2 ^ n → (A c ↔ B c) := by
  rw [eqTo_ok]
  have h16 := wf_le hn
  constructor
  · intro h c hc
    rw [← hx.1 c hc, ← hy.1 c hc, btq, btq, h _ (wf_in hn hc)]
  · intro h w hw
    apply wb_inj
    apply BitVec.eq_of_getLsbD_eq
    intro i hi
    show wb (x w) i = wb (y w) i
    rw [← bt_wb x hi, ← bt_wb y hi]
    rcases Nat.lt_or_ge (w * 64 + i) (2 ^ n) with q | q
    · exact Bool.eq_iff_iff.mpr (by rw [hx.1 _ q, hy.1 _ q]; exact h _ q)
    · rw [hx.2 _ (by omega) q, hy.2 _ (by omega) q]
theorem ct0 {n : Nat} (hn : n ≤ 10) {x : Nat → Int64} {A : Nat → Prop} (h : Rq n x A) : sm (fun w => bc (x w)) (wf n) = 0 ↔ ∀ c, c < 2 ^ n → ¬ A c := by
  rw [← cnt_row, ct_ok hn h]
  constructor
  · intro z c hc a
    have := cnt_z z c hc
    rw [(h.1 c hc).mpr a] at this; cases this
  · intro z
    exact cnt_zero (fun c hc => Bool.eq_false_iff.mpr (fun q => z c hc ((h.1 c hc).mp q)))
theorem hlO_ok (F : Nat → Bool) (n f p : Nat) : ∀ N, hlO F n f p N = true ↔ ∀ s, s < N → F (1024 * f + s) = true → hlE F n f p s = true
  | 0 => ⟨fun _ w h => absurd h (Nat.not_lt_zero w), fun _ => rfl⟩
  | N + 1 => by
    rw [hlO]
    have ih := hlO_ok F n f p N
    by_cases q : F (1024 * f + N) = true ∧ hlO F n f p N = true
    · rw [if_pos q]
      constructor
      · intro h s hs hF
        by_cases z : s = N
        · subst z; exact h
        · exact ih.mp q.2 s (by omega) hF
      · exact fun h => h N (by omega) q.1
    · rw [if_neg q, ih]
      constructor
      · intro h s hs hF
        by_cases z : s = N
        · subst z; exact absurd ⟨hF, ih.mpr h⟩ q
        · exact h s (by omega) hF
      · exact fun h s hs => h s (by omega)
theorem hlI_ok (F : Nat → Bool) (f p s : Nat) : ∀ N, hlI F f p s N = true ↔ ∀ t, t < N → F (1024 * f + t) = true → abA F f p s t = false
  | 0 => ⟨fun _ w h => absurd h (Nat.not_lt_zero w), fun _ => rfl⟩
  | N + 1 => by
    rw [hlI, Bool.and_eq_true, hlI_ok F f p s N]
    have e : (!(F (1024 * f + N) && abA F f p s N)) = true ↔ (F (1024 * f + N) = true → abA F f p s N = false) := by cases F (1024 * f + N) <;> cases abA F f p s N <;> simp
    rw [e]
    constructor
    · rintro ⟨a, b⟩ t ht
      by_cases z : t = N
      · subst z; exact b
      · exact a t (by omega)
    · exact fun h => ⟨fun t ht => h t (by omega), h N (by omega)⟩
theorem ibI_ok (F : Nat → Bool) (f s x : Nat) (b : Bool) : ∀ k, ibI F f s x b k = true ↔ (b = true ∨ ∃ i, i < k ∧ ibC F f s x i = true)
  | 0 => ⟨Or.inl, fun q => q.elim id (fun ⟨i, h, _⟩ => absurd h (Nat.not_lt_zero i))⟩
  | k + 1 => by rw [ibI, Bool.or_eq_true, ibI_ok F f s x b k, ltx_s, or_assoc]
theorem d1t (s x : Nat) : decide (s / 2 ^ x &&& 1 = 1) = s.testBit x := Bool.eq_iff_iff.mpr (by rw [decide_eq_true_iff]; exact (dv1 s x).2)
theorem d0t (s x : Nat) : decide (s / 2 ^ x &&& 1 = 0) = !s.testBit x := Bool.eq_iff_iff.mpr (by rw [decide_eq_true_iff, Bool.not_eq_true']; exact (dv1 s x).1)
theorem ib4 (F : Nat → Bool) (f s : Nat) : ∀ N, ibO F f 4 s N = true ↔ ∃ x, x < N ∧ s.testBit x = true ∧ F (1024 * f + (s ^^^ 2 ^ x)) = false
  | 0 => ⟨fun h => absurd (show false = true from h) (by decide), fun ⟨i, h, _⟩ => absurd h (Nat.not_lt_zero i)⟩
  | N + 1 => by
    rw [ibO, if_neg (by decide), ltx_s]
    unfold ibX
    rw [d1t, Bool.or_eq_true, ib4 F f s N]
    refine or_congr Iff.rfl ?_
    cases s.testBit N <;> cases F (1024 * f + (s ^^^ 2 ^ N)) <;> simp
theorem ib5 (F : Nat → Bool) (f s : Nat) : ∀ N, ibO F f 5 s N = true ↔ ∃ x, x < N ∧ ∃ i, i < x ∧ s.testBit x = true ∧ s.testBit i = false ∧ F (1024 * f + (s ^^^ 2 ^ x ^^^ 2 ^ i)) = false
  | 0 => ⟨fun h => absurd (show false = true from h) (by decide), fun ⟨i, h, _⟩ => absurd h (Nat.not_lt_zero i)⟩
  | N + 1 => by
    rw [ibO, if_pos rfl, ltx_s, ibI_ok]
    refine or_congr ?_ ?_
    · unfold ibX
      rw [← ib5 F f s N]; simp
    · refine exists_congr (fun i => and_congr_right (fun _ => ?_))
      unfold ibC
      rw [d1t, d0t]
      cases s.testBit N <;> cases s.testBit i <;> cases F (1024 * f + (s ^^^ 2 ^ N ^^^ 2 ^ i)) <;> simp
section CN
variable {n f : Nat} {A : Nat → Prop}
theorem cn_I (hn : n ≤ 10) (hf : f < 4) {i : Nat} : ∀ (r t : Nat) (M : Mm), i + 1 + t + r ≤ n → Rq n (gJ M f) A → ((cnI (wf n) f i r t M).2 = true ↔ ∀ u, t ≤ u → u < t + r → ∀ c, c < 2 ^ n → ¬ ((sfm i (i + 1 + u) c = true ∧ A (cmT i (i + 1 + u) c)) ∧ ¬ A c)) ∧ Fs (fun q => q = 23 ∨ q = 24) M (cnI (wf n) f i r t M).1
  | 0, t, M, _, h => ⟨⟨fun _ u a b => absurd b (by omega), fun _ => rfl⟩, Fs.refl _ _⟩
  | r + 1, t, M, hr, h => by
    obtain ⟨r1, f1⟩ := ma_arr (j := i + 1 + t) (i := i) hn (by omega) (by omega) (by omega) hf h
    have e := ct0 hn r1
    rw [cnI]
    by_cases q : ct (mArr M (wf n) f (i + 1 + t) i) (wf n) 24 = 0
    · rw [if_pos q]
      obtain ⟨a, b⟩ := cn_I hn hf (i := i) r (t + 1) (mArr M (wf n) f (i + 1 + t) i) (by omega) (by rw [f1.j (by omega)]; exact h)
      refine ⟨a.trans ⟨fun z u x y => ?_, fun z u x y => z u (by omega) (by omega)⟩, f1.trans b⟩
      by_cases w : u = t
      · subst w; exact e.mp q
      · exact z u (by omega) (by omega)
    · rw [if_neg q]
      refine ⟨⟨fun z => absurd (show false = true from z) (by decide), fun z => absurd (e.mpr (z t (Nat.le_refl _) (by omega))) q⟩, f1⟩
theorem cn_O (hn : n ≤ 10) (hf : f < 4) : ∀ (r i : Nat) (M : Mm), i + r + 1 ≤ n → Rq n (gJ M f) A → ((cnO n (wf n) f r i M).2 = true ↔ ∀ k, i ≤ k → k < i + r → ∀ u, u < n - (k + 1) → ∀ c, c < 2 ^ n → ¬ ((sfm k (k + 1 + u) c = true ∧ A (cmT k (k + 1 + u) c)) ∧ ¬ A c)) ∧ Fs (fun q => q = 23 ∨ q = 24) M (cnO n (wf n) f r i M).1
  | 0, i, M, _, h => ⟨⟨fun _ u a b => absurd b (by omega), fun _ => rfl⟩, Fs.refl _ _⟩
  | r + 1, i, M, hr, h => by
    obtain ⟨a1, b1⟩ := cn_I hn hf (i := i) (n - (i + 1)) 0 M (by omega) h
    rw [cnO]
    by_cases q : (cnI (wf n) f i (n - (i + 1)) 0 M).2 = true
    · rw [if_pos q]
      obtain ⟨a, b⟩ := cn_O hn hf r (i + 1) (cnI (wf n) f i (n - (i + 1)) 0 M).1 (by omega) (by rw [b1.j (by omega)]; exact h)
      refine ⟨a.trans ⟨fun z k x y => ?_, fun z k x y => z k (by omega) (by omega)⟩, b1.trans b⟩
      by_cases w : k = i
      · subst w; exact fun u hu => a1.mp q u (Nat.zero_le _) (by omega)
      · exact z k (by omega) (by omega)
    · rw [if_neg q]
      exact ⟨⟨fun z => absurd (show false = true from z) (by decide), fun z => absurd (a1.mpr (fun u _ hu => z i (Nat.le_refl _) (by omega) u (by omega))) q⟩, b1⟩
end CN
def KQ (j : Nat) : Prop := 20 ≤ j ∧ j < 53
theorem hp_ok {n : Nat} (h1n : 1 ≤ n) (hn : n ≤ 10) {μ : Mm} {f p : Nat} {F : Nat → Bool} (hf : f < 4) (hp : p < 6) (h : Rq n (gJ μ f) (fun c => F (1024 * f + c) = true)) : hpA μ n (wf n) f p = hlO F n f p (2 ^ n) ∧ Fs KQ μ (hpM μ n (wf n) f p) := by
  have h1024 := pw10 hn
  rcases (show p = 0 ∨ p = 1 ∨ p = 2 ∨ p = 3 ∨ p = 4 ∨ p = 5 by omega) with rfl | rfl | rfl | rfl | rfl | rfl
  · obtain ⟨r, fr⟩ := ma_min (t := 50) hn (by decide) (by omega) h
    refine ⟨Bool.eq_iff_iff.mpr ?_, fr.mono (fun j q => by unfold KQ; omega)⟩
    show eqTo (gJ (mLMin μ n (wf n) 50 f) 50) (gJ (mLMin μ n (wf n) 50 f) f) (wf n) = true ↔ _
    rw [eqTo_R hn r (B := fun c => F (1024 * f + c) = true) (by rw [fr.j (by omega)]; exact h), hlO_ok]
    constructor
    · intro z s hs hF
      show hlI F f 0 s (2 ^ n) = true
      rw [hlI_ok]
      intro t ht hFt
      refine Bool.eq_false_iff.mpr (fun y => ?_)
      have y' : (!decide (s = t) && decide (s &&& t = s)) = true := y
      rw [Bool.and_eq_true, Bool.not_eq_true', decide_eq_false_iff_not, decide_eq_true_iff] at y'
      exact ((z t ht).mpr hFt).2 ⟨s, hF, Sb_and.mpr y'.2, y'.1⟩
    · intro z c hc
      refine ⟨fun y => y.1, fun y => ⟨y, ?_⟩⟩
      rintro ⟨s, a, b, d⟩
      have := (hlI_ok F f 0 s (2 ^ n)).mp (z s (Nat.lt_of_le_of_lt (Sb_le b) hc) a) c hc y
      have y' : (!decide (s = c) && decide (s &&& c = s)) = false := this
      rw [decide_eq_false d, decide_eq_true (Sb_and.mp b)] at y'; cases y'
  · obtain ⟨e, fr⟩ := fd_ok hn hf hf h h
    refine ⟨Bool.eq_iff_iff.mpr ?_, fr.mono (fun j q => by unfold KQ; omega)⟩
    show decide (fdA μ n (wf n) f f = -1) = true ↔ _
    rw [decide_eq_true_iff, e, hlO_ok]
    have ha : ∀ s, hlE F n f 1 s = true ↔ ∀ t, t < 2 ^ n → F (1024 * f + t) = true → ¬ s &&& t = 0 := fun s => by
      show hlI F f 1 s (2 ^ n) = true ↔ _
      rw [hlI_ok]
      refine forall_congr' (fun t => forall_congr' (fun _ => forall_congr' (fun _ => ?_)))
      show decide (s &&& t = 0) = false ↔ _
      rw [decide_eq_false_iff_not]
    rcases fcO_ok F f f n (2 ^ n) 0 with ⟨h1, h2⟩ | ⟨u, v, a1, a2, h3, h4, h5, h6, _⟩
    · rw [h1]
      refine ⟨fun _ s hs hF => (ha s).mpr (fun t ht hFt y => h2 s (Nat.zero_le _) (by omega) hF t ht ⟨hFt, y⟩), fun _ => rfl⟩
    · rw [h4]
      refine ⟨fun y => absurd y (nI_n1 (by omega)), fun y => absurd h6.2 ((ha u).mp (y u (by omega) h5) v h3 h6.1)⟩
  · obtain ⟨r, fr⟩ := ma_lu (t := 50) (s := f) hn (by decide) (by omega) (by omega) h
    refine ⟨Bool.eq_iff_iff.mpr ?_, fr.mono (fun j q => by unfold KQ; omega)⟩
    show eqTo (gJ (mLU μ n (wf n) 50 f) 50) (gJ (mLU μ n (wf n) 50 f) f) (wf n) = true ↔ _
    rw [eqTo_R hn r (B := fun c => F (1024 * f + c) = true) (by rw [fr.j (by omega)]; exact h), hlO_ok]
    have ha : ∀ s, hlE F n f 2 s = true ↔ ∀ t, t < 2 ^ n → F (1024 * f + t) = true → F (1024 * f + (s ||| t)) = true := fun s => by
      show hlI F f 2 s (2 ^ n) = true ↔ _
      rw [hlI_ok]
      refine forall_congr' (fun t => forall_congr' (fun _ => forall_congr' (fun _ => ?_)))
      show (!F (1024 * f + (s ||| t))) = false ↔ _
      rw [Bool.not_eq_false']
    constructor
    · intro z s hs hF
      rw [ha]
      exact fun t ht hFt => (z _ (Nat.or_lt_two_pow hs ht)).mp (Un_or (Un_of hF) hFt)
    · intro z c hc
      refine ⟨fun y => Un_sub (n := n) (A := fun c => F (1024 * f + c) = true) (R := fun c => F (1024 * f + c) = true) (fun d _ a => a) (fun s t hs ht a b => (ha s).mp (z s hs a) t ht b) hc y, fun y => Un_of y⟩
  · obtain ⟨r, fr⟩ := ma_li (t := 50) (s := f) hn (by decide) (by omega) h
    refine ⟨Bool.eq_iff_iff.mpr ?_, fr.mono (fun j q => by unfold KQ; omega)⟩
    show eqTo (gJ (mLI μ n (wf n) 50 f) 50) (gJ (mLI μ n (wf n) 50 f) f) (wf n) = true ↔ _
    rw [eqTo_R hn r (B := fun c => F (1024 * f + c) = true) (by rw [fr.j (by omega)]; exact h), hlO_ok]
    have ha : ∀ s, hlE F n f 3 s = true ↔ ∀ t, t < 2 ^ n → F (1024 * f + t) = true → F (1024 * f + (s &&& t)) = true := fun s => by
      show hlI F f 3 s (2 ^ n) = true ↔ _
      rw [hlI_ok]
      refine forall_congr' (fun t => forall_congr' (fun _ => forall_congr' (fun _ => ?_)))
      show (!F (1024 * f + (s &&& t))) = false ↔ _
      rw [Bool.not_eq_false']
    constructor
    · intro z s hs hF
      rw [ha]
      intro t ht hFt
      refine (z _ (Nat.lt_of_le_of_lt Nat.and_le_left hs)).mp ?_
      rw [cp_and hs ht]
      exact Un_or (Un_of (by show F (1024 * f + (2 ^ n - 1 - (2 ^ n - 1 - s))) = true; rw [cp_cp hs]; exact hF)) (by show F (1024 * f + (2 ^ n - 1 - (2 ^ n - 1 - t))) = true; rw [cp_cp ht]; exact hFt)
    · intro z c hc
      refine ⟨fun y => ?_, fun y => Un_of (by show F (1024 * f + (2 ^ n - 1 - (2 ^ n - 1 - c))) = true; rw [cp_cp hc]; exact y)⟩
      have := Un_sub (n := n) (A := fun d => F (1024 * f + (2 ^ n - 1 - d)) = true) (R := fun d => F (1024 * f + (2 ^ n - 1 - d)) = true) (fun d _ a => a) (fun s t hs ht a b => by rw [cp_or hs ht]; exact (ha _).mp (z _ (cp_lt n s) a) _ (cp_lt n t) b) (cp_lt n c) y
      simp only [cp_cp hc] at this
      exact this
  · have r1 := ma_sh (i := 50) (j := f) hn (by omega) h
    have f1 := Fs_sh μ (wf n) 50 f n
    have r2 := ma_sub hn r1 (j := f) (B := fun c => F (1024 * f + c) = true) (by rw [f1.j (by omega)]; exact h)
    have f2 : Fs (fun q => q = 50) (mSh μ (wf n) 50 f n) (mSub (mSh μ (wf n) 50 f n) (wf n) 50 f) := Fs_sJ _ _ rfl
    refine ⟨Bool.eq_iff_iff.mpr ?_, (f1.trans f2).mono (fun j q => by unfold KQ; omega)⟩
    show decide (ct (mSub (mSh μ (wf n) 50 f n) (wf n) 50 f) (wf n) 50 = 0) = true ↔ _
    rw [decide_eq_true_iff, hlO_ok]
    unfold ct
    rw [ct0 hn r2]
    have ha : ∀ s, hlE F n f 4 s = true ↔ ∀ x, x < n → s.testBit x = true → F (1024 * f + (s ^^^ 2 ^ x)) = true := fun s => by
      show (!ibO F f 4 s n) = true ↔ _
      rw [Bool.not_eq_true', ← Bool.not_eq_true, ib4]
      constructor
      · intro z x hx hs
        cases q : F (1024 * f + (s ^^^ 2 ^ x))
        · exact absurd ⟨x, hx, hs, q⟩ z
        · rfl
      · rintro z ⟨x, hx, hs, q⟩; rw [z x hx hs] at q; cases q
    constructor
    · intro z s hs hF
      rw [ha]
      intro x hx hsx
      cases q : F (1024 * f + (s ^^^ 2 ^ x))
      · exact absurd ⟨⟨x, hx, by rw [xr_tbs, hsx]; rfl, by rw [xr_xr]; exact hF⟩, by rw [q]; decide⟩ (z (s ^^^ 2 ^ x) ((xr_lt hx).mpr hs))
      · rfl
    · rintro z c hc ⟨⟨x, hx, hcx, hF⟩, hno⟩
      have := (ha _).mp (z (c ^^^ 2 ^ x) ((xr_lt hx).mpr hc) hF) x hx (by rw [xr_tbs, hcx]; rfl)
      rw [xr_xr] at this
      exact hno this
  · obtain ⟨a, fr⟩ := cn_O hn hf (n - 1) 0 μ (by omega) h
    refine ⟨Bool.eq_iff_iff.mpr ?_, fr.mono (fun j q => by unfold KQ; omega)⟩
    show (cnO n (wf n) f (n - 1) 0 μ).2 = true ↔ _
    rw [a, hlO_ok]
    have ha : ∀ s, hlE F n f 5 s = true ↔ ∀ x, x < n → ∀ i, i < x → sfm x i s = true → F (1024 * f + cmT x i s) = true := fun s => by
      show (!ibO F f 5 s n) = true ↔ _
      rw [Bool.not_eq_true', ← Bool.not_eq_true, ib5]
      unfold sfm cmT
      constructor
      · intro z x hx i hi hs
        rw [Bool.and_eq_true, Bool.not_eq_true'] at hs
        cases q : F (1024 * f + (s ^^^ 2 ^ x ^^^ 2 ^ i))
        · exact absurd ⟨x, hx, i, hi, hs.1, hs.2, q⟩ z
        · rfl
      · rintro z ⟨x, hx, i, hi, hs, hs2, q⟩
        rw [z x hx i hi (by rw [hs, hs2]; rfl)] at q; cases q
    constructor
    · intro z s hs hF
      rw [ha]
      intro x hx i hi hsf
      cases q : F (1024 * f + cmT x i s)
      · have := z i (Nat.zero_le _) (by omega) (x - (i + 1)) (by omega) (cmT x i s) (cmT_lt hs hx (by omega))
        rw [show i + 1 + (x - (i + 1)) = x by omega, cmT_c x i, cmT_T, q] at this
        have hv : sfm i x (cmT x i s) = true := by
          have := cmT_sf (j := i) (i := x) (c := s) (by omega)
          rw [cmT_c x i] at this
          rw [this]; exact hsf
        exact absurd ⟨⟨hv, hF⟩, by decide⟩ this
      · rfl
    · rintro z k _ hk u hu c hc ⟨⟨h1, h2⟩, h3⟩
      have hs := cmT_lt (j := k) (i := k + 1 + u) hc (by omega) (by omega)
      have := (ha _).mp (z _ hs h2) (k + 1 + u) (by omega) k (by omega) (by rw [cmT_c (k + 1 + u) k, cmT_sf (by omega)]; exact h1)
      rw [cmT_c k (k + 1 + u), cmT_T] at this
      exact h3 this
