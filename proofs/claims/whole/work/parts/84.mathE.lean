/-! the model's derivations say the same -/
theorem dv1 (e x : Nat) : (e / 2 ^ x &&& 1 = 0 ↔ e.testBit x = false) ∧ (e / 2 ^ x &&& 1 = 1 ↔ e.testBit x = true) := by
  rw [Nat.and_one_is_mod, Nat.testBit_eq_decide_div_mod_eq]
  have := Nat.mod_lt (e / 2 ^ x) (show 2 > 0 by decide)
  refine ⟨?_, ?_⟩
  · rw [decide_eq_false_iff_not]; omega
  · rw [decide_eq_true_iff]
theorem cp_tb {n c : Nat} (hc : c < 2 ^ n) (i : Nat) : (2 ^ n - 1 - c).testBit i = (decide (i < n) && !c.testBit i) := by
  rw [show 2 ^ n - 1 - c = 2 ^ n - (c + 1) by omega, Nat.testBit_two_pow_sub_succ hc]
theorem cp_lt (n c : Nat) : 2 ^ n - 1 - c < 2 ^ n := by have := Nat.two_pow_pos n; omega
theorem cp_cp {n c : Nat} (hc : c < 2 ^ n) : 2 ^ n - 1 - (2 ^ n - 1 - c) = c := by omega
theorem cp_sb {n c u : Nat} (hc : c < 2 ^ n) : Sb u (2 ^ n - 1 - c) ↔ u < 2 ^ n ∧ u &&& c = 0 := by
  constructor
  · intro h
    refine ⟨Nat.lt_of_le_of_lt (Sb_le h) (cp_lt n c), ?_⟩
    apply Nat.eq_of_testBit_eq; intro i
    rw [Nat.testBit_and, Nat.zero_testBit]
    cases hu : u.testBit i
    · rfl
    · have := h i hu
      rw [cp_tb hc, Bool.and_eq_true, Bool.not_eq_true'] at this
      rw [this.2]; rfl
  · rintro ⟨hu2, h⟩ i hi
    rw [cp_tb hc, decide_eq_true (tb_in hu2 hi)]
    have := congrArg (fun v => v.testBit i) h
    simp only [Nat.testBit_and, hi, Bool.true_and, Nat.zero_testBit] at this
    rw [this]; rfl
theorem hb_ok (F : Nat → Bool) (f e : Nat) (up pr : Bool) : ∀ r s, hbF F f e up pr r s = true ↔ ∃ t, s ≤ t ∧ t < s + r ∧ hbC F f e up pr t = true
  | 0, s => by rw [hbF]; constructor; (intro h; cases h); (rintro ⟨t, a, b, _⟩; omega)
  | r + 1, s => by
    rw [hbF]
    by_cases q : hbC F f e up pr s = true
    · rw [if_pos q]; exact ⟨fun _ => ⟨s, Nat.le_refl _, by omega, q⟩, fun _ => rfl⟩
    · rw [if_neg q, hb_ok F f e up pr r (s + 1)]
      constructor
      · rintro ⟨t, a, b, d⟩; exact ⟨t, by omega, by omega, d⟩
      · rintro ⟨t, a, b, d⟩
        have : ¬ t = s := fun z => q (by rw [← z]; exact d)
        exact ⟨t, by omega, by omega, d⟩
theorem ht_ok (F : Nat → Bool) (f e : Nat) : ∀ r s, htF F f e r s = true ↔ ∀ t, s ≤ t → t < s + r → F (1024 * f + t) = true → ¬ t &&& e = 0
  | 0, s => by rw [htF]; exact ⟨fun _ t a b => absurd b (by omega), fun _ => rfl⟩
  | r + 1, s => by
    rw [htF]
    by_cases q : F (1024 * f + s) = true ∧ s &&& e = 0
    · rw [if_pos q]; exact ⟨fun h => absurd h (by decide), fun h => absurd q.2 (h s (Nat.le_refl _) (by omega) q.1)⟩
    · rw [if_neg q, ht_ok F f e r (s + 1)]
      constructor
      · intro h t a b d
        by_cases z : t = s
        · subst z; exact fun y => q ⟨d, y⟩
        · exact h t (by omega) (by omega) d
      · exact fun h t a b d => h t (by omega) (by omega) d
theorem bl_ok (F : Nat → Bool) (n f e : Nat) : ∀ r x, blF F n f e r x = true ↔ ∀ y, x ≤ y → y < x + r → ¬ (e.testBit y = true ∧ htF F f (e ^^^ 2 ^ y) (2 ^ n) 0 = true)
  | 0, x => by rw [blF]; exact ⟨fun _ t a b => absurd b (by omega), fun _ => rfl⟩
  | r + 1, x => by
    rw [blF]
    have hx : ¬ e / 2 ^ x &&& 1 = 0 ↔ e.testBit x = true := by rw [(dv1 e x).1]; cases e.testBit x <;> simp
    by_cases q : ¬ e / 2 ^ x &&& 1 = 0 ∧ htF F f (e ^^^ 2 ^ x) (2 ^ n) 0 = true
    · rw [if_pos q]; exact ⟨fun h => absurd h (by decide), fun h => absurd ⟨hx.mp q.1, q.2⟩ (h x (Nat.le_refl _) (by omega))⟩
    · rw [if_neg q, bl_ok F n f e r (x + 1)]
      constructor
      · intro h y a b d
        by_cases z : y = x
        · subst z; exact q ⟨hx.mpr d.1, d.2⟩
        · exact h y (by omega) (by omega) d
      · exact fun h y a b => h y (by omega) (by omega)
theorem upB_t (O : Nat → Bool) (k c : Nat) : upB O k true c = true ↔ (O c = true ∨ c = k) := by
  unfold upB; by_cases h : c = k
  · rw [if_pos h]; exact ⟨fun _ => Or.inr h, fun _ => rfl⟩
  · rw [if_neg h]; exact ⟨Or.inl, fun q => q.elim id (fun z => absurd z h)⟩
theorem swI_ok (O : Nat → Bool) (s : Nat) (up : Bool) (c : Nat) : ∀ k, swI O s up k c = true ↔ (O c = true ∨ ∃ x, x < k ∧ s.testBit x = (!up) ∧ c = s ^^^ 2 ^ x)
  | 0 => by rw [swI]; exact ⟨Or.inl, fun q => q.elim id (fun ⟨x, a, _⟩ => absurd a (Nat.not_lt_zero x))⟩
  | k + 1 => by
    have hk : decide (s / 2 ^ k &&& 1 = 1) = s.testBit k := by
      cases hs : s.testBit k
      · rw [decide_eq_false]; intro z; rw [(dv1 s k).2, hs] at z; cases z
      · rw [decide_eq_true]; exact (dv1 s k).2.mpr hs
    rw [swI, hk]
    by_cases q : s.testBit k = up
    · rw [if_pos q, swI_ok O s up c k]
      refine or_congr Iff.rfl ?_
      rw [ltx_s]
      exact ⟨Or.inl, fun z => z.elim id (fun y => by rw [q] at y; cases up <;> exact absurd y.1 (by decide))⟩
    · rw [if_neg q, upB_t, swI_ok O s up c k, ltx_s, or_assoc]
      have : s.testBit k = (!up) := by revert q; cases s.testBit k <;> cases up <;> simp
      exact or_congr Iff.rfl (or_congr Iff.rfl ⟨fun z => ⟨this, z⟩, fun z => z.2⟩)
theorem swO_ok (F O : Nat → Bool) (n f : Nat) (up : Bool) (c : Nat) : ∀ k, swO F O n f up k c = true ↔ (O c = true ∨ ∃ s, s < k ∧ F (1024 * f + s) = true ∧ ∃ x, x < n ∧ s.testBit x = (!up) ∧ c = s ^^^ 2 ^ x)
  | 0 => by rw [swO]; exact ⟨Or.inl, fun q => q.elim id (fun ⟨x, a, _⟩ => absurd a (Nat.not_lt_zero x))⟩
  | k + 1 => by
    rw [swO, ltx_s]
    by_cases q : F (1024 * f + k) = true
    · rw [if_pos q, swI_ok, swO_ok F O n f up c k, or_assoc]
      exact or_congr Iff.rfl (or_congr Iff.rfl ⟨fun z => ⟨q, z⟩, fun z => z.2⟩)
    · rw [if_neg q, swO_ok F O n f up c k]
      exact or_congr Iff.rfl ⟨Or.inl, fun z => z.elim id (fun y => absurd y.1 q)⟩
section CL
variable {F : Nat → Bool} {f : Nat} {un : Bool} {n : Nat}
theorem clI_T {T : Nat → Prop} {s : Nat} (hs : T s) (hT : ∀ a t, T a → a < 2 ^ n → t < 2 ^ n → F (1024 * f + t) = true → T (clN un a t)) (hs2 : s < 2 ^ n) {x : (Nat → Bool) × Bool} (hx : ∀ c, x.1 c = true → T c) : ∀ t, t ≤ 2 ^ n → ∀ c, (clI F f un s x t).1 c = true → T c
  | 0, _ => hx
  | t + 1, ht => by
    intro c hc
    rw [clI] at hc
    split at hc
    · rename_i q
      rcases (upB_t _ _ _).mp hc with z | z
      · exact clI_T hs hT hs2 hx t (by omega) c z
      · rw [z]; exact hT s t hs hs2 (by omega) q.1
    · exact clI_T hs hT hs2 hx t (by omega) c hc
theorem clO_T {T : Nat → Prop} (hT : ∀ a t, T a → a < 2 ^ n → t < 2 ^ n → F (1024 * f + t) = true → T (clN un a t)) {x : (Nat → Bool) × Bool} (hx : ∀ c, x.1 c = true → T c) : ∀ s, s ≤ 2 ^ n → ∀ c, (clO F f un n x s).1 c = true → T c
  | 0, _ => hx
  | s + 1, hs => by
    intro c hc
    rw [clO] at hc
    split at hc
    · rename_i q
      exact clI_T (clO_T hT hx s (by omega) s q) hT (by omega) (clO_T hT hx s (by omega)) (2 ^ n) (Nat.le_refl _) c hc
    · exact clO_T hT hx s (by omega) c hc
theorem clW_T {T : Nat → Prop} (hT : ∀ a t, T a → a < 2 ^ n → t < 2 ^ n → F (1024 * f + t) = true → T (clN un a t)) : ∀ r (O : Nat → Bool), (∀ c, O c = true → T c) → ∀ c, clW F f un n r O c = true → T c
  | 0, O, hx => hx
  | r + 1, O, hx => by
    intro c hc
    have h1 : ∀ c, (clS F f un n O).1 c = true → T c := clO_T hT hx (2 ^ n) (Nat.le_refl _)
    rw [clW] at hc
    split at hc
    · exact clW_T hT r _ h1 c hc
    · exact h1 c hc
theorem clW_M : ∀ r (O : Nat → Bool) c, O c = true → clW F f un n r O c = true
  | 0, O, c, h => h
  | r + 1, O, c, h => by
    have h1 : (clS F f un n O).1 c = true := (clO_G F f un n (O, false) (2 ^ n) (Nat.le_refl _)).1 c h
    rw [clW]; split
    · exact clW_M r _ c h1
    · exact h1
theorem clI_C {s : Nat} {x : (Nat → Bool) × Bool} : ∀ t, (clI F f un s x t).2 = false → clI F f un s x t = x ∧ ∀ t', t' < t → F (1024 * f + t') = true → x.1 (clN un s t') = true
  | 0, _ => ⟨rfl, fun t' h => absurd h (Nat.not_lt_zero _)⟩
  | t + 1, h => by
    rw [clI] at h ⊢
    by_cases q : F (1024 * f + t) = true ∧ (clI F f un s x t).1 (clN un s t) = false
    · rw [if_pos q] at h; exact absurd h (show ¬ true = false by decide)
    · rw [if_neg q] at h ⊢
      obtain ⟨a, b⟩ := clI_C t h
      refine ⟨a, fun t' ht' hF => ?_⟩
      by_cases z : t' = t
      · subst z
        rw [a] at q
        cases hh : x.1 (clN un s t')
        · exact absurd ⟨hF, hh⟩ q
        · rfl
      · exact b t' (by omega) hF
theorem clO_C {x : (Nat → Bool) × Bool} : ∀ s, (clO F f un n x s).2 = false → clO F f un n x s = x ∧ ∀ s', s' < s → x.1 s' = true → ∀ t', t' < 2 ^ n → F (1024 * f + t') = true → x.1 (clN un s' t') = true
  | 0, _ => ⟨rfl, fun t' h => absurd h (Nat.not_lt_zero _)⟩
  | s + 1, h => by
    rw [clO] at h ⊢
    by_cases q : (clO F f un n x s).1 s = true
    · rw [if_pos q] at h ⊢
      obtain ⟨a, b⟩ := clI_C (2 ^ n) h
      rw [a] at h
      obtain ⟨a2, b2⟩ := clO_C s h
      refine ⟨a.trans a2, fun s' hs' => ?_⟩
      by_cases z : s' = s
      · subst z; intro _ t' ht' hF; have := b t' ht' hF; rwa [a2] at this
      · exact b2 s' (by omega)
    · rw [if_neg q] at h ⊢
      obtain ⟨a2, b2⟩ := clO_C s h
      refine ⟨a2, fun s' hs' hx => ?_⟩
      by_cases z : s' = s
      · subst z; rw [a2] at q; exact absurd hx q
      · exact b2 s' (by omega) hx
theorem clW_C : ∀ r (O : Nat → Bool), 2 ^ n - cnB O (2 ^ n) < r → ∀ s t, s < 2 ^ n → t < 2 ^ n → clW F f un n r O s = true → F (1024 * f + t) = true → clW F f un n r O (clN un s t) = true
  | 0, O, h => absurd h (Nat.not_lt_zero _)
  | r + 1, O, h => by
    intro s t hs ht
    rw [clW]
    by_cases q : (clS F f un n O).2 = true
    · rw [if_pos q]
      have h1 := clS_up q
      have h2 := cnB_le (clS F f un n O).1 (2 ^ n)
      exact clW_C r _ (by omega) s t hs ht
    · rw [if_neg q]
      obtain ⟨a, b⟩ := clO_C (F := F) (f := f) (un := un) (n := n) (x := (O, false)) (2 ^ n) (Bool.eq_false_iff.mpr q)
      have e1 : (clS F f un n O).1 = O := congrArg Prod.fst a
      rw [e1]
      exact fun hO hF => b s hs hO t ht hF
end CL
theorem Un_or {A : Nat → Prop} {s t : Nat} (h : Un A s) (ht : A t) : Un A (s ||| t) := by
  refine ⟨fun x hx => ?_, fun h0 => ?_⟩
  · rw [Nat.testBit_or, Bool.or_eq_true] at hx
    rcases hx with q | q
    · obtain ⟨u, a, b, d⟩ := h.1 x q
      exact ⟨u, a, b, fun i hi => by rw [Nat.testBit_or, d i hi]; rfl⟩
    · exact ⟨t, ht, q, fun i hi => by rw [Nat.testBit_or, hi, Bool.or_true]⟩
  · rw [Nat.or_eq_zero_iff] at h0; rw [← h0.2]; exact ht
theorem Un_of {A : Nat → Prop} {c : Nat} (h : A c) : Un A c := ⟨fun x hx => ⟨c, h, hx, Sb_refl c⟩, fun h0 => by rw [← h0]; exact h⟩
theorem Un_sub {n : Nat} {A R : Nat → Prop} (hA : ∀ c, c < 2 ^ n → A c → R c) (hC : ∀ s t, s < 2 ^ n → t < 2 ^ n → R s → A t → R (s ||| t)) {c : Nat} (hc : c < 2 ^ n) (h : Un A c) : R c := by
  have key : ∀ k, ∃ s, s < 2 ^ n ∧ R s ∧ Sb s c ∧ ∀ x, x < k → c.testBit x = true → s.testBit x = true := by
    intro k
    induction k with
    | zero =>
      by_cases q : c = 0
      · subst q; exact ⟨0, hc, hA 0 hc (h.2 rfl), Sb_refl 0, fun x hx => absurd hx (Nat.not_lt_zero x)⟩
      · obtain ⟨x, hx⟩ := Nat.exists_testBit_of_ne_zero q
        obtain ⟨u, a, _, d⟩ := h.1 x hx
        have hu := Nat.lt_of_le_of_lt (Sb_le d) hc
        exact ⟨u, hu, hA u hu a, d, fun x hx => absurd hx (Nat.not_lt_zero x)⟩
    | succ k ih =>
      obtain ⟨s, s1, s2, s3, s4⟩ := ih
      cases hk : c.testBit k
      · refine ⟨s, s1, s2, s3, fun x hx hcx => ?_⟩
        by_cases z : x = k
        · subst z; rw [hk] at hcx; cases hcx
        · exact s4 x (by omega) hcx
      · obtain ⟨u, a, b, d⟩ := h.1 k hk
        have hu := Nat.lt_of_le_of_lt (Sb_le d) hc
        refine ⟨s ||| u, Nat.or_lt_two_pow s1 hu, hC s u s1 hu s2 a, fun i hi => ?_, fun x hx hcx => ?_⟩
        · rw [Nat.testBit_or, Bool.or_eq_true] at hi; exact hi.elim (s3 i) (d i)
        · rw [Nat.testBit_or, Bool.or_eq_true]
          by_cases z : x = k
          · subst z; exact Or.inr b
          · exact Or.inl (s4 x (by omega) hcx)
  obtain ⟨s, s1, s2, s3, s4⟩ := key n
  rw [← Sb_anti s3 (fun i hi => s4 i (tb_in hc hi) hi)]; exact s2
theorem cp_and {n s t : Nat} (hs : s < 2 ^ n) (ht : t < 2 ^ n) : 2 ^ n - 1 - (s &&& t) = (2 ^ n - 1 - s) ||| (2 ^ n - 1 - t) := by
  apply Nat.eq_of_testBit_eq; intro i
  rw [Nat.testBit_or, cp_tb (Nat.lt_of_le_of_lt Nat.and_le_left hs), cp_tb hs, cp_tb ht, Nat.testBit_and]
  cases decide (i < n) <;> cases s.testBit i <;> cases t.testBit i <;> rfl
theorem cp_or {n s t : Nat} (hs : s < 2 ^ n) (ht : t < 2 ^ n) : 2 ^ n - 1 - (s ||| t) = (2 ^ n - 1 - s) &&& (2 ^ n - 1 - t) := by
  apply Nat.eq_of_testBit_eq; intro i
  rw [Nat.testBit_and, cp_tb (Nat.or_lt_two_pow hs ht), cp_tb hs, cp_tb ht, Nat.testBit_or]
  cases decide (i < n) <;> cases s.testBit i <;> cases t.testBit i <;> rfl
