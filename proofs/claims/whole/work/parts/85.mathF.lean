theorem hit_eq {n : Nat} {A : Nat → Prop} {c : Nat} (hc : c < 2 ^ n) : (¬ ∃ u, A u ∧ Sb u (2 ^ n - 1 - c)) ↔ ∀ u, u < 2 ^ n → A u → ¬ u &&& c = 0 := by
  constructor
  · intro h u hu a z; exact h ⟨u, a, (cp_sb hc).mpr ⟨hu, z⟩⟩
  · rintro h ⟨u, a, b⟩; obtain ⟨b1, b2⟩ := (cp_sb hc).mp b; exact h u b1 a b2
theorem and_sub0 {u a b : Nat} (h : Sb a b) (z : u &&& b = 0) : u &&& a = 0 := by
  apply Nat.eq_of_testBit_eq; intro i
  rw [Nat.testBit_and, Nat.zero_testBit]
  cases ha : a.testBit i
  · simp
  · have := congrArg (fun v => v.testBit i) z
    simp only [Nat.testBit_and, h i ha, Bool.and_true, Nat.zero_testBit] at this
    rw [this]; rfl
theorem hbC_ok (F : Nat → Bool) (f e : Nat) (up pr : Bool) (s : Nat) : hbC F f e up pr s = true ↔ F (1024 * f + s) = true ∧ (if up = true then Sb e s else Sb s e) ∧ (pr = true → s ≠ e) := by
  unfold hbC
  rw [Bool.and_eq_true, Bool.and_eq_true, and_assoc]
  refine and_congr Iff.rfl (and_congr ?_ ?_)
  · cases up
    · simp only [Bool.false_eq_true, if_false, decide_eq_true_iff]; rw [Sb_and, Nat.and_comm]
    · simp only [if_true, decide_eq_true_iff]; rw [Sb_and]
  · cases pr <;> simp
theorem bl_eq {F : Nat → Bool} {n f c : Nat} (hc : c < 2 ^ n) : blA F n f c = true ↔ Mn (fun c => ¬ ∃ u, F (1024 * f + u) = true ∧ Sb u (2 ^ n - 1 - c)) c := by
  have hh : ∀ e, htF F f e (2 ^ n) 0 = true ↔ ∀ u, u < 2 ^ n → F (1024 * f + u) = true → ¬ u &&& e = 0 := fun e => by
    rw [ht_ok]; exact ⟨fun h u hu a => h u (Nat.zero_le _) (by omega) a, fun h u _ hu a => h u (by omega) a⟩
  have hA : blA F n f c = true ↔ htF F f c (2 ^ n) 0 = true ∧ blF F n f c n 0 = true := by
    unfold blA
    by_cases q : htF F f c (2 ^ n) 0 = true
    · rw [if_pos q]; exact ⟨fun z => ⟨q, z⟩, fun z => z.2⟩
    · rw [if_neg q]; exact ⟨fun z => absurd z (by decide), fun z => absurd z.1 q⟩
  rw [hA, hh, bl_ok]
  show _ ↔ (¬ ∃ u, F (1024 * f + u) = true ∧ Sb u (2 ^ n - 1 - c)) ∧ ¬ ∃ s, (¬ ∃ u, F (1024 * f + u) = true ∧ Sb u (2 ^ n - 1 - s)) ∧ Sb s c ∧ s ≠ c
  rw [hit_eq (A := fun u => F (1024 * f + u) = true) hc]
  refine and_congr_right (fun h1 => ?_)
  constructor
  · rintro h ⟨s, hs, hsc, hne⟩
    obtain ⟨x, hx, hsx⟩ := Sb_ne hsc hne
    have hs2 : s < 2 ^ n := Nat.lt_of_le_of_lt (Sb_le hsc) hc
    rw [hit_eq (A := fun u => F (1024 * f + u) = true) hs2] at hs
    refine h x (Nat.zero_le _) (by have := tb_in hc hx; omega) ⟨hx, (hh _).mpr (fun u hu a z => hs u hu a (and_sub0 (fun i hi => ?_) z))⟩
    by_cases q : x = i
    · subst q; rw [hsx] at hi; cases hi
    · rw [xr_tbn c q]; exact hsc i hi
  · rintro h y _ hy ⟨hcy, hq⟩
    refine h ⟨c ^^^ 2 ^ y, ?_, Sb_out.mpr hcy, fun q => ?_⟩
    · rw [hit_eq (A := fun u => F (1024 * f + u) = true) ((xr_lt (by omega)).mpr hc)]; exact (hh _).mp hq
    · have := xr_tbs c y; rw [q, hcy] at this; cases this
theorem cl_eq {F O : Nat → Bool} {n f c : Nat} (hc : c < 2 ^ n) (hO : ∀ d, d < 2 ^ n → O d = F (1024 * f + d)) : (clW F f true n (2 ^ n + 1) O c = true ↔ Un (fun d => F (1024 * f + d) = true) c) ∧ (clW F f false n (2 ^ n + 1) O c = true ↔ Un (fun d => F (1024 * f + (2 ^ n - 1 - d)) = true) (2 ^ n - 1 - c)) := by
  have hr : 2 ^ n - cnB O (2 ^ n) < 2 ^ n + 1 := by omega
  refine ⟨⟨fun h => ?_, fun h => ?_⟩, ⟨fun h => ?_, fun h => ?_⟩⟩
  · exact clW_T (F := F) (f := f) (un := true) (n := n) (T := fun s => s < 2 ^ n → Un (fun d => F (1024 * f + d) = true) s) (fun a t ha h1 h2 hF hlt => Un_or (ha h1) hF) (2 ^ n + 1) O (fun d hd hlt => Un_of (by rw [← hO d hlt]; exact hd)) c h hc
  · exact Un_sub (n := n) (A := fun d => F (1024 * f + d) = true) (R := fun d => clW F f true n (2 ^ n + 1) O d = true) (fun d hd hA => clW_M _ _ _ (by rw [hO d hd]; exact hA)) (fun s t hs ht hR hA => clW_C (2 ^ n + 1) O hr s t hs ht hR hA) hc h
  · refine clW_T (F := F) (f := f) (un := false) (n := n) (T := fun s => s < 2 ^ n → Un (fun d => F (1024 * f + (2 ^ n - 1 - d)) = true) (2 ^ n - 1 - s)) (fun a t ha h1 h2 hF hlt => ?_) (2 ^ n + 1) O (fun d hd hlt => Un_of (by show F (1024 * f + (2 ^ n - 1 - (2 ^ n - 1 - d))) = true; rw [cp_cp hlt, ← hO d hlt]; exact hd)) c h hc
    show Un _ (2 ^ n - 1 - (a &&& t))
    rw [cp_and h1 h2]
    exact Un_or (ha h1) (by show F (1024 * f + (2 ^ n - 1 - (2 ^ n - 1 - t))) = true; rw [cp_cp h2]; exact hF)
  · have := Un_sub (n := n) (A := fun d => F (1024 * f + (2 ^ n - 1 - d)) = true) (R := fun d => clW F f false n (2 ^ n + 1) O (2 ^ n - 1 - d) = true) (fun d hd hA => clW_M _ _ _ (by rw [hO _ (cp_lt n d)]; exact hA)) (fun s t hs ht hR hA => by
      have := clW_C (F := F) (f := f) (un := false) (2 ^ n + 1) O hr (2 ^ n - 1 - s) (2 ^ n - 1 - t) (cp_lt n s) (cp_lt n t) hR hA
      rw [cp_or hs ht]; exact this) (cp_lt n c) h
    simp only [cp_cp hc] at this
    exact this
theorem dv_ok {F O : Nat → Bool} {n f p : Nat} (hn : n ≤ 10) (hp : p < 10) {c : Nat} (hc : c < 1024) : (c < 2 ^ n → (dvO F O n p f c = true ↔ LyP n (fun d => F (1024 * f + d) = true) p c)) ∧ (2 ^ n ≤ c → dvO F O n p f c = false) := by
  have h1024 := pw10 hn
  have h0 : rowU 1024 (fun _ => false) O c = false := by unfold rowU; rw [if_pos hc]
  have hsh : ∀ up, (swO F (rowU 1024 (fun _ => false) O) n f up (2 ^ n) c = true ↔ c < 2 ^ n ∧ ∃ x, x < n ∧ c.testBit x = up ∧ F (1024 * f + (c ^^^ 2 ^ x)) = true) := fun up => by
    rw [swO_ok, h0]
    constructor
    · rintro (q | ⟨s, hs, hF, x, hx, hb, he⟩)
      · cases q
      · subst he
        exact ⟨(xr_lt hx).mpr hs, x, hx, by rw [xr_tbs, hb, Bool.not_not], by rw [xr_xr]; exact hF⟩
    · rintro ⟨hc2, x, hx, hb, hF⟩
      exact Or.inr ⟨c ^^^ 2 ^ x, (xr_lt hx).mpr hc2, hF, x, hx, by rw [xr_tbs, hb], by rw [xr_xr]⟩
  have hrow : ∀ q, rowU (2 ^ n) q (rowU 1024 (fun _ => false) O) c = if c < 2 ^ n then q c else false := fun q => by
    unfold rowU; by_cases z : c < 2 ^ n
    · rw [if_pos z, if_pos z]
    · rw [if_neg z, if_neg z, if_pos hc]
  have hbl : ∀ up pr, hbF F f c up pr (2 ^ n) 0 = true ↔ ∃ t, t < 2 ^ n ∧ F (1024 * f + t) = true ∧ (if up = true then Sb c t else Sb t c) ∧ (pr = true → t ≠ c) := fun up pr => by
    rw [hb_ok]
    constructor
    · rintro ⟨t, _, b, d⟩; exact ⟨t, by omega, (hbC_ok F f c up pr t).mp d⟩
    · rintro ⟨t, b, d⟩; exact ⟨t, Nat.zero_le _, by omega, (hbC_ok F f c up pr t).mpr d⟩
  have hclf : ∀ un, 2 ^ n ≤ c → clW F f un n (2 ^ n + 1) (rowU (2 ^ n) (fun c => F (1024 * f + c)) (rowU 1024 (fun _ => false) O)) c = false := fun un hge => by
    cases hh : clW F f un n (2 ^ n + 1) (rowU (2 ^ n) (fun c => F (1024 * f + c)) (rowU 1024 (fun _ => false) O)) c
    · rfl
    · have := clW_T (F := F) (f := f) (un := un) (n := n) (T := fun s => s < 2 ^ n ∨ 1024 ≤ s) (fun a t _ h1 h2 _ => Or.inl (clN_lt h1 h2)) (2 ^ n + 1) _ (fun d hd => by
        rcases Nat.lt_or_ge d (2 ^ n) with z | z
        · exact Or.inl z
        · rcases Nat.lt_or_ge d 1024 with y | y
          · unfold rowU at hd; rw [if_neg (by omega), if_pos y] at hd; cases hd
          · exact Or.inr y) c hh
      omega
  rcases (show p = 0 ∨ p = 1 ∨ p = 2 ∨ p = 3 ∨ p = 4 ∨ p = 5 ∨ p = 6 ∨ p = 7 ∨ p = 8 ∨ p = 9 by omega) with rfl | rfl | rfl | rfl | rfl | rfl | rfl | rfl | rfl | rfl
  · unfold dvO
    rw [if_pos (by decide)]
    refine ⟨fun h2 => ?_, fun h2 => ?_⟩
    · rw [hsh]; exact ⟨fun z => z.2, fun z => ⟨h2, z⟩⟩
    · exact Bool.eq_false_iff.mpr (fun z => absurd ((hsh _).mp z).1 (by omega))
  · unfold dvO
    rw [if_pos (by decide)]
    refine ⟨fun h2 => ?_, fun h2 => ?_⟩
    · rw [hsh]; exact ⟨fun z => z.2, fun z => ⟨h2, z⟩⟩
    · exact Bool.eq_false_iff.mpr (fun z => absurd ((hsh _).mp z).1 (by omega))
  all_goals (unfold dvO; rw [if_neg (by decide)])
  · rw [if_neg (by decide), hrow]
    refine ⟨fun h2 => ?_, fun h2 => by rw [if_neg (by omega)]⟩
    rw [if_pos h2]
    show hbF F f c true false (2 ^ n) 0 = true ↔ ∃ s, s < 2 ^ n ∧ F (1024 * f + s) = true ∧ Sb c s
    rw [hbl]
    exact ⟨fun ⟨t, a, b, d, _⟩ => ⟨t, a, b, d⟩, fun ⟨t, a, b, d⟩ => ⟨t, a, b, d, fun z => by cases z⟩⟩
  · rw [if_neg (by decide), hrow]
    refine ⟨fun h2 => ?_, fun h2 => by rw [if_neg (by omega)]⟩
    rw [if_pos h2]
    show hbF F f c false false (2 ^ n) 0 = true ↔ ∃ s, F (1024 * f + s) = true ∧ Sb s c
    rw [hbl]
    exact ⟨fun ⟨t, a, b, d, _⟩ => ⟨t, b, d⟩, fun ⟨t, b, d⟩ => ⟨t, Nat.lt_of_le_of_lt (Sb_le d) h2, b, d, fun z => by cases z⟩⟩
  · rw [if_neg (by decide), hrow]
    refine ⟨fun h2 => ?_, fun h2 => by rw [if_neg (by omega)]⟩
    rw [if_pos h2]
    show (F (1024 * f + c) && !hbF F f c false true (2 ^ n) 0) = true ↔ Mn (fun d => F (1024 * f + d) = true) c
    unfold Mn
    rw [Bool.and_eq_true, Bool.not_eq_true', ← Bool.not_eq_true, hbl]
    exact and_congr Iff.rfl (not_congr ⟨fun ⟨t, a, b, d, e⟩ => ⟨t, b, d, e rfl⟩, fun ⟨t, b, d, e⟩ => ⟨t, Nat.lt_of_le_of_lt (Sb_le d) h2, b, d, fun _ => e⟩⟩)
  · rw [if_neg (by decide), hrow]
    refine ⟨fun h2 => ?_, fun h2 => by rw [if_neg (by omega)]⟩
    rw [if_pos h2]
    show (F (1024 * f + c) && !hbF F f c true true (2 ^ n) 0) = true ↔ Mx n (fun d => F (1024 * f + d) = true) c
    unfold Mx
    rw [Bool.and_eq_true, Bool.not_eq_true', ← Bool.not_eq_true, hbl]
    exact and_congr Iff.rfl (not_congr ⟨fun ⟨t, a, b, d, e⟩ => ⟨t, a, b, d, e rfl⟩, fun ⟨t, a, b, d, e⟩ => ⟨t, a, b, d, fun _ => e⟩⟩)
  · rw [if_neg (by decide), hrow]
    refine ⟨fun h2 => ?_, fun h2 => by rw [if_neg (by omega)]⟩
    rw [if_pos h2]
    show F (1024 * f + 2 ^ n - 1 - c) = true ↔ F (1024 * f + (2 ^ n - 1 - c)) = true
    have := Nat.two_pow_pos n
    rw [show 1024 * f + 2 ^ n - 1 - c = 1024 * f + (2 ^ n - 1 - c) by omega]
  · rw [if_neg (by decide), hrow]
    refine ⟨fun h2 => ?_, fun h2 => by rw [if_neg (by omega)]⟩
    rw [if_pos h2]
    exact bl_eq h2
  · rw [if_pos (by decide)]
    exact ⟨fun h2 => (cl_eq h2 (fun d hd => by unfold rowU; rw [if_pos hd])).1, hclf _⟩
  · rw [if_pos (by decide)]
    exact ⟨fun h2 => (cl_eq h2 (fun d hd => by unfold rowU; rw [if_pos hd])).2, hclf _⟩
