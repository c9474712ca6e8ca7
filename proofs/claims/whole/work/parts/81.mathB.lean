/-! an element enters or leaves: the steps of a row by one element -/
theorem xr_lt {n e c : Nat} (he : e < n) : c ^^^ 2 ^ e < 2 ^ n ↔ c < 2 ^ n := by
  have hp : 2 ^ e < 2 ^ n := Nat.pow_lt_pow_right (by decide) he
  constructor
  · intro h
    have := Nat.xor_lt_two_pow h hp
    rwa [Nat.xor_assoc, Nat.xor_self, Nat.xor_zero] at this
  · exact fun h => Nat.xor_lt_two_pow h hp
theorem xr_xr (c e : Nat) : c ^^^ 2 ^ e ^^^ 2 ^ e = c := by rw [Nat.xor_assoc, Nat.xor_self, Nat.xor_zero]
theorem xr_tb (c e i : Nat) : (c ^^^ 2 ^ e).testBit i = (c.testBit i ^^ decide (e = i)) := by rw [Nat.testBit_xor, Nat.testBit_two_pow]
theorem xr_tbs (c e : Nat) : (c ^^^ 2 ^ e).testBit e = !c.testBit e := by rw [xr_tb]; simp
theorem xr_tbn (c : Nat) {e i : Nat} (h : ¬ e = i) : (c ^^^ 2 ^ e).testBit i = c.testBit i := by rw [xr_tb]; simp [h]
theorem add_tb {c e : Nat} (h : c.testBit e = false) (i : Nat) : (c + 2 ^ e).testBit i = (c.testBit i || decide (e = i)) := by
  have h1 : c % 2 ^ (e + 1) < 2 ^ e := by
    apply Nat.lt_pow_two_of_testBit
    intro i hi
    rw [Nat.testBit_mod_two_pow]
    by_cases q : i = e
    · subst q; simp [h]
    · simp [show ¬ i < e + 1 by omega]
  have hp := Nat.two_pow_pos e
  have e1 : 2 ^ (e + 1) = 2 ^ e * 2 := Nat.pow_succ 2 e
  have e2 := Nat.div_add_mod c (2 ^ (e + 1))
  have t1 := Nat.testBit_two_pow_mul_add (c / 2 ^ (e + 1)) (b := c % 2 ^ (e + 1)) (i := e + 1) (by omega) i
  have t2 := Nat.testBit_two_pow_mul_add (c / 2 ^ (e + 1)) (b := c % 2 ^ (e + 1) + 2 ^ e) (i := e + 1) (by omega) i
  rw [e2] at t1
  rw [← Nat.add_assoc, e2] at t2
  rw [t1, t2]
  by_cases q : i < e + 1
  · rw [if_pos q, if_pos q]
    rw [← Nat.or_two_pow_eq_add_of_lt h1, Nat.testBit_or, Nat.testBit_two_pow]
  · rw [if_neg q, if_neg q, decide_eq_false (by omega)]; simp
theorem xr_add {c e : Nat} (h : c.testBit e = false) : c ^^^ 2 ^ e = c + 2 ^ e := by
  apply Nat.eq_of_testBit_eq; intro i
  rw [add_tb h, xr_tb]
  by_cases q : e = i
  · subst q; simp [h]
  · simp [q]
theorem xr_sub {c e : Nat} (h : c.testBit e = true) : c ^^^ 2 ^ e = c - 2 ^ e ∧ 2 ^ e ≤ c := by
  have h1 : (c ^^^ 2 ^ e).testBit e = false := by rw [xr_tbs, h]; rfl
  have h2 := xr_add h1
  rw [xr_xr] at h2
  omega
theorem xr_d6 {c e : Nat} (h : e < 6) : (c ^^^ 2 ^ e) / 64 = c / 64 ∧ (c ^^^ 2 ^ e) % 64 = c % 64 ^^^ 2 ^ e := by
  have hp : 2 ^ e < 2 ^ 6 := Nat.pow_lt_pow_right (by decide) h
  rw [show (64 : Nat) = 2 ^ 6 from rfl, Nat.xor_div_two_pow, Nat.xor_mod_two_pow, Nat.div_eq_of_lt hp, Nat.mod_eq_of_lt hp, Nat.xor_zero]
  exact ⟨rfl, rfl⟩
theorem xr_d7 {c e : Nat} (h : 6 ≤ e) : (c ^^^ 2 ^ e) / 64 = c / 64 ^^^ 2 ^ (e - 6) ∧ (c ^^^ 2 ^ e) % 64 = c % 64 := by
  have hp : 2 ^ e = 2 ^ (e - 6) * 2 ^ 6 := by rw [← Nat.pow_add]; congr 1; omega
  rw [show (64 : Nat) = 2 ^ 6 from rfl, Nat.xor_div_two_pow, Nat.xor_mod_two_pow, hp, Nat.mul_div_cancel _ (Nat.two_pow_pos 6), Nat.mul_mod_left, Nat.xor_zero]
  exact ⟨rfl, rfl⟩
theorem wf_hi {n e w : Nat} (he : e < n) (h6 : 6 ≤ e) (hn : n ≤ 10) : w ^^^ 2 ^ (e - 6) < wf n ↔ w < wf n := by
  unfold wf
  rw [if_neg (by omega)]
  exact xr_lt (by omega)
theorem btq (x : Nat → Int64) (c : Nat) : bt x c = wb (x (c / 64)) (c % 64) := rfl
theorem low6 : ∀ e, e < 6 → ∀ i, i < 64 → i.testBit e = false → i + 2 ^ e < 64 := by decide +kernel
theorem sub6 : ∀ e, e < 6 → ∀ i, i < 64 → (decide (2 ^ e ≤ i) && !(i - 2 ^ e).testBit e) = i.testBit e := by decide +kernel
theorem bt_jlow {n e c : Nat} (he : e < n) (hn : n ≤ 10) (hw : c / 64 < wf n) (x y : Nat → Int64) : bt (jlow e (wf n) x y) c = (bt x c || (!c.testBit e && bt y (c ^^^ 2 ^ e))) := by
  unfold jlow
  by_cases h : e < 6
  · have h2 : 2 ^ e < 2 ^ 6 := Nat.pow_lt_pow_right (by decide) h
    rw [if_pos h, bt_row, if_pos hw, wb_aor, bt_w, wb_aand, wb_lack e h _ (m64 c), wb_shrW _ h2 (m64 c), ← tb_lo c e h]
    cases hb : c.testBit e
    · rw [btq y, (xr_d6 h).1, (xr_d6 h).2, xr_add (by rw [← tb_lo c e h]; exact hb)]; simp
    · simp
  · rw [if_neg h]
    have h6 : 6 ≤ e := by omega
    have ha := and_p2 (c / 64) (e - 6)
    rw [← tb_hi c e h6] at ha
    cases hb : c.testBit e
    · have hx := xr_add (c := c / 64) (e := e - 6) (by rw [← tb_hi c e h6]; exact hb)
      have hl := (wf_hi he h6 hn).mpr hw
      rw [bt_row, if_pos (by omega), if_pos (ha.mpr hb), wb_aor, bt_w, btq y, (xr_d7 h6).1, (xr_d7 h6).2, hx]; simp
    · rw [bt_row]
      have : ¬ c / 64 &&& 2 ^ (e - 6) = 0 := fun q => by rw [ha.mp q] at hb; cases hb
      rw [if_neg this, bt_w]
      simp
theorem bt_jrai {n e c : Nat} (he : e < n) (hn : n ≤ 10) (hw : c / 64 < wf n) (x y : Nat → Int64) : bt (jrai e (wf n) x y) c = (bt x c || (c.testBit e && bt y (c ^^^ 2 ^ e))) := by
  unfold jrai
  by_cases h : e < 6
  · have h2 : 2 ^ e < 2 ^ 6 := Nat.pow_lt_pow_right (by decide) h
    rw [if_pos h, bt_row, if_pos hw, wb_aor, bt_w, wb_shlW _ h2 (m64 c), wb_aand]
    have h3 := sub6 e h _ (m64 c)
    rw [← tb_lo c e h] at h3
    rw [wb_lack e h _ (Nat.lt_of_le_of_lt (Nat.sub_le _ _) (m64 c)), btq y, (xr_d6 h).1, (xr_d6 h).2]
    cases hb : c.testBit e
    · rw [hb] at h3
      rw [Bool.and_comm (wb _ _), ← Bool.and_assoc, h3]; simp
    · rw [hb] at h3
      rw [Bool.and_comm (wb _ _), ← Bool.and_assoc, h3, (xr_sub (c := c % 64) (e := e) (by rw [← tb_lo c e h]; exact hb)).1]
  · rw [if_neg h, bt_row, if_pos hw]
    have h6 : 6 ≤ e := by omega
    have ha := and_p2 (c / 64) (e - 6)
    rw [← tb_hi c e h6] at ha
    cases hb : c.testBit e
    · rw [if_pos (ha.mpr hb), bt_w]; simp
    · have : ¬ c / 64 &&& 2 ^ (e - 6) = 0 := fun q => by rw [ha.mp q] at hb; cases hb
      have hx := (xr_sub (c := c / 64) (e := e - 6) (by rw [← tb_hi c e h6]; exact hb)).1
      rw [if_neg this, wb_aor, bt_w, btq y, (xr_d7 h6).1, (xr_d7 h6).2, hx]; simp
theorem bt_exch {n e c : Nat} (he : e < n) (hn : n ≤ 10) (hw : c / 64 < wf n) (x : Nat → Int64) : bt (exch e (wf n) x) c = bt x (c ^^^ 2 ^ e) := by
  unfold exch
  by_cases h : e < 6
  · have h2 : 2 ^ e < 2 ^ 6 := Nat.pow_lt_pow_right (by decide) h
    rw [if_pos h, bt_row, if_pos hw, wb_aor, wb_aand, wb_lack e h _ (m64 c), wb_shrW _ h2 (m64 c), wb_shlW _ h2 (m64 c), wb_aand, ← tb_lo c e h]
    have h3 := sub6 e h _ (m64 c)
    rw [← tb_lo c e h] at h3
    rw [wb_lack e h _ (Nat.lt_of_le_of_lt (Nat.sub_le _ _) (m64 c)), btq x, (xr_d6 h).1, (xr_d6 h).2]
    cases hb : c.testBit e
    · rw [hb] at h3
      rw [Bool.and_comm (wb _ (c % 64 - 2 ^ e)), ← Bool.and_assoc, h3, xr_add (by rw [← tb_lo c e h]; exact hb)]; simp
    · rw [hb] at h3
      rw [Bool.and_comm (wb _ (c % 64 - 2 ^ e)), ← Bool.and_assoc, h3, (xr_sub (c := c % 64) (e := e) (by rw [← tb_lo c e h]; exact hb)).1]; simp
  · rw [if_neg h]
    have h6 : 6 ≤ e := by omega
    have ha := and_p2 (c / 64) (e - 6)
    rw [← tb_hi c e h6] at ha
    have hl := (wf_hi he h6 hn).mpr hw
    rw [btq x, (xr_d7 h6).1, (xr_d7 h6).2, btq]
    unfold swp
    cases hb : c.testBit e
    · have hx := xr_add (c := c / 64) (e := e - 6) (by rw [← tb_hi c e h6]; exact hb)
      rw [hx] at hl ⊢
      rw [if_pos (ha.mpr hb), if_pos (by omega)]
    · have : ¬ c / 64 &&& 2 ^ (e - 6) = 0 := fun q => by rw [ha.mp q] at hb; cases hb
      obtain ⟨hx, hy⟩ := xr_sub (c := c / 64) (e := e - 6) (by rw [← tb_hi c e h6]; exact hb)
      rw [if_neg this, if_pos (by omega), hx]
theorem bt_jlow' {n e c : Nat} (he : e < n) (hn : n ≤ 10) (hw : ¬ c / 64 < wf n) (x y : Nat → Int64) : bt (jlow e (wf n) x y) c = bt x c := by
  unfold jlow
  by_cases h : e < 6
  · rw [if_pos h, bt_row, if_neg hw]
  · have := Nat.two_pow_pos (e - 6); rw [if_neg h, bt_row, if_neg (by omega)]
theorem bt_jrai' {n e c : Nat} (he : e < n) (hn : n ≤ 10) (hw : ¬ c / 64 < wf n) (x y : Nat → Int64) : bt (jrai e (wf n) x y) c = bt x c := by
  unfold jrai
  by_cases h : e < 6
  · rw [if_pos h, bt_row, if_neg hw]
  · rw [if_neg h, bt_row, if_neg hw]
theorem bt_exch' {n e c : Nat} (he : e < n) (hn : n ≤ 10) (hw : ¬ c / 64 < wf n) (x : Nat → Int64) : bt (exch e (wf n) x) c = bt x c := by
  unfold exch
  by_cases h : e < 6
  · rw [if_pos h, bt_row, if_neg hw]
  · rw [if_neg h, btq]
    have h6 : 6 ≤ e := by omega
    unfold swp
    by_cases q : c / 64 &&& 2 ^ (e - 6) = 0
    · have := Nat.two_pow_pos (e - 6); rw [if_pos q, if_neg (by omega), bt_w]
    · have hs : (c / 64).testBit (e - 6) = true := by
        cases hh : (c / 64).testBit (e - 6)
        · exact absurd ((and_p2 _ _).mpr hh) q
        · rfl
      have hx := xr_sub hs
      have := (wf_hi (w := c / 64) he h6 hn)
      rw [if_neg q, if_neg (by omega), bt_w]
theorem Rq_jl {n e : Nat} (he : e < n) (hn : n ≤ 10) {x y : Nat → Int64} {A B : Nat → Prop} (h : Rq n x A) (k : Rq n y B) : Rq n (jlow e (wf n) x y) (fun c => A c ∨ (c.testBit e = false ∧ B (c ^^^ 2 ^ e))) := by
  refine ⟨fun c hc => ?_, fun c hc hn' => ?_⟩
  · rw [bt_jlow he hn (wf_in hn hc), Bool.or_eq_true, Bool.and_eq_true, h.1 c hc, k.1 _ ((xr_lt he).mpr hc), Bool.not_eq_true']
  · by_cases q : c / 64 < wf n
    · rw [bt_jlow he hn q, h.2 c hc hn', k.2 _ ((xr_lt (n := 10) (by omega)).mpr hc) (by rcases Nat.lt_or_ge (c ^^^ 2 ^ e) (2 ^ n) with z | z; exact absurd ((xr_lt he).mp z) (by omega); exact z)]; simp
    · rw [bt_jlow' he hn q]; exact h.2 c hc hn'
theorem Rq_jr {n e : Nat} (he : e < n) (hn : n ≤ 10) {x y : Nat → Int64} {A B : Nat → Prop} (h : Rq n x A) (k : Rq n y B) : Rq n (jrai e (wf n) x y) (fun c => A c ∨ (c.testBit e = true ∧ B (c ^^^ 2 ^ e))) := by
  refine ⟨fun c hc => ?_, fun c hc hn' => ?_⟩
  · rw [bt_jrai he hn (wf_in hn hc), Bool.or_eq_true, Bool.and_eq_true, h.1 c hc, k.1 _ ((xr_lt he).mpr hc)]
  · by_cases q : c / 64 < wf n
    · rw [bt_jrai he hn q, h.2 c hc hn', k.2 _ ((xr_lt (n := 10) (by omega)).mpr hc) (by rcases Nat.lt_or_ge (c ^^^ 2 ^ e) (2 ^ n) with z | z; exact absurd ((xr_lt he).mp z) (by omega); exact z)]; simp
    · rw [bt_jrai' he hn q]; exact h.2 c hc hn'
theorem Rq_ex {n e : Nat} (he : e < n) (hn : n ≤ 10) {x : Nat → Int64} {A : Nat → Prop} (h : Rq n x A) : Rq n (exch e (wf n) x) (fun c => A (c ^^^ 2 ^ e)) := by
  refine ⟨fun c hc => ?_, fun c hc hn' => ?_⟩
  · rw [bt_exch he hn (wf_in hn hc), h.1 _ ((xr_lt he).mpr hc)]
  · by_cases q : c / 64 < wf n
    · rw [bt_exch he hn q, h.2 _ ((xr_lt (n := 10) (by omega)).mpr hc) (by rcases Nat.lt_or_ge (c ^^^ 2 ^ e) (2 ^ n) with z | z; exact absurd ((xr_lt he).mp z) (by omega); exact z)]
    · rw [bt_exch' he hn q]; exact h.2 c hc hn'
