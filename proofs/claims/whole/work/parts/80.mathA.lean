/-! what the rows of bits mean: row x holds just the codes of A, below 2 ^ n -/
def Rq (n : Nat) (x : Nat → Int64) (A : Nat → Prop) : Prop := (∀ c, c < 2 ^ n → (bt x c = true ↔ A c)) ∧ (∀ c, c < 1024 → 2 ^ n ≤ c → bt x c = false)
theorem Rq.cg {n : Nat} {x : Nat → Int64} {A B : Nat → Prop} (h : Rq n x A) (hAB : ∀ c, c < 2 ^ n → (A c ↔ B c)) : Rq n x B := ⟨fun c hc => (h.1 c hc).trans (hAB c hc), h.2⟩
theorem wb_aand (a b : Int64) (i : Nat) : wb (a &&& b) i = (wb a i && wb b i) := by show (a &&& b).toBitVec.getLsbD i = _; rw [Int64.toBitVec_and, BitVec.getLsbD_and]
theorem wb_aor (a b : Int64) (i : Nat) : wb (a ||| b) i = (wb a i || wb b i) := by show (a ||| b).toBitVec.getLsbD i = _; rw [Int64.toBitVec_or, BitVec.getLsbD_or]
theorem wb_axor (a b : Int64) (i : Nat) : wb (a ^^^ b) i = (wb a i ^^ wb b i) := by show (a ^^^ b).toBitVec.getLsbD i = _; rw [Int64.toBitVec_xor, BitVec.getLsbD_xor]
theorem wb_m1 : ∀ i, i < 64 → wb (-1) i = true := by decide +kernel
theorem wb_z (i : Nat) : wb (lN 0) i = false := by rw [wb_lN]; simp
theorem wb_not (a : Int64) {i : Nat} (h : i < 64) : wb (a ^^^ (-1)) i = !wb a i := by rw [wb_axor, wb_m1 i h]; simp
theorem wb_ge (a : Int64) {i : Nat} (h : 64 ≤ i) : wb a i = false := BitVec.getLsbD_of_ge _ _ h
theorem wb_shrW (a : Int64) {k i : Nat} (hk : k < 64) (hi : i < 64) : wb (shrW a k) i = wb a (i + k) := by
  obtain ⟨m, hm, rfl⟩ := wb_of a
  unfold shrW
  rw [wb_shr hm hk, wb_lN, wb_lN, Nat.testBit_div_two_pow]
  by_cases h : i + k < 64
  · simp [h, hi]
  · have : m.testBit (i + k) = false := Nat.testBit_lt_two_pow (Nat.lt_of_lt_of_le hm (Nat.pow_le_pow_right (by decide) (by omega)))
    rw [this]; simp
theorem wb_shlW (a : Int64) {k i : Nat} (hk : k < 64) (hi : i < 64) : wb (shlW a k) i = (decide (k ≤ i) && wb a (i - k)) := by
  obtain ⟨m, hm, rfl⟩ := wb_of a
  unfold shlW
  rw [wb_shl m hk, wb_lN, wb_lN, Nat.mul_comm, Nat.testBit_two_pow_mul]
  simp only [hi, decide_true, Bool.true_and, show i - k < 64 by omega]
theorem wb_lack : ∀ e, e < 6 → ∀ i, i < 64 → wb (lackT e) i = !i.testBit e := by decide +kernel
theorem wb_size : ∀ k, k < 7 → ∀ i, i < 64 → wb (sizeT k) i = decide (pN i = k) := by decide +kernel
theorem pN6 : ∀ i, i < 64 → pN i ≤ 6 := by decide +kernel
/-- a bit of a code, by its word and its place there -/
theorem tb_lo (c e : Nat) (h : e < 6) : c.testBit e = (c % 64).testBit e := by rw [show (64 : Nat) = 2 ^ 6 from rfl, Nat.testBit_mod_two_pow]; simp [h]
theorem tb_hi (c e : Nat) (h : 6 ≤ e) : c.testBit e = (c / 64).testBit (e - 6) := by rw [show (64 : Nat) = 2 ^ 6 from rfl, Nat.testBit_div_two_pow]; congr 1; omega
theorem and_p2 (w e : Nat) : w &&& 2 ^ e = 0 ↔ w.testBit e = false := by
  constructor
  · intro h
    have := congrArg (fun v => v.testBit e) h
    simp only [Nat.testBit_and, Nat.testBit_two_pow_self, Bool.and_true, Nat.zero_testBit] at this
    exact this
  · intro h
    apply Nat.eq_of_testBit_eq; intro i
    rw [Nat.testBit_and, Nat.testBit_two_pow, Nat.zero_testBit]
    by_cases q : e = i
    · subst q; simp [h]
    · simp [q]
theorem lk_bit {w e i : Nat} (hi : i < 64) : wb (lk w e) i = !(w * 64 + i).testBit e := by
  unfold lk
  by_cases h : e < 6
  · rw [if_pos h, wb_lack e h i hi, tb_lo (w * 64 + i) e h, show (w * 64 + i) % 64 = i by omega]
  · rw [if_neg h, tb_hi _ e (by omega), show (w * 64 + i) / 64 = w by omega]
    by_cases q : w &&& 2 ^ (e - 6) = 0
    · rw [if_pos q, wb_m1 i hi, (and_p2 _ _).mp q]; rfl
    · rw [if_neg q]
      have : w.testBit (e - 6) = true := by
        cases hh : w.testBit (e - 6)
        · exact absurd ((and_p2 _ _).mpr hh) q
        · rfl
      rw [this]; exact wb_z i
theorem pN_split {w i : Nat} (hw : w < 2 ^ 26) (hi : i < 64) : pN (w * 64 + i) = pN w + pN i := by
  unfold pN
  have e1 : cnt (w * 64 + i).testBit 32 = cnt (w * 64 + i).testBit 6 + cnt (fun j => (w * 64 + i).testBit (6 + j)) 26 := cnt_add _ 6 26
  have e2 : cnt i.testBit 32 = cnt i.testBit 6 + cnt (fun j => i.testBit (6 + j)) 26 := cnt_add _ 6 26
  have e3 : cnt w.testBit 32 = cnt w.testBit 26 + cnt (fun j => w.testBit (26 + j)) 6 := cnt_add _ 26 6
  rw [e1, e2, e3]
  have a1 : cnt (w * 64 + i).testBit 6 = cnt i.testBit 6 := cnt_congr (fun j hj => by rw [tb_lo _ j hj, show (w * 64 + i) % 64 = i by omega])
  have a2 : cnt (fun j => (w * 64 + i).testBit (6 + j)) 26 = cnt w.testBit 26 := cnt_congr (fun j _ => by rw [tb_hi _ (6 + j) (by omega), show (w * 64 + i) / 64 = w by omega, show 6 + j - 6 = j by omega])
  have a3 : cnt (fun j => i.testBit (6 + j)) 26 = 0 := cnt_zero (fun j _ => Nat.testBit_lt_two_pow (Nat.lt_of_lt_of_le hi (Nat.pow_le_pow_right (n := 2) (by decide) (by omega : 6 ≤ 6 + j))))
  have a4 : cnt (fun j => w.testBit (26 + j)) 6 = 0 := cnt_zero (fun j _ => Nat.testBit_lt_two_pow (Nat.lt_of_lt_of_le hw (Nat.pow_le_pow_right (n := 2) (by decide) (by omega : 26 ≤ 26 + j))))
  omega
theorem oz_bit {w k i : Nat} (hw : w < 2 ^ 26) (hi : i < 64) : wb (oz w k) i = decide (pN (w * 64 + i) = k) := by
  unfold oz
  rw [pN_split hw hi]
  have h6 := pN6 i hi
  by_cases h : pN w ≤ k ∧ k - pN w < 7
  · rw [if_pos h, wb_size _ h.2 i hi]
    exact decide_eq_decide.mpr ⟨fun q => by omega, fun q => by omega⟩
  · rw [if_neg h]
    have : ¬ pN w + pN i = k := fun q => h ⟨by omega, by omega⟩
    rw [decide_eq_false this]; exact wb_z i
theorem bt_row {nw c : Nat} (f x : Nat → Int64) : bt (rowU nw f x) c = if c / 64 < nw then wb (f (c / 64)) (c % 64) else bt x c := by
  unfold bt rowU
  by_cases h : c / 64 < nw
  · rw [if_pos h, if_pos h]
  · rw [if_neg h, if_neg h]
theorem bt_w (x : Nat → Int64) (c : Nat) : wb (x (c / 64)) (c % 64) = bt x c := rfl
theorem dm (c : Nat) : c / 64 * 64 + c % 64 = c := Nat.div_add_mod' c 64
theorem m64 (c : Nat) : c % 64 < 64 := Nat.mod_lt _ (by decide)
/-- the words that n needs -/
theorem wf_in {n c : Nat} (hn : n ≤ 10) (hc : c < 2 ^ n) : c / 64 < wf n := by
  unfold wf
  by_cases h : n ≤ 6
  · rw [if_pos h]; have : 2 ^ n ≤ 2 ^ 6 := Nat.pow_le_pow_right (by decide) h; omega
  · rw [if_neg h]
    have : 2 ^ n = 2 ^ (n - 6) * 64 := by rw [show (64 : Nat) = 2 ^ 6 from rfl, ← Nat.pow_add]; congr 1; omega
    omega
theorem wf_64 {n : Nat} (hn : 6 ≤ n) : wf n * 64 = 2 ^ n := by
  unfold wf
  by_cases h : n ≤ 6
  · rw [if_pos h, show n = 6 by omega]
  · rw [if_neg h, show (64 : Nat) = 2 ^ 6 from rfl, ← Nat.pow_add]; congr 1; omega
theorem wf_lo {n : Nat} (hn : n ≤ 6) : wf n = 1 := by unfold wf; rw [if_pos hn]
theorem Ok.nw {μ : Mm} {n nw : Nat} (h : Ok μ n nw) : n ≤ 10 ∧ 1 ≤ n := ⟨h.2.2.1, h.2.2.2.2.2⟩
/-- the general shape of a step: behind nw nothing changes -/
theorem Rq.of {n : Nat} (hn : n ≤ 10) {f x : Nat → Int64} {A B : Nat → Prop} (hx : Rq n x A) (h1 : ∀ c, c < 2 ^ n → (wb (f (c / 64)) (c % 64) = true ↔ B c)) (h2 : ∀ c, c < 1024 → 2 ^ n ≤ c → c / 64 < wf n → wb (f (c / 64)) (c % 64) = false) : Rq n (rowU (wf n) f x) B := by
  refine ⟨fun c hc => ?_, fun c hc hn' => ?_⟩
  · rw [bt_row, if_pos (wf_in hn hc)]; exact h1 c hc
  · rw [bt_row]
    by_cases q : c / 64 < wf n
    · rw [if_pos q]; exact h2 c hc hn' q
    · rw [if_neg q]; exact hx.2 c hc hn'
theorem Rq_clr (n : Nat) (hn : n ≤ 10) (x : Nat → Int64) : Rq n (rowU 16 (fun _ => lN 0) x) (fun _ => False) := by
  have := pw10 hn
  refine ⟨fun c hc => ?_, fun c hc _ => ?_⟩
  · rw [bt_row, if_pos (by omega), wb_z]; simp
  · rw [bt_row, if_pos (by omega), wb_z]
theorem Rq_cpy {n : Nat} (hn : n ≤ 10) {y : Nat → Int64} {A : Nat → Prop} (h : Rq n y A) (x : Nat → Int64) : Rq n (rowU 16 y x) A := by
  have := pw10 hn
  refine ⟨fun c hc => ?_, fun c hc hn' => ?_⟩
  · rw [bt_row, if_pos (by omega)]; exact h.1 c hc
  · rw [bt_row, if_pos (by omega)]; exact h.2 c hc hn'
theorem upL_s (x : Nat → Int64) (k : Nat) (v : Int64) : vp_updL x k v k = v := by simp [vp_updL]
theorem upL_n (x : Nat → Int64) {k j : Nat} (v : Int64) (h : ¬ j = k) : vp_updL x k v j = x j := by simp [vp_updL, h]
theorem bt_put (x : Nat → Int64) (e c : Nat) : bt (putW x e) c = (bt x c || decide (c = e)) := by
  unfold bt putW
  by_cases h : c / 64 = e / 64
  · rw [h, upL_s, ← h]
    show wb (x (c / 64) ||| bw e) (c % 64) = _
    rw [wb_aor]
    have := bw_bit e (m64 c)
    show (wb (x (c / 64)) (c % 64) || (bw e).toBitVec.getLsbD (c % 64)) = _
    rw [this, h]
    congr 1
    exact decide_eq_decide.mpr ⟨fun q => by omega, fun q => by omega⟩
  · rw [upL_n _ _ h, decide_eq_false (fun q => h (by rw [q]))]; simp
theorem bt_drop (x : Nat → Int64) (e c : Nat) : bt (dropW x e) c = (bt x c && !decide (c = e)) := by
  unfold bt dropW
  by_cases h : c / 64 = e / 64
  · rw [h, upL_s, ← h]
    show wb (x (c / 64) &&& (bw e ^^^ (-1))) (c % 64) = _
    rw [wb_aand, wb_not _ (m64 c)]
    have := bw_bit e (m64 c)
    show (wb (x (c / 64)) (c % 64) && !(bw e).toBitVec.getLsbD (c % 64)) = _
    rw [this, h]
    congr 2
    exact decide_eq_decide.mpr ⟨fun q => by omega, fun q => by omega⟩
  · rw [upL_n _ _ h, decide_eq_false (fun q => h (by rw [q]))]; simp
theorem Rq_put {n e : Nat} {x : Nat → Int64} {A : Nat → Prop} (h : Rq n x A) (he : e < 2 ^ n) : Rq n (putW x e) (fun c => A c ∨ c = e) :=
  ⟨fun c hc => by rw [bt_put, Bool.or_eq_true, decide_eq_true_iff, h.1 c hc], fun c hc hn' => by rw [bt_put, h.2 c hc hn', decide_eq_false (by omega)]; rfl⟩
theorem Rq_drp {n e : Nat} {x : Nat → Int64} {A : Nat → Prop} (h : Rq n x A) : Rq n (dropW x e) (fun c => A c ∧ ¬ c = e) :=
  ⟨fun c hc => by rw [bt_drop, Bool.and_eq_true, h.1 c hc]; simp, fun c hc hn' => by rw [bt_drop, h.2 c hc hn']; rfl⟩
theorem Rq_join {n : Nat} (hn : n ≤ 10) {x y : Nat → Int64} {A B : Nat → Prop} (h : Rq n x A) (k : Rq n y B) : Rq n (rowU (wf n) (fun w => x w ||| y w) x) (fun c => A c ∨ B c) :=
  Rq.of hn h (fun c hc => by rw [wb_aor, bt_w, bt_w, Bool.or_eq_true, h.1 c hc, k.1 c hc]) (fun c hc hn' _ => by rw [wb_aor, bt_w, bt_w, h.2 c hc hn', k.2 c hc hn']; rfl)
theorem Rq_meet {n : Nat} (hn : n ≤ 10) {x y : Nat → Int64} {A B : Nat → Prop} (h : Rq n x A) (k : Rq n y B) : Rq n (rowU (wf n) (fun w => x w &&& y w) x) (fun c => A c ∧ B c) :=
  Rq.of hn h (fun c hc => by rw [wb_aand, bt_w, bt_w, Bool.and_eq_true, h.1 c hc, k.1 c hc]) (fun c hc hn' _ => by rw [wb_aand, bt_w, bt_w, h.2 c hc hn']; rfl)
theorem Rq_sub {n : Nat} (hn : n ≤ 10) {x y : Nat → Int64} {A B : Nat → Prop} (h : Rq n x A) (k : Rq n y B) : Rq n (rowU (wf n) (fun w => x w &&& (y w ^^^ (-1))) x) (fun c => A c ∧ ¬ B c) :=
  Rq.of hn h (fun c hc => by rw [wb_aand, wb_not _ (m64 c), bt_w, bt_w, Bool.and_eq_true, h.1 c hc, ← k.1 c hc]; simp) (fun c hc hn' _ => by rw [wb_aand, bt_w, h.2 c hc hn']; rfl)
theorem Rq_dif {n : Nat} (hn : n ≤ 10) {x y : Nat → Int64} {A B : Nat → Prop} (h : Rq n x A) (k : Rq n y B) : Rq n (rowU (wf n) (fun w => x w ^^^ y w) x) (fun c => ¬ (A c ↔ B c)) :=
  Rq.of hn h (fun c hc => by rw [wb_axor, bt_w, bt_w, ← h.1 c hc, ← k.1 c hc]; cases bt x c <;> cases bt y c <;> simp) (fun c hc hn' _ => by rw [wb_axor, bt_w, bt_w, h.2 c hc hn', k.2 c hc hn']; rfl)
theorem Rq_ks {n m : Nat} (hn : n ≤ 10) {x : Nat → Int64} {A : Nat → Prop} (h : Rq n x A) : Rq n (rowU (wf n) (fun w => x w &&& oz w m) x) (fun c => A c ∧ pN c = m) := by
  have := pw10 hn
  exact Rq.of hn h (fun c hc => by rw [wb_aand, oz_bit (by omega) (m64 c), dm, bt_w, Bool.and_eq_true, decide_eq_true_iff, h.1 c hc]) (fun c hc hn' _ => by rw [wb_aand, bt_w, h.2 c hc hn']; rfl)
theorem Rq_kl {n e : Nat} (hn : n ≤ 10) {x : Nat → Int64} {A : Nat → Prop} (h : Rq n x A) : Rq n (rowU (wf n) (fun w => x w &&& lk w e) x) (fun c => A c ∧ c.testBit e = false) :=
  Rq.of hn h (fun c hc => by rw [wb_aand, lk_bit (m64 c), dm, bt_w, Bool.and_eq_true, h.1 c hc, Bool.not_eq_true']) (fun c hc hn' _ => by rw [wb_aand, bt_w, h.2 c hc hn']; rfl)
theorem Rq_kh {n e : Nat} (hn : n ≤ 10) {x : Nat → Int64} {A : Nat → Prop} (h : Rq n x A) : Rq n (rowU (wf n) (fun w => x w &&& (lk w e ^^^ (-1))) x) (fun c => A c ∧ c.testBit e = true) :=
  Rq.of hn h (fun c hc => by rw [wb_aand, wb_not _ (m64 c), lk_bit (m64 c), dm, bt_w, Bool.and_eq_true, h.1 c hc, Bool.not_not]) (fun c hc hn' _ => by rw [wb_aand, bt_w, h.2 c hc hn']; rfl)
theorem allW_bit {n : Nat} (i : Nat) (hi : i < 64) : wb (allW n) i = (decide (6 ≤ n) || decide (i < 2 ^ n)) := by
  have h : ∀ n, n < 6 → ∀ i, i < 64 → wb (shlW (lN 1) (2 ^ n) - lN 1) i = decide (i < 2 ^ n) := by decide +kernel
  unfold allW
  by_cases q : n < 6
  · rw [if_pos q, h n q i hi, decide_eq_false (by omega : ¬ 6 ≤ n)]; rfl
  · rw [if_neg q, wb_m1 i hi, decide_eq_true (by omega : 6 ≤ n)]; rfl
theorem Rq_inv {n : Nat} (hn : n ≤ 10) {x : Nat → Int64} {A : Nat → Prop} (h : Rq n x A) : Rq n (rowU (wf n) (fun w => (x w ^^^ (-1)) &&& allW n) x) (fun c => ¬ A c) := by
  refine Rq.of hn h (fun c hc => ?_) (fun c hc hn' hw => ?_)
  · rw [wb_aand, wb_not _ (m64 c), bt_w, allW_bit _ (m64 c), ← h.1 c hc]
    by_cases q : 6 ≤ n
    · rw [decide_eq_true q]; simp
    · have : 2 ^ n ≤ 2 ^ 6 := Nat.pow_le_pow_right (by decide) (by omega)
      rw [show c % 64 = c by omega, decide_eq_true hc]; simp
  · rw [wb_aand, allW_bit _ (m64 c)]
    by_cases q : 6 ≤ n
    · have := wf_64 q; omega
    · rw [wf_lo (by omega)] at hw
      rw [decide_eq_false q, show c % 64 = c by omega, decide_eq_false (by omega)]; simp
