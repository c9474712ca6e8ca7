/-! sunflowers: the component -/
def Fx (K Q : Nat → Prop) (μ μ' : Mm) : Prop := (∀ k, gI μ' k = gI μ k) ∧ (∀ k, gL μ' k = gL μ k) ∧ (∀ k, ¬ Q k → gA μ' k = gA μ k) ∧ ∀ j, ¬ K j → gJ μ' j = gJ μ j
theorem Fs.fx {K Q : Nat → Prop} {a b : Mm} (h : Fs K a b) : Fx K Q a b := ⟨h.1, h.2.1, fun k _ => h.2.2.1 k, h.2.2.2⟩
theorem Fx.refl (K Q : Nat → Prop) (μ : Mm) : Fx K Q μ μ := ⟨fun _ => rfl, fun _ => rfl, fun _ _ => rfl, fun _ _ => rfl⟩
theorem Fx.trans {K Q : Nat → Prop} {a b c : Mm} (h : Fx K Q a b) (k : Fx K Q b c) : Fx K Q a c := ⟨fun q => (k.1 q).trans (h.1 q), fun q => (k.2.1 q).trans (h.2.1 q), fun q hq => (k.2.2.1 q hq).trans (h.2.2.1 q hq), fun j hj => (k.2.2.2 j hj).trans (h.2.2.2 j hj)⟩
theorem Fx.mono {K Q K' Q' : Nat → Prop} {a b : Mm} (h : Fx K Q a b) (hK : ∀ j, K j → K' j) (hQ : ∀ j, Q j → Q' j) : Fx K' Q' a b := ⟨h.1, h.2.1, fun k hk => h.2.2.1 k (fun z => hk (hQ k z)), fun j hj => h.2.2.2 j (fun z => hj (hK j z))⟩
theorem Fx.j {K Q : Nat → Prop} {a b : Mm} (h : Fx K Q a b) {j : Nat} (hj : ¬ K j) : gJ b j = gJ a j := h.2.2.2 j hj
section HH
variable {cd : Nat → Int32} {cn N : Nat} {G : Nat → Bool}
theorem cnt_inj {a b : Nat} (ha : G a = true) (hb : G b = true) (h : cnt G a = cnt G b) : a = b := by
  rcases Nat.lt_trichotomy a b with q | q | q
  · have := cnt_ltx q ha; omega
  · exact q
  · have := cnt_ltx q hb; omega
theorem cnt_cmp {a b : Nat} (ha : G a = true) : cnt G a + 1 ≤ cnt G b ↔ a < b := by
  constructor
  · intro h
    rcases Nat.lt_or_ge a b with q | q
    · exact q
    · have := cnt_mono G q; omega
  · exact fun h => cnt_ltx h ha
theorem cd_at (hN : N ≤ 1024) (hcn : cn = cnt G N) (hcd : ∀ p, p < cn → Nth G N p (cd p)) {i : Nat} (hi : i < cn) : ∃ c, c < N ∧ cd i = nI c ∧ G c = true ∧ cnt G c = i := by
  rcases hcd i hi with ⟨_, b⟩ | h
  · omega
  · exact h
theorem h1_ok (hN : N ≤ 1024) (hcn : cn = cnt G N) (hcd : ∀ p, p < cn → Nth G N p (cd p)) (tk : Nat) : ∀ r i, i + r = cn → (h1F cd (nI tk) r i = true ↔ ∃ b, b < N ∧ G b = true ∧ i ≤ cnt G b ∧ b &&& tk = 0)
  | 0, i, hi => by
    rw [h1F]
    refine ⟨fun h => absurd (show false = true from h) (by decide), fun ⟨b, b1, b2, b3, _⟩ => ?_⟩
    have := cnt_ltx b1 b2; omega
  | r + 1, i, hi => by
    obtain ⟨c, c1, c2, c3, c4⟩ := cd_at hN hcn hcd (show i < cn by omega)
    have hand : c &&& tk ≤ c := Nat.and_le_left
    have e : cd i &&& nI tk = 0 ↔ c &&& tk = 0 := by rw [c2, nand]; exact zI_eq (by omega)
    rw [h1F]
    by_cases q : cd i &&& nI tk = 0
    · rw [if_pos q]; exact ⟨fun _ => ⟨c, c1, c3, by omega, e.mp q⟩, fun _ => rfl⟩
    · rw [if_neg q, h1_ok hN hcn hcd tk r (i + 1) (by omega)]
      constructor
      · rintro ⟨b, b1, b2, b3, b4⟩; exact ⟨b, b1, b2, by omega, b4⟩
      · rintro ⟨b, b1, b2, b3, b4⟩
        have : ¬ cnt G b = i := fun z => by
          have := cnt_inj b2 c3 (by omega)
          subst this; exact q (e.mpr b4)
        exact ⟨b, b1, b2, by omega, b4⟩
theorem h2_ok (hN : N ≤ 1024) (hcn : cn = cnt G N) (hcd : ∀ p, p < cn → Nth G N p (cd p)) (tk : Nat) : ∀ r i, i + r = cn → (h2F cd cn (nI tk) r i = true ↔ ∃ a, a < N ∧ G a = true ∧ i ≤ cnt G a ∧ a &&& tk = 0 ∧ ∃ b, b < N ∧ G b = true ∧ a < b ∧ b &&& (tk ||| a) = 0)
  | 0, i, hi => by
    rw [h2F]
    refine ⟨fun h => absurd (show false = true from h) (by decide), fun ⟨b, b1, b2, b3, _⟩ => ?_⟩
    have := cnt_ltx b1 b2; omega
  | r + 1, i, hi => by
    obtain ⟨c, c1, c2, c3, c4⟩ := cd_at hN hcn hcd (show i < cn by omega)
    have hand : c &&& tk ≤ c := Nat.and_le_left
    have e : cd i &&& nI tk = 0 ↔ c &&& tk = 0 := by rw [c2, nand]; exact zI_eq (by omega)
    have e2 : h1F cd (nI tk ||| cd i) (cn - (i + 1)) (i + 1) = true ↔ ∃ b, b < N ∧ G b = true ∧ c < b ∧ b &&& (tk ||| c) = 0 := by
      rw [c2, nor, h1_ok hN hcn hcd (tk ||| c) _ _ (by omega)]
      refine exists_congr (fun b => and_congr_right (fun _ => and_congr_right (fun _ => and_congr_left (fun _ => ?_))))
      rw [← c4]; exact cnt_cmp c3
    rw [h2F]
    by_cases q : cd i &&& nI tk = 0 ∧ h1F cd (nI tk ||| cd i) (cn - (i + 1)) (i + 1) = true
    · rw [if_pos q]; exact ⟨fun _ => ⟨c, c1, c3, by omega, e.mp q.1, e2.mp q.2⟩, fun _ => rfl⟩
    · rw [if_neg q, h2_ok hN hcn hcd tk r (i + 1) (by omega)]
      constructor
      · rintro ⟨b, b1, b2, b3, b4⟩; exact ⟨b, b1, b2, by omega, b4⟩
      · rintro ⟨b, b1, b2, b3, b4, b5⟩
        have : ¬ cnt G b = i := fun z => by
          have := cnt_inj b2 c3 (by omega)
          subst this; exact q ⟨e.mpr b4, e2.mpr b5⟩
        exact ⟨b, b1, b2, by omega, b4, b5⟩
theorem h3_ok (hN : N ≤ 1024) (hcn : cn = cnt G N) (hcd : ∀ p, p < cn → Nth G N p (cd p)) : ∀ r i, i + r = cn → (h3F cd cn r i = true ↔ ∃ x, x < N ∧ G x = true ∧ i ≤ cnt G x ∧ ∃ a, a < N ∧ G a = true ∧ x < a ∧ a &&& x = 0 ∧ ∃ b, b < N ∧ G b = true ∧ a < b ∧ b &&& (x ||| a) = 0)
  | 0, i, hi => by
    rw [h3F]
    refine ⟨fun h => absurd (show false = true from h) (by decide), fun ⟨b, b1, b2, b3, _⟩ => ?_⟩
    have := cnt_ltx b1 b2; omega
  | r + 1, i, hi => by
    obtain ⟨c, c1, c2, c3, c4⟩ := cd_at hN hcn hcd (show i < cn by omega)
    have e2 : h2F cd cn (cd i) (cn - (i + 1)) (i + 1) = true ↔ ∃ a, a < N ∧ G a = true ∧ c < a ∧ a &&& c = 0 ∧ ∃ b, b < N ∧ G b = true ∧ a < b ∧ b &&& (c ||| a) = 0 := by
      rw [c2, h2_ok hN hcn hcd c _ _ (by omega)]
      refine exists_congr (fun b => and_congr_right (fun _ => and_congr_right (fun _ => and_congr_left (fun _ => ?_))))
      rw [← c4]; exact cnt_cmp c3
    rw [h3F]
    by_cases q : h2F cd cn (cd i) (cn - (i + 1)) (i + 1) = true
    · rw [if_pos q]; exact ⟨fun _ => ⟨c, c1, c3, by omega, e2.mp q⟩, fun _ => rfl⟩
    · rw [if_neg q, h3_ok hN hcn hcd r (i + 1) (by omega)]
      constructor
      · rintro ⟨b, b1, b2, b3, b4⟩; exact ⟨b, b1, b2, by omega, b4⟩
      · rintro ⟨b, b1, b2, b3, b4⟩
        have : ¬ cnt G b = i := fun z => by
          have := cnt_inj b2 c3 (by omega)
          subst this; exact q (e2.mpr b4)
        exact ⟨b, b1, b2, by omega, b4⟩
end HH
theorem and_or0 {a b c : Nat} : c &&& (a ||| b) = 0 ↔ c &&& a = 0 ∧ c &&& b = 0 := by
  rw [Nat.and_or_distrib_left, Nat.or_eq_zero_iff]
theorem hd_ok {n : Nat} (hn : n ≤ 10) {M : Mm} {i : Nat} {L : Nat → Prop} (hi : i ≠ 20 ∧ i ≠ 48 ∧ i ≠ 49) (hL : ∀ d, L d → d < 2 ^ n) (h : Rq n (gJ M i) L) : (hdA M n (wf n) i = true ↔ Tri L) ∧ Fx (fun q => q = 20 ∨ q = 48 ∨ q = 49) (fun k => k = 2) M (mHD M n (wf n) i) := by
  have h1024 := pw10 hn
  have f1 := Fs_c M 48 i
  have r1 := ma_cpy (i := 48) hn h
  have r2 := ma_drp (e := 0) r1
  have f2 : Fs (fun q => q = 48) (mCpy M 48 i) (mDrp (mCpy M 48 i) 48 0) := Fs_sJ _ _ rfl
  obtain ⟨r3, f3⟩ := ma_min (t := 49) (s := 48) hn (by decide) (by decide) r2
  have fS : Fs (fun q => q = 20 ∨ q = 48 ∨ q = 49) M (mLMin (mDrp (mCpy M 48 i) 48 0) n (wf n) 49 48) := ((f1.trans f2).mono (fun j z => by omega)).trans (f3.mono (fun j z => by omega))
  generalize hM1 : mLMin (mDrp (mCpy M 48 i) 48 0) n (wf n) 49 48 = M1 at *
  have fA : Fx (fun q => q = 20 ∨ q = 48 ∨ q = 49) (fun k => k = 2) M1 (mLI2 M1 (wf n) 49) := ⟨fun _ => rfl, fun _ => rfl, fun k hk => gA_n M1 _ hk, fun _ _ => rfl⟩
  have rG : Rq n (gJ M1 49) (fun c => bt (gJ M1 49) c = true) := ⟨fun c _ => Iff.rfl, r3.2⟩
  have hcn : ct M1 (wf n) 49 = cnt (bt (gJ M1 49)) (2 ^ n) := ct_B hn rG
  have hcd : ∀ p, p < ct M1 (wf n) 49 → Nth (bt (gJ M1 49)) (2 ^ n) p (gA (mLI2 M1 (wf n) 49) 2 p) := fun p hp => by
    unfold mLI2
    rw [gA_s, rowU_lt _ _ hp]
    exact Nth_at hn rG p
  have hG : ∀ c, (c < 2 ^ n ∧ bt (gJ M1 49) c = true) ↔ Mn (fun d => L d ∧ ¬ d = 0) c := fun c => ⟨fun z => (r3.1 c z.1).mp z.2, fun z => ⟨hL c z.1.1, (r3.1 c (hL c z.1.1)).mpr z⟩⟩
  have h0 : bt (gJ (mLI2 M1 (wf n) 49) i) 0 = true ↔ L 0 := by
    show bt (gJ M1 i) 0 = true ↔ L 0
    rw [fS.j (by omega)]; exact h.1 0 (Nat.two_pow_pos n)
  unfold mHD hdA mHD
  rw [hM1]
  refine ⟨?_, fS.fx.trans fA⟩
  rw [tri_min]
  show (if bt (gJ (mLI2 M1 (wf n) 49) i) 0 = true then h2F (gA (mLI2 M1 (wf n) 49) 2) (ct M1 (wf n) 49) (nI 0) (ct M1 (wf n) 49) 0 else h3F (gA (mLI2 M1 (wf n) 49) 2) (ct M1 (wf n) 49) (ct M1 (wf n) 49) 0) = true ↔ _
  by_cases q : bt (gJ (mLI2 M1 (wf n) 49) i) 0 = true
  · rw [if_pos q, h2_ok h1024 hcn hcd 0 _ 0 (by omega)]
    constructor
    · rintro ⟨a, a1, a2, _, _, b, b1, b2, b3, b4⟩
      rw [Nat.zero_or] at b4
      exact Or.inl ⟨h0.mp q, a, b, b3, (hG a).mp ⟨a1, a2⟩, (hG b).mp ⟨b1, b2⟩, by rw [Nat.and_comm]; exact b4⟩
    · rintro (⟨_, a, b, hab, ha, hb, d⟩ | ⟨z, _⟩)
      · obtain ⟨a1, a2⟩ := (hG a).mpr ha
        obtain ⟨b1, b2⟩ := (hG b).mpr hb
        exact ⟨a, a1, a2, Nat.zero_le _, Nat.and_zero _, b, b1, b2, hab, by rw [Nat.zero_or, Nat.and_comm]; exact d⟩
      · exact absurd (h0.mp q) z
  · rw [if_neg q, h3_ok h1024 hcn hcd _ 0 (by omega)]
    constructor
    · rintro ⟨x, x1, x2, _, a, a1, a2, a3, a4, b, b1, b2, b3, b4⟩
      rw [and_or0] at b4
      exact Or.inr ⟨fun z => q (h0.mpr z), x, a, b, a3, b3, (hG x).mp ⟨x1, x2⟩, (hG a).mp ⟨a1, a2⟩, (hG b).mp ⟨b1, b2⟩, by rw [Nat.and_comm]; exact a4, by rw [Nat.and_comm]; exact b4.1, by rw [Nat.and_comm]; exact b4.2⟩
    · rintro (⟨z, _⟩ | ⟨_, x, a, b, hxa, hab, hx, ha, hb, d1, d2, d3⟩)
      · exact absurd (h0.mpr z) q
      · obtain ⟨x1, x2⟩ := (hG x).mpr hx
        obtain ⟨a1, a2⟩ := (hG a).mpr ha
        obtain ⟨b1, b2⟩ := (hG b).mpr hb
        exact ⟨x, x1, x2, Nat.zero_le _, a, a1, a2, hxa, by rw [Nat.and_comm]; exact d1, b, b1, b2, hab, by rw [and_or0, Nat.and_comm, Nat.and_comm b a]; exact ⟨d2, d3⟩⟩
theorem or_ltp {n a b : Nat} (h : a ||| b < 2 ^ n) : a < 2 ^ n := Nat.lt_of_le_of_lt Nat.left_le_or h
theorem few {n : Nat} (hn : n ≤ 10) {x : Nat → Int64} {F : Nat → Bool} {f k D : Nat} (hk : Sb k D) (hD : D < 2 ^ n) (h : Rq n x (LkD (fun s => s < 2 ^ n ∧ F (1024 * f + s) = true) k)) (hc : sm (fun w => bc (x w)) (wf n) < 3) : ¬ icA F n f D = true := by
  rw [icA_ok hn hD]
  rintro ⟨p, q, r, hpq, hqr, ⟨p0, p1, p2⟩, ⟨q0, q1, q2⟩, ⟨r0, r1, r2⟩, _⟩
  have hx : ∀ p, p < 2 ^ n → p &&& D = 0 → F (1024 * f + (p ||| D)) = true → LkD (fun s => s < 2 ^ n ∧ F (1024 * f + s) = true) k (p ||| (D ^^^ k)) := fun p p0 p1 p2 => by
    have e : (p ||| (D ^^^ k)) ||| k = p ||| D := by
      apply Nat.eq_of_testBit_eq; intro i
      rw [Nat.testBit_or, Nat.testBit_or, Nat.testBit_or, Nat.testBit_xor]
      cases z : k.testBit i
      · simp
      · rw [hk i z]; simp
    refine ⟨?_, by rw [e]; exact Nat.or_lt_two_pow p0 hD, by rw [e]; exact p2⟩
    rw [and0_tb] at p1 ⊢
    intro i hi
    rw [Nat.testBit_or, Nat.testBit_xor, Bool.or_eq_true] at hi
    cases z : k.testBit i
    · rfl
    · rw [hk i z, z] at hi
      rcases hi with y | y
      · have := p1 i y; rw [hk i z] at this; cases this
      · cases y
  have hd : ∀ p q, p &&& D = 0 → q &&& D = 0 → ¬ p = q → p ||| (D ^^^ k) ≠ q ||| (D ^^^ k) := fun p q hp hq hne he => by
    apply hne
    apply Nat.eq_of_testBit_eq; intro i
    rw [and0_tb] at hp hq
    have := congrArg (fun v => v.testBit i) he
    simp only [Nat.testBit_or, Nat.testBit_xor] at this
    cases z : D.testBit i
    · have zk : k.testBit i = false := by
        cases y : k.testBit i
        · rfl
        · rw [hk i y] at z; cases z
      rw [z, zk] at this
      simpa using this
    · have a1 : p.testBit i = false := by
        cases y : p.testBit i
        · rfl
        · have := hp i y; rw [z] at this; cases this
      have a2 : q.testBit i = false := by
        cases y : q.testBit i
        · rfl
        · have := hq i y; rw [z] at this; cases this
      rw [a1, a2]
  obtain ⟨a, b, c, hab, hbc, ha, hb, hcc, _⟩ := sort3 (P := LkD (fun s => s < 2 ^ n ∧ F (1024 * f + s) = true) k) (R := fun _ _ => True) (fun _ _ _ => trivial) (hx p p0 p1 p2) (hx q q0 q1 q2) (hx r r0 r1 r2) trivial trivial trivial (hd p q p1 q1 (by omega)) (hd p r p1 r1 (by omega)) (hd q r q1 r1 (by omega))
  have hlt : ∀ d, LkD (fun s => s < 2 ^ n ∧ F (1024 * f + s) = true) k d → d < 2 ^ n := fun d hd => or_ltp hd.2.1
  have rG : Rq n x (fun c => bt x c = true) := ⟨fun c _ => Iff.rfl, h.2⟩
  rw [ct_B hn rG] at hc
  have g : ∀ d, LkD (fun s => s < 2 ^ n ∧ F (1024 * f + s) = true) k d → bt x d = true := fun d hd => (h.1 d (hlt d hd)).mpr hd
  have c1 := cnt_ltx hab (g a ha)
  have c2 := cnt_ltx hbc (g b hb)
  have c3 := cnt_ltx (hlt c hcc) (g c hcc)
  omega
theorem lc_ok {n : Nat} (hn : n ≤ 10) {f : Nat} {F : Nat → Bool} (hf : f < 4) : ∀ (r k nx : Nat) (M : Mm), k + r = 2 ^ n → Rq n (gJ M f) (fun s => s < 2 ^ n ∧ F (1024 * f + s) = true) → Stk n 37 (LkD (fun s => s < 2 ^ n ∧ F (1024 * f + s) = true)) M (max k nx) → (∀ D, D < 2 ^ n → D < max k nx → ¬ icA F n f D = true) → (((lcF n (wf n) f r k nx M).2 = -1 ∧ ∀ D, D < 2 ^ n → ¬ icA F n f D = true) ∨ ∃ c, c < 2 ^ n ∧ (lcF n (wf n) f r k nx M).2 = nI c ∧ icA F n f c = true ∧ ∀ D, D < c → ¬ icA F n f D = true) ∧ Fx (fun q => q = 20 ∨ (37 ≤ q ∧ q ≤ 49)) (fun k => k = 2) M (lcF n (wf n) f r k nx M).1
  | 0, k, nx, M, hk, hA, hS, hD => ⟨Or.inl ⟨rfl, fun D h => hD D h (by omega)⟩, Fx.refl _ _ _⟩
  | r + 1, k, nx, M, hk, hA, hS, hD => by
    have h1024 := pw10 hn
    have hkn : k < 2 ^ n := by omega
    rw [lcF]
    by_cases q : k < nx
    · rw [if_pos q]
      have e : max (k + 1) nx = max k nx := by omega
      exact lc_ok hn hf r (k + 1) nx M (by omega) hA (by rw [e]; exact hS) (by rw [e]; exact hD)
    · rw [if_neg q]
      have em : max k nx = k := by omega
      rw [em] at hS hD
      obtain ⟨r1, f1⟩ := ma_lk hn hf hkn hA hS
      have hp10 := pN_10 k (by omega)
      have f1' : Fx (fun q => q = 20 ∨ (37 ≤ q ∧ q ≤ 49)) (fun k => k = 2) M (mLk M (wf n) f k) := (f1.mono (fun j z => by omega)).fx
      have hA' : Rq n (gJ (mLk M (wf n) f k) f) (fun s => s < 2 ^ n ∧ F (1024 * f + s) = true) := by rw [f1.j (by omega)]; exact hA
      obtain ⟨eb, hdv, hbe, hsk⟩ := be_ok hn hkn
      have hpos := Nat.two_pow_pos eb
      by_cases z : ct (mLk M (wf n) f k) (wf n) (37 + pN k) < 3
      · rw [if_pos z, hbe]
        have e : max (k + 1) (k + 2 ^ eb) = k + 2 ^ eb := by omega
        obtain ⟨a, c⟩ := lc_ok hn hf r (k + 1) (k + 2 ^ eb) (mLk M (wf n) f k) (by omega) hA' (by rw [e]; exact hS.next hdv (by omega) r1 (fun j _ hj => f1.j (by omega)) hp10) (fun D hD1 hD2 => by
          rw [e] at hD2
          rcases Nat.lt_trichotomy D k with w | w | w
          · exact hD D hD1 w
          · subst w; exact few hn (Sb_refl D) hD1 r1 z
          · exact few hn (hsk D w hD2) hD1 r1 z)
        exact ⟨a, f1'.trans c⟩
      · rw [if_neg z]
        obtain ⟨e1, f2⟩ := hd_ok (i := 37 + pN k) hn (by omega) (fun d hd => or_ltp hd.2.1) r1
        have hT : hdA (mLk M (wf n) f k) n (wf n) (37 + pN k) = true ↔ icA F n f k = true := by
          rw [e1, icA_ok hn hkn]
          have e : ∀ d, LkD (fun s => s < 2 ^ n ∧ F (1024 * f + s) = true) k d ↔ LkN n (fun s => F (1024 * f + s) = true) k d := fun d => by
            unfold LkN LkD
            exact ⟨fun y => ⟨or_ltp y.2.1, y.1, y.2.2⟩, fun y => ⟨y.2.1, Nat.or_lt_two_pow y.1 hkn, y.2.2⟩⟩
          rw [show LkD (fun s => s < 2 ^ n ∧ F (1024 * f + s) = true) k = LkN n (fun s => F (1024 * f + s) = true) k from funext (fun d => propext (e d))]
        have f2' : Fx (fun q => q = 20 ∨ (37 ≤ q ∧ q ≤ 49)) (fun k => k = 2) (mLk M (wf n) f k) (mHD (mLk M (wf n) f k) n (wf n) (37 + pN k)) := f2.mono (fun j z => by omega) (fun j z => z)
        by_cases y : hdA (mLk M (wf n) f k) n (wf n) (37 + pN k) = true
        · rw [if_pos y]
          exact ⟨Or.inr ⟨k, hkn, rfl, hT.mp y, fun D hD1 => hD D (by omega) hD1⟩, f1'.trans f2'⟩
        · rw [if_neg y]
          have e : max (k + 1) (k + 1) = k + 2 ^ 0 := by omega
          obtain ⟨a, c⟩ := lc_ok hn hf r (k + 1) (k + 1) (mHD (mLk M (wf n) f k) n (wf n) (37 + pN k)) (by omega) (by rw [f2.j (by omega)]; exact hA') (by rw [e]; exact hS.next (b := 0) ⟨k, by omega⟩ (by omega) (by rw [f2.j (by omega)]; exact r1) (fun j _ hj => by rw [f2.j (by omega)]; exact f1.j (by omega)) hp10) (fun D hD1 hD2 => by
            rcases Nat.lt_or_ge D k with w | w
            · exact hD D hD1 w
            · have : D = k := by omega
              subst this; exact fun v => y (hT.mpr v))
          exact ⟨a, (f1'.trans f2').trans c⟩
def QQ (k : Nat) : Prop := k = 2 ∨ k = 3 ∨ k = 4
theorem sun_ok {n : Nat} (hn : n ≤ 10) {μ : Mm} {f : Nat} {F : Nat → Bool} (hf : f < 4) (h : Rq n (gJ μ f) (fun c => F (1024 * f + c) = true)) : (lcF n (wf n) f (2 ^ n) 0 0 μ).2 = lcM F n f (2 ^ n) 0 ∧ Fx KQ QQ μ (lcF n (wf n) f (2 ^ n) 0 0 μ).1 := by
  obtain ⟨a, b⟩ := lc_ok hn hf (F := F) (2 ^ n) 0 0 μ (by omega) (h.cg (fun c hc => ⟨fun z => ⟨hc, z⟩, fun z => z.2⟩)) (fun k hk => absurd hk (by show ¬ qk k (max 0 0) < max 0 0; rw [Nat.max_self]; exact Nat.not_lt_zero _)) (fun D _ hD => absurd hD (by rw [Nat.max_self]; exact Nat.not_lt_zero _))
  refine ⟨?_, b.mono (fun j z => by unfold KQ; omega) (fun j z => Or.inl z)⟩
  rcases a with ⟨a1, a2⟩ | ⟨c, a1, a2, a3, a4⟩ <;> rcases lcM_ok F n f (2 ^ n) 0 with ⟨b1, b2⟩ | ⟨d, b1, b2, b3, b4, b5⟩
  · rw [a1, b1]
  · exact absurd b4 (a2 d (by omega))
  · exact absurd a3 (b2 c (Nat.zero_le _) (by omega))
  · have : c = d := by
      rcases Nat.lt_trichotomy c d with q | q | q
      · exact absurd a3 (b5 c (Nat.zero_le _) q)
      · exact q
      · exact absurd b4 (a4 d q)
    rw [a2, b3, this]
