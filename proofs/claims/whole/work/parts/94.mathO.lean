/-! shattered sets -/
def tcn (F : Nat → Bool) (f n e : Nat) : Nat := cnt (trO F (fun _ => false) f e (2 ^ n)) (2 ^ n)
def shp (F : Nat → Bool) (f n e : Nat) : Prop := tcn F f n e = 2 ^ pN e
def Bst (F : Nat → Bool) (f n b : Nat) : Prop := shp F f n b ∧ b < 2 ^ n ∧ ∀ k, k < 2 ^ n → shp F f n k → pN k < pN b ∨ (pN k = pN b ∧ b ≤ k)
theorem Bst_u {F : Nat → Bool} {f n a b : Nat} (h : Bst F f n a) (k : Bst F f n b) : a = b := by
  rcases h.2.2 b k.2.1 k.1 with q | q <;> rcases k.2.2 a h.2.1 h.1 with z | z <;> omega
theorem TrD_tr {F : Nat → Bool} {f n D d : Nat} : TrD (fun s => s < 2 ^ n ∧ F (1024 * f + s) = true) D d ↔ trO F (fun _ => false) f (2 ^ n - 1 ^^^ D) (2 ^ n) d = true := by
  rw [tr_ok]
  unfold TrD
  have key : ∀ s, s < 2 ^ n → ((∀ i, d.testBit i = (s.testBit i && !D.testBit i)) ↔ d = s &&& (2 ^ n - 1 ^^^ D)) := fun s hs => by
    rw [Nat.eq_iff_testBit_eq]
    refine forall_congr' (fun i => ?_)
    rw [Nat.testBit_and, Nat.testBit_xor, Nat.testBit_two_pow_sub_one]
    by_cases q : i < n
    · rw [decide_eq_true q]; simp
    · rw [hb_lt hs (by omega)]; simp
  constructor
  · rintro ⟨s, ⟨a, b⟩, c⟩; exact Or.inr ⟨s, a, b, (key s a).mp c⟩
  · rintro (z | ⟨s, a, b, c⟩)
    · cases z
    · exact ⟨s, ⟨a, b⟩, (key s a).mpr c⟩
theorem all_x {n D : Nat} (h : D < 2 ^ n) : 2 ^ n - 1 ^^^ D = 2 ^ n - 1 - D := by rw [Nat.xor_comm, xr_cp h]
theorem fl_ok {n : Nat} (hn : n ≤ 10) {f : Nat} {F : Nat → Bool} (hf : f < 4) : ∀ (r k nx b bs : Nat) (M : Mm), k + r = 2 ^ n → Rq n (gJ M f) (fun s => s < 2 ^ n ∧ F (1024 * f + s) = true) → Stk n 26 (TrD (fun s => s < 2 ^ n ∧ F (1024 * f + s) = true)) M (max k nx) → bs = pN b → shp F f n b → b < 2 ^ n → (∀ D, D < 2 ^ n → D < max k nx → shp F f n (2 ^ n - 1 - D) → pN (2 ^ n - 1 - D) < pN b ∨ (pN (2 ^ n - 1 - D) = pN b ∧ b ≤ 2 ^ n - 1 - D)) → Bst F f n (flF n (wf n) f r k nx b bs M).2 ∧ Fs (fun q => 26 ≤ q ∧ q ≤ 36) M (flF n (wf n) f r k nx b bs M).1
  | 0, k, nx, b, bs, M, hk, hA, hS, hbs, hb, hb2, hD => by
    refine ⟨⟨hb, hb2, fun K hK hs => ?_⟩, Fs.refl _ _⟩
    have := hD (2 ^ n - 1 - K) (cp_lt n K) (by have := cp_lt n K; omega)
    rw [cp_cp hK] at this
    exact this hs
  | r + 1, k, nx, b, bs, M, hk, hA, hS, hbs, hb, hb2, hD => by
    have h1024 := pw10 hn
    have hkn : k < 2 ^ n := by omega
    rw [flF]
    by_cases q : k < nx
    · rw [if_pos q]
      have e : max (k + 1) nx = max k nx := by omega
      exact fl_ok hn hf r (k + 1) nx b bs M (by omega) hA (by rw [e]; exact hS) hbs hb hb2 (by rw [e]; exact hD)
    · rw [if_neg q]
      have em : max k nx = k := by omega
      rw [em] at hS hD
      obtain ⟨r1, f1⟩ := ma_tr hn hf hkn hA hS
      have hp10 := pN_10 k (by omega)
      have f1' : Fs (fun q => 26 ≤ q ∧ q ≤ 36) M (mTr M (wf n) f k) := f1.mono (fun j z => by omega)
      have hA' : Rq n (gJ (mTr M (wf n) f k) f) (fun s => s < 2 ^ n ∧ F (1024 * f + s) = true) := by rw [f1.j (by omega)]; exact hA
      have hct : ct (mTr M (wf n) f k) (wf n) (26 + pN k) = tcn F f n (2 ^ n - 1 ^^^ k) := ct_P hn r1 (fun c _ => TrD_tr)
      have hcp := pN_cp hn hkn
      have hx := all_x hkn
      obtain ⟨eb, hdv, hbe, hsk⟩ := be_ok hn hkn
      have hS' : ∀ b', 2 ^ b' ∣ k → Stk n 26 (TrD (fun s => s < 2 ^ n ∧ F (1024 * f + s) = true)) (mTr M (wf n) f k) (k + 2 ^ b') := fun b' hb' => hS.next hb' (by omega) r1 (fun j _ hj => f1.j (by omega)) hp10
      have hskip : ∀ D, D < 2 ^ n → k < D → D < k + 2 ^ eb → pN (2 ^ n - 1 - D) < pN (2 ^ n - 1 ^^^ k) := fun D hD1 hD2 hD3 => by
        have h1 := pN_sb (hsk D hD2 hD3) (by omega) (by omega)
        have h2 := pN_cp hn hD1
        rw [all_x hD1] at h2
        omega
      have hpos := Nat.two_pow_pos eb
      by_cases z : ct (mTr M (wf n) f k) (wf n) (26 + pN k) = 2 ^ pN ((2 ^ n - 1) ^^^ k) ∧ bs ≤ pN ((2 ^ n - 1) ^^^ k)
      · rw [if_pos z, hbe]
        have e : max (k + 1) (k + 2 ^ eb) = k + 2 ^ eb := by omega
        obtain ⟨a, c⟩ := fl_ok hn hf r (k + 1) (k + 2 ^ eb) ((2 ^ n - 1) ^^^ k) (pN ((2 ^ n - 1) ^^^ k)) (mTr M (wf n) f k) (by omega) hA' (by rw [e]; exact hS' eb hdv) rfl (by unfold shp; rw [← hct]; exact z.1) (by rw [hx]; exact cp_lt n k) (fun D hD1 hD2 hs => by
          rw [e] at hD2
          rcases Nat.lt_trichotomy D k with y | y | y
          · have hlt : 2 ^ n - 1 ^^^ k ≤ 2 ^ n - 1 - D := by rw [hx]; omega
            rcases hD D hD1 y hs with w | w
            · exact Or.inl (by omega)
            · rcases Nat.lt_or_eq_of_le z.2 with v | v
              · exact Or.inl (by omega)
              · exact Or.inr ⟨by omega, hlt⟩
          · subst y; rw [hx]; exact Or.inr ⟨rfl, Nat.le_refl _⟩
          · exact Or.inl (hskip D hD1 y hD2))
        exact ⟨a, f1'.trans c⟩
      · rw [if_neg z]
        have hold : shp F f n (2 ^ n - 1 - k) → pN (2 ^ n - 1 - k) < pN b := fun hs => by
          rw [← hx] at hs ⊢
          rcases Nat.lt_or_ge (pN (2 ^ n - 1 ^^^ k)) bs with w | w
          · omega
          · exact absurd ⟨by rw [hct]; exact hs, w⟩ z
        by_cases y : bs < pN ((2 ^ n - 1) ^^^ k)
        · rw [if_pos y]
          have e : max (k + 1) (k + 1) = k + 2 ^ 0 := by omega
          obtain ⟨a, c⟩ := fl_ok hn hf r (k + 1) (k + 1) b bs (mTr M (wf n) f k) (by omega) hA' (by rw [e]; exact hS' 0 ⟨k, by omega⟩) hbs hb hb2 (fun D hD1 hD2 hs => by
            rcases Nat.lt_or_ge D k with w | w
            · exact hD D hD1 w hs
            · have : D = k := by omega
              subst this; exact Or.inl (hold hs))
          exact ⟨a, f1'.trans c⟩
        · rw [if_neg y, hbe]
          have e : max (k + 1) (k + 2 ^ eb) = k + 2 ^ eb := by omega
          obtain ⟨a, c⟩ := fl_ok hn hf r (k + 1) (k + 2 ^ eb) b bs (mTr M (wf n) f k) (by omega) hA' (by rw [e]; exact hS' eb hdv) hbs hb hb2 (fun D hD1 hD2 hs => by
            rw [e] at hD2
            rcases Nat.lt_trichotomy D k with w | w | w
            · exact hD D hD1 w hs
            · subst w; exact Or.inl (hold hs)
            · exact Or.inl (by have := hskip D hD1 w hD2; omega))
          exact ⟨a, f1'.trans c⟩
theorem tr0 {F : Nat → Bool} {f n e c : Nat} : trO F (fun _ => false) f e (2 ^ n) c = true ↔ ∃ s, s < 2 ^ n ∧ F (1024 * f + s) = true ∧ c = s &&& e := by
  rw [tr_ok]; exact ⟨fun z => z.elim (fun y => by cases y) id, Or.inr⟩
theorem shp_0 {F : Nat → Bool} {f n s : Nat} (hs : s < 2 ^ n) (hF : F (1024 * f + s) = true) : shp F f n 0 := by
  unfold shp tcn
  rw [pN_n0]
  have h1 : trO F (fun _ => false) f 0 (2 ^ n) 0 = true := tr0.mpr ⟨s, hs, hF, (Nat.and_zero s).symm⟩
  have h2 : ∀ c, 0 < c → trO F (fun _ => false) f 0 (2 ^ n) c = false := fun c hc => Bool.eq_false_iff.mpr (fun z => by
    obtain ⟨t, _, _, w⟩ := tr0.mp z
    rw [Nat.and_zero] at w; omega)
  have hp := Nat.two_pow_pos n
  obtain ⟨m, hm⟩ : ∃ m, 2 ^ n = m + 1 := ⟨2 ^ n - 1, by omega⟩
  rw [hm, ← hm, cnt_congr (q := fun c => decide (c = 0)) (fun c _ => by
    rcases Nat.eq_zero_or_pos c with y | y
    · subst y; rw [h1]; rfl
    · rw [h2 c y, decide_eq_false (by omega)]), hm, cnt_first, cnt_zero (fun i _ => decide_eq_false (by omega))]
  rfl
theorem fl_fin {n : Nat} (hn : n ≤ 10) {μ : Mm} {f : Nat} {F : Nat → Bool} (hf : f < 4) (h : Rq n (gJ μ f) (fun c => F (1024 * f + c) = true)) : ((flA μ n (wf n) f = -1 ∧ ∀ s, s < 2 ^ n → F (1024 * f + s) = false) ∨ ∃ b, flA μ n (wf n) f = nI b ∧ Bst F f n b) ∧ Fs KQ μ (flM μ n (wf n) f) := by
  unfold flA flM
  by_cases q : ct μ (wf n) f = 0
  · rw [if_pos q, if_pos q]
    exact ⟨Or.inl ⟨rfl, fun s hs => Bool.eq_false_iff.mpr ((ct0 hn h).mp q s hs)⟩, Fs.refl _ _⟩
  · rw [if_neg q, if_neg q]
    have hex : ∃ s, s < 2 ^ n ∧ F (1024 * f + s) = true := by
      rcases Classical.em (∃ s, s < 2 ^ n ∧ F (1024 * f + s) = true) with z | z
      · exact z
      · exact absurd ((ct0 hn h).mpr (fun c hc y => z ⟨c, hc, y⟩)) q
    obtain ⟨s, hs, hF⟩ := hex
    obtain ⟨a, b⟩ := fl_ok hn hf (F := F) (2 ^ n) 0 0 0 0 μ (by omega) (h.cg (fun c hc => ⟨fun z => ⟨hc, z⟩, fun z => z.2⟩)) (fun k hk => absurd hk (by show ¬ qk k (max 0 0) < max 0 0; rw [Nat.max_self]; exact Nat.not_lt_zero _)) pN_n0.symm (shp_0 hs hF) (Nat.two_pow_pos n) (fun D _ hD => absurd hD (by rw [Nat.max_self]; exact Nat.not_lt_zero _))
    exact ⟨Or.inr ⟨_, rfl, a⟩, b.mono (fun j z => by unfold KQ; omega)⟩
/-- the model -/
def Fm (μ μ' : Mm) : Prop := (∀ k, k ≠ 5 → k ≠ 9 → gI μ' k = gI μ k) ∧ (∀ k, k ≠ 10 → k ≠ 11 → gA μ' k = gA μ k) ∧ ∀ j, gJ μ' j = gJ μ j
theorem Fm.refl (μ : Mm) : Fm μ μ := ⟨fun _ _ _ => rfl, fun _ _ _ => rfl, fun _ => rfl⟩
theorem Fm.trans {a b c : Mm} (h : Fm a b) (k : Fm b c) : Fm a c := ⟨fun q x y => (k.1 q x y).trans (h.1 q x y), fun q x y => (k.2.1 q x y).trans (h.2.1 q x y), fun j => (k.2.2 j).trans (h.2.2 j)⟩
def Me (m : Nat) (μ : Mm) : Prop := gI μ 9 = nI m ∧ ∀ c, c < 1024 → ∃ q, q ≤ m ∧ gA μ 10 c = nI q
theorem sh_ok {F : Nat → Bool} {f e n : Nat} {v : Int32} {r : Nat → Int32} (hn : n ≤ 10) (he : e < 2 ^ n) (hr : ∀ c, c < 1024 → ¬ r c = v) : ∀ s, (∀ c, c < 1024 → ((shF F f e v r s).1 c = v ↔ trO F (fun _ => false) f e s c = true) ∧ ((shF F f e v r s).1 c = v ∨ (shF F f e v r s).1 c = r c)) ∧ (shF F f e v r s).2 = cnt (trO F (fun _ => false) f e s) (2 ^ n)
  | 0 => ⟨fun c hc => ⟨⟨fun z => absurd z (hr c hc), fun z => by cases z⟩, Or.inr rfl⟩, by
      show 0 = cnt (fun _ => false) (2 ^ n)
      rw [cnt_zero (fun _ _ => rfl)]⟩
  | s + 1 => by
    have h1024 := pw10 hn
    obtain ⟨a, b⟩ := sh_ok (F := F) (f := f) hn he hr s
    have hse : s &&& e < 2 ^ n := Nat.lt_of_le_of_lt Nat.and_le_right he
    rw [shF]
    by_cases q : F (1024 * f + s) = true ∧ ¬ (shF F f e v r s).1 (s &&& e) = v
    · rw [if_pos q]
      have hfalse : trO F (fun _ => false) f e s (s &&& e) = false := Bool.eq_false_iff.mpr (fun z => q.2 ((a _ (by omega)).1.mpr z))
      have e1 : trO F (fun _ => false) f e (s + 1) = upB (trO F (fun _ => false) f e s) (s &&& e) true := by rw [trO, q.1, Bool.or_true]
      rw [e1]
      refine ⟨fun c hc => ?_, ?_⟩
      · show (upd (shF F f e v r s).1 (s &&& e) v c = v ↔ _) ∧ (upd (shF F f e v r s).1 (s &&& e) v c = v ∨ upd (shF F f e v r s).1 (s &&& e) v c = r c)
        by_cases z : c = s &&& e
        · rw [z]
          refine ⟨⟨fun _ => (upB_t _ _ _).mpr (Or.inr rfl), fun _ => by simp [upd]⟩, Or.inl (by simp [upd])⟩
        · have eu : upd (shF F f e v r s).1 (s &&& e) v c = (shF F f e v r s).1 c := by simp [upd, z]
          rw [eu, upB_t]
          exact ⟨(a c hc).1.trans ⟨Or.inl, fun y => y.elim id (fun w => absurd w z)⟩, (a c hc).2⟩
      · show _ + 1 = _
        rw [b, cnt_sm, cnt_sm]
        have := cnB_up hfalse (2 ^ n)
        unfold cnB at this
        rw [this, if_pos hse]
    · rw [if_neg q]
      have e1 : trO F (fun _ => false) f e (s + 1) = trO F (fun _ => false) f e s := by
        rw [trO]; funext c
        unfold upB
        split
        · rename_i z
          rw [z]
          cases hF : F (1024 * f + s)
          · rw [Bool.or_false]
          · have : trO F (fun _ => false) f e s (s &&& e) = true := (a _ (by omega)).1.mp (Decidable.not_not.mp (fun y => q ⟨hF, y⟩))
            rw [this]; rfl
        · rfl
      rw [e1]; exact ⟨a, b⟩
theorem fs_ok {n : Nat} (hn : n ≤ 10) {f : Nat} {F : Nat → Bool} : ∀ (r s : Nat) (b : Option Nat) (M : Mm) (m : Nat), s + r = 2 ^ n → Me m M → m + r < 2 ^ 31 → ((b = none ∧ ∀ k, k < s → ¬ shp F f n k) ∨ ∃ c, b = some c ∧ c < s ∧ shp F f n c ∧ ∀ k, k < s → shp F f n k → pN k < pN c ∨ (pN k = pN c ∧ c ≤ k)) → (((fsF F n f r s b M).2 = none ∧ ∀ k, k < 2 ^ n → ¬ shp F f n k) ∨ ∃ c, (fsF F n f r s b M).2 = some c ∧ Bst F f n c) ∧ Fm M (fsF F n f r s b M).1 ∧ ∃ m', m' ≤ m + r ∧ Me m' (fsF F n f r s b M).1
  | 0, s, b, M, m, hs, hM, hb, h => by
    have : s = 2 ^ n := by omega
    subst this
    refine ⟨?_, Fm.refl _, m, by omega, hM⟩
    rcases h with ⟨x, y⟩ | ⟨c, x, y, z, w⟩
    · exact Or.inl ⟨x, y⟩
    · exact Or.inr ⟨c, x, z, y, w⟩
  | r + 1, s, b, M, m, hs, hM, hb, h => by
    have h1024 := pw10 hn
    have hsn : s < 2 ^ n := by omega
    have hbs := b10_pN (c := s) (by omega)
    rw [fsF]
    by_cases q : fsQ b s = true
    · rw [if_pos q]
      have hv : gI M 9 + nI 1 = nI (m + 1) := by rw [hM.1, nI_add]
      obtain ⟨a1, a2⟩ := sh_ok (F := F) (f := f) (e := s) (v := nI (m + 1)) (r := gA M 10) hn hsn (fun c hc z => by
        obtain ⟨w, w1, w2⟩ := hM.2 c hc
        rw [w2] at z
        have := (nI_eq (by omega) (by omega)).mp z
        omega) (2 ^ n)
      have hA : shA M F n f s = true ↔ shp F f n s := by
        unfold shA shp tcn
        rw [decide_eq_true_iff, hv, a2, hbs]
      have hM1 : Me (m + 1) (shM M F n f s) := by
        refine ⟨hv, fun c hc => ?_⟩
        show ∃ q, q ≤ m + 1 ∧ gA (sA _ 10 _) 10 c = nI q
        rw [gA_s, hv]
        rcases (a1 c hc).2 with w | w
        · exact ⟨m + 1, Nat.le_refl _, w⟩
        · obtain ⟨x, x1, x2⟩ := hM.2 c hc
          exact ⟨x, by omega, by rw [w]; exact x2⟩
      have fM : Fm M (shM M F n f s) := ⟨fun k _ h9 => gI_n M _ h9, fun k h10 _ => gA_n (sI M 9 _) _ h10, fun j => rfl⟩
      have hnew : ((if shA M F n f s = true then some s else b) = none ∧ ∀ k, k < s + 1 → ¬ shp F f n k) ∨ ∃ c, (if shA M F n f s = true then some s else b) = some c ∧ c < s + 1 ∧ shp F f n c ∧ ∀ k, k < s + 1 → shp F f n k → pN k < pN c ∨ (pN k = pN c ∧ c ≤ k) := by
        by_cases z : shA M F n f s = true
        · rw [if_pos z]
          refine Or.inr ⟨s, rfl, by omega, hA.mp z, fun k hk hsk => ?_⟩
          rcases Nat.lt_or_ge k s with w | w
          · rcases h with ⟨x, y⟩ | ⟨c, x, y, y2, y3⟩
            · exact absurd hsk (y k w)
            · rw [x] at q
              have q' : decide (b10 c < b10 s) = true := q
              rw [decide_eq_true_iff, hbs, b10_pN (by omega)] at q'
              rcases y3 k w hsk with v | v <;> exact Or.inl (by omega)
          · have : k = s := by omega
            subst this; exact Or.inr ⟨rfl, Nat.le_refl _⟩
        · rw [if_neg z]
          have hns : ¬ shp F f n s := fun y => z (hA.mpr y)
          rcases h with ⟨x, y⟩ | ⟨c, x, y, y2, y3⟩
          · refine Or.inl ⟨x, fun k hk => ?_⟩
            rcases Nat.lt_or_ge k s with w | w
            · exact y k w
            · have : k = s := by omega
              subst this; exact hns
          · refine Or.inr ⟨c, x, by omega, y2, fun k hk hsk => ?_⟩
            rcases Nat.lt_or_ge k s with w | w
            · exact y3 k w hsk
            · have : k = s := by omega
              subst this; exact absurd hsk hns
      obtain ⟨c1, c2, m', c3, c4⟩ := fs_ok hn (f := f) (F := F) r (s + 1) _ (shM M F n f s) (m + 1) (by omega) hM1 (by omega) hnew
      exact ⟨c1, fM.trans c2, m', by omega, c4⟩
    · rw [if_neg q]
      have hnew : (b = none ∧ ∀ k, k < s + 1 → ¬ shp F f n k) ∨ ∃ c, b = some c ∧ c < s + 1 ∧ shp F f n c ∧ ∀ k, k < s + 1 → shp F f n k → pN k < pN c ∨ (pN k = pN c ∧ c ≤ k) := by
        rcases h with ⟨x, y⟩ | ⟨c, x, y, y2, y3⟩
        · rw [x] at q; exact absurd rfl q
        · rw [x] at q
          have q' : ¬ decide (b10 c < b10 s) = true := q
          rw [decide_eq_true_iff, hbs, b10_pN (by omega)] at q'
          refine Or.inr ⟨c, x, by omega, y2, fun k hk hsk => ?_⟩
          rcases Nat.lt_or_ge k s with w | w
          · exact y3 k w hsk
          · have : k = s := by omega
            subst this
            rcases Nat.lt_or_ge (pN k) (pN c) with v | v
            · exact Or.inl v
            · exact Or.inr ⟨by omega, by omega⟩
      obtain ⟨c1, c2, m', c3, c4⟩ := fs_ok hn (f := f) (F := F) r (s + 1) b M m (by omega) hM (by omega) hnew
      exact ⟨c1, c2, m', by omega, c4⟩
theorem shat_ok {n : Nat} (hn : n ≤ 10) {μ M : Mm} {f m : Nat} {F : Nat → Bool} (hf : f < 4) (h : Rq n (gJ μ f) (fun c => F (1024 * f + c) = true)) (hM : Me m M) (hm : m + 1024 < 2 ^ 31) : flA μ n (wf n) f = oI (fsF F n f (2 ^ n) 0 none M).2 ∧ sonA (flA μ n (wf n) f) = dmI (fsF F n f (2 ^ n) 0 none M).2 ∧ Fs KQ μ (flM μ n (wf n) f) ∧ Fm M (fsF F n f (2 ^ n) 0 none M).1 ∧ ∃ m', m' ≤ m + 1024 ∧ Me m' (fsF F n f (2 ^ n) 0 none M).1 := by
  have h1024 := pw10 hn
  obtain ⟨a, b⟩ := fl_fin hn hf h
  obtain ⟨c1, c2, m', c3, c4⟩ := fs_ok hn (f := f) (F := F) (2 ^ n) 0 none M m (by omega) hM (by omega) (Or.inl ⟨rfl, fun k hk => absurd hk (Nat.not_lt_zero k)⟩)
  have key : (flA μ n (wf n) f = -1 ∧ (fsF F n f (2 ^ n) 0 none M).2 = none) ∨ ∃ c, c < 1024 ∧ flA μ n (wf n) f = nI c ∧ (fsF F n f (2 ^ n) 0 none M).2 = some c := by
    rcases a with ⟨a1, a2⟩ | ⟨x, a1, a2⟩
    · refine Or.inl ⟨a1, ?_⟩
      rcases c1 with ⟨d1, _⟩ | ⟨c, d1, d2⟩
      · exact d1
      · have h0 : tcn F f n c = 0 := by
          unfold tcn
          exact cnt_zero (fun i _ => Bool.eq_false_iff.mpr (fun z => by
            obtain ⟨s, s1, s2, _⟩ := tr0.mp z
            rw [a2 s s1] at s2; cases s2))
        have := d2.1
        unfold shp at this
        have hp := Nat.two_pow_pos (pN c)
        omega
    · rcases c1 with ⟨_, d2⟩ | ⟨c, d1, d2⟩
      · exact absurd a2.1 (d2 x a2.2.1)
      · have : x = c := Bst_u a2 d2
        subst this
        exact Or.inr ⟨x, by have := a2.2.1; omega, a1, d1⟩
  refine ⟨?_, ?_, b, c2, m', by omega, c4⟩
  · rcases key with ⟨k1, k2⟩ | ⟨c, k0, k1, k2⟩ <;> rw [k1, k2] <;> rfl
  · rcases key with ⟨k1, k2⟩ | ⟨c, k0, k1, k2⟩
    · rw [k1, k2]; rfl
    · rw [k1, k2]
      unfold sonA
      rw [if_neg (nI_n1 (by omega)), nI_clamp (by omega)]
      show nI (pN c) = nI (b10 c)
      rw [b10_pN k0]
