theorem wb_tb (n : Nat) : (lN n).toBitVec = BitVec.ofNat 64 n := rfl
theorem wb_inj {a b : Int64} (h : a.toBitVec = b.toBitVec) : a = b := Int64.toBitVec_inj.mp h
theorem wb_tn {n : Nat} (h : n < 2 ^ 64) : (lN n).toBitVec.toNat = n := by rw [wb_tb, BitVec.toNat_ofNat, Nat.mod_eq_of_lt h]
theorem wb_of (x : Int64) : ∃ n, n < 2 ^ 64 ∧ x = lN n := ⟨x.toBitVec.toNat, x.toBitVec.isLt, wb_inj (by rw [wb_tb]; simp)⟩
theorem wb_of32 (x : Int32) : ∃ n, n < 2 ^ 32 ∧ x = nI n := ⟨x.toBitVec.toNat, x.toBitVec.isLt, Int32.toBitVec_inj.mp (by show _ = BitVec.ofNat 32 _; simp)⟩
theorem wb_c : ∀ k, k < 64 → ((nI k).toInt64 &&& 63) = lN k := by decide +kernel
theorem wb_cu : ∀ k, k < 64 → ((nI k).toInt64.toUInt64 &&& Int64.toUInt64 63) = UInt64.ofNat k := by decide +kernel
theorem wb_sm : ∀ k, k < 64 → (BitVec.ofNat 64 k).smod 64 = BitVec.ofNat 64 k := by decide +kernel
theorem wb_pw {a b : Nat} (h : a ≤ b) : 2 ^ b = 2 ^ a * 2 ^ (b - a) := by rw [← Nat.pow_add]; congr 1; omega
theorem wb_lt2 {a b : Nat} (h : a < b) : 2 ^ a < 2 ^ b := Nat.pow_lt_pow_right (by decide) h
theorem wb_mod (n : Nat) : lN n = lN (n % 2 ^ 64) := wb_inj (by rw [wb_tb, wb_tb]; apply BitVec.eq_of_toNat_eq; rw [BitVec.toNat_ofNat, BitVec.toNat_ofNat, Nat.mod_mod])
theorem wb_shr {n k : Nat} (hn : n < 2 ^ 64) (hk : k < 64) : ((lN n).toUInt64 >>> ((nI k).toInt64.toUInt64 &&& Int64.toUInt64 63)).toInt64 = lN (n / 2 ^ k) := by
  rw [wb_cu k hk]
  apply wb_inj
  apply BitVec.eq_of_toNat_eq
  show ((lN n).toUInt64 >>> UInt64.ofNat k).toNat = (BitVec.ofNat 64 _).toNat
  have h1 : (UInt64.ofNat k).toNat = k := by
    show (BitVec.ofNat 64 k).toNat = k
    rw [BitVec.toNat_ofNat, Nat.mod_eq_of_lt (by omega)]
  have h2 : (lN n).toUInt64.toNat = n := wb_tn hn
  rw [UInt64.toNat_shiftRight, h1, h2, Nat.mod_eq_of_lt hk, Nat.shiftRight_eq_div_pow, BitVec.toNat_ofNat, Nat.mod_eq_of_lt (Nat.lt_of_le_of_lt (Nat.div_le_self _ _) hn)]
theorem wb_shl (n : Nat) {k : Nat} (hk : k < 64) : lN n <<< ((nI k).toInt64 &&& 63) = lN (n * 2 ^ k) := by
  rw [wb_c k hk]
  apply wb_inj
  rw [Int64.toBitVec_shiftLeft, wb_tb, wb_tb, wb_tb, wb_sm k hk]
  apply BitVec.eq_of_toNat_eq
  rw [BitVec.shiftLeft_eq', BitVec.toNat_shiftLeft, BitVec.toNat_ofNat, BitVec.toNat_ofNat, BitVec.toNat_ofNat, Nat.mod_eq_of_lt (show k < 2 ^ 64 by omega), Nat.shiftLeft_eq, Nat.mul_mod, Nat.mod_mod, ← Nat.mul_mod]
theorem wb_and {a b : Nat} (ha : a < 2 ^ 64) (hb : b < 2 ^ 64) : lN a &&& lN b = lN (a &&& b) := by
  apply wb_inj
  rw [Int64.toBitVec_and, wb_tb, wb_tb, wb_tb]
  apply BitVec.eq_of_toNat_eq
  rw [BitVec.toNat_and, BitVec.toNat_ofNat, BitVec.toNat_ofNat, BitVec.toNat_ofNat, Nat.mod_eq_of_lt ha, Nat.mod_eq_of_lt hb, Nat.mod_eq_of_lt (Nat.and_lt_two_pow _ hb)]
theorem wb_or {a b : Nat} (ha : a < 2 ^ 64) (hb : b < 2 ^ 64) : lN a ||| lN b = lN (a ||| b) := by
  apply wb_inj
  rw [Int64.toBitVec_or, wb_tb, wb_tb, wb_tb]
  apply BitVec.eq_of_toNat_eq
  rw [BitVec.toNat_or, BitVec.toNat_ofNat, BitVec.toNat_ofNat, BitVec.toNat_ofNat, Nat.mod_eq_of_lt ha, Nat.mod_eq_of_lt hb, Nat.mod_eq_of_lt (Nat.or_lt_two_pow ha hb)]
theorem nx_cnt : ∀ j : Fin 32, (UInt32.ofNat j.val &&& Int32.toUInt32 31).toNat % 32 = j.val := by decide +kernel

def bI (b : Bool) : Int32 := if b then 1 else 0
theorem bI_eq (b : Bool) : bI b = 0 ↔ b = false := by cases b <;> decide
theorem bI_ne (b : Bool) : ¬ bI b = 0 ↔ b = true := by cases b <;> decide
theorem nar_b (b : Bool) : narrow .boolean (.int (bI b)) = .int (bI b) := by cases b <;> rfl
theorem zI_eq {a : Nat} (h : a < 2 ^ 31) : nI a = 0 ↔ a = 0 := nI_eq (b := 0) h (by decide)
theorem zI_ne {a : Nat} (h : a < 2 ^ 31) : ¬ nI a = 0 ↔ ¬ a = 0 := not_congr (zI_eq h)
theorem zI_gt {a : Nat} (h : a < 2 ^ 31) : 0 < nI a ↔ 0 < a := nI_ltI (a := 0) (by decide) h
theorem zI_le {a : Nat} (h : a < 2 ^ 31) : nI a ≤ 0 ↔ a = 0 := (nI_leI (b := 0) h (by decide)).trans Nat.le_zero
theorem zI_lt {a : Nat} (h : a < 2 ^ 31) : nI a < 0 ↔ False := (nI_ltI (b := 0) h (by decide)).trans (iff_false_intro (Nat.not_lt_zero a))
theorem zI_ge {a : Nat} (h : a < 2 ^ 31) : 0 ≤ nI a ↔ True := (nI_leI (a := 0) (by decide) h).trans (by simp)
theorem inc_N (w k : Nat) : nI w + Int32.ofInt (k : Int) = nI (w + k) := by
  rw [← nI_add]; congr 1
theorem nand (a b : Nat) : nI a &&& nI b = nI (a &&& b) := by
  apply Int32.toBitVec_inj.1
  show BitVec.ofNat 32 a &&& BitVec.ofNat 32 b = BitVec.ofNat 32 (a &&& b)
  apply BitVec.eq_of_getLsbD_eq
  intro i hi
  simp [hi]
theorem nor (a b : Nat) : nI a ||| nI b = nI (a ||| b) := by
  apply Int32.toBitVec_inj.1
  show BitVec.ofNat 32 a ||| BitVec.ofNat 32 b = BitVec.ofNat 32 (a ||| b)
  apply BitVec.eq_of_getLsbD_eq
  intro i hi
  simp [hi]
theorem nxor (a b : Nat) : nI a ^^^ nI b = nI (a ^^^ b) := by
  apply Int32.toBitVec_inj.1
  show BitVec.ofNat 32 a ^^^ BitVec.ofNat 32 b = BitVec.ofNat 32 (a ^^^ b)
  apply BitVec.eq_of_getLsbD_eq
  intro i hi
  simp [hi]
theorem n31 : ∀ k, k < 32 → ((nI k &&& 31).toBitVec.smod 32).toNat = k := by decide +kernel
theorem nshl {a k : Nat} (h : k < 32 ∧ a * 2 ^ k < 2 ^ 32) : nI a <<< (nI k &&& 31) = nI (a * 2 ^ k) := pk_shlN _ k (n31 k h.1) h.2
theorem nshl1 {k : Nat} (h : k < 32) : nI 1 <<< (nI k &&& 31) = nI (2 ^ k) := by
  rw [pk_shlN _ k (n31 k h) (by rw [Nat.one_mul]; exact Nat.pow_lt_pow_right (by decide) h), Nat.one_mul]
theorem nshr {a k : Nat} (h : a < 2 ^ 31) (hk : k < 32) : nI a >>> (nI k &&& 31) = nI (a / 2 ^ k) := pk_shrN h _ k (n31 k hk)
theorem lgc_eq (x y : Int64) : lg_cmp x y = 0 ↔ x = y := by
  unfold lg_cmp
  by_cases h : x > y
  · rw [if_pos h]; exact ⟨fun q => absurd q (by decide), fun q => by subst q; exact absurd h (Int64.lt_irrefl)⟩
  · rw [if_neg h]
    by_cases h2 : x = y
    · rw [if_pos h2]; simp [h2]
    · rw [if_neg h2]; exact ⟨fun q => absurd q (by decide), fun q => absurd q h2⟩
theorem lgc_ne (x y : Int64) : ¬ lg_cmp x y = 0 ↔ ¬ x = y := not_congr (lgc_eq x y)
theorem lgc_gt (x y : Int64) : 0 < lg_cmp x y ↔ y < x := by
  unfold lg_cmp
  by_cases h : x > y
  · rw [if_pos h]; exact ⟨fun _ => h, fun _ => by decide⟩
  · rw [if_neg h]
    by_cases h2 : x = y
    · rw [if_pos h2]; exact ⟨fun q => absurd q (by decide), fun q => absurd q h⟩
    · rw [if_neg h2]; exact ⟨fun q => absurd q (by decide), fun q => absurd q h⟩
theorem lgc_le (x y : Int64) : lg_cmp x y ≤ 0 ↔ ¬ y < x := by
  unfold lg_cmp
  by_cases h : x > y
  · rw [if_pos h]; exact ⟨fun q => absurd q (by decide), fun q => absurd h q⟩
  · rw [if_neg h]
    by_cases h2 : x = y
    · rw [if_pos h2]; exact ⟨fun _ => h, fun _ => by decide⟩
    · rw [if_neg h2]; exact ⟨fun _ => h, fun _ => by decide⟩
theorem fo_lt {i : Nat} (h : i < 52) : fo i < 132 := by unfold fo; omega
theorem fw_lt {i : Nat} (h : i < 52) : fw i < 132 := by unfold fw; omega
/-! counting -/
def cnt (p : Nat → Bool) : Nat → Nat
  | 0 => 0
  | n + 1 => cnt p n + (p n).toNat
theorem cnt_le (p : Nat → Bool) : ∀ n, cnt p n ≤ n
  | 0 => Nat.le_refl 0
  | n + 1 => by have := cnt_le p n; have := Bool.toNat_le (p n); simp only [cnt]; omega
theorem cnt_congr {p q : Nat → Bool} : ∀ {n : Nat}, (∀ i, i < n → p i = q i) → cnt p n = cnt q n
  | 0, _ => rfl
  | n + 1, h => by simp only [cnt]; rw [cnt_congr (fun i hi => h i (by omega)), h n (by omega)]
theorem cnt_add (p : Nat → Bool) (a : Nat) : ∀ b, cnt p (a + b) = cnt p a + cnt (fun i => p (a + i)) b
  | 0 => rfl
  | b + 1 => by show cnt p (a + b) + (p (a + b)).toNat = cnt p a + (cnt (fun i => p (a + i)) b + (p (a + b)).toNat); rw [cnt_add p a b]; omega
theorem cnt_zero {p : Nat → Bool} : ∀ {n : Nat}, (∀ i, i < n → p i = false) → cnt p n = 0
  | 0, _ => rfl
  | n + 1, h => by simp only [cnt]; rw [cnt_zero (fun i hi => h i (by omega)), h n (by omega)]; rfl
/-! the eight bytes of a bit count -/
def rep (c : Nat) : Nat → Nat
  | 0 => 0
  | k + 1 => 256 * rep c k + c
theorem rep_s (c k : Nat) : rep c (k + 1) = 256 * rep c k + c := rfl
theorem and_spl {a b c d : Nat} (hb : b < 256) (hd : d < 256) : (256 * a + b) &&& (256 * c + d) = 256 * (a &&& c) + (b &&& d) := by
  apply Nat.eq_of_testBit_eq
  intro i
  have h : b &&& d < 2 ^ 8 := Nat.and_lt_two_pow _ hd
  rw [Nat.testBit_and, show (256 : Nat) = 2 ^ 8 from rfl, Nat.testBit_two_pow_mul_add a hb, Nat.testBit_two_pow_mul_add c hd, Nat.testBit_two_pow_mul_add _ h]
  by_cases hi : i < 8 <;> simp [hi, Nat.testBit_and]
def t1 (k x : Nat) : Nat := x - ((x / 2) &&& rep 0x55 k)
def t2 (k y : Nat) : Nat := (y &&& rep 0x33 k) + ((y / 4) &&& rep 0x33 k)
def t3 (k v : Nat) : Nat := (v + v / 16) &&& rep 0x0F k
def u1 (d : Nat) : Nat := d - ((d / 2) &&& 0x55)
def u2 (e : Nat) : Nat := (e &&& 0x33) + ((e / 4) &&& 0x33)
theorem u_k : ∀ q, q < 2 → ∀ d, d < 256 → (128 * q + d / 2) &&& 0x55 = (d / 2) &&& 0x55 := by decide +kernel
theorem u_k2 : ∀ q, q < 4 → ∀ d, d < 256 → (64 * q + d / 4) &&& 0x33 = (d / 4) &&& 0x33 := by decide +kernel
theorem u_1 : ∀ d, d < 256 → (d / 2) &&& 0x55 ≤ d := by decide +kernel
theorem u_2 : ∀ d, d < 256 → u1 d < 256 ∧ u2 (u1 d) % 16 ≤ 4 ∧ u2 (u1 d) / 16 ≤ 4 ∧ (u2 (u1 d) + u2 (u1 d) / 16) % 16 = cnt d.testBit 8 := by decide +kernel
theorem u_3 : ∀ d, d < 256 → d &&& 0x0F = d % 16 := by decide +kernel
theorem t1_s (k x d : Nat) (hd : d < 256) : t1 (k + 1) (256 * x + d) = 256 * t1 k x + u1 d := by
  have e : (256 * x + d) / 2 = 256 * (x / 2) + (128 * (x % 2) + d / 2) := by omega
  unfold t1 u1
  rw [rep_s, e, and_spl (by omega) (by decide), u_k _ (by omega) d hd]
  have h1 : (x / 2) &&& rep 0x55 k ≤ x / 2 := Nat.and_le_left
  have h2 := u_1 d hd
  omega
theorem t2_s (k y e : Nat) (he : e < 256) : t2 (k + 1) (256 * y + e) = 256 * t2 k y + u2 e := by
  have h : (256 * y + e) / 4 = 256 * (y / 4) + (64 * (y % 4) + e / 4) := by omega
  unfold t2 u2
  rw [rep_s, h, and_spl he (by decide), and_spl (by omega) (by decide), u_k2 _ (by omega) e he]
  omega
theorem t3_s (k v f : Nat) (h1 : f % 16 ≤ 4) (h2 : f / 16 ≤ 4) (h3 : v % 16 ≤ 4) : t3 (k + 1) (256 * v + f) = 256 * t3 k v + (f + f / 16) % 16 := by
  have h : (256 * v + f) + (256 * v + f) / 16 = 256 * (v + v / 16) + (16 * (v % 16) + f + f / 16) := by omega
  unfold t3
  rw [rep_s, h, and_spl (by omega) (by decide), u_3 _ (by omega)]
  omega
def SP : Nat → Nat → Nat
  | 0, _ => 0
  | k + 1, x => 256 * SP k (x / 256) + cnt (x % 256).testBit 8
theorem SP_ok : ∀ k x, t3 k (t2 k (t1 k x)) = SP k x ∧ (0 < k → t2 k (t1 k x) % 16 ≤ 4) ∧ (k = 0 → t2 k (t1 k x) = 0)
  | 0, x => by refine ⟨by simp [t3, rep, SP], fun h => absurd h (by decide), fun _ => by simp [t2, rep]⟩
  | k + 1, x => by
    obtain ⟨i1, i2, i3⟩ := SP_ok k (x / 256)
    have hd : x % 256 < 256 := Nat.mod_lt _ (by decide)
    obtain ⟨b1, b2, b3, b4⟩ := u_2 _ hd
    have e : x = 256 * (x / 256) + x % 256 := by omega
    have hq : t2 k (t1 k (x / 256)) % 16 ≤ 4 := by
      rcases Nat.eq_zero_or_pos k with h | h
      · rw [i3 h]; decide
      · exact i2 h
    have ee : t2 (k + 1) (t1 (k + 1) x) = 256 * t2 k (t1 k (x / 256)) + u2 (u1 (x % 256)) := by
      conv => lhs; rw [e]
      rw [t1_s _ _ _ hd, t2_s _ _ _ b1]
    refine ⟨?_, fun _ => by rw [ee, show ∀ t u : Nat, 256 * t + u = 16 * (16 * t) + u from fun t u => by omega, Nat.mul_add_mod]; exact b2, fun h => absurd h (by omega)⟩
    rw [ee, t3_s _ _ _ b2 b3 hq, i1, b4]
    rfl
theorem cnt_byte (n a : Nat) : cnt (fun i => n.testBit (a + i)) 8 = cnt (n / 2 ^ a % 256).testBit 8 := by
  apply cnt_congr
  intro i hi
  rw [show (256 : Nat) = 2 ^ 8 from rfl, Nat.testBit_mod_two_pow, Nat.testBit_div_two_pow]
  simp [hi, Nat.add_comm]
theorem pop64 {n : Nat} (h : n < 2 ^ 64) : let a := t3 8 (t2 8 (t1 8 n)); let b := a + a / 2 ^ 8; let c := b + b / 2 ^ 16; let d := c + c / 2 ^ 32; d % 128 = cnt n.testBit 64 := by
  intro a b c d
  have e : cnt n.testBit 64 = cnt (n % 256).testBit 8 + cnt (n / 2 ^ 8 % 256).testBit 8 + cnt (n / 2 ^ 16 % 256).testBit 8 + cnt (n / 2 ^ 24 % 256).testBit 8 + cnt (n / 2 ^ 32 % 256).testBit 8 + cnt (n / 2 ^ 40 % 256).testBit 8 + cnt (n / 2 ^ 48 % 256).testBit 8 + cnt (n / 2 ^ 56 % 256).testBit 8 := by
    have h0 := cnt_byte n 0
    simp only [Nat.zero_add, Nat.pow_zero, Nat.div_one] at h0
    rw [show (64 : Nat) = 56 + 8 from rfl, cnt_add, cnt_byte, show (56 : Nat) = 48 + 8 from rfl, cnt_add, cnt_byte, show (48 : Nat) = 40 + 8 from rfl, cnt_add, cnt_byte, show (40 : Nat) = 32 + 8 from rfl, cnt_add, cnt_byte, show (32 : Nat) = 24 + 8 from rfl, cnt_add, cnt_byte, show (24 : Nat) = 16 + 8 from rfl, cnt_add, cnt_byte, show (16 : Nat) = 8 + 8 from rfl, cnt_add, cnt_byte, ← h0]
  have ha : a = SP 8 n := (SP_ok 8 n).1
  simp only [SP, Nat.div_div_eq_div_mul, Nat.reduceMul] at ha
  simp only [Nat.reducePow] at e
  rw [e]
  have q0 := cnt_le (n % 256).testBit 8
  have q1 := cnt_le (n / 256 % 256).testBit 8
  have q2 := cnt_le (n / 65536 % 256).testBit 8
  have q3 := cnt_le (n / 16777216 % 256).testBit 8
  have q4 := cnt_le (n / 4294967296 % 256).testBit 8
  have q5 := cnt_le (n / 1099511627776 % 256).testBit 8
  have q6 := cnt_le (n / 281474976710656 % 256).testBit 8
  have q7 := cnt_le (n / 72057594037927936 % 256).testBit 8
  generalize cnt (n % 256).testBit 8 = p0 at *
  generalize cnt (n / 256 % 256).testBit 8 = p1 at *
  generalize cnt (n / 65536 % 256).testBit 8 = p2 at *
  generalize cnt (n / 16777216 % 256).testBit 8 = p3 at *
  generalize cnt (n / 4294967296 % 256).testBit 8 = p4 at *
  generalize cnt (n / 1099511627776 % 256).testBit 8 = p5 at *
  generalize cnt (n / 281474976710656 % 256).testBit 8 = p6 at *
  generalize cnt (n / 72057594037927936 % 256).testBit 8 = p7 at *
  show (c + c / 2 ^ 32) % 128 = _
  have hb : b = a + a / 2 ^ 8 := rfl
  have hc : c = b + b / 2 ^ 16 := rfl
  clear_value a b c
  subst ha
  clear e h d
  have hb2 : b = 256 * (256 * (256 * (256 * (256 * (256 * (256 * p7 + (p6 + p7)) + (p5 + p6)) + (p4 + p5)) + (p3 + p4)) + (p2 + p3)) + (p1 + p2)) + (p0 + p1) := by omega
  clear hb
  have hb3 : b / 2 ^ 16 = 256 * (256 * (256 * (256 * (256 * p7 + (p6 + p7)) + (p5 + p6)) + (p4 + p5)) + (p3 + p4)) + (p2 + p3) := by omega
  have hc2 : c = 256 * (256 * (256 * (256 * (256 * (256 * (256 * p7 + (p6 + p7)) + (p5 + p6 + p7)) + (p4 + p5 + p6 + p7)) + (p3 + p4 + p5 + p6)) + (p2 + p3 + p4 + p5)) + (p1 + p2 + p3 + p4)) + (p0 + p1 + p2 + p3) := by omega
  clear hc hb3 hb2
  have hc3 : c / 2 ^ 32 = 256 * (256 * (256 * p7 + (p6 + p7)) + (p5 + p6 + p7)) + (p4 + p5 + p6 + p7) := by omega
  rw [hc3, hc2]
  omega
