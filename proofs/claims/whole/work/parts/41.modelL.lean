theorem and_split (a b : Nat) : a &&& b = 2 * (a / 2 &&& b / 2) + (a % 2) * (b % 2) := by
  have h1 := Nat.div_add_mod (a &&& b) 2
  have h2 : (a &&& b) / 2 = a / 2 &&& b / 2 := Nat.and_div_two
  have h3 : (a &&& b) % 2 = (a % 2) * (b % 2) := by
    have h4 : (a &&& b) % 2 ^ 1 = (a % 2 ^ 1) &&& (b % 2 ^ 1) := Nat.and_mod_two_pow
    rw [Nat.pow_one] at h4
    rw [h4]
    rcases Nat.mod_two_eq_zero_or_one a with p | p <;> rcases Nat.mod_two_eq_zero_or_one b with q | q <;> rw [p, q] <;> rfl
  rw [← h2, ← h3]; exact h1.symm
theorem sub_halves {Q L : Nat} (h : Q &&& L = Q) : Q / 2 &&& L / 2 = Q / 2 ∧ Q % 2 ≤ L % 2 := by
  have h1 := and_split Q L
  rw [h] at h1
  rcases Nat.mod_two_eq_zero_or_one Q with p | p <;> rcases Nat.mod_two_eq_zero_or_one L with q | q <;> rw [p, q] at h1 ⊢ <;> (simp only [Nat.mul_zero, Nat.zero_mul, Nat.mul_one] at h1) <;> refine ⟨by omega, by omega⟩
theorem sub_fill : ∀ K L Q : Nat, L < 2 ^ K → Q &&& L = Q → (Q + (2 ^ K - 1 - L)) &&& L = Q
  | 0, L, Q, hL, h => by
    have : L = 0 := by have : (2 : Nat) ^ 0 = 1 := rfl; omega
    subst this; rw [Nat.and_zero] at h ⊢; exact h
  | K + 1, L, Q, hL, h => by
    obtain ⟨h1, h2⟩ := sub_halves h
    have hp : (2 : Nat) ^ (K + 1) = 2 * 2 ^ K := by rw [Nat.pow_succ, Nat.mul_comm]
    have h0 := Nat.two_pow_pos K
    have hi := sub_fill K (L / 2) (Q / 2) (by omega) h1
    have hQ : Q ≤ L := by rw [← h]; exact Nat.and_le_right
    rw [and_split, show (Q + (2 ^ (K + 1) - 1 - L)) / 2 = Q / 2 + (2 ^ K - 1 - L / 2) by omega, hi]
    rcases Nat.mod_two_eq_zero_or_one Q with p | p <;> rcases Nat.mod_two_eq_zero_or_one L with q | q
    · rw [q]; omega
    · rw [q, show (Q + (2 ^ (K + 1) - 1 - L)) % 2 = 0 by omega]; omega
    · omega
    · rw [q, show (Q + (2 ^ (K + 1) - 1 - L)) % 2 = 1 by omega]; omega
theorem sub_next : ∀ K L Q : Nat, L < 2 ^ K → Q &&& L = Q → (Q + (2 ^ K - L)) &&& L = 0 ∨ Q < (Q + (2 ^ K - L)) &&& L
  | 0, L, Q, hL, h => by
    have : L = 0 := by have : (2 : Nat) ^ 0 = 1 := rfl; omega
    subst this; exact Or.inl (Nat.and_zero _)
  | K + 1, L, Q, hL, h => by
    obtain ⟨h1, h2⟩ := sub_halves h
    have hp : (2 : Nat) ^ (K + 1) = 2 * 2 ^ K := by rw [Nat.pow_succ, Nat.mul_comm]
    have h0 := Nat.two_pow_pos K
    have hi := sub_next K (L / 2) (Q / 2) (by omega) h1
    have hf := sub_fill K (L / 2) (Q / 2) (by omega) h1
    have hQ : Q ≤ L := by rw [← h]; exact Nat.and_le_right
    rw [and_split]
    by_cases e : Q % 2 = L % 2
    · rw [show (Q + (2 ^ (K + 1) - L)) / 2 = Q / 2 + (2 ^ K - L / 2) by omega, show (Q + (2 ^ (K + 1) - L)) % 2 = 0 by omega, Nat.zero_mul]
      omega
    · have q : L % 2 = 1 := by omega
      rw [show (Q + (2 ^ (K + 1) - L)) / 2 = Q / 2 + (2 ^ K - 1 - L / 2) by omega, show (Q + (2 ^ (K + 1) - L)) % 2 = 1 by omega, hf, q]
      omega
/-- the next subset of L after Q, or 0 -/
def nxS (L Q : Nat) : Nat := (Q + (4294967296 - L)) &&& L
def ndS (a p : Nat) : Nat := a &&& (p ^^^ 4294967295)
theorem nxS_up {L Q : Nat} (hL : L < 1024) (h : Q &&& L = Q) : nxS L Q = 0 ∨ Q < nxS L Q := sub_next 32 L Q (by omega) h
theorem nxS_sub (L Q : Nat) : nxS L Q &&& L = nxS L Q := by unfold nxS; rw [Nat.and_assoc, Nat.and_self]
theorem nxS_lt {L Q : Nat} (hL : L < 1024) : nxS L Q < 1024 := Nat.lt_of_le_of_lt Nat.and_le_right hL
theorem ndS_lt {a p : Nat} (h : a < 1024) : ndS a p < 1024 := Nat.lt_of_le_of_lt Nat.and_le_left h
theorem nI_subW {q L : Nat} (h : L ≤ 4294967296) : nI q - nI L = nI (q + (4294967296 - L)) := by
  have e : nI L + nI (q + (4294967296 - L)) = nI q := by
    rw [nI_add, show L + (q + (4294967296 - L)) = q + 4294967296 by omega, ← nI_add, show nI 4294967296 = 0 by decide, Int32.add_zero]
  rw [← e, Int32.add_comm, Int32.add_sub_cancel]
theorem nxS_I {q L : Nat} (h : L < 1024) : nI q - nI L &&& nI L = nI (nxS L q) := by rw [nI_subW (by omega), nand]; rfl
theorem nxS_0 {L : Nat} (h : L < 1024) : nI L &&& -nI L = nI (nxS L 0) := by
  rw [← nxS_I h, show nI 0 = 0 from rfl, Int32.zero_sub, Int32.and_comm]
theorem ndS_x (p : Nat) : nI p ^^^ (-1) = nI (p ^^^ 4294967295) := by rw [show (-1 : Int32) = nI 4294967295 by decide, nxor]
def mesS (r : Nat) : Nat := if r = 0 then 0 else 1025 - r
theorem mesS_dec {r r' k : Nat} (h0 : ¬ r = 0) (hr : r < 1024) (h : r' = 0 ∨ r < r') (hm : mesS r < k + 1) : mesS r' < k := by
  unfold mesS at *; rw [if_neg h0] at hm
  by_cases q : r' = 0
  · rw [if_pos q]; omega
  · rw [if_neg q]; omega
theorem mesS_le (r : Nat) : mesS r < 1025 := by unfold mesS; split <;> omega
def icR (F : Nat → Bool) (f c rest q : Nat) : Nat → Nat → Bool
  | 0, _ => false
  | k + 1, r => if r = 0 then false else if q < r ∧ F (1024 * f + (r ||| c)) = true then true else icR F f c rest q k (nxS rest r)
def icQ (F : Nat → Bool) (f c left p : Nat) : Nat → Nat → Bool
  | 0, _ => false
  | k + 1, q => if q = 0 then false else if (p < q ∧ F (1024 * f + (q ||| c)) = true) ∧ icR F f c (ndS left q) q 1025 (nxS (ndS left q) 0) = true then true else icQ F f c left p k (nxS left q)
def icP (F : Nat → Bool) (f c al : Nat) : Nat → Nat → Bool
  | 0, _ => false
  | k + 1, p => if (p &&& c = 0 ∧ F (1024 * f + (p ||| c)) = true) ∧ icQ F f c (ndS al p) p 1025 (nxS (ndS al p) 0) = true then true else icP F f c al k (p + 1)
set_option maxHeartbeats 1000000 in
set_option maxRecDepth 100000 in
theorem lp_isCoreR {z : Zt} {A : Nat → Prop} {l : Launch} {g : Gd} {μ : Mm} (C : Cx z A l (rmk 1 20) cX11_isCore 11 "SetFamiliesModel") (X : Kx z g A) {F : Nat → Bool} {n f c q p al left rest : Nat} (h6 : gI μ 6 = nI n) (hn10 : n ≤ 10) (h5 : gA μ 5 = bR F) (hf : f < 4) (hc : c < 1024) (hq : q < 1024) (hrest : rest < 1024) : ∀ (n_ : Nat) (r : Nat), mesS r < n_ → r < 1024 → r &&& rest = r → (icR F f c rest q n_ r = true → Rx z g A (some .boolean) (some (.int (nI 1))) μ) → (icR F f c rest q n_ r = false → G z g.1 A 11 (wd g μ) 0 0 178 [(7, .int (nI q)), (6, .int (nI left)), (5, .int (bI true)), (4, .int (nI p)), (3, .int (nI al)), (0, .ref (ad g 19)), (1, .int (nI f)), (2, .int (nI c))] []) → G z g.1 A 11 (wd g μ) 0 0 128 [(10, .int (nI r)), (9, .int (nI rest)), (8, .int (bI true)), (7, .int (nI q)), (6, .int (nI left)), (5, .int (bI true)), (4, .int (nI p)), (3, .int (nI al)), (0, .ref (ad g 19)), (1, .int (nI f)), (2, .int (nI c))] [] := by
  intro n_
  induction n_ with
  | zero => intro r hm_; exact absurd hm_ (Nat.not_lt_zero _)
  | succ n_ ih =>
    intro r hm_ hr hsub KR KK
    rw [icR] at KR KK
    have hrc := or1024 hr hc
    refine r_iload C dX11_isCore_128 2 rfl ?_
    refine r_if_eq C 178 dX11_isCore_130 (by decide) (bI_eq _) (fun h130 => ?_) (fun h130 => ?_)
    · exact absurd h130 (by decide)
    · refine r_iload C dX11_isCore_133 0 rfl ?_
      refine r_if_eq C 178 dX11_isCore_135 (by decide) (zI_eq (by omega)) (fun h135 => ?_) (fun h135 => ?_)
      · rw [if_pos h135] at KK
        refine G_sub (lv' := [(7, .int (nI q)), (6, .int (nI left)), (5, .int (bI true)), (4, .int (nI p)), (3, .int (nI al)), (0, .ref (ad g 19)), (1, .int (nI f)), (2, .int (nI c))]) [3, 4, 5, 6, 7, 8, 9, 10] rfl ?_
        exact KK rfl
      · rw [if_neg h135] at KR KK
        refine r_iload C dX11_isCore_138 0 rfl ?_
        refine r_iload C dX11_isCore_140 3 rfl ?_
        refine r_icmp_le C 165 dX11_isCore_142 (by decide) (nI_leI (by omega) (by omega)) (fun h142 => ?_) (fun h142 => ?_)
        · rw [if_neg (fun x => absurd x.1 (by omega))] at KR KK
          refine r_iload C dX11_isCore_165 0 rfl ?_
          refine r_iload C dX11_isCore_167 1 rfl ?_
          refine r_isub C (v := (nI r - nI rest)) dX11_isCore_169 rfl ?_
          refine r_iload C dX11_isCore_170 1 rfl ?_
          refine r_iand C (v := (nI (nxS rest r))) dX11_isCore_172 (nxS_I hrest) ?_
          refine r_istore C (lv' := [(10, .int (nI (nxS rest r))), (9, .int (nI rest)), (8, .int (bI true)), (7, .int (nI q)), (6, .int (nI left)), (5, .int (bI true)), (4, .int (nI p)), (3, .int (nI al)), (0, .ref (ad g 19)), (1, .int (nI f)), (2, .int (nI c))]) 10 dX11_isCore_173 (by decide) rfl ?_
          refine r_goto C 128 dX11_isCore_175 (by decide) ?_
          exact ih (nxS rest r) (mesS_dec h135 hr (nxS_up hrest hsub) hm_) (nxS_lt hrest) (nxS_sub _ _) KR KK
        · refine r_aload_n C dX11_isCore_145 8 rfl ?_
          refine r_get C X (k := 19) (R := RX11) (T := TX11) (N := 15) (n := 2) (v := .ref (ad g 20)) (by decide) rfl rfl inw11 (by decide) rfl hw_5_20 rfl dX11_isCore_146 ?_
          refine r_sipush C (v := (nI 1024)) dX11_isCore_149 (by decide) ?_
          refine r_iload_n C dX11_isCore_152 9 rfl ?_
          refine r_imul C (v := (nI (1024 * f))) dX11_isCore_153 (pk_mul _ _) ?_
          refine r_iload C dX11_isCore_154 0 rfl ?_
          refine r_iload_n C dX11_isCore_156 10 rfl ?_
          refine r_ior C (v := (nI (r ||| c))) dX11_isCore_157 (nor _ _) ?_
          refine r_iadd C (v := (nI (1024 * f + (r ||| c)))) dX11_isCore_158 (nI_add _ _) ?_
          refine r_zald C X (k := 20) (v := (bI (F (1024 * f + (r ||| c))))) (by decide) rfl (by omega) (by decide) (bR_at h5 _) dX11_isCore_159 ?_
          refine r_if_eq C 165 dX11_isCore_160 (by decide) (bI_eq _) (fun h160 => ?_) (fun h160 => ?_)
          · rw [if_neg (fun x => ts_f h160 x.2)] at KR KK
            refine r_iload C dX11_isCore_165 0 rfl ?_
            refine r_iload C dX11_isCore_167 1 rfl ?_
            refine r_isub C (v := (nI r - nI rest)) dX11_isCore_169 rfl ?_
            refine r_iload C dX11_isCore_170 1 rfl ?_
            refine r_iand C (v := (nI (nxS rest r))) dX11_isCore_172 (nxS_I hrest) ?_
            refine r_istore C (lv' := [(10, .int (nI (nxS rest r))), (9, .int (nI rest)), (8, .int (bI true)), (7, .int (nI q)), (6, .int (nI left)), (5, .int (bI true)), (4, .int (nI p)), (3, .int (nI al)), (0, .ref (ad g 19)), (1, .int (nI f)), (2, .int (nI c))]) 10 dX11_isCore_173 (by decide) rfl ?_
            refine r_goto C 128 dX11_isCore_175 (by decide) ?_
            exact ih (nxS rest r) (mesS_dec h135 hr (nxS_up hrest hsub) hm_) (nxS_lt hrest) (nxS_sub _ _) KR KK
          · rw [if_pos ⟨by omega, ts_t h160⟩] at KR
            refine r_iconst C (v := (nI 1)) dX11_isCore_163 rfl ?_
            exact r_zret C dX11_isCore_164 (by decide) (KR rfl)
set_option maxHeartbeats 1000000 in
set_option maxRecDepth 100000 in
theorem lp_isCoreQ {z : Zt} {A : Nat → Prop} {l : Launch} {g : Gd} {μ : Mm} (C : Cx z A l (rmk 1 20) cX11_isCore 11 "SetFamiliesModel") (X : Kx z g A) {F : Nat → Bool} {n f c p al left : Nat} (h6 : gI μ 6 = nI n) (hn10 : n ≤ 10) (h5 : gA μ 5 = bR F) (hf : f < 4) (hc : c < 1024) (hleft : left < 1024) (hp1 : p < 1024) : ∀ (n_ : Nat) (q : Nat), mesS q < n_ → q < 1024 → q &&& left = q → (icQ F f c left p n_ q = true → Rx z g A (some .boolean) (some (.int (nI 1))) μ) → (icQ F f c left p n_ q = false → G z g.1 A 11 (wd g μ) 0 0 191 [(4, .int (nI p)), (3, .int (nI al)), (0, .ref (ad g 19)), (1, .int (nI f)), (2, .int (nI c))] []) → G z g.1 A 11 (wd g μ) 0 0 69 [(7, .int (nI q)), (6, .int (nI left)), (5, .int (bI true)), (4, .int (nI p)), (3, .int (nI al)), (0, .ref (ad g 19)), (1, .int (nI f)), (2, .int (nI c))] [] := by
  intro n_
  induction n_ with
  | zero => intro q hm_; exact absurd hm_ (Nat.not_lt_zero _)
  | succ n_ ih =>
    intro q hm_ hq hsub KR KK
    rw [icQ] at KR KK
    have hqc := or1024 hq hc
    have hrest := ndS_lt (p := q) hleft
    refine r_iload C dX11_isCore_69 2 rfl ?_
    refine r_if_eq C 191 dX11_isCore_71 (by decide) (bI_eq _) (fun h71 => ?_) (fun h71 => ?_)
    · exact absurd h71 (by decide)
    · refine r_iload C dX11_isCore_74 0 rfl ?_
      refine r_if_eq C 191 dX11_isCore_76 (by decide) (zI_eq (by omega)) (fun h76 => ?_) (fun h76 => ?_)
      · rw [if_pos h76] at KK
        refine G_sub (lv' := [(4, .int (nI p)), (3, .int (nI al)), (0, .ref (ad g 19)), (1, .int (nI f)), (2, .int (nI c))]) [3, 4, 5, 6, 7] rfl ?_
        exact KK rfl
      · rw [if_neg h76] at KR KK
        refine r_iload C dX11_isCore_79 0 rfl ?_
        refine r_iload C dX11_isCore_81 3 rfl ?_
        refine r_icmp_le C 108 dX11_isCore_83 (by decide) (nI_leI (by omega) (by omega)) (fun h83 => ?_) (fun h83 => ?_)
        · rw [if_neg (fun x => absurd x.1.1 (by omega))] at KR KK
          refine r_iconst C (v := (nI 0)) dX11_isCore_108 rfl ?_
          refine G_top (y := (bI false)) rfl ?_
          refine r_istore C (lv' := [(8, .int (bI false)), (7, .int (nI q)), (6, .int (nI left)), (5, .int (bI true)), (4, .int (nI p)), (3, .int (nI al)), (0, .ref (ad g 19)), (1, .int (nI f)), (2, .int (nI c))]) 8 dX11_isCore_109 (by decide) rfl ?_
          refine r_iload C dX11_isCore_111 2 rfl ?_
          refine r_iload C dX11_isCore_113 1 rfl ?_
          refine r_iconst C (v := (-1)) dX11_isCore_115 rfl ?_
          refine r_ixor C (v := (nI (q ^^^ 4294967295))) dX11_isCore_116 (ndS_x _) ?_
          refine r_iand C (v := (nI (left &&& (q ^^^ 4294967295)))) dX11_isCore_117 (nand _ _) ?_
          refine G_top (y := (nI (ndS left q))) rfl ?_
          refine r_istore C (lv' := [(9, .int (nI (ndS left q))), (8, .int (bI false)), (7, .int (nI q)), (6, .int (nI left)), (5, .int (bI true)), (4, .int (nI p)), (3, .int (nI al)), (0, .ref (ad g 19)), (1, .int (nI f)), (2, .int (nI c))]) 9 dX11_isCore_118 (by decide) rfl ?_
          refine r_iload C dX11_isCore_120 0 rfl ?_
          refine r_iload C dX11_isCore_122 0 rfl ?_
          refine r_ineg C (v := (-(nI (ndS left q)))) dX11_isCore_124 rfl ?_
          refine r_iand C (v := (nI (nxS (ndS left q) 0))) dX11_isCore_125 (nxS_0 hrest) ?_
          refine r_istore C (lv' := [(10, .int (nI (nxS (ndS left q) 0))), (9, .int (nI (ndS left q))), (8, .int (bI false)), (7, .int (nI q)), (6, .int (nI left)), (5, .int (bI true)), (4, .int (nI p)), (3, .int (nI al)), (0, .ref (ad g 19)), (1, .int (nI f)), (2, .int (nI c))]) 10 dX11_isCore_126 (by decide) rfl ?_
          refine r_iload C dX11_isCore_128 2 rfl ?_
          refine r_if_eq C 178 dX11_isCore_130 (by decide) (bI_eq _) (fun h130 => ?_) (fun h130 => ?_)
          · refine r_iload C dX11_isCore_178 3 rfl ?_
            refine r_iload C dX11_isCore_180 4 rfl ?_
            refine r_isub C (v := (nI q - nI left)) dX11_isCore_182 rfl ?_
            refine r_iload C dX11_isCore_183 4 rfl ?_
            refine r_iand C (v := (nI (nxS left q))) dX11_isCore_185 (nxS_I hleft) ?_
            refine r_istore C (lv' := [(7, .int (nI (nxS left q))), (10, .int (nI (nxS (ndS left q) 0))), (9, .int (nI (ndS left q))), (8, .int (bI false)), (6, .int (nI left)), (5, .int (bI true)), (4, .int (nI p)), (3, .int (nI al)), (0, .ref (ad g 19)), (1, .int (nI f)), (2, .int (nI c))]) 7 dX11_isCore_186 (by decide) rfl ?_
            refine r_goto C 69 dX11_isCore_188 (by decide) ?_
            refine G_sub (lv' := [(7, .int (nI (nxS left q))), (6, .int (nI left)), (5, .int (bI true)), (4, .int (nI p)), (3, .int (nI al)), (0, .ref (ad g 19)), (1, .int (nI f)), (2, .int (nI c))]) [0, 4, 5, 6, 7, 8, 9, 10] rfl ?_
            exact ih (nxS left q) (mesS_dec h76 hq (nxS_up hleft hsub) hm_) (nxS_lt hleft) (nxS_sub _ _) KR KK
          · exact absurd rfl h130
        · refine r_aload_n C dX11_isCore_86 5 rfl ?_
          refine r_get C X (k := 19) (R := RX11) (T := TX11) (N := 15) (n := 2) (v := .ref (ad g 20)) (by decide) rfl rfl inw11 (by decide) rfl hw_5_20 rfl dX11_isCore_87 ?_
          refine r_sipush C (v := (nI 1024)) dX11_isCore_90 (by decide) ?_
          refine r_iload_n C dX11_isCore_93 6 rfl ?_
          refine r_imul C (v := (nI (1024 * f))) dX11_isCore_94 (pk_mul _ _) ?_
          refine r_iload C dX11_isCore_95 0 rfl ?_
          refine r_iload_n C dX11_isCore_97 7 rfl ?_
          refine r_ior C (v := (nI (q ||| c))) dX11_isCore_98 (nor _ _) ?_
          refine r_iadd C (v := (nI (1024 * f + (q ||| c)))) dX11_isCore_99 (nI_add _ _) ?_
          refine r_zald C X (k := 20) (v := (bI (F (1024 * f + (q ||| c))))) (by decide) rfl (by omega) (by decide) (bR_at h5 _) dX11_isCore_100 ?_
          refine r_if_eq C 108 dX11_isCore_101 (by decide) (bI_eq _) (fun h101 => ?_) (fun h101 => ?_)
          · rw [if_neg (fun x => ts_f h101 x.1.2)] at KR KK
            refine r_iconst C (v := (nI 0)) dX11_isCore_108 rfl ?_
            refine G_top (y := (bI false)) rfl ?_
            refine r_istore C (lv' := [(8, .int (bI false)), (7, .int (nI q)), (6, .int (nI left)), (5, .int (bI true)), (4, .int (nI p)), (3, .int (nI al)), (0, .ref (ad g 19)), (1, .int (nI f)), (2, .int (nI c))]) 8 dX11_isCore_109 (by decide) rfl ?_
            refine r_iload C dX11_isCore_111 2 rfl ?_
            refine r_iload C dX11_isCore_113 1 rfl ?_
            refine r_iconst C (v := (-1)) dX11_isCore_115 rfl ?_
            refine r_ixor C (v := (nI (q ^^^ 4294967295))) dX11_isCore_116 (ndS_x _) ?_
            refine r_iand C (v := (nI (left &&& (q ^^^ 4294967295)))) dX11_isCore_117 (nand _ _) ?_
            refine G_top (y := (nI (ndS left q))) rfl ?_
            refine r_istore C (lv' := [(9, .int (nI (ndS left q))), (8, .int (bI false)), (7, .int (nI q)), (6, .int (nI left)), (5, .int (bI true)), (4, .int (nI p)), (3, .int (nI al)), (0, .ref (ad g 19)), (1, .int (nI f)), (2, .int (nI c))]) 9 dX11_isCore_118 (by decide) rfl ?_
            refine r_iload C dX11_isCore_120 0 rfl ?_
            refine r_iload C dX11_isCore_122 0 rfl ?_
            refine r_ineg C (v := (-(nI (ndS left q)))) dX11_isCore_124 rfl ?_
            refine r_iand C (v := (nI (nxS (ndS left q) 0))) dX11_isCore_125 (nxS_0 hrest) ?_
            refine r_istore C (lv' := [(10, .int (nI (nxS (ndS left q) 0))), (9, .int (nI (ndS left q))), (8, .int (bI false)), (7, .int (nI q)), (6, .int (nI left)), (5, .int (bI true)), (4, .int (nI p)), (3, .int (nI al)), (0, .ref (ad g 19)), (1, .int (nI f)), (2, .int (nI c))]) 10 dX11_isCore_126 (by decide) rfl ?_
            refine r_iload C dX11_isCore_128 2 rfl ?_
            refine r_if_eq C 178 dX11_isCore_130 (by decide) (bI_eq _) (fun h130 => ?_) (fun h130 => ?_)
            · refine r_iload C dX11_isCore_178 3 rfl ?_
              refine r_iload C dX11_isCore_180 4 rfl ?_
              refine r_isub C (v := (nI q - nI left)) dX11_isCore_182 rfl ?_
              refine r_iload C dX11_isCore_183 4 rfl ?_
              refine r_iand C (v := (nI (nxS left q))) dX11_isCore_185 (nxS_I hleft) ?_
              refine r_istore C (lv' := [(7, .int (nI (nxS left q))), (10, .int (nI (nxS (ndS left q) 0))), (9, .int (nI (ndS left q))), (8, .int (bI false)), (6, .int (nI left)), (5, .int (bI true)), (4, .int (nI p)), (3, .int (nI al)), (0, .ref (ad g 19)), (1, .int (nI f)), (2, .int (nI c))]) 7 dX11_isCore_186 (by decide) rfl ?_
              refine r_goto C 69 dX11_isCore_188 (by decide) ?_
              refine G_sub (lv' := [(7, .int (nI (nxS left q))), (6, .int (nI left)), (5, .int (bI true)), (4, .int (nI p)), (3, .int (nI al)), (0, .ref (ad g 19)), (1, .int (nI f)), (2, .int (nI c))]) [0, 4, 5, 6, 7, 8, 9, 10] rfl ?_
              exact ih (nxS left q) (mesS_dec h76 hq (nxS_up hleft hsub) hm_) (nxS_lt hleft) (nxS_sub _ _) KR KK
            · exact absurd rfl h130
          · refine r_iconst C (v := (nI 1)) dX11_isCore_104 rfl ?_
            refine r_goto C 109 dX11_isCore_105 (by decide) ?_
            refine G_top (y := (bI true)) rfl ?_
            refine r_istore C (lv' := [(8, .int (bI true)), (7, .int (nI q)), (6, .int (nI left)), (5, .int (bI true)), (4, .int (nI p)), (3, .int (nI al)), (0, .ref (ad g 19)), (1, .int (nI f)), (2, .int (nI c))]) 8 dX11_isCore_109 (by decide) rfl ?_
            refine r_iload C dX11_isCore_111 2 rfl ?_
            refine r_iload C dX11_isCore_113 1 rfl ?_
            refine r_iconst C (v := (-1)) dX11_isCore_115 rfl ?_
            refine r_ixor C (v := (nI (q ^^^ 4294967295))) dX11_isCore_116 (ndS_x _) ?_
            refine r_iand C (v := (nI (left &&& (q ^^^ 4294967295)))) dX11_isCore_117 (nand _ _) ?_
            refine G_top (y := (nI (ndS left q))) rfl ?_
            refine r_istore C (lv' := [(9, .int (nI (ndS left q))), (8, .int (bI true)), (7, .int (nI q)), (6, .int (nI left)), (5, .int (bI true)), (4, .int (nI p)), (3, .int (nI al)), (0, .ref (ad g 19)), (1, .int (nI f)), (2, .int (nI c))]) 9 dX11_isCore_118 (by decide) rfl ?_
            refine r_iload C dX11_isCore_120 0 rfl ?_
            refine r_iload C dX11_isCore_122 0 rfl ?_
            refine r_ineg C (v := (-(nI (ndS left q)))) dX11_isCore_124 rfl ?_
            refine r_iand C (v := (nI (nxS (ndS left q) 0))) dX11_isCore_125 (nxS_0 hrest) ?_
            refine r_istore C (lv' := [(10, .int (nI (nxS (ndS left q) 0))), (9, .int (nI (ndS left q))), (8, .int (bI true)), (7, .int (nI q)), (6, .int (nI left)), (5, .int (bI true)), (4, .int (nI p)), (3, .int (nI al)), (0, .ref (ad g 19)), (1, .int (nI f)), (2, .int (nI c))]) 10 dX11_isCore_126 (by decide) rfl ?_
            refine lp_isCoreR C X h6 hn10 h5 hf hc hq hrest 1025 (nxS (ndS left q) 0) (mesS_le _) (nxS_lt hrest) (nxS_sub _ _) (fun hR => KR (by rw [if_pos ⟨⟨by omega, ts_t h101⟩, hR⟩])) (fun hR => ?_)
            rw [if_neg (fun x => ts_f hR x.2)] at KR KK
            refine r_iload C dX11_isCore_178 0 rfl ?_
            refine r_iload C dX11_isCore_180 1 rfl ?_
            refine r_isub C (v := (nI q - nI left)) dX11_isCore_182 rfl ?_
            refine r_iload C dX11_isCore_183 1 rfl ?_
            refine r_iand C (v := (nI (nxS left q))) dX11_isCore_185 (nxS_I hleft) ?_
            refine r_istore C (lv' := [(7, .int (nI (nxS left q))), (6, .int (nI left)), (5, .int (bI true)), (4, .int (nI p)), (3, .int (nI al)), (0, .ref (ad g 19)), (1, .int (nI f)), (2, .int (nI c))]) 7 dX11_isCore_186 (by decide) rfl ?_
            refine r_goto C 69 dX11_isCore_188 (by decide) ?_
            exact ih (nxS left q) (mesS_dec h76 hq (nxS_up hleft hsub) hm_) (nxS_lt hleft) (nxS_sub _ _) KR KK
set_option maxHeartbeats 1000000 in
set_option maxRecDepth 100000 in
theorem lp_isCore {z : Zt} {A : Nat → Prop} {l : Launch} {g : Gd} {μ : Mm} (C : Cx z A l (rmk 1 20) cX11_isCore 11 "SetFamiliesModel") (X : Kx z g A) {F : Nat → Bool} {n f c al : Nat} (h6 : gI μ 6 = nI n) (hn10 : n ≤ 10) (h5 : gA μ 5 = bR F) (hf : f < 4) (hc : c < 1024) (hal : al < 1024) (h1024 : 2 ^ n ≤ 1024) (h2n : 0 < 2 ^ n) : ∀ (n_ : Nat) (p : Nat), 2 ^ n - p < n_ → p ≤ 2 ^ n → Rx z g A (some .boolean) (some (.int (bI (icP F f c al (2 ^ n - p) p)))) μ → G z g.1 A 11 (wd g μ) 0 0 12 [(4, .int (nI p)), (3, .int (nI al)), (0, .ref (ad g 19)), (1, .int (nI f)), (2, .int (nI c))] [] := by
  intro n_
  induction n_ with
  | zero => intro p hm_; exact absurd hm_ (Nat.not_lt_zero _)
  | succ n_ ih =>
    intro p hm_ hp Rr
    refine r_iload C dX11_isCore_12 0 rfl ?_
    refine r_aload_n C dX11_isCore_14 2 rfl ?_
    refine r_callV C X (As := []) (rest := [.int (nI p)]) (st1 := [.int (nI (2 ^ n)), .int (nI p)]) (μ' := μ) (k := 19) (T := TX11) miX11_codes mvX11_codes (c_codes l g μ (n := n) h6 (by omega)) hw_5_99 (by decide) rfl rfl rfl ⟨by decide, by decide, rfl, rfl, by decide, by decide⟩ rfl (Nat.le_of_ble_eq_true rfl) dX11_isCore_15 rfl ?_
    refine r_icmp_ge C 197 dX11_isCore_18 (by decide) (nI_leI (by omega) (by omega)) (fun h18 => ?_) (fun h18 => ?_)
    · rw [show 2 ^ n - p = 0 by omega, icP] at Rr
      refine r_iconst C (v := (nI 0)) dX11_isCore_197 rfl ?_
      exact r_zret C dX11_isCore_198 (by decide) Rr
    · rw [show 2 ^ n - p = (2 ^ n - (p + 1)) + 1 by omega, icP] at Rr
      have hp1 : p < 1024 := by omega
      have hpc := or1024 hp1 hc
      have hpa : p &&& c < 1024 := and1024 hp1
      have hleft := ndS_lt (p := p) hal
      refine r_iload C dX11_isCore_21 0 rfl ?_
      refine r_iload_n C dX11_isCore_23 4 rfl ?_
      refine r_iand C (v := (nI (p &&& c))) dX11_isCore_24 (nand _ _) ?_
      refine r_if_ne C 50 dX11_isCore_25 (by decide) (zI_ne (by omega)) (fun h25 => ?_) (fun h25 => ?_)
      · rw [if_neg (fun x => h25 x.1.1)] at Rr
        refine r_iconst C (v := (nI 0)) dX11_isCore_50 rfl ?_
        refine G_top (y := (bI false)) rfl ?_
        refine r_istore C (lv' := [(5, .int (bI false)), (4, .int (nI p)), (3, .int (nI al)), (0, .ref (ad g 19)), (1, .int (nI f)), (2, .int (nI c))]) 5 dX11_isCore_51 (by decide) rfl ?_
        refine r_iload_n C dX11_isCore_53 2 rfl ?_
        refine r_iload C dX11_isCore_54 1 rfl ?_
        refine r_iconst C (v := (-1)) dX11_isCore_56 rfl ?_
        refine r_ixor C (v := (nI (p ^^^ 4294967295))) dX11_isCore_57 (ndS_x _) ?_
        refine r_iand C (v := (nI (al &&& (p ^^^ 4294967295)))) dX11_isCore_58 (nand _ _) ?_
        refine G_top (y := (nI (ndS al p))) rfl ?_
        refine r_istore C (lv' := [(6, .int (nI (ndS al p))), (5, .int (bI false)), (4, .int (nI p)), (3, .int (nI al)), (0, .ref (ad g 19)), (1, .int (nI f)), (2, .int (nI c))]) 6 dX11_isCore_59 (by decide) rfl ?_
        refine r_iload C dX11_isCore_61 0 rfl ?_
        refine r_iload C dX11_isCore_63 0 rfl ?_
        refine r_ineg C (v := (-(nI (ndS al p)))) dX11_isCore_65 rfl ?_
        refine r_iand C (v := (nI (nxS (ndS al p) 0))) dX11_isCore_66 (nxS_0 hleft) ?_
        refine r_istore C (lv' := [(7, .int (nI (nxS (ndS al p) 0))), (6, .int (nI (ndS al p))), (5, .int (bI false)), (4, .int (nI p)), (3, .int (nI al)), (0, .ref (ad g 19)), (1, .int (nI f)), (2, .int (nI c))]) 7 dX11_isCore_67 (by decide) rfl ?_
        refine r_iload C dX11_isCore_69 2 rfl ?_
        refine r_if_eq C 191 dX11_isCore_71 (by decide) (bI_eq _) (fun h71 => ?_) (fun h71 => ?_)
        · refine r_iinc C (v := (nI (p + 1))) (lv' := [(4, .int (nI (p + 1))), (7, .int (nI (nxS (ndS al p) 0))), (6, .int (nI (ndS al p))), (5, .int (bI false)), (3, .int (nI al)), (0, .ref (ad g 19)), (1, .int (nI f)), (2, .int (nI c))]) 4 3 dX11_isCore_191 rfl (inc_N _ 1) (by decide) rfl ?_
          refine r_goto C 12 dX11_isCore_194 (by decide) ?_
          refine G_sub (lv' := [(4, .int (nI (p + 1))), (3, .int (nI al)), (0, .ref (ad g 19)), (1, .int (nI f)), (2, .int (nI c))]) [0, 4, 5, 6, 7] rfl ?_
          exact ih (p + 1) (by omega) (by omega) Rr
        · exact absurd rfl h71
      · refine r_aload_n C dX11_isCore_28 2 rfl ?_
        refine r_get C X (k := 19) (R := RX11) (T := TX11) (N := 15) (n := 2) (v := .ref (ad g 20)) (by decide) rfl rfl inw11 (by decide) rfl hw_5_20 rfl dX11_isCore_29 ?_
        refine r_sipush C (v := (nI 1024)) dX11_isCore_32 (by decide) ?_
        refine r_iload_n C dX11_isCore_35 3 rfl ?_
        refine r_imul C (v := (nI (1024 * f))) dX11_isCore_36 (pk_mul _ _) ?_
        refine r_iload C dX11_isCore_37 0 rfl ?_
        refine r_iload_n C dX11_isCore_39 4 rfl ?_
        refine r_ior C (v := (nI (p ||| c))) dX11_isCore_40 (nor _ _) ?_
        refine r_iadd C (v := (nI (1024 * f + (p ||| c)))) dX11_isCore_41 (nI_add _ _) ?_
        refine r_zald C X (k := 20) (v := (bI (F (1024 * f + (p ||| c))))) (by decide) rfl (by omega) (by decide) (bR_at h5 _) dX11_isCore_42 ?_
        refine r_if_eq C 50 dX11_isCore_43 (by decide) (bI_eq _) (fun h43 => ?_) (fun h43 => ?_)
        · rw [if_neg (fun x => ts_f h43 x.1.2)] at Rr
          refine r_iconst C (v := (nI 0)) dX11_isCore_50 rfl ?_
          refine G_top (y := (bI false)) rfl ?_
          refine r_istore C (lv' := [(5, .int (bI false)), (4, .int (nI p)), (3, .int (nI al)), (0, .ref (ad g 19)), (1, .int (nI f)), (2, .int (nI c))]) 5 dX11_isCore_51 (by decide) rfl ?_
          refine r_iload_n C dX11_isCore_53 2 rfl ?_
          refine r_iload C dX11_isCore_54 1 rfl ?_
          refine r_iconst C (v := (-1)) dX11_isCore_56 rfl ?_
          refine r_ixor C (v := (nI (p ^^^ 4294967295))) dX11_isCore_57 (ndS_x _) ?_
          refine r_iand C (v := (nI (al &&& (p ^^^ 4294967295)))) dX11_isCore_58 (nand _ _) ?_
          refine G_top (y := (nI (ndS al p))) rfl ?_
          refine r_istore C (lv' := [(6, .int (nI (ndS al p))), (5, .int (bI false)), (4, .int (nI p)), (3, .int (nI al)), (0, .ref (ad g 19)), (1, .int (nI f)), (2, .int (nI c))]) 6 dX11_isCore_59 (by decide) rfl ?_
          refine r_iload C dX11_isCore_61 0 rfl ?_
          refine r_iload C dX11_isCore_63 0 rfl ?_
          refine r_ineg C (v := (-(nI (ndS al p)))) dX11_isCore_65 rfl ?_
          refine r_iand C (v := (nI (nxS (ndS al p) 0))) dX11_isCore_66 (nxS_0 hleft) ?_
          refine r_istore C (lv' := [(7, .int (nI (nxS (ndS al p) 0))), (6, .int (nI (ndS al p))), (5, .int (bI false)), (4, .int (nI p)), (3, .int (nI al)), (0, .ref (ad g 19)), (1, .int (nI f)), (2, .int (nI c))]) 7 dX11_isCore_67 (by decide) rfl ?_
          refine r_iload C dX11_isCore_69 2 rfl ?_
          refine r_if_eq C 191 dX11_isCore_71 (by decide) (bI_eq _) (fun h71 => ?_) (fun h71 => ?_)
          · refine r_iinc C (v := (nI (p + 1))) (lv' := [(4, .int (nI (p + 1))), (7, .int (nI (nxS (ndS al p) 0))), (6, .int (nI (ndS al p))), (5, .int (bI false)), (3, .int (nI al)), (0, .ref (ad g 19)), (1, .int (nI f)), (2, .int (nI c))]) 4 3 dX11_isCore_191 rfl (inc_N _ 1) (by decide) rfl ?_
            refine r_goto C 12 dX11_isCore_194 (by decide) ?_
            refine G_sub (lv' := [(4, .int (nI (p + 1))), (3, .int (nI al)), (0, .ref (ad g 19)), (1, .int (nI f)), (2, .int (nI c))]) [0, 4, 5, 6, 7] rfl ?_
            exact ih (p + 1) (by omega) (by omega) Rr
          · exact absurd rfl h71
        · refine r_iconst C (v := (nI 1)) dX11_isCore_46 rfl ?_
          refine r_goto C 51 dX11_isCore_47 (by decide) ?_
          refine G_top (y := (bI true)) rfl ?_
          refine r_istore C (lv' := [(5, .int (bI true)), (4, .int (nI p)), (3, .int (nI al)), (0, .ref (ad g 19)), (1, .int (nI f)), (2, .int (nI c))]) 5 dX11_isCore_51 (by decide) rfl ?_
          refine r_iload_n C dX11_isCore_53 2 rfl ?_
          refine r_iload C dX11_isCore_54 1 rfl ?_
          refine r_iconst C (v := (-1)) dX11_isCore_56 rfl ?_
          refine r_ixor C (v := (nI (p ^^^ 4294967295))) dX11_isCore_57 (ndS_x _) ?_
          refine r_iand C (v := (nI (al &&& (p ^^^ 4294967295)))) dX11_isCore_58 (nand _ _) ?_
          refine G_top (y := (nI (ndS al p))) rfl ?_
          refine r_istore C (lv' := [(6, .int (nI (ndS al p))), (5, .int (bI true)), (4, .int (nI p)), (3, .int (nI al)), (0, .ref (ad g 19)), (1, .int (nI f)), (2, .int (nI c))]) 6 dX11_isCore_59 (by decide) rfl ?_
          refine r_iload C dX11_isCore_61 0 rfl ?_
          refine r_iload C dX11_isCore_63 0 rfl ?_
          refine r_ineg C (v := (-(nI (ndS al p)))) dX11_isCore_65 rfl ?_
          refine r_iand C (v := (nI (nxS (ndS al p) 0))) dX11_isCore_66 (nxS_0 hleft) ?_
          refine r_istore C (lv' := [(7, .int (nI (nxS (ndS al p) 0))), (6, .int (nI (ndS al p))), (5, .int (bI true)), (4, .int (nI p)), (3, .int (nI al)), (0, .ref (ad g 19)), (1, .int (nI f)), (2, .int (nI c))]) 7 dX11_isCore_67 (by decide) rfl ?_
          refine lp_isCoreQ C X h6 hn10 h5 hf hc hleft hp1 1025 (nxS (ndS al p) 0) (mesS_le _) (nxS_lt hleft) (nxS_sub _ _) (fun hQ => by rw [if_pos ⟨⟨Decidable.not_not.mp h25, ts_t h43⟩, hQ⟩] at Rr; exact Rr) (fun hQ => ?_)
          rw [if_neg (fun x => ts_f hQ x.2)] at Rr
          refine r_iinc C (v := (nI (p + 1))) (lv' := [(4, .int (nI (p + 1))), (3, .int (nI al)), (0, .ref (ad g 19)), (1, .int (nI f)), (2, .int (nI c))]) 4 0 dX11_isCore_191 rfl (inc_N _ 1) (by decide) rfl ?_
          refine r_goto C 12 dX11_isCore_194 (by decide) ?_
          exact ih (p + 1) (by omega) (by omega) Rr
set_option maxHeartbeats 1000000 in
set_option maxRecDepth 100000 in
theorem c_isCore (l : Launch) (g : Gd) (μ : Mm) {F : Nat → Bool} {n f c : Nat} (h6 : gI μ 6 = nI n) (hn10 : n ≤ 10) (h5 : gA μ 5 = bR F) (hf : f < 4) (hc : c < 2 ^ n) : Ct l yX11_isCore cX11_isCore 11 (some .boolean) (rmk 1 20) g [.ref (ad g 19), .int (nI f), .int (nI c)] μ (some (.int (bI (icP F f c (2 ^ n - 1 - c) (2 ^ n) 0)))) μ := by
  have h1024 := pw10 hn10
  have h2n := Nat.two_pow_pos n
  refine Ct.of (by decide) (Nat.le_of_ble_eq_true rfl) (fun z A C X Rr => ?_)
  refine r_aload_n C dX11_isCore_0 0 rfl ?_
  refine r_callV C X (As := []) (rest := []) (st1 := [.int (nI (2 ^ n))]) (μ' := μ) (k := 19) (T := TX11) miX11_codes mvX11_codes (c_codes l g μ (n := n) h6 (by omega)) hw_5_99 (by decide) rfl rfl rfl ⟨by decide, by decide, rfl, rfl, by decide, by decide⟩ rfl (Nat.le_of_ble_eq_true rfl) dX11_isCore_1 rfl ?_
  refine r_iconst C (v := (nI 1)) dX11_isCore_4 rfl ?_
  refine r_isub C (v := (nI (2 ^ n - 1))) dX11_isCore_5 (pk_sub (by omega)) ?_
  refine r_iload_n C dX11_isCore_6 2 rfl ?_
  refine r_isub C (v := (nI (2 ^ n - 1 - c))) dX11_isCore_7 (pk_sub (by omega)) ?_
  refine r_istore_n C (lv' := [(3, .int (nI (2 ^ n - 1 - c))), (0, .ref (ad g 19)), (1, .int (nI f)), (2, .int (nI c))]) 3 dX11_isCore_8 rfl (by decide) rfl ?_
  refine r_iconst C (v := (nI 0)) dX11_isCore_9 rfl ?_
  refine r_istore C (lv' := [(4, .int (nI 0)), (3, .int (nI (2 ^ n - 1 - c))), (0, .ref (ad g 19)), (1, .int (nI f)), (2, .int (nI c))]) 4 dX11_isCore_10 (by decide) rfl ?_
  exact lp_isCore C X h6 hn10 h5 hf (by omega) (show 2 ^ n - 1 - c < 1024 by omega) h1024 h2n (2 ^ n + 1) 0 (by omega) (by omega) Rr
def icA (F : Nat → Bool) (n f c : Nat) : Bool := icP F f c (2 ^ n - 1 - c) (2 ^ n) 0
def lcM (F : Nat → Bool) (n f : Nat) : Nat → Nat → Int32
  | 0, _ => -1
  | r + 1, c => if icA F n f c = true then nI c else lcM F n f r (c + 1)
set_option maxHeartbeats 1000000 in
set_option maxRecDepth 100000 in
theorem lp_leastCoreM {z : Zt} {A : Nat → Prop} {l : Launch} {g : Gd} {μ : Mm} (C : Cx z A l (rmk 2 50) cX11_leastCore 3 "SetFamiliesModel") (X : Kx z g A) {F : Nat → Bool} {n f : Nat} (h6 : gI μ 6 = nI n) (hn10 : n ≤ 10) (h5 : gA μ 5 = bR F) (hf : f < 4) (h1024 : 2 ^ n ≤ 1024) (h2n : 0 < 2 ^ n) : ∀ (n_ : Nat) (c : Nat), 2 ^ n - c < n_ → c ≤ 2 ^ n → Rx z g A (some .int) (some (.int (lcM F n f (2 ^ n - c) c))) μ → G z g.1 A 3 (wd g μ) 0 0 2 [(2, .int (nI c)), (0, .ref (ad g 19)), (1, .int (nI f))] [] := by
  intro n_
  induction n_ with
  | zero => intro c hm_; exact absurd hm_ (Nat.not_lt_zero _)
  | succ n_ ih =>
    intro c hm_ hcn Rr
    refine r_iload_n C dX11_leastCore_2 0 rfl ?_
    refine r_aload_n C dX11_leastCore_3 1 rfl ?_
    refine r_callV C X (As := []) (rest := [.int (nI c)]) (st1 := [.int (nI (2 ^ n)), .int (nI c)]) (μ' := μ) (k := 19) (T := TX11) miX11_codes mvX11_codes (c_codes l g μ (n := n) h6 (by omega)) hw_5_99 (by decide) rfl rfl rfl ⟨by decide, by decide, rfl, rfl, by decide, by decide⟩ rfl (Nat.le_of_ble_eq_true rfl) dX11_leastCore_4 rfl ?_
    refine r_icmp_ge C 27 dX11_leastCore_7 (by decide) (nI_leI (by omega) (by omega)) (fun h7 => ?_) (fun h7 => ?_)
    · rw [show 2 ^ n - c = 0 by omega, lcM] at Rr
      refine r_iconst C (v := (-1)) dX11_leastCore_27 rfl ?_
      exact r_iret C dX11_leastCore_28 Rr
    · rw [show 2 ^ n - c = (2 ^ n - (c + 1)) + 1 by omega, lcM] at Rr
      refine r_aload_n C dX11_leastCore_10 1 rfl ?_
      refine r_iload_n C dX11_leastCore_11 2 rfl ?_
      refine r_iload_n C dX11_leastCore_12 0 rfl ?_
      refine r_callV C X (As := [.int (nI f), .int (nI c)]) (rest := []) (st1 := [.int (bI (icA F n f c))]) (μ' := μ) (k := 19) (T := TX11) miX11_isCore mvX11_isCore (c_isCore l g μ (F := F) (n := n) (f := f) (c := c) h6 (by omega) h5 (by omega) (by omega)) hw_6_55 (by decide) rfl rfl rfl ⟨by decide, by decide, rfl, rfl, by decide, by decide⟩ rfl (Nat.le_of_ble_eq_true rfl) dX11_leastCore_13 rfl ?_
      refine r_if_eq C 21 dX11_leastCore_16 (by decide) (bI_eq _) (fun h16 => ?_) (fun h16 => ?_)
      · rw [if_neg (ts_f h16)] at Rr
        refine r_iinc C (v := (nI (c + 1))) (lv' := [(2, .int (nI (c + 1))), (0, .ref (ad g 19)), (1, .int (nI f))]) 2 0 dX11_leastCore_21 rfl (inc_N _ 1) (by decide) rfl ?_
        refine r_goto C 2 dX11_leastCore_24 (by decide) ?_
        exact ih (c + 1) (by omega) (by omega) Rr
      · rw [if_pos (ts_t h16)] at Rr
        refine r_iload_n C dX11_leastCore_19 0 rfl ?_
        exact r_iret C dX11_leastCore_20 Rr
set_option maxHeartbeats 1000000 in
set_option maxRecDepth 100000 in
theorem c_leastCoreM (l : Launch) (g : Gd) (μ : Mm) {F : Nat → Bool} {n f : Nat} (h6 : gI μ 6 = nI n) (hn10 : n ≤ 10) (h5 : gA μ 5 = bR F) (hf : f < 4) : Ct l yX11_leastCore cX11_leastCore 3 (some .int) (rmk 2 50) g [.ref (ad g 19), .int (nI f)] μ (some (.int (lcM F n f (2 ^ n) 0))) μ := by
  have h1024 := pw10 hn10
  have h2n := Nat.two_pow_pos n
  refine Ct.of (by decide) (Nat.le_of_ble_eq_true rfl) (fun z A C X Rr => ?_)
  refine r_iconst C (v := (nI 0)) dX11_leastCore_0 rfl ?_
  refine r_istore_n C (lv' := [(2, .int (nI 0)), (0, .ref (ad g 19)), (1, .int (nI f))]) 2 dX11_leastCore_1 rfl (by decide) rfl ?_
  exact lp_leastCoreM C X h6 hn10 h5 hf h1024 h2n (2 ^ n + 1) 0 (by omega) (by omega) Rr
