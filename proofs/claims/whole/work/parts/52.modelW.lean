theorem xor1_odd {q : Nat} (h : q % 2 = 1) : q ^^^ 1 = q - 1 := by
  have h1 : (q ^^^ 1) / 2 = q / 2 := by rw [Nat.xor_div_two, show 1 / 2 = 0 from rfl, Nat.xor_zero]
  have h2 : ¬ (q ^^^ 1) % 2 = 1 := by rw [Nat.xor_mod_two_eq_one]; exact fun x => x ⟨fun _ => rfl, fun _ => h⟩
  omega
theorem cmT_dn {j i s : Nat} (hij : i < j) (h1 : s / 2 ^ j &&& 1 = 1) : cmT j i s < s := by
  have ho : (s / 2 ^ j) % 2 = 1 := by rw [← h1, show (1 : Nat) = 2 ^ 1 - 1 from rfl, Nat.and_two_pow_sub_one_eq_mod]
  have hp := Nat.two_pow_pos j
  have e : cmT j i s / 2 ^ j = s / 2 ^ j - 1 := by
    unfold cmT
    rw [Nat.xor_div_two_pow, Nat.xor_div_two_pow, Nat.div_self hp, Nat.div_eq_of_lt (Nat.pow_lt_pow_right (by decide) hij), Nat.xor_zero, xor1_odd ho]
  have a := Nat.div_add_mod (cmT j i s) (2 ^ j)
  have b := Nat.mod_lt (cmT j i s) hp
  have c := Nat.div_mul_le_self s (2 ^ j)
  rw [e] at a
  have hq : 0 < s / 2 ^ j := Nat.pos_of_ne_zero (fun x => by rw [x] at ho; exact absurd ho (by decide))
  obtain ⟨k, hk⟩ : ∃ k, s / 2 ^ j = k + 1 := ⟨s / 2 ^ j - 1, (Nat.sub_add_cancel hq).symm⟩
  rw [hk] at a c
  rw [Nat.add_sub_cancel] at a
  rw [Nat.succ_mul, Nat.mul_comm k] at c
  omega
def wtS (F : Nat → Bool) (f c : Nat) : Nat := if F (1024 * f + c) = true then c else 0
def wtF (F : Nat → Bool) (f : Nat) : Nat → Nat := sm (wtS F f)
theorem wtF_le (F : Nat → Bool) (f : Nat) : ∀ N, wtF F f N ≤ N * N
  | 0 => Nat.le_refl _
  | N + 1 => by
    have h := wtF_le F f N
    have e : wtF F f (N + 1) = wtF F f N + wtS F f N := rfl
    have h2 : wtS F f N ≤ N := by unfold wtS; split; exact Nat.le_refl _; exact Nat.zero_le _
    have h3 : (N + 1) * (N + 1) = N * N + N + N + 1 := by rw [Nat.add_mul, Nat.mul_add]; omega
    omega
theorem sm_one {g h : Nat → Nat} {k : Nat} (e : ∀ c, c ≠ k → h c = g c) : ∀ N, k < N → sm h N + g k = sm g N + h k
  | 0, q => absurd q (Nat.not_lt_zero _)
  | N + 1, q => by
    have e1 : sm h (N + 1) = sm h N + h N := rfl
    have e2 : sm g (N + 1) = sm g N + g N := rfl
    by_cases p : k = N
    · subst p
      have e3 : sm h k = sm g k := sm_congr (fun i hi => e i (by omega))
      omega
    · have ih := sm_one e N (by omega)
      have e4 := e N (fun x => p x.symm)
      omega
theorem wtF_up {F : Nat → Bool} {f k N : Nat} (b : Bool) (hk : k < N) : wtF (upB F (1024 * f + k) b) f N + wtS F f k = wtF F f N + (if b = true then k else 0) := by
  have h := sm_one (g := wtS F f) (h := wtS (upB F (1024 * f + k) b) f) (k := k) (fun c hc => by unfold wtS upB; rw [if_neg (show ¬ 1024 * f + c = 1024 * f + k by omega)]) N hk
  rw [show wtS (upB F (1024 * f + k) b) f k = if b = true then k else 0 by unfold wtS upB; rw [if_pos rfl]] at h
  exact h
theorem cmF_W (F : Nat → Bool) (f : Nat) {j i n : Nat} (hij : i < j) (hj : j < n) : ∀ s, s ≤ 2 ^ n → wtF (cmF F f j i s).1 f (2 ^ n) + (cmF F f j i s).2 ≤ wtF F f (2 ^ n)
  | 0, _ => Nat.le_refl _
  | s + 1, h => by
    have ih := cmF_W F f hij hj s (by omega)
    rw [cmF]
    by_cases q : cmC (cmF F f j i s).1 f j i s = true ∧ (cmF F f j i s).1 (1024 * f + cmT j i s) = false
    · have q1 := q.1
      unfold cmC at q1
      rw [Bool.and_eq_true, Bool.and_eq_true, decide_eq_true_iff] at q1
      have hd := cmT_dn (i := i) hij q1.1.2
      have hT := cmT_lt (i := i) (show s < 2 ^ n by omega) hj (by omega)
      have a1 := wtF_up (F := (cmF F f j i s).1) (f := f) (k := s) (N := 2 ^ n) false (by omega)
      have a2 := wtF_up (F := upB (cmF F f j i s).1 (1024 * f + s) false) (f := f) (k := cmT j i s) (N := 2 ^ n) true hT
      rw [show wtS (cmF F f j i s).1 f s = s by unfold wtS; rw [if_pos q1.1.1], if_neg (by decide)] at a1
      rw [show wtS (upB (cmF F f j i s).1 (1024 * f + s) false) f (cmT j i s) = 0 by unfold wtS upB; rw [if_neg (show ¬ 1024 * f + cmT j i s = 1024 * f + s by omega), if_neg (ts_f q.2)], if_pos rfl] at a2
      simp only [if_pos q]
      omega
    · simp only [if_neg q]; exact ih
def sgC (f n j i : Nat) (x : (Nat → Bool) × Nat) : (Nat → Bool) × Nat := ((cmF x.1 f j i (2 ^ n)).1, x.2 + (cmF x.1 f j i (2 ^ n)).2)
def sgJ (f n i : Nat) (x : (Nat → Bool) × Nat) : Nat → (Nat → Bool) × Nat
  | 0 => x
  | k + 1 => sgC f n (i + 1 + k) i (sgJ f n i x k)
def sgP (f n : Nat) (x : (Nat → Bool) × Nat) : Nat → (Nat → Bool) × Nat
  | 0 => x
  | i + 1 => sgJ f n i (sgP f n x i) (n - (i + 1))
def sgW (f n : Nat) : Nat → (Nat → Bool) × Nat → (Nat → Bool) × Nat
  | 0, x => x
  | r + 1, x => if x.2 < (sgP f n x n).2 then sgW f n r (sgP f n x n) else sgP f n x n
theorem sgJ_W (f n i : Nat) (x : (Nat → Bool) × Nat) : ∀ k, i + 1 + k ≤ n → wtF (sgJ f n i x k).1 f (2 ^ n) + (sgJ f n i x k).2 ≤ wtF x.1 f (2 ^ n) + x.2
  | 0, _ => Nat.le_refl _
  | k + 1, h => by
    have ih := sgJ_W f n i x k (by omega)
    have a := cmF_W (sgJ f n i x k).1 f (show i < i + 1 + k by omega) (show i + 1 + k < n by omega) (2 ^ n) (Nat.le_refl _)
    have e : sgJ f n i x (k + 1) = ((cmF (sgJ f n i x k).1 f (i + 1 + k) i (2 ^ n)).1, (sgJ f n i x k).2 + (cmF (sgJ f n i x k).1 f (i + 1 + k) i (2 ^ n)).2) := rfl
    rw [e]; simp only; omega
theorem sgP_W (f n : Nat) (x : (Nat → Bool) × Nat) : ∀ i, i ≤ n → wtF (sgP f n x i).1 f (2 ^ n) + (sgP f n x i).2 ≤ wtF x.1 f (2 ^ n) + x.2
  | 0, _ => Nat.le_refl _
  | i + 1, h => Nat.le_trans (sgJ_W f n i (sgP f n x i) (n - (i + 1)) (by omega)) (sgP_W f n x i (by omega))
set_option maxHeartbeats 1000000 in
set_option maxRecDepth 100000 in
theorem lp_shiftJ {z : Zt} {A : Nat → Prop} {l : Launch} {g : Gd} (C : Cx z A l (rmk 2 47) cX11_shift 7 "SetFamiliesModel") (X : Kx z g A) {M : Mm} {n f : Nat} (h6 : gI M 6 = nI n) (hn10 : n ≤ 10) (hf : f < 4) {i w0 : Nat} {x : (Nat → Bool) × Nat} (hi : i < n) (KK : G z g.1 A 7 (wd g (sA M 5 (bR (sgJ f n i x (n - (i + 1))).1))) 0 0 74 [(5, .int (nI i)), (2, .int (nI ((sgJ f n i x (n - (i + 1))).2))), (4, .int (nI w0)), (0, .ref (ad g 19)), (1, .int (nI f))] []) : ∀ (n_ : Nat) (k : Nat), n - k < n_ → i + 1 + k ≤ n → G z g.1 A 7 (wd g (sA M 5 (bR (sgJ f n i x k).1))) 0 0 47 [(6, .int (nI (i + 1 + k))), (5, .int (nI i)), (2, .int (nI ((sgJ f n i x k).2))), (4, .int (nI w0)), (0, .ref (ad g 19)), (1, .int (nI f))] [] := by
  intro n_
  induction n_ with
  | zero => intro k hm_; exact absurd hm_ (Nat.not_lt_zero _)
  | succ n_ ih =>
    intro k hm_ hk
    refine r_iload C dX11_shift_47 0 rfl ?_
    refine r_aload_n C dX11_shift_49 4 rfl ?_
    refine r_get C X (k := 19) (R := RX11) (T := TX11) (N := 15) (n := 1) (v := .int (gI (sA M 5 (bR (sgJ f n i x k).1)) 6)) (by decide) rfl rfl inw11 (by decide) rfl hw_5_19 rfl dX11_shift_50 ?_
    refine G_top (y := (nI n)) ((gI_A _ _ _ _).trans h6) ?_
    refine r_icmp_ge C 74 dX11_shift_53 (by decide) (nI_leI (by omega) (by omega)) (fun h53 => ?_) (fun h53 => ?_)
    · have hk2 : k = n - (i + 1) := by omega
      subst hk2
      refine G_sub (lv' := [(5, .int (nI i)), (2, .int (nI ((sgJ f n i x (n - (i + 1))).2))), (4, .int (nI w0)), (0, .ref (ad g 19)), (1, .int (nI f))]) [1, 2, 3, 4, 5] rfl ?_
      exact KK
    · refine r_iload_n C dX11_shift_56 2 rfl ?_
      refine r_aload_n C dX11_shift_57 4 rfl ?_
      refine r_iload_n C dX11_shift_58 5 rfl ?_
      refine r_iload C dX11_shift_59 0 rfl ?_
      refine r_iload C dX11_shift_61 1 rfl ?_
      refine r_callV C X (As := [.int (nI f), .int (nI (i + 1 + k)), .int (nI i)]) (rest := [.int (nI ((sgJ f n i x k).2))]) (st1 := [.int (nI ((cmF (sgJ f n i x k).1 f (i + 1 + k) i (2 ^ n)).2)), .int (nI ((sgJ f n i x k).2))]) (μ' := (sA (sA M 5 (bR (sgJ f n i x k).1)) 5 (bR (cmF (sgJ f n i x k).1 f (i + 1 + k) i (2 ^ n)).1))) (k := 19) (T := TX11) miX11_compresses mvX11_compresses (c_compresses l g (sA M 5 (bR (sgJ f n i x k).1)) (F := (sgJ f n i x k).1) (n := n) (f := f) (j := i + 1 + k) (i := i) ((gI_A _ _ _ _).trans h6) hn10 (gA_s _ _ _) hf (by omega) (by omega)) hw_5_186 (by decide) rfl rfl rfl ⟨by decide, by decide, rfl, rfl, by decide, by decide⟩ rfl (Nat.le_of_ble_eq_true rfl) dX11_shift_63 rfl ?_
      refine G_mem (μ' := (sA M 5 (bR (sgJ f n i x (k + 1)).1))) (sA_u _ _ _ _) ?_
      refine r_iadd C (v := (nI ((sgJ f n i x k).2 + ((cmF (sgJ f n i x k).1 f (i + 1 + k) i (2 ^ n)).2)))) dX11_shift_66 (nI_add _ _) ?_
      refine r_istore_n C (lv' := [(2, .int (nI ((sgJ f n i x k).2 + ((cmF (sgJ f n i x k).1 f (i + 1 + k) i (2 ^ n)).2)))), (6, .int (nI (i + 1 + k))), (5, .int (nI i)), (4, .int (nI w0)), (0, .ref (ad g 19)), (1, .int (nI f))]) 2 dX11_shift_67 rfl (by decide) rfl ?_
      refine r_iinc C (v := (nI (i + 1 + k + 1))) (lv' := [(6, .int (nI (i + 1 + k + 1))), (2, .int (nI ((sgJ f n i x k).2 + ((cmF (sgJ f n i x k).1 f (i + 1 + k) i (2 ^ n)).2)))), (5, .int (nI i)), (4, .int (nI w0)), (0, .ref (ad g 19)), (1, .int (nI f))]) 6 1 dX11_shift_68 rfl (inc_N _ 1) (by decide) rfl ?_
      refine r_goto C 47 dX11_shift_71 (by decide) ?_
      refine G_lv (lv' := [(6, .int (nI (i + 1 + (k + 1)))), (2, .int (nI ((sgJ f n i x (k + 1)).2))), (5, .int (nI i)), (4, .int (nI w0)), (0, .ref (ad g 19)), (1, .int (nI f))]) rfl ?_
      refine G_sub (lv' := [(6, .int (nI (i + 1 + (k + 1)))), (5, .int (nI i)), (2, .int (nI ((sgJ f n i x (k + 1)).2))), (4, .int (nI w0)), (0, .ref (ad g 19)), (1, .int (nI f))]) [0, 2, 1, 3, 4, 5] rfl ?_
      exact ih (k + 1) (by omega) (by omega)
set_option maxHeartbeats 1000000 in
set_option maxRecDepth 100000 in
theorem lp_shiftP {z : Zt} {A : Nat → Prop} {l : Launch} {g : Gd} (C : Cx z A l (rmk 2 47) cX11_shift 7 "SetFamiliesModel") (X : Kx z g A) {M : Mm} {n f : Nat} (h6 : gI M 6 = nI n) (hn10 : n ≤ 10) (hf : f < 4) {w0 : Nat} {x : (Nat → Bool) × Nat} (KK : G z g.1 A 7 (wd g (sA M 5 (bR (sgP f n x n).1))) 0 0 80 [(2, .int (nI ((sgP f n x n).2))), (4, .int (nI w0)), (0, .ref (ad g 19)), (1, .int (nI f))] []) : ∀ (n_ : Nat) (i : Nat), n - i < n_ → i ≤ n → G z g.1 A 7 (wd g (sA M 5 (bR (sgP f n x i).1))) 0 0 32 [(5, .int (nI i)), (2, .int (nI ((sgP f n x i).2))), (4, .int (nI w0)), (0, .ref (ad g 19)), (1, .int (nI f))] [] := by
  intro n_
  induction n_ with
  | zero => intro i hm_; exact absurd hm_ (Nat.not_lt_zero _)
  | succ n_ ih =>
    intro i hm_ hi
    refine r_iload C dX11_shift_32 0 rfl ?_
    refine r_aload_n C dX11_shift_34 3 rfl ?_
    refine r_get C X (k := 19) (R := RX11) (T := TX11) (N := 15) (n := 1) (v := .int (gI (sA M 5 (bR (sgP f n x i).1)) 6)) (by decide) rfl rfl inw11 (by decide) rfl hw_5_19 rfl dX11_shift_35 ?_
    refine G_top (y := (nI n)) ((gI_A _ _ _ _).trans h6) ?_
    refine r_icmp_ge C 80 dX11_shift_38 (by decide) (nI_leI (by omega) (by omega)) (fun h38 => ?_) (fun h38 => ?_)
    · have hi2 : n = i := by omega
      subst hi2
      refine G_sub (lv' := [(2, .int (nI ((sgP f n x n).2))), (4, .int (nI w0)), (0, .ref (ad g 19)), (1, .int (nI f))]) [1, 2, 3, 4] rfl ?_
      exact KK
    · refine r_iload C dX11_shift_41 0 rfl ?_
      refine r_iconst C (v := (nI 1)) dX11_shift_43 rfl ?_
      refine r_iadd C (v := (nI (i + 1))) dX11_shift_44 (nI_add _ _) ?_
      refine r_istore C (lv' := [(6, .int (nI (i + 1))), (5, .int (nI i)), (2, .int (nI ((sgP f n x i).2))), (4, .int (nI w0)), (0, .ref (ad g 19)), (1, .int (nI f))]) 6 dX11_shift_45 (by decide) rfl ?_
      refine G_lv (lv' := [(6, .int (nI (i + 1 + 0))), (5, .int (nI i)), (2, .int (nI ((sgJ f n i (sgP f n x i) 0).2))), (4, .int (nI w0)), (0, .ref (ad g 19)), (1, .int (nI f))]) rfl ?_
      refine G_mem (μ' := (sA M 5 (bR (sgJ f n i (sgP f n x i) 0).1))) rfl ?_
      refine lp_shiftJ C X (M := M) (x := (sgP f n x i)) (w0 := w0) h6 hn10 hf (by omega) ?_ (n + 1) 0 (by omega) (by omega)
      refine G_mem (μ' := (sA M 5 (bR (sgP f n x (i + 1)).1))) rfl ?_
      refine G_lv (lv' := [(5, .int (nI i)), (2, .int (nI ((sgP f n x (i + 1)).2))), (4, .int (nI w0)), (0, .ref (ad g 19)), (1, .int (nI f))]) rfl ?_
      refine r_iinc C (v := (nI (i + 1))) (lv' := [(5, .int (nI (i + 1))), (2, .int (nI ((sgP f n x (i + 1)).2))), (4, .int (nI w0)), (0, .ref (ad g 19)), (1, .int (nI f))]) 5 0 dX11_shift_74 rfl (inc_N _ 1) (by decide) rfl ?_
      refine r_goto C 32 dX11_shift_77 (by decide) ?_
      exact ih (i + 1) (by omega) (by omega)
set_option maxHeartbeats 1000000 in
set_option maxRecDepth 100000 in
theorem lp_shiftM {z : Zt} {A : Nat → Prop} {l : Launch} {g : Gd} (C : Cx z A l (rmk 2 47) cX11_shift 7 "SetFamiliesModel") (X : Kx z g A) {M : Mm} {n f : Nat} (h6 : gI M 6 = nI n) (hn10 : n ≤ 10) (hf : f < 4) : ∀ (n_ : Nat) (x : (Nat → Bool) × Nat), 1048576 - x.2 < n_ → wtF x.1 f (2 ^ n) + x.2 ≤ 1048576 → Rx z g A (some .int) (some (.int (nI (sgW f n n_ x).2))) (sA M 5 (bR (sgW f n n_ x).1)) → G z g.1 A 7 (wd g (sA M 5 (bR x.1))) 0 0 22 [(3, .int (bI true)), (2, .int (nI x.2)), (0, .ref (ad g 19)), (1, .int (nI f))] [] := by
  intro n_
  induction n_ with
  | zero => intro x hm_; exact absurd hm_ (Nat.not_lt_zero _)
  | succ n_ ih =>
    intro x hm_ hx Rr
    refine r_iload_n C dX11_shift_22 0 rfl ?_
    refine r_if_eq C 95 dX11_shift_23 (by decide) (bI_eq _) (fun h23 => ?_) (fun h23 => ?_)
    · exact absurd h23 (by decide)
    · refine r_iload_n C dX11_shift_26 1 rfl ?_
      refine r_istore C (lv' := [(4, .int (nI x.2)), (3, .int (bI true)), (2, .int (nI x.2)), (0, .ref (ad g 19)), (1, .int (nI f))]) 4 dX11_shift_27 (by decide) rfl ?_
      refine r_iconst C (v := (nI 0)) dX11_shift_29 rfl ?_
      refine r_istore C (lv' := [(5, .int (nI 0)), (4, .int (nI x.2)), (3, .int (bI true)), (2, .int (nI x.2)), (0, .ref (ad g 19)), (1, .int (nI f))]) 5 dX11_shift_30 (by decide) rfl ?_
      refine G_lv (lv' := [(5, .int (nI 0)), (4, .int (nI x.2)), (3, .int (bI true)), (2, .int (nI ((sgP f n x 0).2))), (0, .ref (ad g 19)), (1, .int (nI f))]) rfl ?_
      refine G_sub (lv' := [(5, .int (nI 0)), (2, .int (nI ((sgP f n x 0).2))), (4, .int (nI x.2)), (0, .ref (ad g 19)), (1, .int (nI f))]) [0, 3, 1, 4, 5] rfl ?_
      refine G_mem (μ' := (sA M 5 (bR (sgP f n x 0).1))) rfl ?_
      refine lp_shiftP C X (M := M) (x := x) (w0 := x.2) h6 hn10 hf ?_ (n + 1) 0 (by omega) (by omega)
      have hW := sgP_W f n x n (Nat.le_refl _)
      refine r_iload_n C dX11_shift_80 0 rfl ?_
      refine r_iload C dX11_shift_81 1 rfl ?_
      refine r_icmp_le C 90 dX11_shift_83 (by decide) (nI_leI (by omega) (by omega)) (fun h83 => ?_) (fun h83 => ?_)
      · refine r_iconst C (v := (nI 0)) dX11_shift_90 rfl ?_
        refine G_top (y := (bI false)) rfl ?_
        refine r_istore_n C (lv' := [(3, .int (bI false)), (2, .int (nI ((sgP f n x n).2))), (4, .int (nI x.2)), (0, .ref (ad g 19)), (1, .int (nI f))]) 3 dX11_shift_91 rfl (by decide) rfl ?_
        refine r_goto C 22 dX11_shift_92 (by decide) ?_
        refine G_sub (lv' := [(3, .int (bI false)), (2, .int (nI ((sgP f n x n).2))), (0, .ref (ad g 19)), (1, .int (nI f))]) [0, 1, 3, 4] rfl ?_
        rw [sgW, if_neg (by omega)] at Rr
        refine r_iload_n C dX11_shift_22 0 rfl ?_
        refine r_if_eq C 95 dX11_shift_23 (by decide) (bI_eq _) (fun h23 => ?_) (fun h23 => ?_)
        · refine r_iload_n C dX11_shift_95 1 rfl ?_
          exact r_iret C dX11_shift_96 Rr
        · exact absurd rfl h23
      · refine r_iconst C (v := (nI 1)) dX11_shift_86 rfl ?_
        refine r_goto C 91 dX11_shift_87 (by decide) ?_
        refine G_top (y := (bI true)) rfl ?_
        refine r_istore_n C (lv' := [(3, .int (bI true)), (2, .int (nI ((sgP f n x n).2))), (4, .int (nI x.2)), (0, .ref (ad g 19)), (1, .int (nI f))]) 3 dX11_shift_91 rfl (by decide) rfl ?_
        refine r_goto C 22 dX11_shift_92 (by decide) ?_
        refine G_sub (lv' := [(3, .int (bI true)), (2, .int (nI ((sgP f n x n).2))), (0, .ref (ad g 19)), (1, .int (nI f))]) [0, 1, 3, 4] rfl ?_
        rw [sgW, if_pos (by omega)] at Rr
        exact ih (sgP f n x n) (by omega) (by omega) Rr
set_option maxHeartbeats 1000000 in
set_option maxRecDepth 100000 in
theorem y_shift (l : Launch) (g : Gd) (μ : Mm) {F P O : Nat → Bool} {n ps f : Nat} (hM : Mo μ F P O n ps) (hf : f < 4) : Ct l yX11_shift cX11_shift 7 (some .int) (rmk 2 47) g [.ref (ad g 19), .int (nI f)] μ (some (.int (nI ((sgW f n 1048577 (F, 0)).2)))) (sA (mNote (mgM μ true true) F P n ps) 5 (bR (sgW f n 1048577 (F, 0)).1)) := by
  obtain ⟨h6, h7, hps, h5, hP, h9, h1n, hn10⟩ := hM
  have h1024 := pw10 hn10
  have h2n := Nat.two_pow_pos n
  refine Ct.of (by decide) (Nat.le_of_ble_eq_true rfl) (fun z A C X Rr => ?_)
  refine r_aload_n C dX11_shift_0 0 rfl ?_
  refine r_iload_n C dX11_shift_1 1 rfl ?_
  refine r_callP C (As := [.int (nI f)]) (rest := [.ref (ad g 19)]) (st1 := [.int (bI (inI (nI f) (nI 0) (nI 3))), .ref (ad g 19)]) miX11_isPlace msX11_isPlace (c_isPlace l (nI f)) hw_5_92 rfl ⟨by decide, by decide, rfl, rfl, by decide, by decide⟩ rfl (Nat.le_of_ble_eq_true rfl) dX11_shift_2 rfl ?_
  refine G_top (y := (bI true)) (congrArg bI (inN (v := f) (Nat.zero_le _) (by omega) (by decide))) ?_
  refine r_iconst C (v := (nI 1)) dX11_shift_5 rfl ?_
  refine G_top (y := (bI true)) rfl ?_
  refine r_callV C X (As := [.int (bI true), .int (bI true)]) (rest := []) (st1 := [.int (bI (true && true))]) (μ' := (mgM μ true true)) (k := 19) (T := TX11) miX11_mayGo mvX11_mayGo (c_mayGo l g μ true true) hw_5_103 (by decide) rfl rfl rfl ⟨by decide, by decide, rfl, rfl, by decide, by decide⟩ rfl (Nat.le_of_ble_eq_true rfl) dX11_shift_6 rfl ?_
  refine r_if_ne C 14 dX11_shift_9 (by decide) (bI_ne _) (fun h9 => ?_) (fun h9 => ?_)
  · refine r_aload_n C dX11_shift_14 0 rfl ?_
    refine r_callV C X (As := []) (rest := []) (st1 := []) (μ' := (mNote (mgM μ true true) F P n ps)) (k := 19) (T := TX11) miX11_note mvX11_note (c_note l g (mgM μ true true) (F := F) (P := P) (n := n) (ps := ps) ((gI_n _ _ (by decide)).trans h6) ((gI_n _ _ (by decide)).trans h7) (by omega) ((gA_I _ _ _ _).trans h5) ((gA_I _ _ _ _).trans hP)) hw_5_80 (by decide) rfl rfl rfl ⟨by decide, by decide, rfl, rfl, by decide, by decide⟩ rfl (Nat.le_of_ble_eq_true rfl) dX11_shift_15 rfl ?_
    refine r_iconst C (v := (nI 0)) dX11_shift_18 rfl ?_
    refine r_istore_n C (lv' := [(2, .int (nI 0)), (0, .ref (ad g 19)), (1, .int (nI f))]) 2 dX11_shift_19 rfl (by decide) rfl ?_
    refine r_iconst C (v := (nI 1)) dX11_shift_20 rfl ?_
    refine r_istore_n C (lv' := [(3, .int (nI 1)), (2, .int (nI 0)), (0, .ref (ad g 19)), (1, .int (nI f))]) 3 dX11_shift_21 rfl (by decide) rfl ?_
    refine G_lv (lv' := [(3, .int (bI true)), (2, .int (nI (F, 0).2)), (0, .ref (ad g 19)), (1, .int (nI f))]) rfl ?_
    refine G_mem (show (mNote (mgM μ true true) F P n ps) = sA (mNote (mgM μ true true) F P n ps) 5 (bR (F, 0).1) from (sA_i _ 5).symm.trans (congrArg (sA _ 5) ((gA_mNote (by decide)).trans (gA_mgM.trans h5)))) ?_
    have hwl := wtF_le F f (2 ^ n)
    have hw2 : 2 ^ n * 2 ^ n ≤ 1024 * 1024 := Nat.mul_le_mul h1024 h1024
    exact lp_shiftM C X (M := (mNote (mgM μ true true) F P n ps)) ((gI_mNote (by decide)).trans ((gI_mgM (by decide)).trans h6)) hn10 hf 1048577 (F, 0) (Nat.lt_succ_self _) (show wtF F f (2 ^ n) + 0 ≤ 1048576 by omega) Rr
  · exact absurd rfl h9
