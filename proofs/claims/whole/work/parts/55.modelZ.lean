def lsI (x : Option Nat) : Int32 := match x with | none => -1 | some v => nI v
def rdL (x : Option Nat) : Nat := match x with | none => 0 | some v => v
theorem lsI_ge {x : Option Nat} (h : ∀ v, x = some v → v < 200) : 0 ≤ lsI x ↔ ¬ x = none := by
  cases x with
  | none => exact ⟨fun q => absurd q (by decide), fun q => absurd rfl q⟩
  | some v => exact ⟨fun _ q => (by cases q), fun _ => (zI_ge (a := v) (by have := h v rfl; omega)).mpr trivial⟩
theorem lsI_lt {x : Option Nat} (h : ∀ v, x = some v → v < 200) : lsI x < 0 ↔ x = none := by
  rw [← Int32.not_le, lsI_ge h, Decidable.not_not]
theorem rdIn {c v w : Nat} (hc : c < 2 ^ 20) (hv : v < 2 ^ 20) (hw : w < 2 ^ 20) : inI (nI c - nI 48) (nI v) (nI w) = true ↔ 48 + v ≤ c ∧ c < 48 + (w + 1) := by
  unfold inI
  rw [decide_eq_true_iff, Int32.le_iff_toInt_le, Int32.le_iff_toInt_le, pk_sub_toInt (by omega) (by decide), nI_toInt (by omega), nI_toInt (by omega)]
  omega
def rdF (n ty : Nat) (tb : Nat → Nat) : Nat → Nat → Nat → Option Nat → (Nat → Bool) → (Nat → Bool) × Option Int32
  | 0, _, set, x, O => if x = none ∧ 0 < ty then (O, some (-10 - nI ty)) else (if 0 < ty then (upB O set true, none) else (O, none))
  | r + 1, i, set, x, O =>
    if tb i = 44 ∧ ¬ x = none then rdF n ty tb r (i + 1) 0 none (upB O set true)
    else if tb i = 45 ∧ x = none then rdF n ty tb r (i + 1) set (some 99) O
    else if 48 + rdL x ≤ tb i ∧ tb i < 48 + n then rdF n ty tb r (i + 1) (set ||| 2 ^ (tb i - 48)) (some (tb i - 48 + 1)) O
    else (O, some (-10 - nI i))
def rdV (F : Nat → Bool) (n f : Nat) (y : (Nat → Bool) × Option Int32) : Int32 := match y with | (_, some e) => e | (O, none) => nI (szF (lyB F O f 1024) f (-1) (2 ^ n))
def rdK (M : Mm) (F P : Nat → Bool) (n ps f : Nat) (y : (Nat → Bool) × Option Int32) : Mm := match y with | (O, some _) => sA M 9 (bR O) | (O, none) => mLays (sA M 9 (bR O)) F P O n ps f
set_option maxHeartbeats 1000000 in
set_option maxRecDepth 100000 in
theorem lp_readM {z : Zt} {A : Nat → Prop} {l : Launch} {g : Gd} (C : Cx z A l (rmk 3 68) cX11_read 6 "SetFamiliesModel") (X : Kx z g A) {M : Mm} {F P : Nat → Bool} {n ps f ty : Nat} {tb : Nat → Nat} (h6 : gI M 6 = nI n) (h7 : gI M 7 = nI ps) (hps : ps ≤ 4) (h5 : gA M 5 = bR F) (hP : gA M 6 = bR P) (h1n : 1 ≤ n) (hn10 : n ≤ 10) (hf : f < 4) (hty : gI M 8 = nI ty) (ht : ty ≤ 120) (hb : ∀ i, i < ty → gA M 8 i = nI (tb i) ∧ tb i < 128) : ∀ (n_ : Nat) (i : Nat) (set : Nat) (x : Option Nat) (O : Nat → Bool), ty - i < n_ → i ≤ ty → set < 1024 → (∀ v, x = some v → v < 200) → Rx z g A (some .int) (some (.int (rdV F n f (rdF n ty tb (ty - i) i set x O)))) (rdK M F P n ps f (rdF n ty tb (ty - i) i set x O)) → G z g.1 A 6 (wd g (sA M 9 (bR O))) 0 0 25 [(4, .int (nI i)), (3, .int (lsI x)), (2, .int (nI set)), (0, .ref (ad g 19)), (1, .int (nI f))] [] := by
  intro n_
  induction n_ with
  | zero => intro i set x O hm_; exact absurd hm_ (Nat.not_lt_zero _)
  | succ n_ ih =>
    intro i set x O hm_ hi hset hx Rr
    refine r_iload C dX11_read_25 0 rfl ?_
    refine r_aload_n C dX11_read_27 3 rfl ?_
    refine r_get C X (k := 19) (R := RX11) (T := TX11) (N := 15) (n := 7) (v := .int (gI (sA M 9 (bR O)) 8)) (by decide) rfl rfl inw11 (by decide) rfl hw_5_25 rfl dX11_read_28 ?_
    refine G_top (y := (nI ty)) ((gI_A _ _ _ _).trans hty) ?_
    refine r_icmp_ge C 144 dX11_read_31 (by decide) (nI_leI (by omega) (by omega)) (fun h31 => ?_) (fun h31 => ?_)
    · rw [show ty - i = 0 by omega, rdF] at Rr
      refine r_iload_n C dX11_read_144 1 rfl ?_
      refine r_if_ge C 163 dX11_read_145 (by decide) (lsI_ge hx) (fun h145 => ?_) (fun h145 => ?_)
      · rw [if_neg (fun q => h145 q.1)] at Rr
        refine r_aload_n C dX11_read_163 3 rfl ?_
        refine r_get C X (k := 19) (R := RX11) (T := TX11) (N := 15) (n := 7) (v := .int (gI (sA M 9 (bR O)) 8)) (by decide) rfl rfl inw11 (by decide) rfl hw_5_25 rfl dX11_read_164 ?_
        refine G_top (y := (nI ty)) ((gI_A _ _ _ _).trans hty) ?_
        refine r_if_le C 177 dX11_read_167 (by decide) (zI_le (by omega)) (fun h167 => ?_) (fun h167 => ?_)
        · rw [if_neg (show ¬ 0 < ty by omega)] at Rr
          refine r_aload_n C dX11_read_177 3 rfl ?_
          refine r_iload_n C dX11_read_178 4 rfl ?_
          refine r_callV C X (As := [.int (nI f)]) (rest := []) (st1 := [.int (nI (szF (lyB F O f 1024) f (-1) (2 ^ n)))]) (μ' := (mLays (sA M 9 (bR O)) F P O n ps f)) (k := 19) (T := TX11) miX11_lays mvX11_lays (c_lays l g (sA M 9 (bR O)) (F := F) (P := P) (O := O) (n := n) (ps := ps) (q := f) ⟨((gI_A _ _ _ _).trans h6), ((gI_A _ _ _ _).trans h7), hps, ((gA_n _ _ (by decide)).trans h5), ((gA_n _ _ (by decide)).trans hP), (gA_s _ _ _), h1n, hn10⟩ (by omega)) hw_5_146 (by decide) rfl rfl rfl ⟨by decide, by decide, rfl, rfl, by decide, by decide⟩ rfl (Nat.le_of_ble_eq_true rfl) dX11_read_179 rfl ?_
          exact r_iret C dX11_read_182 Rr
        · rw [if_pos (show 0 < ty by omega)] at Rr
          refine r_aload_n C dX11_read_170 3 rfl ?_
          refine r_get C X (k := 19) (R := RX11) (T := TX11) (N := 15) (n := 8) (v := .ref (ad g 24)) (by decide) rfl rfl inw11 (by decide) rfl hw_5_26 rfl dX11_read_171 ?_
          refine r_iload_n C dX11_read_174 2 rfl ?_
          refine r_iconst C (v := (nI 1)) dX11_read_175 rfl ?_
          refine G_top (y := (bI true)) rfl ?_
          refine r_zast C X (k := 24) (f' := bR (upB O set true)) (μ' := (sA (sA M 9 (bR O)) 9 (bR (upB O set true)))) (by decide) rfl (by omega) (by decide) (by rw [gA_s]; exact bR_up _ _ _) dX11_read_176 (congrArg (iR g 3 1024) (gA_s _ _ _)) (WF_sA9_ne g _ _) ?_
          refine G_mem (μ' := (sA M 9 (bR (upB O set true)))) (sA_u _ _ _ _) ?_
          refine r_aload_n C dX11_read_177 3 rfl ?_
          refine r_iload_n C dX11_read_178 4 rfl ?_
          refine r_callV C X (As := [.int (nI f)]) (rest := []) (st1 := [.int (nI (szF (lyB F (upB O set true) f 1024) f (-1) (2 ^ n)))]) (μ' := (mLays (sA M 9 (bR (upB O set true))) F P (upB O set true) n ps f)) (k := 19) (T := TX11) miX11_lays mvX11_lays (c_lays l g (sA M 9 (bR (upB O set true))) (F := F) (P := P) (O := (upB O set true)) (n := n) (ps := ps) (q := f) ⟨((gI_A _ _ _ _).trans h6), ((gI_A _ _ _ _).trans h7), hps, ((gA_n _ _ (by decide)).trans h5), ((gA_n _ _ (by decide)).trans hP), (gA_s _ _ _), h1n, hn10⟩ (by omega)) hw_5_146 (by decide) rfl rfl rfl ⟨by decide, by decide, rfl, rfl, by decide, by decide⟩ rfl (Nat.le_of_ble_eq_true rfl) dX11_read_179 rfl ?_
          exact r_iret C dX11_read_182 Rr
      · refine r_aload_n C dX11_read_148 3 rfl ?_
        refine r_get C X (k := 19) (R := RX11) (T := TX11) (N := 15) (n := 7) (v := .int (gI (sA M 9 (bR O)) 8)) (by decide) rfl rfl inw11 (by decide) rfl hw_5_25 rfl dX11_read_149 ?_
        refine G_top (y := (nI ty)) ((gI_A _ _ _ _).trans hty) ?_
        refine r_if_le C 163 dX11_read_152 (by decide) (zI_le (by omega)) (fun h152 => ?_) (fun h152 => ?_)
        · rw [if_neg (fun q => absurd q.2 (by omega))] at Rr
          refine r_aload_n C dX11_read_163 3 rfl ?_
          refine r_get C X (k := 19) (R := RX11) (T := TX11) (N := 15) (n := 7) (v := .int (gI (sA M 9 (bR O)) 8)) (by decide) rfl rfl inw11 (by decide) rfl hw_5_25 rfl dX11_read_164 ?_
          refine G_top (y := (nI ty)) ((gI_A _ _ _ _).trans hty) ?_
          refine r_if_le C 177 dX11_read_167 (by decide) (zI_le (by omega)) (fun h167 => ?_) (fun h167 => ?_)
          · rw [if_neg (show ¬ 0 < ty by omega)] at Rr
            refine r_aload_n C dX11_read_177 3 rfl ?_
            refine r_iload_n C dX11_read_178 4 rfl ?_
            refine r_callV C X (As := [.int (nI f)]) (rest := []) (st1 := [.int (nI (szF (lyB F O f 1024) f (-1) (2 ^ n)))]) (μ' := (mLays (sA M 9 (bR O)) F P O n ps f)) (k := 19) (T := TX11) miX11_lays mvX11_lays (c_lays l g (sA M 9 (bR O)) (F := F) (P := P) (O := O) (n := n) (ps := ps) (q := f) ⟨((gI_A _ _ _ _).trans h6), ((gI_A _ _ _ _).trans h7), hps, ((gA_n _ _ (by decide)).trans h5), ((gA_n _ _ (by decide)).trans hP), (gA_s _ _ _), h1n, hn10⟩ (by omega)) hw_5_146 (by decide) rfl rfl rfl ⟨by decide, by decide, rfl, rfl, by decide, by decide⟩ rfl (Nat.le_of_ble_eq_true rfl) dX11_read_179 rfl ?_
            exact r_iret C dX11_read_182 Rr
          · rw [if_pos (show 0 < ty by omega)] at Rr
            refine r_aload_n C dX11_read_170 3 rfl ?_
            refine r_get C X (k := 19) (R := RX11) (T := TX11) (N := 15) (n := 8) (v := .ref (ad g 24)) (by decide) rfl rfl inw11 (by decide) rfl hw_5_26 rfl dX11_read_171 ?_
            refine r_iload_n C dX11_read_174 2 rfl ?_
            refine r_iconst C (v := (nI 1)) dX11_read_175 rfl ?_
            refine G_top (y := (bI true)) rfl ?_
            refine r_zast C X (k := 24) (f' := bR (upB O set true)) (μ' := (sA (sA M 9 (bR O)) 9 (bR (upB O set true)))) (by decide) rfl (by omega) (by decide) (by rw [gA_s]; exact bR_up _ _ _) dX11_read_176 (congrArg (iR g 3 1024) (gA_s _ _ _)) (WF_sA9_ne g _ _) ?_
            refine G_mem (μ' := (sA M 9 (bR (upB O set true)))) (sA_u _ _ _ _) ?_
            refine r_aload_n C dX11_read_177 3 rfl ?_
            refine r_iload_n C dX11_read_178 4 rfl ?_
            refine r_callV C X (As := [.int (nI f)]) (rest := []) (st1 := [.int (nI (szF (lyB F (upB O set true) f 1024) f (-1) (2 ^ n)))]) (μ' := (mLays (sA M 9 (bR (upB O set true))) F P (upB O set true) n ps f)) (k := 19) (T := TX11) miX11_lays mvX11_lays (c_lays l g (sA M 9 (bR (upB O set true))) (F := F) (P := P) (O := (upB O set true)) (n := n) (ps := ps) (q := f) ⟨((gI_A _ _ _ _).trans h6), ((gI_A _ _ _ _).trans h7), hps, ((gA_n _ _ (by decide)).trans h5), ((gA_n _ _ (by decide)).trans hP), (gA_s _ _ _), h1n, hn10⟩ (by omega)) hw_5_146 (by decide) rfl rfl rfl ⟨by decide, by decide, rfl, rfl, by decide, by decide⟩ rfl (Nat.le_of_ble_eq_true rfl) dX11_read_179 rfl ?_
            exact r_iret C dX11_read_182 Rr
        · rw [if_pos ⟨Decidable.not_not.mp h145, by omega⟩] at Rr
          refine r_bipush C (v := (-10)) dX11_read_155 (by decide) ?_
          refine r_aload_n C dX11_read_157 3 rfl ?_
          refine r_get C X (k := 19) (R := RX11) (T := TX11) (N := 15) (n := 7) (v := .int (gI (sA M 9 (bR O)) 8)) (by decide) rfl rfl inw11 (by decide) rfl hw_5_25 rfl dX11_read_158 ?_
          refine G_top (y := (nI ty)) ((gI_A _ _ _ _).trans hty) ?_
          refine r_isub C (v := ((-10) - (nI ty))) dX11_read_161 rfl ?_
          exact r_iret C dX11_read_162 Rr
    · rw [show ty - i = (ty - (i + 1)) + 1 by omega, rdF] at Rr
      obtain ⟨hbe, hbl⟩ := hb i (by omega)
      refine r_aload_n C dX11_read_34 3 rfl ?_
      refine r_get C X (k := 19) (R := RX11) (T := TX11) (N := 15) (n := 6) (v := .ref (ad g 23)) (by decide) rfl rfl inw11 (by decide) rfl hw_5_24 rfl dX11_read_35 ?_
      refine r_iload C dX11_read_38 0 rfl ?_
      refine r_bald C X (k := 23) (v := (nI (tb i))) (by decide) rfl (by omega) (by decide) ((congrFun (gA_n _ _ (by decide)) _).trans hbe) dX11_read_40 ?_
      refine r_istore C (lv' := [(5, .int (nI (tb i))), (4, .int (nI i)), (3, .int (lsI x)), (2, .int (nI set)), (0, .ref (ad g 19)), (1, .int (nI f))]) 5 dX11_read_41 (by decide) rfl ?_
      refine r_iload C dX11_read_43 0 rfl ?_
      refine r_bipush C (v := (nI 44)) dX11_read_45 (by decide) ?_
      refine r_icmp_ne C 68 dX11_read_47 (by decide) (not_congr (nI_eq (by omega) (by omega))) (fun h47 => ?_) (fun h47 => ?_)
      · rw [if_neg (fun q => h47 q.1)] at Rr
        refine r_iload C dX11_read_68 0 rfl ?_
        refine r_bipush C (v := (nI 45)) dX11_read_70 (by decide) ?_
        refine r_icmp_ne C 85 dX11_read_72 (by decide) (not_congr (nI_eq (by omega) (by omega))) (fun h72 => ?_) (fun h72 => ?_)
        · rw [if_neg (fun q => h72 q.1)] at Rr
          refine r_iload C dX11_read_85 0 rfl ?_
          refine r_bipush C (v := (nI 48)) dX11_read_87 (by decide) ?_
          refine r_isub C (v := (nI (tb i) - nI 48)) dX11_read_89 rfl ?_
          refine r_iload_n C dX11_read_90 2 rfl ?_
          refine r_if_ge C 98 dX11_read_91 (by decide) (lsI_ge hx) (fun h91 => ?_) (fun h91 => ?_)
          · obtain ⟨v, rfl⟩ : ∃ v, x = some v := by cases x with | none => exact absurd rfl h91 | some v => exact ⟨v, rfl⟩
            have hv := hx v rfl
            refine G_lv (lv' := [(5, .int (nI (tb i))), (4, .int (nI i)), (3, .int (nI v)), (2, .int (nI set)), (0, .ref (ad g 19)), (1, .int (nI f))]) rfl ?_
            refine r_iload_n C dX11_read_98 2 rfl ?_
            refine r_aload_n C dX11_read_99 4 rfl ?_
            refine r_get C X (k := 19) (R := RX11) (T := TX11) (N := 15) (n := 1) (v := .int (gI (sA M 9 (bR O)) 6)) (by decide) rfl rfl inw11 (by decide) rfl hw_5_19 rfl dX11_read_100 ?_
            refine G_top (y := (nI n)) ((gI_A _ _ _ _).trans h6) ?_
            refine r_iconst C (v := (nI 1)) dX11_read_103 rfl ?_
            refine r_isub C (v := (nI (n - 1))) dX11_read_104 (pk_sub (by omega)) ?_
            refine r_callP C (As := [.int (nI (tb i) - nI 48), .int (nI v), .int (nI (n - 1))]) (rest := []) (st1 := [.int (bI (inI (nI (tb i) - nI 48) (nI v) (nI (n - 1))))]) miX11_in msX11_in (c_in l (nI (tb i) - nI 48) (nI v) (nI (n - 1))) hw_5_77 rfl ⟨by decide, by decide, rfl, rfl, by decide, by decide⟩ rfl (Nat.le_of_ble_eq_true rfl) dX11_read_105 rfl ?_
            refine r_if_eq C 132 dX11_read_108 (by decide) (bI_eq _) (fun h108 => ?_) (fun h108 => ?_)
            · rw [if_neg (show ¬ (48 + rdL (some v) ≤ tb i ∧ tb i < 48 + n) from fun q => ts_f h108 ((rdIn (c := tb i) (v := v) (w := n - 1) (by omega) (by omega) (by omega)).mpr ⟨q.1, by have := q.2; omega⟩))] at Rr
              refine r_bipush C (v := (-10)) dX11_read_132 (by decide) ?_
              refine r_iload C dX11_read_134 1 rfl ?_
              refine r_isub C (v := ((-10) - (nI i))) dX11_read_136 rfl ?_
              exact r_iret C dX11_read_137 Rr
            · obtain ⟨r1, r2⟩ := (rdIn (c := tb i) (v := v) (w := n - 1) (by omega) (by omega) (by omega)).mp (ts_t h108)
              have ho := or10 (a := set) (d := tb i - 48) hset (by omega)
              rw [if_pos (show 48 + rdL (some v) ≤ tb i ∧ tb i < 48 + n from ⟨r1, by omega⟩)] at Rr
              refine r_iload_n C dX11_read_111 3 rfl ?_
              refine r_iconst C (v := (nI 1)) dX11_read_112 rfl ?_
              refine r_iload C dX11_read_113 0 rfl ?_
              refine r_bipush C (v := (nI 48)) dX11_read_115 (by decide) ?_
              refine r_isub C (v := (nI (tb i - 48))) dX11_read_117 (pk_sub (by omega)) ?_
              refine r_ishl C (v := (nI (2 ^ (tb i - 48)))) dX11_read_118 (nshl1 (by omega)) ?_
              refine r_ior C (v := (nI (set ||| (2 ^ (tb i - 48))))) dX11_read_119 (nor _ _) ?_
              refine r_istore_n C (lv' := [(2, .int (nI (set ||| (2 ^ (tb i - 48))))), (5, .int (nI (tb i))), (4, .int (nI i)), (3, .int (nI v)), (0, .ref (ad g 19)), (1, .int (nI f))]) 2 dX11_read_120 rfl (by decide) rfl ?_
              refine r_iload C dX11_read_121 1 rfl ?_
              refine r_bipush C (v := (nI 48)) dX11_read_123 (by decide) ?_
              refine r_isub C (v := (nI (tb i - 48))) dX11_read_125 (pk_sub (by omega)) ?_
              refine r_iconst C (v := (nI 1)) dX11_read_126 rfl ?_
              refine r_iadd C (v := (nI (tb i - 48 + 1))) dX11_read_127 (nI_add _ _) ?_
              refine r_istore_n C (lv' := [(3, .int (nI (tb i - 48 + 1))), (2, .int (nI (set ||| (2 ^ (tb i - 48))))), (5, .int (nI (tb i))), (4, .int (nI i)), (0, .ref (ad g 19)), (1, .int (nI f))]) 3 dX11_read_128 rfl (by decide) rfl ?_
              refine r_goto C 138 dX11_read_129 (by decide) ?_
              refine r_iinc C (v := (nI (i + 1))) (lv' := [(4, .int (nI (i + 1))), (3, .int (nI (tb i - 48 + 1))), (2, .int (nI (set ||| (2 ^ (tb i - 48))))), (5, .int (nI (tb i))), (0, .ref (ad g 19)), (1, .int (nI f))]) 4 3 dX11_read_138 rfl (inc_N _ 1) (by decide) rfl ?_
              refine r_goto C 25 dX11_read_141 (by decide) ?_
              refine G_lv (lv' := [(4, .int (nI (i + 1))), (3, .int (lsI (some (tb i - 48 + 1)))), (2, .int (nI (set ||| (2 ^ (tb i - 48))))), (5, .int (nI (tb i))), (0, .ref (ad g 19)), (1, .int (nI f))]) rfl ?_
              refine G_sub (lv' := [(4, .int (nI (i + 1))), (3, .int (lsI (some (tb i - 48 + 1)))), (2, .int (nI (set ||| (2 ^ (tb i - 48))))), (0, .ref (ad g 19)), (1, .int (nI f))]) [0, 1, 2, 4, 5] rfl ?_
              exact ih (i + 1) (set ||| 2 ^ (tb i - 48)) (some (tb i - 48 + 1)) O (by omega) (by omega) ho (fun v q => by cases q; omega) Rr
          · have hxn := Decidable.not_not.mp h91
            subst hxn
            refine G_lv (lv' := [(5, .int (nI (tb i))), (4, .int (nI i)), (3, .int (lsI none)), (2, .int (nI set)), (0, .ref (ad g 19)), (1, .int (nI f))]) rfl ?_
            refine r_iconst C (v := (nI 0)) dX11_read_94 rfl ?_
            refine r_goto C 99 dX11_read_95 (by decide) ?_
            refine r_aload_n C dX11_read_99 4 rfl ?_
            refine r_get C X (k := 19) (R := RX11) (T := TX11) (N := 15) (n := 1) (v := .int (gI (sA M 9 (bR O)) 6)) (by decide) rfl rfl inw11 (by decide) rfl hw_5_19 rfl dX11_read_100 ?_
            refine G_top (y := (nI n)) ((gI_A _ _ _ _).trans h6) ?_
            refine r_iconst C (v := (nI 1)) dX11_read_103 rfl ?_
            refine r_isub C (v := (nI (n - 1))) dX11_read_104 (pk_sub (by omega)) ?_
            refine r_callP C (As := [.int (nI (tb i) - nI 48), .int (nI 0), .int (nI (n - 1))]) (rest := []) (st1 := [.int (bI (inI (nI (tb i) - nI 48) (nI 0) (nI (n - 1))))]) miX11_in msX11_in (c_in l (nI (tb i) - nI 48) (nI 0) (nI (n - 1))) hw_5_77 rfl ⟨by decide, by decide, rfl, rfl, by decide, by decide⟩ rfl (Nat.le_of_ble_eq_true rfl) dX11_read_105 rfl ?_
            refine r_if_eq C 132 dX11_read_108 (by decide) (bI_eq _) (fun h108 => ?_) (fun h108 => ?_)
            · rw [if_neg (show ¬ (48 + rdL none ≤ tb i ∧ tb i < 48 + n) from fun q => ts_f h108 ((rdIn (c := tb i) (v := 0) (w := n - 1) (by omega) (by omega) (by omega)).mpr ⟨q.1, by have := q.2; omega⟩))] at Rr
              refine r_bipush C (v := (-10)) dX11_read_132 (by decide) ?_
              refine r_iload C dX11_read_134 1 rfl ?_
              refine r_isub C (v := ((-10) - (nI i))) dX11_read_136 rfl ?_
              exact r_iret C dX11_read_137 Rr
            · obtain ⟨r1, r2⟩ := (rdIn (c := tb i) (v := 0) (w := n - 1) (by omega) (by omega) (by omega)).mp (ts_t h108)
              have ho := or10 (a := set) (d := tb i - 48) hset (by omega)
              rw [if_pos (show 48 + rdL none ≤ tb i ∧ tb i < 48 + n from ⟨r1, by omega⟩)] at Rr
              refine r_iload_n C dX11_read_111 3 rfl ?_
              refine r_iconst C (v := (nI 1)) dX11_read_112 rfl ?_
              refine r_iload C dX11_read_113 0 rfl ?_
              refine r_bipush C (v := (nI 48)) dX11_read_115 (by decide) ?_
              refine r_isub C (v := (nI (tb i - 48))) dX11_read_117 (pk_sub (by omega)) ?_
              refine r_ishl C (v := (nI (2 ^ (tb i - 48)))) dX11_read_118 (nshl1 (by omega)) ?_
              refine r_ior C (v := (nI (set ||| (2 ^ (tb i - 48))))) dX11_read_119 (nor _ _) ?_
              refine r_istore_n C (lv' := [(2, .int (nI (set ||| (2 ^ (tb i - 48))))), (5, .int (nI (tb i))), (4, .int (nI i)), (3, .int (lsI none)), (0, .ref (ad g 19)), (1, .int (nI f))]) 2 dX11_read_120 rfl (by decide) rfl ?_
              refine r_iload C dX11_read_121 1 rfl ?_
              refine r_bipush C (v := (nI 48)) dX11_read_123 (by decide) ?_
              refine r_isub C (v := (nI (tb i - 48))) dX11_read_125 (pk_sub (by omega)) ?_
              refine r_iconst C (v := (nI 1)) dX11_read_126 rfl ?_
              refine r_iadd C (v := (nI (tb i - 48 + 1))) dX11_read_127 (nI_add _ _) ?_
              refine r_istore_n C (lv' := [(3, .int (nI (tb i - 48 + 1))), (2, .int (nI (set ||| (2 ^ (tb i - 48))))), (5, .int (nI (tb i))), (4, .int (nI i)), (0, .ref (ad g 19)), (1, .int (nI f))]) 3 dX11_read_128 rfl (by decide) rfl ?_
              refine r_goto C 138 dX11_read_129 (by decide) ?_
              refine r_iinc C (v := (nI (i + 1))) (lv' := [(4, .int (nI (i + 1))), (3, .int (nI (tb i - 48 + 1))), (2, .int (nI (set ||| (2 ^ (tb i - 48))))), (5, .int (nI (tb i))), (0, .ref (ad g 19)), (1, .int (nI f))]) 4 3 dX11_read_138 rfl (inc_N _ 1) (by decide) rfl ?_
              refine r_goto C 25 dX11_read_141 (by decide) ?_
              refine G_lv (lv' := [(4, .int (nI (i + 1))), (3, .int (lsI (some (tb i - 48 + 1)))), (2, .int (nI (set ||| (2 ^ (tb i - 48))))), (5, .int (nI (tb i))), (0, .ref (ad g 19)), (1, .int (nI f))]) rfl ?_
              refine G_sub (lv' := [(4, .int (nI (i + 1))), (3, .int (lsI (some (tb i - 48 + 1)))), (2, .int (nI (set ||| (2 ^ (tb i - 48))))), (0, .ref (ad g 19)), (1, .int (nI f))]) [0, 1, 2, 4, 5] rfl ?_
              exact ih (i + 1) (set ||| 2 ^ (tb i - 48)) (some (tb i - 48 + 1)) O (by omega) (by omega) ho (fun v q => by cases q; omega) Rr
        · refine r_iload_n C dX11_read_75 2 rfl ?_
          refine r_if_ge C 85 dX11_read_76 (by decide) (lsI_ge hx) (fun h76 => ?_) (fun h76 => ?_)
          · rw [if_neg (fun q => h76 q.2)] at Rr
            refine r_iload C dX11_read_85 0 rfl ?_
            refine r_bipush C (v := (nI 48)) dX11_read_87 (by decide) ?_
            refine r_isub C (v := (nI (tb i) - nI 48)) dX11_read_89 rfl ?_
            refine r_iload_n C dX11_read_90 2 rfl ?_
            refine r_if_ge C 98 dX11_read_91 (by decide) (lsI_ge hx) (fun h91 => ?_) (fun h91 => ?_)
            · obtain ⟨v, rfl⟩ : ∃ v, x = some v := by cases x with | none => exact absurd rfl h91 | some v => exact ⟨v, rfl⟩
              have hv := hx v rfl
              refine G_lv (lv' := [(5, .int (nI (tb i))), (4, .int (nI i)), (3, .int (nI v)), (2, .int (nI set)), (0, .ref (ad g 19)), (1, .int (nI f))]) rfl ?_
              refine r_iload_n C dX11_read_98 2 rfl ?_
              refine r_aload_n C dX11_read_99 4 rfl ?_
              refine r_get C X (k := 19) (R := RX11) (T := TX11) (N := 15) (n := 1) (v := .int (gI (sA M 9 (bR O)) 6)) (by decide) rfl rfl inw11 (by decide) rfl hw_5_19 rfl dX11_read_100 ?_
              refine G_top (y := (nI n)) ((gI_A _ _ _ _).trans h6) ?_
              refine r_iconst C (v := (nI 1)) dX11_read_103 rfl ?_
              refine r_isub C (v := (nI (n - 1))) dX11_read_104 (pk_sub (by omega)) ?_
              refine r_callP C (As := [.int (nI (tb i) - nI 48), .int (nI v), .int (nI (n - 1))]) (rest := []) (st1 := [.int (bI (inI (nI (tb i) - nI 48) (nI v) (nI (n - 1))))]) miX11_in msX11_in (c_in l (nI (tb i) - nI 48) (nI v) (nI (n - 1))) hw_5_77 rfl ⟨by decide, by decide, rfl, rfl, by decide, by decide⟩ rfl (Nat.le_of_ble_eq_true rfl) dX11_read_105 rfl ?_
              refine r_if_eq C 132 dX11_read_108 (by decide) (bI_eq _) (fun h108 => ?_) (fun h108 => ?_)
              · rw [if_neg (show ¬ (48 + rdL (some v) ≤ tb i ∧ tb i < 48 + n) from fun q => ts_f h108 ((rdIn (c := tb i) (v := v) (w := n - 1) (by omega) (by omega) (by omega)).mpr ⟨q.1, by have := q.2; omega⟩))] at Rr
                refine r_bipush C (v := (-10)) dX11_read_132 (by decide) ?_
                refine r_iload C dX11_read_134 1 rfl ?_
                refine r_isub C (v := ((-10) - (nI i))) dX11_read_136 rfl ?_
                exact r_iret C dX11_read_137 Rr
              · obtain ⟨r1, r2⟩ := (rdIn (c := tb i) (v := v) (w := n - 1) (by omega) (by omega) (by omega)).mp (ts_t h108)
                have ho := or10 (a := set) (d := tb i - 48) hset (by omega)
                rw [if_pos (show 48 + rdL (some v) ≤ tb i ∧ tb i < 48 + n from ⟨r1, by omega⟩)] at Rr
                refine r_iload_n C dX11_read_111 3 rfl ?_
                refine r_iconst C (v := (nI 1)) dX11_read_112 rfl ?_
                refine r_iload C dX11_read_113 0 rfl ?_
                refine r_bipush C (v := (nI 48)) dX11_read_115 (by decide) ?_
                refine r_isub C (v := (nI (tb i - 48))) dX11_read_117 (pk_sub (by omega)) ?_
                refine r_ishl C (v := (nI (2 ^ (tb i - 48)))) dX11_read_118 (nshl1 (by omega)) ?_
                refine r_ior C (v := (nI (set ||| (2 ^ (tb i - 48))))) dX11_read_119 (nor _ _) ?_
                refine r_istore_n C (lv' := [(2, .int (nI (set ||| (2 ^ (tb i - 48))))), (5, .int (nI (tb i))), (4, .int (nI i)), (3, .int (nI v)), (0, .ref (ad g 19)), (1, .int (nI f))]) 2 dX11_read_120 rfl (by decide) rfl ?_
                refine r_iload C dX11_read_121 1 rfl ?_
                refine r_bipush C (v := (nI 48)) dX11_read_123 (by decide) ?_
                refine r_isub C (v := (nI (tb i - 48))) dX11_read_125 (pk_sub (by omega)) ?_
                refine r_iconst C (v := (nI 1)) dX11_read_126 rfl ?_
                refine r_iadd C (v := (nI (tb i - 48 + 1))) dX11_read_127 (nI_add _ _) ?_
                refine r_istore_n C (lv' := [(3, .int (nI (tb i - 48 + 1))), (2, .int (nI (set ||| (2 ^ (tb i - 48))))), (5, .int (nI (tb i))), (4, .int (nI i)), (0, .ref (ad g 19)), (1, .int (nI f))]) 3 dX11_read_128 rfl (by decide) rfl ?_
                refine r_goto C 138 dX11_read_129 (by decide) ?_
                refine r_iinc C (v := (nI (i + 1))) (lv' := [(4, .int (nI (i + 1))), (3, .int (nI (tb i - 48 + 1))), (2, .int (nI (set ||| (2 ^ (tb i - 48))))), (5, .int (nI (tb i))), (0, .ref (ad g 19)), (1, .int (nI f))]) 4 3 dX11_read_138 rfl (inc_N _ 1) (by decide) rfl ?_
                refine r_goto C 25 dX11_read_141 (by decide) ?_
                refine G_lv (lv' := [(4, .int (nI (i + 1))), (3, .int (lsI (some (tb i - 48 + 1)))), (2, .int (nI (set ||| (2 ^ (tb i - 48))))), (5, .int (nI (tb i))), (0, .ref (ad g 19)), (1, .int (nI f))]) rfl ?_
                refine G_sub (lv' := [(4, .int (nI (i + 1))), (3, .int (lsI (some (tb i - 48 + 1)))), (2, .int (nI (set ||| (2 ^ (tb i - 48))))), (0, .ref (ad g 19)), (1, .int (nI f))]) [0, 1, 2, 4, 5] rfl ?_
                exact ih (i + 1) (set ||| 2 ^ (tb i - 48)) (some (tb i - 48 + 1)) O (by omega) (by omega) ho (fun v q => by cases q; omega) Rr
            · have hxn := Decidable.not_not.mp h91
              subst hxn
              refine G_lv (lv' := [(5, .int (nI (tb i))), (4, .int (nI i)), (3, .int (lsI none)), (2, .int (nI set)), (0, .ref (ad g 19)), (1, .int (nI f))]) rfl ?_
              refine r_iconst C (v := (nI 0)) dX11_read_94 rfl ?_
              refine r_goto C 99 dX11_read_95 (by decide) ?_
              refine r_aload_n C dX11_read_99 4 rfl ?_
              refine r_get C X (k := 19) (R := RX11) (T := TX11) (N := 15) (n := 1) (v := .int (gI (sA M 9 (bR O)) 6)) (by decide) rfl rfl inw11 (by decide) rfl hw_5_19 rfl dX11_read_100 ?_
              refine G_top (y := (nI n)) ((gI_A _ _ _ _).trans h6) ?_
              refine r_iconst C (v := (nI 1)) dX11_read_103 rfl ?_
              refine r_isub C (v := (nI (n - 1))) dX11_read_104 (pk_sub (by omega)) ?_
              refine r_callP C (As := [.int (nI (tb i) - nI 48), .int (nI 0), .int (nI (n - 1))]) (rest := []) (st1 := [.int (bI (inI (nI (tb i) - nI 48) (nI 0) (nI (n - 1))))]) miX11_in msX11_in (c_in l (nI (tb i) - nI 48) (nI 0) (nI (n - 1))) hw_5_77 rfl ⟨by decide, by decide, rfl, rfl, by decide, by decide⟩ rfl (Nat.le_of_ble_eq_true rfl) dX11_read_105 rfl ?_
              refine r_if_eq C 132 dX11_read_108 (by decide) (bI_eq _) (fun h108 => ?_) (fun h108 => ?_)
              · rw [if_neg (show ¬ (48 + rdL none ≤ tb i ∧ tb i < 48 + n) from fun q => ts_f h108 ((rdIn (c := tb i) (v := 0) (w := n - 1) (by omega) (by omega) (by omega)).mpr ⟨q.1, by have := q.2; omega⟩))] at Rr
                refine r_bipush C (v := (-10)) dX11_read_132 (by decide) ?_
                refine r_iload C dX11_read_134 1 rfl ?_
                refine r_isub C (v := ((-10) - (nI i))) dX11_read_136 rfl ?_
                exact r_iret C dX11_read_137 Rr
              · obtain ⟨r1, r2⟩ := (rdIn (c := tb i) (v := 0) (w := n - 1) (by omega) (by omega) (by omega)).mp (ts_t h108)
                have ho := or10 (a := set) (d := tb i - 48) hset (by omega)
                rw [if_pos (show 48 + rdL none ≤ tb i ∧ tb i < 48 + n from ⟨r1, by omega⟩)] at Rr
                refine r_iload_n C dX11_read_111 3 rfl ?_
                refine r_iconst C (v := (nI 1)) dX11_read_112 rfl ?_
                refine r_iload C dX11_read_113 0 rfl ?_
                refine r_bipush C (v := (nI 48)) dX11_read_115 (by decide) ?_
                refine r_isub C (v := (nI (tb i - 48))) dX11_read_117 (pk_sub (by omega)) ?_
                refine r_ishl C (v := (nI (2 ^ (tb i - 48)))) dX11_read_118 (nshl1 (by omega)) ?_
                refine r_ior C (v := (nI (set ||| (2 ^ (tb i - 48))))) dX11_read_119 (nor _ _) ?_
                refine r_istore_n C (lv' := [(2, .int (nI (set ||| (2 ^ (tb i - 48))))), (5, .int (nI (tb i))), (4, .int (nI i)), (3, .int (lsI none)), (0, .ref (ad g 19)), (1, .int (nI f))]) 2 dX11_read_120 rfl (by decide) rfl ?_
                refine r_iload C dX11_read_121 1 rfl ?_
                refine r_bipush C (v := (nI 48)) dX11_read_123 (by decide) ?_
                refine r_isub C (v := (nI (tb i - 48))) dX11_read_125 (pk_sub (by omega)) ?_
                refine r_iconst C (v := (nI 1)) dX11_read_126 rfl ?_
                refine r_iadd C (v := (nI (tb i - 48 + 1))) dX11_read_127 (nI_add _ _) ?_
                refine r_istore_n C (lv' := [(3, .int (nI (tb i - 48 + 1))), (2, .int (nI (set ||| (2 ^ (tb i - 48))))), (5, .int (nI (tb i))), (4, .int (nI i)), (0, .ref (ad g 19)), (1, .int (nI f))]) 3 dX11_read_128 rfl (by decide) rfl ?_
                refine r_goto C 138 dX11_read_129 (by decide) ?_
                refine r_iinc C (v := (nI (i + 1))) (lv' := [(4, .int (nI (i + 1))), (3, .int (nI (tb i - 48 + 1))), (2, .int (nI (set ||| (2 ^ (tb i - 48))))), (5, .int (nI (tb i))), (0, .ref (ad g 19)), (1, .int (nI f))]) 4 3 dX11_read_138 rfl (inc_N _ 1) (by decide) rfl ?_
                refine r_goto C 25 dX11_read_141 (by decide) ?_
                refine G_lv (lv' := [(4, .int (nI (i + 1))), (3, .int (lsI (some (tb i - 48 + 1)))), (2, .int (nI (set ||| (2 ^ (tb i - 48))))), (5, .int (nI (tb i))), (0, .ref (ad g 19)), (1, .int (nI f))]) rfl ?_
                refine G_sub (lv' := [(4, .int (nI (i + 1))), (3, .int (lsI (some (tb i - 48 + 1)))), (2, .int (nI (set ||| (2 ^ (tb i - 48))))), (0, .ref (ad g 19)), (1, .int (nI f))]) [0, 1, 2, 4, 5] rfl ?_
                exact ih (i + 1) (set ||| 2 ^ (tb i - 48)) (some (tb i - 48 + 1)) O (by omega) (by omega) ho (fun v q => by cases q; omega) Rr
          · rw [if_pos ⟨Decidable.not_not.mp h72, Decidable.not_not.mp h76⟩] at Rr
            refine r_bipush C (v := (nI 99)) dX11_read_79 (by decide) ?_
            refine r_istore_n C (lv' := [(3, .int (nI 99)), (5, .int (nI (tb i))), (4, .int (nI i)), (2, .int (nI set)), (0, .ref (ad g 19)), (1, .int (nI f))]) 3 dX11_read_81 rfl (by decide) rfl ?_
            refine r_goto C 138 dX11_read_82 (by decide) ?_
            refine r_iinc C (v := (nI (i + 1))) (lv' := [(4, .int (nI (i + 1))), (3, .int (nI 99)), (5, .int (nI (tb i))), (2, .int (nI set)), (0, .ref (ad g 19)), (1, .int (nI f))]) 4 2 dX11_read_138 rfl (inc_N _ 1) (by decide) rfl ?_
            refine r_goto C 25 dX11_read_141 (by decide) ?_
            refine G_lv (lv' := [(4, .int (nI (i + 1))), (3, .int (lsI (some 99))), (5, .int (nI (tb i))), (2, .int (nI set)), (0, .ref (ad g 19)), (1, .int (nI f))]) rfl ?_
            refine G_sub (lv' := [(4, .int (nI (i + 1))), (3, .int (lsI (some 99))), (2, .int (nI set)), (0, .ref (ad g 19)), (1, .int (nI f))]) [0, 1, 3, 4, 5] rfl ?_
            exact ih (i + 1) set (some 99) O (by omega) (by omega) hset (fun v q => by cases q; decide) Rr
      · refine r_iload_n C dX11_read_50 2 rfl ?_
        refine r_if_lt C 68 dX11_read_51 (by decide) (lsI_lt hx) (fun h51 => ?_) (fun h51 => ?_)
        · rw [if_neg (fun q => q.2 h51)] at Rr
          refine r_iload C dX11_read_68 0 rfl ?_
          refine r_bipush C (v := (nI 45)) dX11_read_70 (by decide) ?_
          refine r_icmp_ne C 85 dX11_read_72 (by decide) (not_congr (nI_eq (by omega) (by omega))) (fun h72 => ?_) (fun h72 => ?_)
          · rw [if_neg (fun q => h72 q.1)] at Rr
            refine r_iload C dX11_read_85 0 rfl ?_
            refine r_bipush C (v := (nI 48)) dX11_read_87 (by decide) ?_
            refine r_isub C (v := (nI (tb i) - nI 48)) dX11_read_89 rfl ?_
            refine r_iload_n C dX11_read_90 2 rfl ?_
            refine r_if_ge C 98 dX11_read_91 (by decide) (lsI_ge hx) (fun h91 => ?_) (fun h91 => ?_)
            · obtain ⟨v, rfl⟩ : ∃ v, x = some v := by cases x with | none => exact absurd rfl h91 | some v => exact ⟨v, rfl⟩
              have hv := hx v rfl
              refine G_lv (lv' := [(5, .int (nI (tb i))), (4, .int (nI i)), (3, .int (nI v)), (2, .int (nI set)), (0, .ref (ad g 19)), (1, .int (nI f))]) rfl ?_
              refine r_iload_n C dX11_read_98 2 rfl ?_
              refine r_aload_n C dX11_read_99 4 rfl ?_
              refine r_get C X (k := 19) (R := RX11) (T := TX11) (N := 15) (n := 1) (v := .int (gI (sA M 9 (bR O)) 6)) (by decide) rfl rfl inw11 (by decide) rfl hw_5_19 rfl dX11_read_100 ?_
              refine G_top (y := (nI n)) ((gI_A _ _ _ _).trans h6) ?_
              refine r_iconst C (v := (nI 1)) dX11_read_103 rfl ?_
              refine r_isub C (v := (nI (n - 1))) dX11_read_104 (pk_sub (by omega)) ?_
              refine r_callP C (As := [.int (nI (tb i) - nI 48), .int (nI v), .int (nI (n - 1))]) (rest := []) (st1 := [.int (bI (inI (nI (tb i) - nI 48) (nI v) (nI (n - 1))))]) miX11_in msX11_in (c_in l (nI (tb i) - nI 48) (nI v) (nI (n - 1))) hw_5_77 rfl ⟨by decide, by decide, rfl, rfl, by decide, by decide⟩ rfl (Nat.le_of_ble_eq_true rfl) dX11_read_105 rfl ?_
              refine r_if_eq C 132 dX11_read_108 (by decide) (bI_eq _) (fun h108 => ?_) (fun h108 => ?_)
              · rw [if_neg (show ¬ (48 + rdL (some v) ≤ tb i ∧ tb i < 48 + n) from fun q => ts_f h108 ((rdIn (c := tb i) (v := v) (w := n - 1) (by omega) (by omega) (by omega)).mpr ⟨q.1, by have := q.2; omega⟩))] at Rr
                refine r_bipush C (v := (-10)) dX11_read_132 (by decide) ?_
                refine r_iload C dX11_read_134 1 rfl ?_
                refine r_isub C (v := ((-10) - (nI i))) dX11_read_136 rfl ?_
                exact r_iret C dX11_read_137 Rr
              · obtain ⟨r1, r2⟩ := (rdIn (c := tb i) (v := v) (w := n - 1) (by omega) (by omega) (by omega)).mp (ts_t h108)
                have ho := or10 (a := set) (d := tb i - 48) hset (by omega)
                rw [if_pos (show 48 + rdL (some v) ≤ tb i ∧ tb i < 48 + n from ⟨r1, by omega⟩)] at Rr
                refine r_iload_n C dX11_read_111 3 rfl ?_
                refine r_iconst C (v := (nI 1)) dX11_read_112 rfl ?_
                refine r_iload C dX11_read_113 0 rfl ?_
                refine r_bipush C (v := (nI 48)) dX11_read_115 (by decide) ?_
                refine r_isub C (v := (nI (tb i - 48))) dX11_read_117 (pk_sub (by omega)) ?_
                refine r_ishl C (v := (nI (2 ^ (tb i - 48)))) dX11_read_118 (nshl1 (by omega)) ?_
                refine r_ior C (v := (nI (set ||| (2 ^ (tb i - 48))))) dX11_read_119 (nor _ _) ?_
                refine r_istore_n C (lv' := [(2, .int (nI (set ||| (2 ^ (tb i - 48))))), (5, .int (nI (tb i))), (4, .int (nI i)), (3, .int (nI v)), (0, .ref (ad g 19)), (1, .int (nI f))]) 2 dX11_read_120 rfl (by decide) rfl ?_
                refine r_iload C dX11_read_121 1 rfl ?_
                refine r_bipush C (v := (nI 48)) dX11_read_123 (by decide) ?_
                refine r_isub C (v := (nI (tb i - 48))) dX11_read_125 (pk_sub (by omega)) ?_
                refine r_iconst C (v := (nI 1)) dX11_read_126 rfl ?_
                refine r_iadd C (v := (nI (tb i - 48 + 1))) dX11_read_127 (nI_add _ _) ?_
                refine r_istore_n C (lv' := [(3, .int (nI (tb i - 48 + 1))), (2, .int (nI (set ||| (2 ^ (tb i - 48))))), (5, .int (nI (tb i))), (4, .int (nI i)), (0, .ref (ad g 19)), (1, .int (nI f))]) 3 dX11_read_128 rfl (by decide) rfl ?_
                refine r_goto C 138 dX11_read_129 (by decide) ?_
                refine r_iinc C (v := (nI (i + 1))) (lv' := [(4, .int (nI (i + 1))), (3, .int (nI (tb i - 48 + 1))), (2, .int (nI (set ||| (2 ^ (tb i - 48))))), (5, .int (nI (tb i))), (0, .ref (ad g 19)), (1, .int (nI f))]) 4 3 dX11_read_138 rfl (inc_N _ 1) (by decide) rfl ?_
                refine r_goto C 25 dX11_read_141 (by decide) ?_
                refine G_lv (lv' := [(4, .int (nI (i + 1))), (3, .int (lsI (some (tb i - 48 + 1)))), (2, .int (nI (set ||| (2 ^ (tb i - 48))))), (5, .int (nI (tb i))), (0, .ref (ad g 19)), (1, .int (nI f))]) rfl ?_
                refine G_sub (lv' := [(4, .int (nI (i + 1))), (3, .int (lsI (some (tb i - 48 + 1)))), (2, .int (nI (set ||| (2 ^ (tb i - 48))))), (0, .ref (ad g 19)), (1, .int (nI f))]) [0, 1, 2, 4, 5] rfl ?_
                exact ih (i + 1) (set ||| 2 ^ (tb i - 48)) (some (tb i - 48 + 1)) O (by omega) (by omega) ho (fun v q => by cases q; omega) Rr
            · have hxn := Decidable.not_not.mp h91
              subst hxn
              refine G_lv (lv' := [(5, .int (nI (tb i))), (4, .int (nI i)), (3, .int (lsI none)), (2, .int (nI set)), (0, .ref (ad g 19)), (1, .int (nI f))]) rfl ?_
              refine r_iconst C (v := (nI 0)) dX11_read_94 rfl ?_
              refine r_goto C 99 dX11_read_95 (by decide) ?_
              refine r_aload_n C dX11_read_99 4 rfl ?_
              refine r_get C X (k := 19) (R := RX11) (T := TX11) (N := 15) (n := 1) (v := .int (gI (sA M 9 (bR O)) 6)) (by decide) rfl rfl inw11 (by decide) rfl hw_5_19 rfl dX11_read_100 ?_
              refine G_top (y := (nI n)) ((gI_A _ _ _ _).trans h6) ?_
              refine r_iconst C (v := (nI 1)) dX11_read_103 rfl ?_
              refine r_isub C (v := (nI (n - 1))) dX11_read_104 (pk_sub (by omega)) ?_
              refine r_callP C (As := [.int (nI (tb i) - nI 48), .int (nI 0), .int (nI (n - 1))]) (rest := []) (st1 := [.int (bI (inI (nI (tb i) - nI 48) (nI 0) (nI (n - 1))))]) miX11_in msX11_in (c_in l (nI (tb i) - nI 48) (nI 0) (nI (n - 1))) hw_5_77 rfl ⟨by decide, by decide, rfl, rfl, by decide, by decide⟩ rfl (Nat.le_of_ble_eq_true rfl) dX11_read_105 rfl ?_
              refine r_if_eq C 132 dX11_read_108 (by decide) (bI_eq _) (fun h108 => ?_) (fun h108 => ?_)
              · rw [if_neg (show ¬ (48 + rdL none ≤ tb i ∧ tb i < 48 + n) from fun q => ts_f h108 ((rdIn (c := tb i) (v := 0) (w := n - 1) (by omega) (by omega) (by omega)).mpr ⟨q.1, by have := q.2; omega⟩))] at Rr
                refine r_bipush C (v := (-10)) dX11_read_132 (by decide) ?_
                refine r_iload C dX11_read_134 1 rfl ?_
                refine r_isub C (v := ((-10) - (nI i))) dX11_read_136 rfl ?_
                exact r_iret C dX11_read_137 Rr
              · obtain ⟨r1, r2⟩ := (rdIn (c := tb i) (v := 0) (w := n - 1) (by omega) (by omega) (by omega)).mp (ts_t h108)
                have ho := or10 (a := set) (d := tb i - 48) hset (by omega)
                rw [if_pos (show 48 + rdL none ≤ tb i ∧ tb i < 48 + n from ⟨r1, by omega⟩)] at Rr
                refine r_iload_n C dX11_read_111 3 rfl ?_
                refine r_iconst C (v := (nI 1)) dX11_read_112 rfl ?_
                refine r_iload C dX11_read_113 0 rfl ?_
                refine r_bipush C (v := (nI 48)) dX11_read_115 (by decide) ?_
                refine r_isub C (v := (nI (tb i - 48))) dX11_read_117 (pk_sub (by omega)) ?_
                refine r_ishl C (v := (nI (2 ^ (tb i - 48)))) dX11_read_118 (nshl1 (by omega)) ?_
                refine r_ior C (v := (nI (set ||| (2 ^ (tb i - 48))))) dX11_read_119 (nor _ _) ?_
                refine r_istore_n C (lv' := [(2, .int (nI (set ||| (2 ^ (tb i - 48))))), (5, .int (nI (tb i))), (4, .int (nI i)), (3, .int (lsI none)), (0, .ref (ad g 19)), (1, .int (nI f))]) 2 dX11_read_120 rfl (by decide) rfl ?_
                refine r_iload C dX11_read_121 1 rfl ?_
                refine r_bipush C (v := (nI 48)) dX11_read_123 (by decide) ?_
                refine r_isub C (v := (nI (tb i - 48))) dX11_read_125 (pk_sub (by omega)) ?_
                refine r_iconst C (v := (nI 1)) dX11_read_126 rfl ?_
                refine r_iadd C (v := (nI (tb i - 48 + 1))) dX11_read_127 (nI_add _ _) ?_
                refine r_istore_n C (lv' := [(3, .int (nI (tb i - 48 + 1))), (2, .int (nI (set ||| (2 ^ (tb i - 48))))), (5, .int (nI (tb i))), (4, .int (nI i)), (0, .ref (ad g 19)), (1, .int (nI f))]) 3 dX11_read_128 rfl (by decide) rfl ?_
                refine r_goto C 138 dX11_read_129 (by decide) ?_
                refine r_iinc C (v := (nI (i + 1))) (lv' := [(4, .int (nI (i + 1))), (3, .int (nI (tb i - 48 + 1))), (2, .int (nI (set ||| (2 ^ (tb i - 48))))), (5, .int (nI (tb i))), (0, .ref (ad g 19)), (1, .int (nI f))]) 4 3 dX11_read_138 rfl (inc_N _ 1) (by decide) rfl ?_
                refine r_goto C 25 dX11_read_141 (by decide) ?_
                refine G_lv (lv' := [(4, .int (nI (i + 1))), (3, .int (lsI (some (tb i - 48 + 1)))), (2, .int (nI (set ||| (2 ^ (tb i - 48))))), (5, .int (nI (tb i))), (0, .ref (ad g 19)), (1, .int (nI f))]) rfl ?_
                refine G_sub (lv' := [(4, .int (nI (i + 1))), (3, .int (lsI (some (tb i - 48 + 1)))), (2, .int (nI (set ||| (2 ^ (tb i - 48))))), (0, .ref (ad g 19)), (1, .int (nI f))]) [0, 1, 2, 4, 5] rfl ?_
                exact ih (i + 1) (set ||| 2 ^ (tb i - 48)) (some (tb i - 48 + 1)) O (by omega) (by omega) ho (fun v q => by cases q; omega) Rr
          · refine r_iload_n C dX11_read_75 2 rfl ?_
            refine r_if_ge C 85 dX11_read_76 (by decide) (lsI_ge hx) (fun h76 => ?_) (fun h76 => ?_)
            · rw [if_neg (fun q => h76 q.2)] at Rr
              refine r_iload C dX11_read_85 0 rfl ?_
              refine r_bipush C (v := (nI 48)) dX11_read_87 (by decide) ?_
              refine r_isub C (v := (nI (tb i) - nI 48)) dX11_read_89 rfl ?_
              refine r_iload_n C dX11_read_90 2 rfl ?_
              refine r_if_ge C 98 dX11_read_91 (by decide) (lsI_ge hx) (fun h91 => ?_) (fun h91 => ?_)
              · obtain ⟨v, rfl⟩ : ∃ v, x = some v := by cases x with | none => exact absurd rfl h91 | some v => exact ⟨v, rfl⟩
                have hv := hx v rfl
                refine G_lv (lv' := [(5, .int (nI (tb i))), (4, .int (nI i)), (3, .int (nI v)), (2, .int (nI set)), (0, .ref (ad g 19)), (1, .int (nI f))]) rfl ?_
                refine r_iload_n C dX11_read_98 2 rfl ?_
                refine r_aload_n C dX11_read_99 4 rfl ?_
                refine r_get C X (k := 19) (R := RX11) (T := TX11) (N := 15) (n := 1) (v := .int (gI (sA M 9 (bR O)) 6)) (by decide) rfl rfl inw11 (by decide) rfl hw_5_19 rfl dX11_read_100 ?_
                refine G_top (y := (nI n)) ((gI_A _ _ _ _).trans h6) ?_
                refine r_iconst C (v := (nI 1)) dX11_read_103 rfl ?_
                refine r_isub C (v := (nI (n - 1))) dX11_read_104 (pk_sub (by omega)) ?_
                refine r_callP C (As := [.int (nI (tb i) - nI 48), .int (nI v), .int (nI (n - 1))]) (rest := []) (st1 := [.int (bI (inI (nI (tb i) - nI 48) (nI v) (nI (n - 1))))]) miX11_in msX11_in (c_in l (nI (tb i) - nI 48) (nI v) (nI (n - 1))) hw_5_77 rfl ⟨by decide, by decide, rfl, rfl, by decide, by decide⟩ rfl (Nat.le_of_ble_eq_true rfl) dX11_read_105 rfl ?_
                refine r_if_eq C 132 dX11_read_108 (by decide) (bI_eq _) (fun h108 => ?_) (fun h108 => ?_)
                · rw [if_neg (show ¬ (48 + rdL (some v) ≤ tb i ∧ tb i < 48 + n) from fun q => ts_f h108 ((rdIn (c := tb i) (v := v) (w := n - 1) (by omega) (by omega) (by omega)).mpr ⟨q.1, by have := q.2; omega⟩))] at Rr
                  refine r_bipush C (v := (-10)) dX11_read_132 (by decide) ?_
                  refine r_iload C dX11_read_134 1 rfl ?_
                  refine r_isub C (v := ((-10) - (nI i))) dX11_read_136 rfl ?_
                  exact r_iret C dX11_read_137 Rr
                · obtain ⟨r1, r2⟩ := (rdIn (c := tb i) (v := v) (w := n - 1) (by omega) (by omega) (by omega)).mp (ts_t h108)
                  have ho := or10 (a := set) (d := tb i - 48) hset (by omega)
                  rw [if_pos (show 48 + rdL (some v) ≤ tb i ∧ tb i < 48 + n from ⟨r1, by omega⟩)] at Rr
                  refine r_iload_n C dX11_read_111 3 rfl ?_
                  refine r_iconst C (v := (nI 1)) dX11_read_112 rfl ?_
                  refine r_iload C dX11_read_113 0 rfl ?_
                  refine r_bipush C (v := (nI 48)) dX11_read_115 (by decide) ?_
                  refine r_isub C (v := (nI (tb i - 48))) dX11_read_117 (pk_sub (by omega)) ?_
                  refine r_ishl C (v := (nI (2 ^ (tb i - 48)))) dX11_read_118 (nshl1 (by omega)) ?_
                  refine r_ior C (v := (nI (set ||| (2 ^ (tb i - 48))))) dX11_read_119 (nor _ _) ?_
                  refine r_istore_n C (lv' := [(2, .int (nI (set ||| (2 ^ (tb i - 48))))), (5, .int (nI (tb i))), (4, .int (nI i)), (3, .int (nI v)), (0, .ref (ad g 19)), (1, .int (nI f))]) 2 dX11_read_120 rfl (by decide) rfl ?_
                  refine r_iload C dX11_read_121 1 rfl ?_
                  refine r_bipush C (v := (nI 48)) dX11_read_123 (by decide) ?_
                  refine r_isub C (v := (nI (tb i - 48))) dX11_read_125 (pk_sub (by omega)) ?_
                  refine r_iconst C (v := (nI 1)) dX11_read_126 rfl ?_
                  refine r_iadd C (v := (nI (tb i - 48 + 1))) dX11_read_127 (nI_add _ _) ?_
                  refine r_istore_n C (lv' := [(3, .int (nI (tb i - 48 + 1))), (2, .int (nI (set ||| (2 ^ (tb i - 48))))), (5, .int (nI (tb i))), (4, .int (nI i)), (0, .ref (ad g 19)), (1, .int (nI f))]) 3 dX11_read_128 rfl (by decide) rfl ?_
                  refine r_goto C 138 dX11_read_129 (by decide) ?_
                  refine r_iinc C (v := (nI (i + 1))) (lv' := [(4, .int (nI (i + 1))), (3, .int (nI (tb i - 48 + 1))), (2, .int (nI (set ||| (2 ^ (tb i - 48))))), (5, .int (nI (tb i))), (0, .ref (ad g 19)), (1, .int (nI f))]) 4 3 dX11_read_138 rfl (inc_N _ 1) (by decide) rfl ?_
                  refine r_goto C 25 dX11_read_141 (by decide) ?_
                  refine G_lv (lv' := [(4, .int (nI (i + 1))), (3, .int (lsI (some (tb i - 48 + 1)))), (2, .int (nI (set ||| (2 ^ (tb i - 48))))), (5, .int (nI (tb i))), (0, .ref (ad g 19)), (1, .int (nI f))]) rfl ?_
                  refine G_sub (lv' := [(4, .int (nI (i + 1))), (3, .int (lsI (some (tb i - 48 + 1)))), (2, .int (nI (set ||| (2 ^ (tb i - 48))))), (0, .ref (ad g 19)), (1, .int (nI f))]) [0, 1, 2, 4, 5] rfl ?_
                  exact ih (i + 1) (set ||| 2 ^ (tb i - 48)) (some (tb i - 48 + 1)) O (by omega) (by omega) ho (fun v q => by cases q; omega) Rr
              · have hxn := Decidable.not_not.mp h91
                subst hxn
                refine G_lv (lv' := [(5, .int (nI (tb i))), (4, .int (nI i)), (3, .int (lsI none)), (2, .int (nI set)), (0, .ref (ad g 19)), (1, .int (nI f))]) rfl ?_
                refine r_iconst C (v := (nI 0)) dX11_read_94 rfl ?_
                refine r_goto C 99 dX11_read_95 (by decide) ?_
                refine r_aload_n C dX11_read_99 4 rfl ?_
                refine r_get C X (k := 19) (R := RX11) (T := TX11) (N := 15) (n := 1) (v := .int (gI (sA M 9 (bR O)) 6)) (by decide) rfl rfl inw11 (by decide) rfl hw_5_19 rfl dX11_read_100 ?_
                refine G_top (y := (nI n)) ((gI_A _ _ _ _).trans h6) ?_
                refine r_iconst C (v := (nI 1)) dX11_read_103 rfl ?_
                refine r_isub C (v := (nI (n - 1))) dX11_read_104 (pk_sub (by omega)) ?_
                refine r_callP C (As := [.int (nI (tb i) - nI 48), .int (nI 0), .int (nI (n - 1))]) (rest := []) (st1 := [.int (bI (inI (nI (tb i) - nI 48) (nI 0) (nI (n - 1))))]) miX11_in msX11_in (c_in l (nI (tb i) - nI 48) (nI 0) (nI (n - 1))) hw_5_77 rfl ⟨by decide, by decide, rfl, rfl, by decide, by decide⟩ rfl (Nat.le_of_ble_eq_true rfl) dX11_read_105 rfl ?_
                refine r_if_eq C 132 dX11_read_108 (by decide) (bI_eq _) (fun h108 => ?_) (fun h108 => ?_)
                · rw [if_neg (show ¬ (48 + rdL none ≤ tb i ∧ tb i < 48 + n) from fun q => ts_f h108 ((rdIn (c := tb i) (v := 0) (w := n - 1) (by omega) (by omega) (by omega)).mpr ⟨q.1, by have := q.2; omega⟩))] at Rr
                  refine r_bipush C (v := (-10)) dX11_read_132 (by decide) ?_
                  refine r_iload C dX11_read_134 1 rfl ?_
                  refine r_isub C (v := ((-10) - (nI i))) dX11_read_136 rfl ?_
                  exact r_iret C dX11_read_137 Rr
                · obtain ⟨r1, r2⟩ := (rdIn (c := tb i) (v := 0) (w := n - 1) (by omega) (by omega) (by omega)).mp (ts_t h108)
                  have ho := or10 (a := set) (d := tb i - 48) hset (by omega)
                  rw [if_pos (show 48 + rdL none ≤ tb i ∧ tb i < 48 + n from ⟨r1, by omega⟩)] at Rr
                  refine r_iload_n C dX11_read_111 3 rfl ?_
                  refine r_iconst C (v := (nI 1)) dX11_read_112 rfl ?_
                  refine r_iload C dX11_read_113 0 rfl ?_
                  refine r_bipush C (v := (nI 48)) dX11_read_115 (by decide) ?_
                  refine r_isub C (v := (nI (tb i - 48))) dX11_read_117 (pk_sub (by omega)) ?_
                  refine r_ishl C (v := (nI (2 ^ (tb i - 48)))) dX11_read_118 (nshl1 (by omega)) ?_
                  refine r_ior C (v := (nI (set ||| (2 ^ (tb i - 48))))) dX11_read_119 (nor _ _) ?_
                  refine r_istore_n C (lv' := [(2, .int (nI (set ||| (2 ^ (tb i - 48))))), (5, .int (nI (tb i))), (4, .int (nI i)), (3, .int (lsI none)), (0, .ref (ad g 19)), (1, .int (nI f))]) 2 dX11_read_120 rfl (by decide) rfl ?_
                  refine r_iload C dX11_read_121 1 rfl ?_
                  refine r_bipush C (v := (nI 48)) dX11_read_123 (by decide) ?_
                  refine r_isub C (v := (nI (tb i - 48))) dX11_read_125 (pk_sub (by omega)) ?_
                  refine r_iconst C (v := (nI 1)) dX11_read_126 rfl ?_
                  refine r_iadd C (v := (nI (tb i - 48 + 1))) dX11_read_127 (nI_add _ _) ?_
                  refine r_istore_n C (lv' := [(3, .int (nI (tb i - 48 + 1))), (2, .int (nI (set ||| (2 ^ (tb i - 48))))), (5, .int (nI (tb i))), (4, .int (nI i)), (0, .ref (ad g 19)), (1, .int (nI f))]) 3 dX11_read_128 rfl (by decide) rfl ?_
                  refine r_goto C 138 dX11_read_129 (by decide) ?_
                  refine r_iinc C (v := (nI (i + 1))) (lv' := [(4, .int (nI (i + 1))), (3, .int (nI (tb i - 48 + 1))), (2, .int (nI (set ||| (2 ^ (tb i - 48))))), (5, .int (nI (tb i))), (0, .ref (ad g 19)), (1, .int (nI f))]) 4 3 dX11_read_138 rfl (inc_N _ 1) (by decide) rfl ?_
                  refine r_goto C 25 dX11_read_141 (by decide) ?_
                  refine G_lv (lv' := [(4, .int (nI (i + 1))), (3, .int (lsI (some (tb i - 48 + 1)))), (2, .int (nI (set ||| (2 ^ (tb i - 48))))), (5, .int (nI (tb i))), (0, .ref (ad g 19)), (1, .int (nI f))]) rfl ?_
                  refine G_sub (lv' := [(4, .int (nI (i + 1))), (3, .int (lsI (some (tb i - 48 + 1)))), (2, .int (nI (set ||| (2 ^ (tb i - 48))))), (0, .ref (ad g 19)), (1, .int (nI f))]) [0, 1, 2, 4, 5] rfl ?_
                  exact ih (i + 1) (set ||| 2 ^ (tb i - 48)) (some (tb i - 48 + 1)) O (by omega) (by omega) ho (fun v q => by cases q; omega) Rr
            · rw [if_pos ⟨Decidable.not_not.mp h72, Decidable.not_not.mp h76⟩] at Rr
              refine r_bipush C (v := (nI 99)) dX11_read_79 (by decide) ?_
              refine r_istore_n C (lv' := [(3, .int (nI 99)), (5, .int (nI (tb i))), (4, .int (nI i)), (2, .int (nI set)), (0, .ref (ad g 19)), (1, .int (nI f))]) 3 dX11_read_81 rfl (by decide) rfl ?_
              refine r_goto C 138 dX11_read_82 (by decide) ?_
              refine r_iinc C (v := (nI (i + 1))) (lv' := [(4, .int (nI (i + 1))), (3, .int (nI 99)), (5, .int (nI (tb i))), (2, .int (nI set)), (0, .ref (ad g 19)), (1, .int (nI f))]) 4 2 dX11_read_138 rfl (inc_N _ 1) (by decide) rfl ?_
              refine r_goto C 25 dX11_read_141 (by decide) ?_
              refine G_lv (lv' := [(4, .int (nI (i + 1))), (3, .int (lsI (some 99))), (5, .int (nI (tb i))), (2, .int (nI set)), (0, .ref (ad g 19)), (1, .int (nI f))]) rfl ?_
              refine G_sub (lv' := [(4, .int (nI (i + 1))), (3, .int (lsI (some 99))), (2, .int (nI set)), (0, .ref (ad g 19)), (1, .int (nI f))]) [0, 1, 3, 4, 5] rfl ?_
              exact ih (i + 1) set (some 99) O (by omega) (by omega) hset (fun v q => by cases q; decide) Rr
        · rw [if_pos ⟨Decidable.not_not.mp h47, h51⟩] at Rr
          refine r_aload_n C dX11_read_54 4 rfl ?_
          refine r_get C X (k := 19) (R := RX11) (T := TX11) (N := 15) (n := 8) (v := .ref (ad g 24)) (by decide) rfl rfl inw11 (by decide) rfl hw_5_26 rfl dX11_read_55 ?_
          refine r_iload_n C dX11_read_58 3 rfl ?_
          refine r_iconst C (v := (nI 1)) dX11_read_59 rfl ?_
          refine G_top (y := (bI true)) rfl ?_
          refine r_zast C X (k := 24) (f' := bR (upB O set true)) (μ' := (sA (sA M 9 (bR O)) 9 (bR (upB O set true)))) (by decide) rfl (by omega) (by decide) (by rw [gA_s]; exact bR_up _ _ _) dX11_read_60 (congrArg (iR g 3 1024) (gA_s _ _ _)) (WF_sA9_ne g _ _) ?_
          refine G_mem (μ' := (sA M 9 (bR (upB O set true)))) (sA_u _ _ _ _) ?_
          refine r_iconst C (v := (nI 0)) dX11_read_61 rfl ?_
          refine r_istore_n C (lv' := [(2, .int (nI 0)), (5, .int (nI (tb i))), (4, .int (nI i)), (3, .int (lsI x)), (0, .ref (ad g 19)), (1, .int (nI f))]) 2 dX11_read_62 rfl (by decide) rfl ?_
          refine r_iconst C (v := (-1)) dX11_read_63 rfl ?_
          refine r_istore_n C (lv' := [(3, .int (-1)), (2, .int (nI 0)), (5, .int (nI (tb i))), (4, .int (nI i)), (0, .ref (ad g 19)), (1, .int (nI f))]) 3 dX11_read_64 rfl (by decide) rfl ?_
          refine r_goto C 138 dX11_read_65 (by decide) ?_
          refine r_iinc C (v := (nI (i + 1))) (lv' := [(4, .int (nI (i + 1))), (3, .int (-1)), (2, .int (nI 0)), (5, .int (nI (tb i))), (0, .ref (ad g 19)), (1, .int (nI f))]) 4 3 dX11_read_138 rfl (inc_N _ 1) (by decide) rfl ?_
          refine r_goto C 25 dX11_read_141 (by decide) ?_
          refine G_lv (lv' := [(4, .int (nI (i + 1))), (3, .int (lsI none)), (2, .int (nI 0)), (5, .int (nI (tb i))), (0, .ref (ad g 19)), (1, .int (nI f))]) rfl ?_
          refine G_sub (lv' := [(4, .int (nI (i + 1))), (3, .int (lsI none)), (2, .int (nI 0)), (0, .ref (ad g 19)), (1, .int (nI f))]) [0, 1, 2, 4, 5] rfl ?_
          exact ih (i + 1) 0 none (upB O set true) (by omega) (by omega) (by decide) (fun v q => by cases q) Rr
set_option maxHeartbeats 1000000 in
set_option maxRecDepth 100000 in
theorem y_read (l : Launch) (g : Gd) (μ : Mm) {F P O : Nat → Bool} {n ps f ty : Nat} (hM : Mo μ F P O n ps) (hf : f < 4) {tb : Nat → Nat} (hty : gI μ 8 = nI ty) (ht : ty ≤ 120) (hb : ∀ i, i < ty → gA μ 8 i = nI (tb i) ∧ tb i < 128) : Ct l yX11_read cX11_read 6 (some .int) (rmk 3 68) g [.ref (ad g 19), .int (nI f)] μ (some (.int (rdV F n f (rdF n ty tb ty 0 0 none (rowU 1024 (fun _ => false) O))))) (rdK (mgM μ true true) F P n ps f (rdF n ty tb ty 0 0 none (rowU 1024 (fun _ => false) O))) := by
  obtain ⟨h6, h7, hps, h5, hP, hO, h1n, hn10⟩ := hM
  have h1024 := pw10 hn10
  have h2n := Nat.two_pow_pos n
  refine Ct.of (by decide) (Nat.le_of_ble_eq_true rfl) (fun z A C X Rr => ?_)
  refine r_aload_n C dX11_read_0 0 rfl ?_
  refine r_iload_n C dX11_read_1 1 rfl ?_
  refine r_callP C (As := [.int (nI f)]) (rest := [.ref (ad g 19)]) (st1 := [.int (bI (inI (nI f) (nI 0) (nI 3))), .ref (ad g 19)]) miX11_isPlace msX11_isPlace (c_isPlace l (nI f)) hw_5_92 rfl ⟨by decide, by decide, rfl, rfl, by decide, by decide⟩ rfl (Nat.le_of_ble_eq_true rfl) dX11_read_2 rfl ?_
  refine G_top (y := (bI true)) (congrArg bI (inN (v := f) (Nat.zero_le _) (by omega) (by decide))) ?_
  refine r_iconst C (v := (nI 1)) dX11_read_5 rfl ?_
  refine G_top (y := (bI true)) rfl ?_
  refine r_callV C X (As := [.int (bI true), .int (bI true)]) (rest := []) (st1 := [.int (bI (true && true))]) (μ' := (mgM μ true true)) (k := 19) (T := TX11) miX11_mayGo mvX11_mayGo (c_mayGo l g μ true true) hw_5_103 (by decide) rfl rfl rfl ⟨by decide, by decide, rfl, rfl, by decide, by decide⟩ rfl (Nat.le_of_ble_eq_true rfl) dX11_read_6 rfl ?_
  refine r_if_ne C 14 dX11_read_9 (by decide) (bI_ne _) (fun h9 => ?_) (fun h9 => ?_)
  · refine r_aload_n C dX11_read_14 0 rfl ?_
    refine r_callV C X (As := []) (rest := []) (st1 := []) (μ' := (sA (mgM μ true true) 9 (bR (rowU 1024 (fun _ => false) O)))) (k := 19) (T := TX11) miX11_empties mvX11_empties (c_empties l g (mgM μ true true) (O := O) ((gA_I _ _ _ _).trans hO)) hw_5_154 (by decide) rfl rfl rfl ⟨by decide, by decide, rfl, rfl, by decide, by decide⟩ rfl (Nat.le_of_ble_eq_true rfl) dX11_read_15 rfl ?_
    refine r_iconst C (v := (nI 0)) dX11_read_18 rfl ?_
    refine r_istore_n C (lv' := [(2, .int (nI 0)), (0, .ref (ad g 19)), (1, .int (nI f))]) 2 dX11_read_19 rfl (by decide) rfl ?_
    refine r_iconst C (v := (-1)) dX11_read_20 rfl ?_
    refine r_istore_n C (lv' := [(3, .int (-1)), (2, .int (nI 0)), (0, .ref (ad g 19)), (1, .int (nI f))]) 3 dX11_read_21 rfl (by decide) rfl ?_
    refine r_iconst C (v := (nI 0)) dX11_read_22 rfl ?_
    refine r_istore C (lv' := [(4, .int (nI 0)), (3, .int (-1)), (2, .int (nI 0)), (0, .ref (ad g 19)), (1, .int (nI f))]) 4 dX11_read_23 (by decide) rfl ?_
    refine G_lv (lv' := [(4, .int (nI 0)), (3, .int (lsI none)), (2, .int (nI 0)), (0, .ref (ad g 19)), (1, .int (nI f))]) rfl ?_
    exact lp_readM C X (M := mgM μ true true) ((gI_mgM (by decide)).trans h6) ((gI_mgM (by decide)).trans h7) hps (gA_mgM.trans h5) (gA_mgM.trans hP) h1n hn10 hf ((gI_mgM (by decide)).trans hty) ht hb (ty + 1) 0 0 none (rowU 1024 (fun _ => false) O) (by omega) (by omega) (by decide) (fun v q => by cases q) Rr
  · exact absurd rfl h9
