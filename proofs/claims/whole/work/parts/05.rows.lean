section ROWS
variable {z : Zt} {D : va_G} {A : Nat → Prop} {nL : Nat} {ws : va_W} {ce sl pc : Nat} {lv : List (Nat × Value)} {st : List Value} {l : Launch} {rm : Room} {cc : ByteArray} {own : String} {g : Gd} {μ μ' : Mm}
theorem r_get (C : Cx z A l rm cc nL own) (X : Kx z g A) {k ci n i : Nat} {T : u_T} {N : Nat} {R : String} {fs : List Value} {v : Value} (hk : k < 132) (he : WF g μ k = .inr (ci, fs)) (hc : vwCl[ci]? = some (R, T, N)) (hin : ∀ w ∈ u_ws R T N, w ∈ gw) (hn : n < N) (hT : (T n).1 = R) (hw : Cond.fieldLink own i R (T n).2.1 (T n).2.2.1 ∈ gw) (hv : fs[n]? = some v) (hd : decode cc pc = .ok (.getfield i, 3)) (K : G z g.1 A nL (wd g μ) ce sl (pc + 3) lv (v :: st)) : G z g.1 A nL (wd g μ) ce sl pc lv (.ref (ad g k) :: st) :=
  fun H locs ls hP hD hS hl => va_get C.hx C.hb C.hts hin C.hown X.1 hP k (wd_at hk he) hc n hn (C.hts _ hw) (fun x h => by rw [hT] at h; exact h) hv hd (K H locs ls hP hD hS hl)
theorem r_put (C : Cx z A l rm cc nL own) (X : Kx z g A) {k ci n i : Nat} {T : u_T} {N : Nat} {R : String} {fs : List Value} {v : Value} {ty : FieldType} {ty0 : Nat → FieldType} (hk : k < 132) (he : WF g μ k = .inr (ci, fs)) (hc : vwCl[ci]? = some (R, T, N)) (hin : ∀ w ∈ u_ws R T N, w ∈ gw) (hty : ∀ k, k < N → parseFieldDescriptor (T k).2.2.1 = some (ty0 k)) (hnm : ∀ a, a < N → ∀ b, b < N → a ≠ b → (T a).2.1 ≠ (T b).2.1) (hn : n < N) (hT : (T n).1 = R) (hw : Cond.fieldLink own i R (T n).2.1 (T n).2.2.1 ∈ gw) (hfin : (T n).2.2.2 = false) (hpd : parseFieldDescriptor (T n).2.2.1 = some ty) (hnr : narrow ty v = v) (hfit : fits ty v = true) (hlen : n < fs.length) (hd : decode cc pc = .ok (.putfield i, 3)) (he' : WF g μ' k = .inr (ci, fs.set n v)) (hne : ∀ j, j < 132 → j ≠ k → WF g μ' j = WF g μ j) (K : G z g.1 A nL (wd g μ') ce sl (pc + 3) lv st) : G z g.1 A nL (wd g μ) ce sl pc lv (v :: .ref (ad g k) :: st) :=
  fun H locs ls hP hD hS hl => va_put C.hx C.hb C.hts hin ty0 hty hnm C.hown X.1 hP hD hS k (wd_at hk he) hc n hn (C.hts _ hw) (fun x h => by rw [hT] at h; exact h) hfin hpd hnr hfit hlen hd (fun H1 locs1 hP1 hD1 hS1 => by rw [wd_set hk he' hne] at hP1 hD1; exact K H1 locs1 ls hP1 hD1 hS1 hl)
theorem r_iald (C : Cx z A l rm cc nL own) (X : Kx z g A) {k n j : Nat} {f : Nat → Int32} {v : Int32} (hk : k < 132) (he : WF g μ k = iR g 1 n f) (hj : j < n) (hb31 : n < 2 ^ 31) (hv : f j = v) (hd : decode cc pc = .ok (.iaload, 1)) (K : G z g.1 A nL (wd g μ) ce sl (pc + 1) lv (.int v :: st)) : G z g.1 A nL (wd g μ) ce sl pc lv (.int (nI j) :: .ref (ad g k) :: st) :=
  fun H locs ls hP hD hS hl => va_iald C.hx C.hb X.1 hP k 1 (wd_at hk he) rfl (vp_in_nI hj hb31) hd (by rw [nI_clamp (Nat.lt_trans hj hb31), hv]; exact K H locs ls hP hD hS hl)
theorem r_bald (C : Cx z A l rm cc nL own) (X : Kx z g A) {k n j : Nat} {f : Nat → Int32} {v : Int32} (hk : k < 132) (he : WF g μ k = iR g 0 n f) (hj : j < n) (hb31 : n < 2 ^ 31) (hv : f j = v) (hd : decode cc pc = .ok (.baload, 1)) (K : G z g.1 A nL (wd g μ) ce sl (pc + 1) lv (.int v :: st)) : G z g.1 A nL (wd g μ) ce sl pc lv (.int (nI j) :: .ref (ad g k) :: st) :=
  fun H locs ls hP hD hS hl => va_bald C.hx C.hb X.1 hP k 0 (wd_at hk he) rfl (vp_in_nI hj hb31) hd (by rw [nI_clamp (Nat.lt_trans hj hb31), hv]; exact K H locs ls hP hD hS hl)
theorem r_zald (C : Cx z A l rm cc nL own) (X : Kx z g A) {k n j : Nat} {f : Nat → Int32} {v : Int32} (hk : k < 132) (he : WF g μ k = iR g 3 n f) (hj : j < n) (hb31 : n < 2 ^ 31) (hv : f j = v) (hd : decode cc pc = .ok (.baload, 1)) (K : G z g.1 A nL (wd g μ) ce sl (pc + 1) lv (.int v :: st)) : G z g.1 A nL (wd g μ) ce sl pc lv (.int (nI j) :: .ref (ad g k) :: st) :=
  fun H locs ls hP hD hS hl => va_zald C.hx C.hb X.1 hP k 3 (wd_at hk he) rfl (vp_in_nI hj hb31) hd (by rw [nI_clamp (Nat.lt_trans hj hb31), hv]; exact K H locs ls hP hD hS hl)
theorem r_lald (C : Cx z A l rm cc nL own) (X : Kx z g A) {k n j : Nat} {f : Nat → Int64} {v : Int64} (hk : k < 132) (he : WF g μ k = jR g n f) (hj : j < n) (hb31 : n < 2 ^ 31) (hv : f j = v) (hd : decode cc pc = .ok (.laload, 1)) (K : G z g.1 A nL (wd g μ) ce sl (pc + 1) lv (.long v :: st)) : G z g.1 A nL (wd g μ) ce sl pc lv (.int (nI j) :: .ref (ad g k) :: st) :=
  fun H locs ls hP hD hS hl => va_lald C.hx C.hb X.1 hP k 2 (wd_at hk he) rfl (vp_in_nI hj hb31) hd (by rw [nI_clamp (Nat.lt_trans hj hb31), hv]; exact K H locs ls hP hD hS hl)
theorem r_aald (C : Cx z A l rm cc nL own) (X : Kx z g A) {k n b j : Nat} (hk : k < 132) (he : WF g μ k = aR g n b) (hj : j < n) (hb31 : n < 2 ^ 31) (hd : decode cc pc = .ok (.aaload, 1)) (K : G z g.1 A nL (wd g μ) ce sl (pc + 1) lv (.ref (ad g (fo (b + j))) :: st)) : G z g.1 A nL (wd g μ) ce sl pc lv (.int (nI j) :: .ref (ad g k) :: st) :=
  fun H locs ls hP hD hS hl => va_aldq C.hx C.hb X.1 hP k 4 (wd_at hk he) rfl (vp_in_nI hj hb31) hd (by rw [nI_clamp (Nat.lt_trans hj hb31)]; exact K H locs ls hP hD hS hl)
theorem r_alen (C : Cx z A l rm cc nL own) (X : Kx z g A) {k t n : Nat} {ty : FieldType} {x : vp_A} {cA : ClassId} (hk : k < 132) (he : WF g μ k = .inl (cA, x)) (ht : (tys g)[t]? = some (cA, ty)) (hx : x.1 = n) (hd : decode cc pc = .ok (.arraylength, 1)) (K : G z g.1 A nL (wd g μ) ce sl (pc + 1) lv (.int (nI n) :: st)) : G z g.1 A nL (wd g μ) ce sl pc lv (.ref (ad g k) :: st) :=
  fun H locs ls hP hD hS hl => va_alen C.hx C.hb X.1 hP k t (wd_at hk he) ht (by rw [hx]; rfl) hd (K H locs ls hP hD hS hl)
theorem r_iast (C : Cx z A l rm cc nL own) (X : Kx z g A) {k n j : Nat} {f f' : Nat → Int32} {x : Int32} (hk : k < 132) (he : WF g μ k = iR g 1 n f) (hj : j < n) (hb31 : n < 2 ^ 31) (hf : upd f j (x) = f') (hd : decode cc pc = .ok (.iastore, 1)) (he' : WF g μ' k = iR g 1 n f') (hne : ∀ i, i < 132 → i ≠ k → WF g μ' i = WF g μ i) (K : G z g.1 A nL (wd g μ') ce sl (pc + 1) lv st) : G z g.1 A nL (wd g μ) ce sl pc lv (.int x :: .int (nI j) :: .ref (ad g k) :: st) :=
  fun H locs ls hP hD hS hl => va_iast C.hx C.hb X.1 hP hD hS k 1 (wd_at hk he) rfl (vp_in_nI hj hb31) hd (fun H1 locs1 hP1 hD1 hS1 => by rw [nI_clamp (Nat.lt_trans hj hb31), hf] at hP1 hD1; rw [wd_set hk he' hne] at hP1 hD1; exact K H1 locs1 ls hP1 hD1 hS1 hl)
theorem r_bast (C : Cx z A l rm cc nL own) (X : Kx z g A) {k n j : Nat} {f f' : Nat → Int32} {x : Int32} (hk : k < 132) (he : WF g μ k = iR g 0 n f) (hj : j < n) (hb31 : n < 2 ^ 31) (hf : upd f j (vp_nar .byte x) = f') (hd : decode cc pc = .ok (.bastore, 1)) (he' : WF g μ' k = iR g 0 n f') (hne : ∀ i, i < 132 → i ≠ k → WF g μ' i = WF g μ i) (K : G z g.1 A nL (wd g μ') ce sl (pc + 1) lv st) : G z g.1 A nL (wd g μ) ce sl pc lv (.int x :: .int (nI j) :: .ref (ad g k) :: st) :=
  fun H locs ls hP hD hS hl => va_bast C.hx C.hb X.1 hP hD hS k 0 (wd_at hk he) rfl (vp_in_nI hj hb31) hd (fun H1 locs1 hP1 hD1 hS1 => by rw [nI_clamp (Nat.lt_trans hj hb31), hf] at hP1 hD1; rw [wd_set hk he' hne] at hP1 hD1; exact K H1 locs1 ls hP1 hD1 hS1 hl)
theorem r_zast (C : Cx z A l rm cc nL own) (X : Kx z g A) {k n j : Nat} {f f' : Nat → Int32} {x : Int32} (hk : k < 132) (he : WF g μ k = iR g 3 n f) (hj : j < n) (hb31 : n < 2 ^ 31) (hf : upd f j (vp_nar .boolean x) = f') (hd : decode cc pc = .ok (.bastore, 1)) (he' : WF g μ' k = iR g 3 n f') (hne : ∀ i, i < 132 → i ≠ k → WF g μ' i = WF g μ i) (K : G z g.1 A nL (wd g μ') ce sl (pc + 1) lv st) : G z g.1 A nL (wd g μ) ce sl pc lv (.int x :: .int (nI j) :: .ref (ad g k) :: st) :=
  fun H locs ls hP hD hS hl => va_zast C.hx C.hb X.1 hP hD hS k 3 (wd_at hk he) rfl (vp_in_nI hj hb31) hd (fun H1 locs1 hP1 hD1 hS1 => by rw [nI_clamp (Nat.lt_trans hj hb31), hf] at hP1 hD1; rw [wd_set hk he' hne] at hP1 hD1; exact K H1 locs1 ls hP1 hD1 hS1 hl)
theorem r_last (C : Cx z A l rm cc nL own) (X : Kx z g A) {k n j : Nat} {f f' : Nat → Int64} {x : Int64} (hk : k < 132) (he : WF g μ k = jR g n f) (hj : j < n) (hb31 : n < 2 ^ 31) (hf : vp_updL f j x = f') (hd : decode cc pc = .ok (.lastore, 1)) (he' : WF g μ' k = jR g n f') (hne : ∀ i, i < 132 → i ≠ k → WF g μ' i = WF g μ i) (K : G z g.1 A nL (wd g μ') ce sl (pc + 1) lv st) : G z g.1 A nL (wd g μ) ce sl pc lv (.long x :: .int (nI j) :: .ref (ad g k) :: st) :=
  fun H locs ls hP hD hS hl => va_last C.hx C.hb X.1 hP hD hS k 2 (wd_at hk he) rfl (vp_in_nI hj hb31) hd (fun H1 locs1 hP1 hD1 hS1 => by rw [nI_clamp (Nat.lt_trans hj hb31), hf] at hP1 hD1; rw [wd_set hk he' hne] at hP1 hD1; exact K H1 locs1 ls hP1 hD1 hS1 hl)
/-! the memory's changes leave the other cells -/
theorem WF_sJ_fw (g : Gd) (μ : Mm) (i : Nat) (f : Nat → Int64) : WF g (sJ μ i f) (fw i) = jR g 16 f := by rw [WF_fw, gJ_s]
theorem WF_sJ_ne (g : Gd) (μ : Mm) {i : Nat} (hi : i < 52) (f : Nat → Int64) : ∀ j, j < 132 → j ≠ fw i → WF g (sJ μ i f) j = WF g μ j := by
  intro j hj hn
  unfold fw at hn
  match j, hn with
  | 0, _ | 1, _ | 2, _ | 3, _ | 4, _ | 5, _ | 6, _ | 7, _ | 8, _ | 9, _ | 10, _ | 11, _ | 12, _ | 13, _ | 14, _ | 15, _ | 16, _ | 18, _ | 19, _ | 20, _ | 21, _ | 22, _ | 23, _ | 24, _ | 25, _ | 26, _ => rfl
  | 17, _ => show jR g 11 _ = jR g 11 _; rw [gJ_n μ f (by omega)]
  | 27, _ => show jR g 1 _ = jR g 1 _; rw [gJ_n μ f (by omega)]
  | n + 28, hn =>
    show (if n % 2 = 0 then _ else _) = (if n % 2 = 0 then _ else _)
    by_cases h : n % 2 = 0
    · rw [if_pos h, if_pos h]
    · rw [if_neg h, if_neg h, gJ_n μ f (by omega)]

theorem WF_sJ52_ne (g : Gd) (μ : Mm) (f : Nat → Int64) : ∀ j, j < 132 → j ≠ 17 → WF g (sJ μ 52 f) j = WF g μ j := by
  intro j hj hn
  match j, hn with
  | 0, _ | 1, _ | 2, _ | 3, _ | 4, _ | 5, _ | 6, _ | 7, _ | 8, _ | 9, _ | 10, _ | 11, _ | 12, _ | 13, _ | 14, _ | 15, _ | 16, _ | 18, _ | 19, _ | 20, _ | 21, _ | 22, _ | 23, _ | 24, _ | 25, _ | 26, _ => rfl
  | 17, hn => exact absurd rfl hn
  | 27, _ => rfl
  | n + 28, hn =>
    show (if n % 2 = 0 then _ else _) = (if n % 2 = 0 then _ else _)
    by_cases h : n % 2 = 0
    · rw [if_pos h, if_pos h]
    · rw [if_neg h, if_neg h, gJ_n μ f (by omega)]
theorem WF_sJ53_ne (g : Gd) (μ : Mm) (f : Nat → Int64) : ∀ j, j < 132 → j ≠ 27 → WF g (sJ μ 53 f) j = WF g μ j := by
  intro j hj hn
  match j, hn with
  | 0, _ | 1, _ | 2, _ | 3, _ | 4, _ | 5, _ | 6, _ | 7, _ | 8, _ | 9, _ | 10, _ | 11, _ | 12, _ | 13, _ | 14, _ | 15, _ | 16, _ | 18, _ | 19, _ | 20, _ | 21, _ | 22, _ | 23, _ | 24, _ | 25, _ | 26, _ => rfl
  | 27, hn => exact absurd rfl hn
  | 17, _ => rfl
  | n + 28, hn =>
    show (if n % 2 = 0 then _ else _) = (if n % 2 = 0 then _ else _)
    by_cases h : n % 2 = 0
    · rw [if_pos h, if_pos h]
    · rw [if_neg h, if_neg h, gJ_n μ f (by omega)]
theorem WF_sA0_ne (g : Gd) (μ : Mm) (f : Nat → Int32) : ∀ j, j < 132 → j ≠ 4 → WF g (sA μ 0 f) j = WF g μ j := by
  intro j hj hn
  match j, hn with
  | 0, _ | 1, _ | 2, _ | 3, _ | 5, _ | 6, _ | 7, _ | 8, _ | 9, _ | 10, _ | 11, _ | 12, _ | 13, _ | 14, _ | 15, _ | 16, _ | 17, _ | 18, _ | 19, _ | 20, _ | 21, _ | 22, _ | 23, _ | 24, _ | 25, _ | 26, _ | 27, _ => rfl
  | 4, hn => exact absurd rfl hn
  | n + 28, hn => rfl
theorem WF_sA1_ne (g : Gd) (μ : Mm) (f : Nat → Int32) : ∀ j, j < 132 → j ≠ 7 → WF g (sA μ 1 f) j = WF g μ j := by
  intro j hj hn
  match j, hn with
  | 0, _ | 1, _ | 2, _ | 3, _ | 4, _ | 5, _ | 6, _ | 8, _ | 9, _ | 10, _ | 11, _ | 12, _ | 13, _ | 14, _ | 15, _ | 16, _ | 17, _ | 18, _ | 19, _ | 20, _ | 21, _ | 22, _ | 23, _ | 24, _ | 25, _ | 26, _ | 27, _ => rfl
  | 7, hn => exact absurd rfl hn
  | n + 28, hn => rfl
theorem WF_sA2_ne (g : Gd) (μ : Mm) (f : Nat → Int32) : ∀ j, j < 132 → j ≠ 14 → WF g (sA μ 2 f) j = WF g μ j := by
  intro j hj hn
  match j, hn with
  | 0, _ | 1, _ | 2, _ | 3, _ | 4, _ | 5, _ | 6, _ | 7, _ | 8, _ | 9, _ | 10, _ | 11, _ | 12, _ | 13, _ | 15, _ | 16, _ | 17, _ | 18, _ | 19, _ | 20, _ | 21, _ | 22, _ | 23, _ | 24, _ | 25, _ | 26, _ | 27, _ => rfl
  | 14, hn => exact absurd rfl hn
  | n + 28, hn => rfl
theorem WF_sA3_ne (g : Gd) (μ : Mm) (f : Nat → Int32) : ∀ j, j < 132 → j ≠ 16 → WF g (sA μ 3 f) j = WF g μ j := by
  intro j hj hn
  match j, hn with
  | 0, _ | 1, _ | 2, _ | 3, _ | 4, _ | 5, _ | 6, _ | 7, _ | 8, _ | 9, _ | 10, _ | 11, _ | 12, _ | 13, _ | 14, _ | 15, _ | 17, _ | 18, _ | 19, _ | 20, _ | 21, _ | 22, _ | 23, _ | 24, _ | 25, _ | 26, _ | 27, _ => rfl
  | 16, hn => exact absurd rfl hn
  | n + 28, hn => rfl
theorem WF_sA4_ne (g : Gd) (μ : Mm) (f : Nat → Int32) : ∀ j, j < 132 → j ≠ 18 → WF g (sA μ 4 f) j = WF g μ j := by
  intro j hj hn
  match j, hn with
  | 0, _ | 1, _ | 2, _ | 3, _ | 4, _ | 5, _ | 6, _ | 7, _ | 8, _ | 9, _ | 10, _ | 11, _ | 12, _ | 13, _ | 14, _ | 15, _ | 16, _ | 17, _ | 19, _ | 20, _ | 21, _ | 22, _ | 23, _ | 24, _ | 25, _ | 26, _ | 27, _ => rfl
  | 18, hn => exact absurd rfl hn
  | n + 28, hn => rfl
theorem WF_sA5_ne (g : Gd) (μ : Mm) (f : Nat → Int32) : ∀ j, j < 132 → j ≠ 20 → WF g (sA μ 5 f) j = WF g μ j := by
  intro j hj hn
  match j, hn with
  | 0, _ | 1, _ | 2, _ | 3, _ | 4, _ | 5, _ | 6, _ | 7, _ | 8, _ | 9, _ | 10, _ | 11, _ | 12, _ | 13, _ | 14, _ | 15, _ | 16, _ | 17, _ | 18, _ | 19, _ | 21, _ | 22, _ | 23, _ | 24, _ | 25, _ | 26, _ | 27, _ => rfl
  | 20, hn => exact absurd rfl hn
  | n + 28, hn => rfl
theorem WF_sA6_ne (g : Gd) (μ : Mm) (f : Nat → Int32) : ∀ j, j < 132 → j ≠ 21 → WF g (sA μ 6 f) j = WF g μ j := by
  intro j hj hn
  match j, hn with
  | 0, _ | 1, _ | 2, _ | 3, _ | 4, _ | 5, _ | 6, _ | 7, _ | 8, _ | 9, _ | 10, _ | 11, _ | 12, _ | 13, _ | 14, _ | 15, _ | 16, _ | 17, _ | 18, _ | 19, _ | 20, _ | 22, _ | 23, _ | 24, _ | 25, _ | 26, _ | 27, _ => rfl
  | 21, hn => exact absurd rfl hn
  | n + 28, hn => rfl
theorem WF_sA7_ne (g : Gd) (μ : Mm) (f : Nat → Int32) : ∀ j, j < 132 → j ≠ 22 → WF g (sA μ 7 f) j = WF g μ j := by
  intro j hj hn
  match j, hn with
  | 0, _ | 1, _ | 2, _ | 3, _ | 4, _ | 5, _ | 6, _ | 7, _ | 8, _ | 9, _ | 10, _ | 11, _ | 12, _ | 13, _ | 14, _ | 15, _ | 16, _ | 17, _ | 18, _ | 19, _ | 20, _ | 21, _ | 23, _ | 24, _ | 25, _ | 26, _ | 27, _ => rfl
  | 22, hn => exact absurd rfl hn
  | n + 28, hn => rfl
theorem WF_sA8_ne (g : Gd) (μ : Mm) (f : Nat → Int32) : ∀ j, j < 132 → j ≠ 23 → WF g (sA μ 8 f) j = WF g μ j := by
  intro j hj hn
  match j, hn with
  | 0, _ | 1, _ | 2, _ | 3, _ | 4, _ | 5, _ | 6, _ | 7, _ | 8, _ | 9, _ | 10, _ | 11, _ | 12, _ | 13, _ | 14, _ | 15, _ | 16, _ | 17, _ | 18, _ | 19, _ | 20, _ | 21, _ | 22, _ | 24, _ | 25, _ | 26, _ | 27, _ => rfl
  | 23, hn => exact absurd rfl hn
  | n + 28, hn => rfl
theorem WF_sA9_ne (g : Gd) (μ : Mm) (f : Nat → Int32) : ∀ j, j < 132 → j ≠ 24 → WF g (sA μ 9 f) j = WF g μ j := by
  intro j hj hn
  match j, hn with
  | 0, _ | 1, _ | 2, _ | 3, _ | 4, _ | 5, _ | 6, _ | 7, _ | 8, _ | 9, _ | 10, _ | 11, _ | 12, _ | 13, _ | 14, _ | 15, _ | 16, _ | 17, _ | 18, _ | 19, _ | 20, _ | 21, _ | 22, _ | 23, _ | 25, _ | 26, _ | 27, _ => rfl
  | 24, hn => exact absurd rfl hn
  | n + 28, hn => rfl
theorem WF_sA10_ne (g : Gd) (μ : Mm) (f : Nat → Int32) : ∀ j, j < 132 → j ≠ 25 → WF g (sA μ 10 f) j = WF g μ j := by
  intro j hj hn
  match j, hn with
  | 0, _ | 1, _ | 2, _ | 3, _ | 4, _ | 5, _ | 6, _ | 7, _ | 8, _ | 9, _ | 10, _ | 11, _ | 12, _ | 13, _ | 14, _ | 15, _ | 16, _ | 17, _ | 18, _ | 19, _ | 20, _ | 21, _ | 22, _ | 23, _ | 24, _ | 26, _ | 27, _ => rfl
  | 25, hn => exact absurd rfl hn
  | n + 28, hn => rfl
theorem WF_sA11_ne (g : Gd) (μ : Mm) (f : Nat → Int32) : ∀ j, j < 132 → j ≠ 26 → WF g (sA μ 11 f) j = WF g μ j := by
  intro j hj hn
  match j, hn with
  | 0, _ | 1, _ | 2, _ | 3, _ | 4, _ | 5, _ | 6, _ | 7, _ | 8, _ | 9, _ | 10, _ | 11, _ | 12, _ | 13, _ | 14, _ | 15, _ | 16, _ | 17, _ | 18, _ | 19, _ | 20, _ | 21, _ | 22, _ | 23, _ | 24, _ | 25, _ | 27, _ => rfl
  | 26, hn => exact absurd rfl hn
  | n + 28, hn => rfl
theorem WF_sI0_ne (g : Gd) (μ : Mm) (f : Int32) : ∀ j, j < 132 → j ≠ 1 → WF g (sI μ 0 f) j = WF g μ j := by
  intro j hj hn
  match j, hn with
  | 0, _ | 2, _ | 3, _ | 4, _ | 5, _ | 6, _ | 7, _ | 8, _ | 9, _ | 10, _ | 11, _ | 12, _ | 13, _ | 14, _ | 15, _ | 16, _ | 17, _ | 18, _ | 19, _ | 20, _ | 21, _ | 22, _ | 23, _ | 24, _ | 25, _ | 26, _ | 27, _ => rfl
  | 1, hn => exact absurd rfl hn
  | n + 28, hn => rfl
theorem WF_sI1_ne (g : Gd) (μ : Mm) (f : Int32) : ∀ j, j < 132 → j ≠ 1 → WF g (sI μ 1 f) j = WF g μ j := by
  intro j hj hn
  match j, hn with
  | 0, _ | 2, _ | 3, _ | 4, _ | 5, _ | 6, _ | 7, _ | 8, _ | 9, _ | 10, _ | 11, _ | 12, _ | 13, _ | 14, _ | 15, _ | 16, _ | 17, _ | 18, _ | 19, _ | 20, _ | 21, _ | 22, _ | 23, _ | 24, _ | 25, _ | 26, _ | 27, _ => rfl
  | 1, hn => exact absurd rfl hn
  | n + 28, hn => rfl
theorem WF_sI2_ne (g : Gd) (μ : Mm) (f : Int32) : ∀ j, j < 132 → j ≠ 3 → WF g (sI μ 2 f) j = WF g μ j := by
  intro j hj hn
  match j, hn with
  | 0, _ | 1, _ | 2, _ | 4, _ | 5, _ | 6, _ | 7, _ | 8, _ | 9, _ | 10, _ | 11, _ | 12, _ | 13, _ | 14, _ | 15, _ | 16, _ | 17, _ | 18, _ | 19, _ | 20, _ | 21, _ | 22, _ | 23, _ | 24, _ | 25, _ | 26, _ | 27, _ => rfl
  | 3, hn => exact absurd rfl hn
  | n + 28, hn => rfl
theorem WF_sI3_ne (g : Gd) (μ : Mm) (f : Int32) : ∀ j, j < 132 → j ≠ 3 → WF g (sI μ 3 f) j = WF g μ j := by
  intro j hj hn
  match j, hn with
  | 0, _ | 1, _ | 2, _ | 4, _ | 5, _ | 6, _ | 7, _ | 8, _ | 9, _ | 10, _ | 11, _ | 12, _ | 13, _ | 14, _ | 15, _ | 16, _ | 17, _ | 18, _ | 19, _ | 20, _ | 21, _ | 22, _ | 23, _ | 24, _ | 25, _ | 26, _ | 27, _ => rfl
  | 3, hn => exact absurd rfl hn
  | n + 28, hn => rfl
theorem WF_sI4_ne (g : Gd) (μ : Mm) (f : Int32) : ∀ j, j < 132 → j ≠ 6 → WF g (sI μ 4 f) j = WF g μ j := by
  intro j hj hn
  match j, hn with
  | 0, _ | 1, _ | 2, _ | 3, _ | 4, _ | 5, _ | 7, _ | 8, _ | 9, _ | 10, _ | 11, _ | 12, _ | 13, _ | 14, _ | 15, _ | 16, _ | 17, _ | 18, _ | 19, _ | 20, _ | 21, _ | 22, _ | 23, _ | 24, _ | 25, _ | 26, _ | 27, _ => rfl
  | 6, hn => exact absurd rfl hn
  | n + 28, hn => rfl
theorem WF_sI5_ne (g : Gd) (μ : Mm) (f : Int32) : ∀ j, j < 132 → j ≠ 19 → WF g (sI μ 5 f) j = WF g μ j := by
  intro j hj hn
  match j, hn with
  | 0, _ | 1, _ | 2, _ | 3, _ | 4, _ | 5, _ | 6, _ | 7, _ | 8, _ | 9, _ | 10, _ | 11, _ | 12, _ | 13, _ | 14, _ | 15, _ | 16, _ | 17, _ | 18, _ | 20, _ | 21, _ | 22, _ | 23, _ | 24, _ | 25, _ | 26, _ | 27, _ => rfl
  | 19, hn => exact absurd rfl hn
  | n + 28, hn => rfl
theorem WF_sI6_ne (g : Gd) (μ : Mm) (f : Int32) : ∀ j, j < 132 → j ≠ 19 → WF g (sI μ 6 f) j = WF g μ j := by
  intro j hj hn
  match j, hn with
  | 0, _ | 1, _ | 2, _ | 3, _ | 4, _ | 5, _ | 6, _ | 7, _ | 8, _ | 9, _ | 10, _ | 11, _ | 12, _ | 13, _ | 14, _ | 15, _ | 16, _ | 17, _ | 18, _ | 20, _ | 21, _ | 22, _ | 23, _ | 24, _ | 25, _ | 26, _ | 27, _ => rfl
  | 19, hn => exact absurd rfl hn
  | n + 28, hn => rfl
theorem WF_sI7_ne (g : Gd) (μ : Mm) (f : Int32) : ∀ j, j < 132 → j ≠ 19 → WF g (sI μ 7 f) j = WF g μ j := by
  intro j hj hn
  match j, hn with
  | 0, _ | 1, _ | 2, _ | 3, _ | 4, _ | 5, _ | 6, _ | 7, _ | 8, _ | 9, _ | 10, _ | 11, _ | 12, _ | 13, _ | 14, _ | 15, _ | 16, _ | 17, _ | 18, _ | 20, _ | 21, _ | 22, _ | 23, _ | 24, _ | 25, _ | 26, _ | 27, _ => rfl
  | 19, hn => exact absurd rfl hn
  | n + 28, hn => rfl
theorem WF_sI8_ne (g : Gd) (μ : Mm) (f : Int32) : ∀ j, j < 132 → j ≠ 19 → WF g (sI μ 8 f) j = WF g μ j := by
  intro j hj hn
  match j, hn with
  | 0, _ | 1, _ | 2, _ | 3, _ | 4, _ | 5, _ | 6, _ | 7, _ | 8, _ | 9, _ | 10, _ | 11, _ | 12, _ | 13, _ | 14, _ | 15, _ | 16, _ | 17, _ | 18, _ | 20, _ | 21, _ | 22, _ | 23, _ | 24, _ | 25, _ | 26, _ | 27, _ => rfl
  | 19, hn => exact absurd rfl hn
  | n + 28, hn => rfl
theorem WF_sI9_ne (g : Gd) (μ : Mm) (f : Int32) : ∀ j, j < 132 → j ≠ 19 → WF g (sI μ 9 f) j = WF g μ j := by
  intro j hj hn
  match j, hn with
  | 0, _ | 1, _ | 2, _ | 3, _ | 4, _ | 5, _ | 6, _ | 7, _ | 8, _ | 9, _ | 10, _ | 11, _ | 12, _ | 13, _ | 14, _ | 15, _ | 16, _ | 17, _ | 18, _ | 20, _ | 21, _ | 22, _ | 23, _ | 24, _ | 25, _ | 26, _ | 27, _ => rfl
  | 19, hn => exact absurd rfl hn
  | n + 28, hn => rfl
theorem WF_sL0_ne (g : Gd) (μ : Mm) (f : Int64) : ∀ j, j < 132 → j ≠ 19 → WF g (sL μ 0 f) j = WF g μ j := by
  intro j hj hn
  match j, hn with
  | 0, _ | 1, _ | 2, _ | 3, _ | 4, _ | 5, _ | 6, _ | 7, _ | 8, _ | 9, _ | 10, _ | 11, _ | 12, _ | 13, _ | 14, _ | 15, _ | 16, _ | 17, _ | 18, _ | 20, _ | 21, _ | 22, _ | 23, _ | 24, _ | 25, _ | 26, _ | 27, _ => rfl
  | 19, hn => exact absurd rfl hn
  | n + 28, hn => rfl
theorem WF_sL1_ne (g : Gd) (μ : Mm) (f : Int64) : ∀ j, j < 132 → j ≠ 19 → WF g (sL μ 1 f) j = WF g μ j := by
  intro j hj hn
  match j, hn with
  | 0, _ | 1, _ | 2, _ | 3, _ | 4, _ | 5, _ | 6, _ | 7, _ | 8, _ | 9, _ | 10, _ | 11, _ | 12, _ | 13, _ | 14, _ | 15, _ | 16, _ | 17, _ | 18, _ | 20, _ | 21, _ | 22, _ | 23, _ | 24, _ | 25, _ | 26, _ | 27, _ => rfl
  | 19, hn => exact absurd rfl hn
  | n + 28, hn => rfl
theorem WF_sL2_ne (g : Gd) (μ : Mm) (f : Int64) : ∀ j, j < 132 → j ≠ 19 → WF g (sL μ 2 f) j = WF g μ j := by
  intro j hj hn
  match j, hn with
  | 0, _ | 1, _ | 2, _ | 3, _ | 4, _ | 5, _ | 6, _ | 7, _ | 8, _ | 9, _ | 10, _ | 11, _ | 12, _ | 13, _ | 14, _ | 15, _ | 16, _ | 17, _ | 18, _ | 20, _ | 21, _ | 22, _ | 23, _ | 24, _ | 25, _ | 26, _ | 27, _ => rfl
  | 19, hn => exact absurd rfl hn
  | n + 28, hn => rfl
/-! statics -/
theorem r_gLack (C : Cx z A l rm cc nL own) (X : Kx z g A) {i : Nat} (hw : Cond.fieldLink own i "SetFamilies$Family" "LACKING" "[J" ∈ gw) (hd : decode cc pc = .ok (.getstatic i, 3)) (K : G z g.1 A nL (wd g μ) ce sl (pc + 3) lv (.ref g.2.2.2.1 :: st)) : G z g.1 A nL (wd g μ) ce sl pc lv st :=
  fun H locs ls hP hD hS hl => va_gets C.hx C.hb X.2.1 hS C.hown (C.hts _ hw) (fun _ h => h) hd (K H locs ls hP hD hS hl)
theorem r_gSize (C : Cx z A l rm cc nL own) (X : Kx z g A) {i : Nat} (hw : Cond.fieldLink own i "SetFamilies$Family" "OF_SIZE" "[J" ∈ gw) (hd : decode cc pc = .ok (.getstatic i, 3)) (K : G z g.1 A nL (wd g μ) ce sl (pc + 3) lv (.ref g.2.2.2.2 :: st)) : G z g.1 A nL (wd g μ) ce sl pc lv st :=
  fun H locs ls hP hD hS hl => va_gets C.hx C.hb X.2.2.2.1 hS C.hown (C.hts _ hw) (fun _ h => h) hd (K H locs ls hP hD hS hl)
theorem r_lLack (C : Cx z A l rm cc nL own) (X : Kx z g A) {j : Nat} (hj : j < 6) (hd : decode cc pc = .ok (.laload, 1)) (K : G z g.1 A nL (wd g μ) ce sl (pc + 1) lv (.long (lackT j) :: st)) : G z g.1 A nL (wd g μ) ce sl pc lv (.int (nI j) :: .ref g.2.2.2.1 :: st) :=
  fun H locs ls hP hD hS hl => va_tl C.hx C.hb X.2.2.1 hS (vp_in_nI hj (by omega)) (by rw [nI_clamp (by omega)]) hd (K H locs ls hP hD hS hl)
theorem r_lSize (C : Cx z A l rm cc nL own) (X : Kx z g A) {j : Nat} (hj : j < 7) (hd : decode cc pc = .ok (.laload, 1)) (K : G z g.1 A nL (wd g μ) ce sl (pc + 1) lv (.long (sizeT j) :: st)) : G z g.1 A nL (wd g μ) ce sl pc lv (.int (nI j) :: .ref g.2.2.2.2 :: st) :=
  fun H locs ls hP hD hS hl => va_tl C.hx C.hb X.2.2.2.2.1 hS (vp_in_nI hj (by omega)) (by rw [nI_clamp (by omega)]) hd (K H locs ls hP hD hS hl)
theorem r_nLack (C : Cx z A l rm cc nL own) (X : Kx z g A) (hd : decode cc pc = .ok (.arraylength, 1)) (K : G z g.1 A nL (wd g μ) ce sl (pc + 1) lv (.int (nI 6) :: st)) : G z g.1 A nL (wd g μ) ce sl pc lv (.ref g.2.2.2.1 :: st) :=
  fun H locs ls hP hD hS hl => va_tlen C.hx C.hb X.2.2.1 hS rfl hd (K H locs ls hP hD hS hl)
theorem r_nSize (C : Cx z A l rm cc nL own) (X : Kx z g A) (hd : decode cc pc = .ok (.arraylength, 1)) (K : G z g.1 A nL (wd g μ) ce sl (pc + 1) lv (.int (nI 7) :: st)) : G z g.1 A nL (wd g μ) ce sl pc lv (.ref g.2.2.2.2 :: st) :=
  fun H locs ls hP hD hS hl => va_tlen C.hx C.hb X.2.2.2.2.1 hS rfl hd (K H locs ls hP hD hS hl)
/-! contracts: over the memory (Ct), over nothing (Cp) -/
def Qd (g : Gd) (rv : Option Value) (μ' : Mm) (sz : Nat) : Array Value → State → Outcome → State → Prop := fun _ st oc t => oc = .returned rv ∧ va_P g.1 vwCl (wd g μ') t.heap ∧ va_F (vA g sz) st t
def Pd (g : Gd) (μ : Mm) (sz : Nat) (U : State) : Prop := U.heap.size = sz ∧ va_P g.1 vwCl (wd g μ) U.heap ∧ va_D (fun _ => True) (wd g μ) ∧ va_K g.1 vwCl (tys g) U ∧ Sta g (vA g sz) U U.heap
def Ct (l : Launch) (y : MethodName) (cc : ByteArray) (nL : Nat) (rt : Option FieldType) (rm : Room) (g : Gd) (avs : List Value) (μ : Mm) (rv : Option Value) (μ' : Mm) : Prop :=
  ∀ sz : Nat, Met l y (Cond.code y cc nL rt :: gw) rm (va_Pc avs (Pd g μ sz)) (Qd g rv μ' sz) 0 0 (vA g sz)
def Qp (rv : Option Value) (sz : Nat) : Array Value → State → Outcome → State → Prop := fun _ st oc t => oc = .returned rv ∧ va_F (fun q => sz ≤ q) st t
def Cp (l : Launch) (y : MethodName) (cc : ByteArray) (nL : Nat) (rt : Option FieldType) (rm : Room) (avs : List Value) (rv : Option Value) : Prop :=
  ∀ sz : Nat, Met l y (Cond.code y cc nL rt :: gw) rm (va_Pc avs (fun U => U.heap.size = sz)) (Qp rv sz) 0 0 (fun q => sz ≤ q)
/-- a room without cells -/
abbrev rmk (f lo : Nat) : Room := { frames := f, cells := 0, slots := 0, locals := lo }
/-- how a method of this memory ends -/
def Rx (z : Zt) (g : Gd) (A : Nat → Prop) (rt : Option FieldType) (rv : Option Value) (μ' : Mm) : Prop := (zM z).sig.returnType = rt ∧ A = vA g (zs z).heap.size ∧ zQ z = MQ (zb z) (Qd g rv μ' (zs z).heap.size) (za z) (zs z) 0 0 (vA g (zs z).heap.size)
def Rp (z : Zt) (A : Nat → Prop) (rt : Option FieldType) (rv : Option Value) : Prop := (zM z).sig.returnType = rt ∧ A = (fun q => (zs z).heap.size ≤ q) ∧ zQ z = MQ (zb z) (Qp rv (zs z).heap.size) (za z) (zs z) 0 0 (fun q => (zs z).heap.size ≤ q)
theorem Ct.of {y : MethodName} {rt : Option FieldType} {f lo : Nat} {avs : List Value} {rv : Option Value} (hy : plainName y.cls = true) (hn : (lg_sl avs).length ≤ nL) (body : ∀ (z : Zt) (A : Nat → Prop), Cx z A l (rmk f lo) cc nL y.cls → Kx z g A → Rx z g A rt rv μ' → G z g.1 A nL (wd g μ) 0 0 0 (lv_args 0 avs) []) : Ct l y cc nL rt (rmk f lo) g avs μ rv μ' := by
  intro sz
  refine Met.ofW (cc := cc) (maxL := nL) (ret := rt) hy rfl ?_
  intro p e s m args below meth c s₁ B hml hv
  obtain ⟨rfl, rfl, hP, hD, hK, hSt⟩ := hv
  have hts := atoms_spec (ws := Cond.code y cc nL rt :: gw) B.pre
  have K := body (p, l, e, rmk f lo, s, m, avs.toArray, below, meth, c, MQ below (Qd g rv μ' s.heap.size) avs.toArray s 0 0 (vA g s.heap.size)) (vA g s.heap.size)
    ⟨B.exec, B.bytes, hml, findClass_of_methodNamed B.named, fun w h => hts w (List.mem_cons_of_mem _ h), fun q h => Or.inr h, B.notSynchronized, rfl, rfl⟩ ⟨hK, hSt⟩ ⟨B.returns, rfl, rfl⟩
  rw [lg_entry_eq]
  exact K s.heap [] _ hP (vA_D hD) va_S.rf (lv_entry avs hn)
theorem Cp.of {y : MethodName} {rt : Option FieldType} {f lo : Nat} {avs : List Value} {rv : Option Value} (hy : plainName y.cls = true) (hn : (lg_sl avs).length ≤ nL) (body : ∀ (z : Zt) (A : Nat → Prop), Cx z A l (rmk f lo) cc nL y.cls → Rp z A rt rv → G z D A nL [] 0 0 0 (lv_args 0 avs) []) : Cp l y cc nL rt (rmk f lo) avs rv := by
  intro sz
  refine Met.ofW (cc := cc) (maxL := nL) (ret := rt) hy rfl ?_
  intro p e s m args below meth c s₁ B hml hv
  obtain ⟨rfl, rfl⟩ := hv
  have hts := atoms_spec (ws := Cond.code y cc nL rt :: gw) B.pre
  have K := body (p, l, e, rmk f lo, s, m, avs.toArray, below, meth, c, MQ below (Qp rv s.heap.size) avs.toArray s 0 0 (fun q => s.heap.size ≤ q)) (fun q => s.heap.size ≤ q)
    ⟨B.exec, B.bytes, hml, findClass_of_methodNamed B.named, fun w h => hts w (List.mem_cons_of_mem _ h), fun q h => h, B.notSynchronized, rfl, rfl⟩ ⟨B.returns, rfl, rfl⟩
  rw [lg_entry_eq]
  exact K s.heap [] _ (fun k q h => by simp at h) ⟨fun i j p q h => by simp at h, fun k q h => by simp at h⟩ va_S.rf (lv_entry avs hn)
theorem r_iret (C : Cx z A l rm cc nL own) {x : Int32} (hd : decode cc pc = .ok (.ireturn, 1)) (Rr : Rx z g A (some .int) (some (.int x)) μ) : G z g.1 A nL (wd g μ) 0 0 pc lv [.int x] := by
  intro H locs ls hP hD hS hl
  rw [Rr.2.2]
  have hS2 := hS
  rw [Rr.2.1] at hS2
  exact W.iret C.hx C.hb Rr.1 (fun t ht hW => ⟨rfl, by rw [ht]; exact hP, hS2.F ht⟩) hS2.2.2 hd C.hlk
theorem p_iret (C : Cx z A l rm cc nL own) {x : Int32} (hd : decode cc pc = .ok (.ireturn, 1)) (Rr : Rp z A (some .int) (some (.int x))) : G z D A nL ws 0 0 pc lv [.int x] := by
  intro H locs ls hP hD hS hl
  rw [Rr.2.2]
  have hS2 := hS
  rw [Rr.2.1] at hS2
  exact W.iret C.hx C.hb Rr.1 (fun t ht hW => ⟨rfl, hS2.F ht⟩) hS2.2.2 hd C.hlk
theorem r_zret (C : Cx z A l rm cc nL own) {x : Int32} (hd : decode cc pc = .ok (.ireturn, 1)) (hnr : narrow .boolean (.int x) = .int x) (Rr : Rx z g A (some .boolean) (some (.int x)) μ) : G z g.1 A nL (wd g μ) 0 0 pc lv [.int x] := by
  intro H locs ls hP hD hS hl
  rw [Rr.2.2]
  have hS2 := hS
  rw [Rr.2.1] at hS2
  exact W.zret C.hx C.hb Rr.1 hnr (fun t ht hW => ⟨rfl, by rw [ht]; exact hP, hS2.F ht⟩) hS2.2.2 hd C.hlk
theorem p_zret (C : Cx z A l rm cc nL own) {x : Int32} (hd : decode cc pc = .ok (.ireturn, 1)) (hnr : narrow .boolean (.int x) = .int x) (Rr : Rp z A (some .boolean) (some (.int x))) : G z D A nL ws 0 0 pc lv [.int x] := by
  intro H locs ls hP hD hS hl
  rw [Rr.2.2]
  have hS2 := hS
  rw [Rr.2.1] at hS2
  exact W.zret C.hx C.hb Rr.1 hnr (fun t ht hW => ⟨rfl, hS2.F ht⟩) hS2.2.2 hd C.hlk
theorem r_lret (C : Cx z A l rm cc nL own) {x : Int64} (hd : decode cc pc = .ok (.lreturn, 1)) (Rr : Rx z g A (some .long) (some (.long x)) μ) : G z g.1 A nL (wd g μ) 0 0 pc lv [.long x] := by
  intro H locs ls hP hD hS hl
  rw [Rr.2.2]
  have hS2 := hS
  rw [Rr.2.1] at hS2
  exact W.lret C.hx C.hb Rr.1 (fun t ht hW => ⟨rfl, by rw [ht]; exact hP, hS2.F ht⟩) hS2.2.2 hd C.hlk
theorem p_lret (C : Cx z A l rm cc nL own) {x : Int64} (hd : decode cc pc = .ok (.lreturn, 1)) (Rr : Rp z A (some .long) (some (.long x))) : G z D A nL ws 0 0 pc lv [.long x] := by
  intro H locs ls hP hD hS hl
  rw [Rr.2.2]
  have hS2 := hS
  rw [Rr.2.1] at hS2
  exact W.lret C.hx C.hb Rr.1 (fun t ht hW => ⟨rfl, hS2.F ht⟩) hS2.2.2 hd C.hlk
theorem r_vret (C : Cx z A l rm cc nL own) (hd : decode cc pc = .ok (.return_, 1)) (Rr : Rx z g A none none μ) : G z g.1 A nL (wd g μ) 0 0 pc lv [] := by
  intro H locs ls hP hD hS hl
  rw [Rr.2.2]
  have hS2 := hS
  rw [Rr.2.1] at hS2
  exact W.vret C.hx C.hb Rr.1 (fun t ht hW => ⟨rfl, by rw [ht]; exact hP, hS2.F ht⟩) hS2.2.2 hd C.hlk
theorem p_vret (C : Cx z A l rm cc nL own) (hd : decode cc pc = .ok (.return_, 1)) (Rr : Rp z A none none) : G z D A nL ws 0 0 pc lv [] := by
  intro H locs ls hP hD hS hl
  rw [Rr.2.2]
  have hS2 := hS
  rw [Rr.2.1] at hS2
  exact W.vret C.hx C.hb Rr.1 (fun t ht hW => ⟨rfl, hS2.F ht⟩) hS2.2.2 hd C.hlk
theorem r_aret (C : Cx z A l rm cc nL own) {x : Nat} {nm : String} (hd : decode cc pc = .ok (.areturn, 1)) (Rr : Rx z g A (some (.object nm)) (some (.ref x)) μ) : G z g.1 A nL (wd g μ) 0 0 pc lv [.ref x] := by
  intro H locs ls hP hD hS hl
  rw [Rr.2.2]
  have hS2 := hS
  rw [Rr.2.1] at hS2
  exact W.aret C.hx C.hb Rr.1 (Or.inl ⟨nm, rfl⟩) (Or.inr ⟨x, rfl⟩) (fun t ht hW => ⟨rfl, by rw [ht]; exact hP, hS2.F ht⟩) hS2.2.2 hd C.hlk
/-- the answer of any kind of call, over any cells -/
theorem G_run {Qc : State → Outcome → State → Prop} {free : Nat → Prop} {rest st0 : List Value} {rv : Option Value} {ws' : va_W}
    (hr : ∀ (H : Heap) (locs : List Loc) (ls : Array Slot), va_P D vwCl ws H → va_D A ws → va_S A (zs z).heap H locs → lv_has ls nL lv → va_Run (zp z) (zl z) (ze z) (zR z) (zs z) (zm z) (za z) (zb z) (zM z) (zc z) H locs ce sl 0 0 (F0 (zm z) pc ls st0) rest Qc free ∧ (∀ q, free q → A q) ∧ (∀ s0 o t, s0.heap = H → Qc s0 o t → o = .returned rv ∧ va_P D vwCl ws' t.heap ∧ H.size ≤ t.heap.size ∧ ∀ q, q < H.size → ¬ A q → t.heap[q]? = H[q]?))
    (hD' : va_D A ws → va_D A ws') (K : G z D A nL ws' ce sl (pc + 3) lv (rv.toList ++ rest)) : G z D A nL ws ce sl pc lv st0 := by
  intro H locs ls hP hD hS hl
  obtain ⟨hR, hfr, hq⟩ := hr H locs ls hP hD hS hl
  intro T hT X
  obtain ⟨v, st₀, t, T', L, h0, X', hL, e1, e2, hQ, sp⟩ := hR T hT X
  obtain ⟨hv, hP', hz, hk⟩ := hq st₀ _ t h0 hQ
  cases hv
  obtain ⟨t2, a1, b1⟩ := K T'.heap (locs ++ L) ls (by rw [e1]; exact hP') (hD' hD) ⟨Nat.le_trans hS.1 (by rw [e1]; exact hz), fun q h1 h2 => by rw [e1, hk q (Nat.lt_of_lt_of_le h1 hS.1) h2]; exact hS.2.1 q h1 h2, fun q hq => by
      rcases List.mem_append.mp hq with h | h
      · exact hS.2.2 q h
      · exact hfr _ (hL q h)⟩ hl T' rfl X'
  exact ⟨t2, sp t2 a1, b1⟩
/-! calls -/
theorem gw_gi {ws : List Cond} (h : ∀ w ∈ ws, w ∈ gw) : GoodIn gw ws := fun w hw => ⟨h w hw, good_of_word (List.mem_filter.mp (h w hw)).2⟩
def MI (y : MethodName) (cc : ByteArray) (nL : Nat) (rt : Option FieldType) (n : Nat) : Prop := Cond.code y cc nL rt ∈ gw ∧ Cond.initialized y.cls ∈ gw ∧ y.cls ≠ "java/lang/invoke/MethodHandle" ∧ y.cls ≠ "java/lang/invoke/VarHandle" ∧ (parseMethodDescriptor y.desc).map (fun d => d.parameters.length) = some n
def MV (y : MethodName) : Prop := Cond.instanceMethod y ∈ gw ∧ Cond.selects y.cls y y ∈ gw
theorem gw_cons {c : Cond} (h : c ∈ gw) : GoodIn gw (c :: gw) := gw_gi (fun w hw => by rcases List.mem_cons.mp hw with rfl | h1; exact h; exact h1)
theorem Pd_blind {avs : List Value} {sz : Nat} : FrameBlind (va_Pc avs (Pd g μ sz)) := by
  intro a U fr mk h
  obtain ⟨h1, h2, h3, h4, h5, h6⟩ := h
  exact ⟨h1, h2, h3, h4, va_K.moved (u := U) (U := U.calling fr mk a) (Vm.Alike.refl U.vm) h5, Sta.blind (U := U) (V := U.calling fr mk a) rfl rfl h6⟩
theorem Pd_at {H : Heap} {locs : List Loc} (C : Cx z A l rm cc nL own) (X : Kx z g A) (hP : va_P g.1 vwCl (wd g μ) H) (hD : va_D A (wd g μ)) (hS : va_S A (zs z).heap H locs) : ∀ U : State, U.heap = H → (zs z).WarmedH U.vm → Pd g μ H.size U :=
  fun U hU hW => ⟨by rw [hU], by rw [hU]; exact hP, hD.weaken (fun _ _ _ _ => trivial), va_K.moved hW.alike X.1, X.2.to hS hU hW (vA_free hD hS C.hA)⟩
theorem Qd_out {H : Heap} {locs : List Loc} {rv : Option Value} (C : Cx z A l rm cc nL own) (hD : va_D A (wd g μ)) (hS : va_S A (zs z).heap H locs) {a : Array Value} : ∀ s0 o t, s0.heap = H → Qd g rv μ' H.size a s0 o t → o = .returned rv ∧ va_P g.1 vwCl (wd g μ') t.heap ∧ H.size ≤ t.heap.size ∧ ∀ q, q < H.size → ¬ A q → t.heap[q]? = H[q]? := by
  intro s0 o t h0 h
  obtain ⟨h1, h2, h3, h4⟩ := h
  rw [h0] at h3 h4
  exact ⟨h1, h2, h3, fun q hq hn => h4 q hq (fun hv => hn (vA_free hD hS C.hA q hv))⟩
theorem r_callV (C : Cx z A l rm cc nL own) (X : Kx z g A) {y : MethodName} {cc' : ByteArray} {nL' n idx k ci N : Nat} {T : u_T} {rt : Option FieldType} {rm' : Room} {As rest st0 st1 : List Value} {rv : Option Value} {fs : List Value} (M : MI y cc' nL' rt n) (V : MV y) (hM : Ct l y cc' nL' rt rm' g (.ref (ad g k) :: As) μ rv μ') (hlk : Cond.methodLink own idx y ∈ gw) (hk : k < 132) (he : WF g μ k = .inr (ci, fs)) (hc : vwCl[ci]? = some (y.cls, T, N)) (hn : As.length = n) (hR : rm'.frames + 1 ≤ rm.frames ∧ 8 + (nL' + 11) + rm'.locals ≤ rm.locals ∧ rm'.cells = 0 ∧ rm'.slots = 0 ∧ ce ≤ rm.cells ∧ sl ≤ rm.slots) (hst : st0 = As.reverse ++ .ref (ad g k) :: rest) (hW : (rest.map fun v => v.category).sum ≤ 8) (hd : decode cc pc = .ok (.invokevirtual idx, 3)) (hst1 : rv.toList ++ rest = st1) (K : G z g.1 A nL (wd g μ') ce sl (pc + 3) lv st1) : G z g.1 A nL (wd g μ) ce sl pc lv st0 := by
  subst hst1
  refine G_run (rest := rest) (Qc := fun s0 o t => ∃ q, q = s0.heap.size ∧ Qd g rv μ' q (Value.ref (ad g k) :: As).toArray s0 o t) (free := fun q => A q) (fun H locs ls hP hD hS hl => ⟨?_, fun q h => h, fun s0 o t h0 h => ?_⟩) (wd_D μ') K
  · obtain ⟨hR1, hR2, hc1, hc2, hc3, hc4⟩ := hR
    rw [← C.hR] at hR1 hR2 hc3 hc4
    have hb := callB_of (R := zR z) (s := zs z) (args := za z) (own := own) (index := idx) n C.hts (gw_cons M.1) rfl hc1 hc2 (C.hts _ M.2.1) (C.hts _ hlk) M.2.2 ⟨hR1, hR2⟩
    have hr := va_runV (p := zp z) (l := zl z) (e := ze z) (R := zR z) (s := zs z) (m := zm z) (args := za z) (below := zb z) (meth := zM z) (c := zc z) (H := H) (locs := locs) (cells := ce) (slots := sl) (g := F0 (zm z) pc ls st0) (Ts := gw) (As := As) (rest := rest) (b := ad g k) (C := y.cls) ⟨C.hx, C.hb, C.hml, C.hown, C.hts⟩ (by rw [C.hl]; exact hM H.size) ⟨hb, C.hts _ V.1, C.hts _ V.2⟩ ⟨Pd_blind, va_recv X.1 hP hc (wd_at hk he), fun U hU hw => ⟨rfl, Pd_at C X hP hD hS U hU hw⟩⟩ rfl hn hl.1 hst (lv_room hW) hd ⟨hc3, hc4⟩
    intro T0 hT X0
    obtain ⟨v, st₀, t, T', L, h0, X', hL, e1, e2, hQ, sp⟩ := hr T0 hT X0
    exact ⟨v, st₀, t, T', L, h0, X', fun q hq => vA_free hD hS C.hA _ (hL q hq), e1, e2, ⟨H.size, by rw [h0], hQ⟩, sp⟩
  · obtain ⟨q, rfl, h⟩ := h
    rw [h0] at h
    exact Qd_out C hD hS s0 o t h0 h
theorem r_callS (C : Cx z A l rm cc nL own) (X : Kx z g A) {y : MethodName} {cc' : ByteArray} {nL' n idx : Nat} {rt : Option FieldType} {rm' : Room} {As rest st0 st1 : List Value} {rv : Option Value} (M : MI y cc' nL' rt n) (V : Cond.static y ∈ gw) (hM : Ct l y cc' nL' rt rm' g As μ rv μ') (hlk : Cond.methodLink own idx y ∈ gw) (hn : As.length = n) (hR : rm'.frames + 1 ≤ rm.frames ∧ 8 + (nL' + 11) + rm'.locals ≤ rm.locals ∧ rm'.cells = 0 ∧ rm'.slots = 0 ∧ ce ≤ rm.cells ∧ sl ≤ rm.slots) (hst : st0 = As.reverse ++ rest) (hW : (rest.map fun v => v.category).sum ≤ 8) (hd : decode cc pc = .ok (.invokestatic idx, 3)) (hst1 : rv.toList ++ rest = st1) (K : G z g.1 A nL (wd g μ') ce sl (pc + 3) lv st1) : G z g.1 A nL (wd g μ) ce sl pc lv st0 := by
  subst hst1
  refine G_run (rest := rest) (Qc := fun s0 o t => ∃ q, q = s0.heap.size ∧ Qd g rv μ' q As.toArray s0 o t) (free := fun q => A q) (fun H locs ls hP hD hS hl => ⟨?_, fun q h => h, fun s0 o t h0 h => ?_⟩) (wd_D μ') K
  · obtain ⟨hR1, hR2, hc1, hc2, hc3, hc4⟩ := hR
    rw [← C.hR] at hR1 hR2 hc3 hc4
    have hb := callB_of (R := zR z) (s := zs z) (args := za z) (own := own) (index := idx) n C.hts (gw_cons M.1) rfl hc1 hc2 (C.hts _ M.2.1) (C.hts _ hlk) M.2.2 ⟨hR1, hR2⟩
    have hr := va_runS (p := zp z) (l := zl z) (e := ze z) (R := zR z) (s := zs z) (m := zm z) (args := za z) (below := zb z) (meth := zM z) (c := zc z) (H := H) (locs := locs) (cells := ce) (slots := sl) (g := F0 (zm z) pc ls st0) (Ts := gw) (As := As) (rest := rest) ⟨C.hx, C.hb, C.hml, C.hown, C.hts⟩ (by rw [C.hl]; exact hM H.size) ⟨hb, C.hts _ V⟩ ⟨Pd_blind, fun U hU hw => ⟨rfl, Pd_at C X hP hD hS U hU hw⟩⟩ rfl hn hl.1 hst (lv_room hW) hd ⟨hc3, hc4⟩
    intro T0 hT X0
    obtain ⟨v, st₀, t, T', L, h0, X', hL, e1, e2, hQ, sp⟩ := hr T0 hT X0
    exact ⟨v, st₀, t, T', L, h0, X', fun q hq => vA_free hD hS C.hA _ (hL q hq), e1, e2, ⟨H.size, by rw [h0], hQ⟩, sp⟩
  · obtain ⟨q, rfl, h⟩ := h
    rw [h0] at h
    exact Qd_out C hD hS s0 o t h0 h
theorem P_same {H H1 : Heap} (hP : va_P D vwCl ws H) (h : ∀ q, q < H.size → H1[q]? = H[q]?) : va_P D vwCl ws H1 := fun k q hk => (hP k q hk).kept (h _ (hP k q hk).lt)
/-- a static method that touches no heap; by a plain link, or by one between nest mates -/
theorem r_callP (C : Cx z A l rm cc nL own) {y : MethodName} {cc' : ByteArray} {nL' n idx : Nat} {rt : Option FieldType} {rm' : Room} {As rest st0 st1 : List Value} {rv : Option Value} (M : MI y cc' nL' rt n) (V : Cond.static y ∈ gw) (hM : Cp l y cc' nL' rt rm' As rv) (hlk : Cond.methodLink own idx y ∈ gw) (hn : As.length = n) (hR : rm'.frames + 1 ≤ rm.frames ∧ 8 + (nL' + 11) + rm'.locals ≤ rm.locals ∧ rm'.cells = 0 ∧ rm'.slots = 0 ∧ ce ≤ rm.cells ∧ sl ≤ rm.slots) (hst : st0 = As.reverse ++ rest) (hW : (rest.map fun v => v.category).sum ≤ 8) (hd : decode cc pc = .ok (.invokestatic idx, 3)) (hst1 : rv.toList ++ rest = st1) (K : G z D A nL ws ce sl (pc + 3) lv st1) : G z D A nL ws ce sl pc lv st0 := by
  subst hst1
  refine G_run (rest := rest) (Qc := fun s0 o t => Qp rv s0.heap.size As.toArray s0 o t) (free := fun q => A q) (fun H locs ls hP hD hS hl => ⟨?_, fun q h => h, fun s0 o t h0 h => ?_⟩) id K
  · obtain ⟨hR1, hR2, hc1, hc2, hc3, hc4⟩ := hR
    rw [← C.hR] at hR1 hR2 hc3 hc4
    have hb := callB_of (R := zR z) (s := zs z) (args := za z) (own := own) (index := idx) n C.hts (gw_cons M.1) rfl hc1 hc2 (C.hts _ M.2.1) (C.hts _ hlk) M.2.2 ⟨hR1, hR2⟩
    have hr := va_runS (p := zp z) (l := zl z) (e := ze z) (R := zR z) (s := zs z) (m := zm z) (args := za z) (below := zb z) (meth := zM z) (c := zc z) (H := H) (locs := locs) (cells := ce) (slots := sl) (g := F0 (zm z) pc ls st0) (Ts := gw) (As := As) (rest := rest) (Pc := va_Pc As (fun U => U.heap.size = H.size)) ⟨C.hx, C.hb, C.hml, C.hown, C.hts⟩ (by rw [C.hl]; exact hM H.size) ⟨hb, C.hts _ V⟩ ⟨fun a U fr mk h => h, fun U hU hw => ⟨rfl, (show U.heap.size = H.size by rw [hU])⟩⟩ rfl hn hl.1 hst (lv_room hW) hd ⟨hc3, hc4⟩
    intro T0 hT X0
    obtain ⟨v, st₀, t, T', L, h0, X', hL, e1, e2, hQ, sp⟩ := hr T0 hT X0
    exact ⟨v, st₀, t, T', L, h0, X', fun q hq => C.hA _ (Nat.le_trans hS.1 (hL q hq)), e1, e2, (show Qp rv st₀.heap.size As.toArray st₀ _ t by rw [h0]; exact hQ), sp⟩
  · obtain ⟨h1, h2, h3⟩ := h
    rw [h0] at h2 h3
    exact ⟨h1, P_same hP (fun q hq => h3 q hq (Nat.not_le.mpr hq)), h2, fun q hq _ => h3 q hq (Nat.not_le.mpr hq)⟩
theorem r_callPN (C : Cx z A l rm cc nL own) {y : MethodName} {cc' : ByteArray} {nL' n idx : Nat} {rt : Option FieldType} {rm' : Room} {As rest st0 st1 : List Value} {rv : Option Value} {host : String} (M : MI y cc' nL' rt n) (V : Cond.static y ∈ gw) (hM : Cp l y cc' nL' rt rm' As rv) (hlk : va_Nw (.methodLinkNest own idx y host) (zs z)) (hn : As.length = n) (hR : rm'.frames + 1 ≤ rm.frames ∧ 8 + (nL' + 11) + rm'.locals ≤ rm.locals ∧ rm'.cells = 0 ∧ rm'.slots = 0 ∧ ce ≤ rm.cells ∧ sl ≤ rm.slots) (hst : st0 = As.reverse ++ rest) (hW : (rest.map fun v => v.category).sum ≤ 8) (hd : decode cc pc = .ok (.invokestatic idx, 3)) (hst1 : rv.toList ++ rest = st1) (K : G z D A nL ws ce sl (pc + 3) lv st1) : G z D A nL ws ce sl pc lv st0 := by
  subst hst1
  refine G_run (rest := rest) (Qc := fun s0 o t => Qp rv s0.heap.size As.toArray s0 o t) (free := fun q => A q) (fun H locs ls hP hD hS hl => ⟨?_, fun q h => h, fun s0 o t h0 h => ?_⟩) id K
  · obtain ⟨hR1, hR2, hc1, hc2, hc3, hc4⟩ := hR
    rw [← C.hR] at hR1 hR2 hc3 hc4
    have hb := va_cnB (R := zR z) (s := zs z) (args := za z) (own := own) (index := idx) n C.hts (gw_cons M.1) rfl hc1 hc2 hlk (C.hts _ M.2.1) M.2.2 ⟨hR1, hR2⟩
    have hr := va_runSN (cc := cc) (nL := nL) (own := own) (y := y) (host := host) (bytes := cc') (maxL := nL') (ret := rt) (rm := rm') (mc := 0) (ms := 0) (n := n) (index := idx) (p := zp z) (l := zl z) (e := ze z) (R := zR z) (s := zs z) (m := zm z) (args := za z) (below := zb z) (meth := zM z) (c := zc z) (H := H) (locs := locs) (cells := ce) (slots := sl) (g := F0 (zm z) pc ls st0) (Ts := gw) (As := As) (rest := rest) (Pc := va_Pc As (fun U => U.heap.size = H.size)) ⟨C.hx, C.hb, C.hml, C.hown, C.hts⟩ (by rw [C.hl]; exact hM H.size) ⟨hb, C.hts _ V, trivial⟩ ⟨fun a U fr mk h => h, fun U hU hw => ⟨rfl, (show U.heap.size = H.size by rw [hU])⟩⟩ rfl hn hl.1 hst (lv_room hW) hd ⟨hc3, hc4⟩
    intro T0 hT X0
    obtain ⟨v, st₀, t, T', L, h0, X', hL, e1, e2, hQ, sp⟩ := hr T0 hT X0
    exact ⟨v, st₀, t, T', L, h0, X', fun q hq => C.hA _ (Nat.le_trans hS.1 (hL q hq)), e1, e2, (show Qp rv st₀.heap.size As.toArray st₀ _ t by rw [h0]; exact hQ), sp⟩
  · obtain ⟨h1, h2, h3⟩ := h
    rw [h0] at h2 h3
    exact ⟨h1, P_same hP (fun q hq => h3 q hq (Nat.not_le.mpr hq)), h2, fun q hq _ => h3 q hq (Nat.not_le.mpr hq)⟩
end ROWS
