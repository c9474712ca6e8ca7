theorem tbm_1 {w : Cond} (h : w ∈ tables_1_1) : w ∈ lw_tbl := List.mem_append_right _ (show w ∈ tables_1 from List.mem_append_left _ h)
theorem tbm_2 {w : Cond} (h : w ∈ tables_1_2) : w ∈ lw_tbl := List.mem_append_right _ (show w ∈ tables_1 from List.mem_append_right _ (List.mem_append_left _ h))
theorem tbm_3 {w : Cond} (h : w ∈ tables_1_3) : w ∈ lw_tbl := List.mem_append_right _ (show w ∈ tables_1 from List.mem_append_right _ (List.mem_append_right _ (List.mem_append_left _ h)))
theorem tbm_4 {w : Cond} (h : w ∈ tables_1_4) : w ∈ lw_tbl := List.mem_append_right _ (show w ∈ tables_1 from List.mem_append_right _ (List.mem_append_right _ (List.mem_append_right _ (List.mem_append_left _ h))))
theorem tbm_5 {w : Cond} (h : w ∈ tables_1_5) : w ∈ lw_tbl := List.mem_append_right _ (show w ∈ tables_1 from List.mem_append_right _ (List.mem_append_right _ (List.mem_append_right _ (List.mem_append_right _ (List.mem_append_left _ h)))))
theorem tbm_6 {w : Cond} (h : w ∈ tables_1_6) : w ∈ lw_tbl := List.mem_append_right _ (show w ∈ tables_1 from List.mem_append_right _ (List.mem_append_right _ (List.mem_append_right _ (List.mem_append_right _ (List.mem_append_right _ (h))))))
theorem arr_in {args : Array Value} {s : State} {ty : FieldType} (h : (Cond.arrayClass ty).before args s = true) : ∃ cA : ClassId, ArrOfT s cA ty ∧ s.vm.findClass ("[" ++ ty.toString) = some cA := by
  obtain ⟨cA, kA, comp, h1, h2, h3⟩ := Cond.arrayClass_spec h
  exact ⟨cA, fun n z => ⟨fun k h => (by cases h), kA, h2, comp, h3⟩, h1⟩
theorem ent_K {args : Array Value} {s : State} (hts : ∀ w ∈ lw_tbl, w.before args s = true) (hgw : ∀ w ∈ gw, w.before args s = true) : ∃ (D : va_G) (cf : Nat → ClassId), va_K D vwCl [(cf 0, .byte), (cf 1, .int), (cf 2, .long), (cf 3, .boolean), (cf 4, .object "SetFamilies$Family")] s ∧ va_AO FAMn s := by
  obtain ⟨c0, i0, hK0⟩ := u_known (C := RX1) (T := TX1) (N := 4) (n := 4) hgw inw1 (hgw _ hw_1_130)
  obtain ⟨c1, i1, hK1⟩ := u_known (C := RX2) (T := TX2) (N := 4) (n := 4) hgw inw2 (hgw _ hw_1_109)
  obtain ⟨c2, i2, hK2⟩ := u_known (C := RX3) (T := TX3) (N := 2) (n := 2) hgw inw3 (hgw _ hw_1_57)
  obtain ⟨c3, i3, hK3⟩ := u_known (C := RX4) (T := TX4) (N := 2) (n := 2) hgw inw4 (hgw _ hw_1_33)
  obtain ⟨c4, i4, hK4⟩ := u_known (C := RX5) (T := TX5) (N := 4) (n := 4) hgw inw5 (hgw _ hw_1_71)
  obtain ⟨c5, i5, hK5⟩ := u_known (C := RX6) (T := TX6) (N := 3) (n := 3) hgw inw6 (hgw _ hw_1_193)
  obtain ⟨c6, i6, hK6⟩ := u_known (C := RX7) (T := TX7) (N := 2) (n := 2) hgw inw7 (hgw _ hw_1_151)
  obtain ⟨c7, i7, hK7⟩ := u_known (C := RX8) (T := TX8) (N := 6) (n := 6) hgw inw8 (hgw _ hw_1_166)
  obtain ⟨c8, i8, hK8⟩ := u_known (C := RX9) (T := TX9) (N := 2) (n := 2) hgw inw9 (hgw _ hw_1_94)
  obtain ⟨c9, i9, hK9⟩ := u_known (C := RX10) (T := TX10) (N := 12) (n := 12) hgw inw10 (hgw _ hw_1_25)
  obtain ⟨c10, i10, hK10⟩ := u_known (C := RX11) (T := TX11) (N := 15) (n := 15) hgw inw11 (hgw _ hw_5_13)
  have hAO : va_AO FAMn s := va_AO.of (hts (.arrayOver (.object FAMn)) (tbm_1 (List.mem_of_getElem? (i := 56) rfl)))
  obtain ⟨t0, u0, v0⟩ := arr_in (hts (.arrayClass .byte) (tbm_1 (List.mem_of_getElem? (i := 107) rfl)))
  obtain ⟨t1, u1, v1⟩ := arr_in (hts (.arrayClass .int) (tbm_1 (List.mem_of_getElem? (i := 92) rfl)))
  obtain ⟨t2, u2, v2⟩ := arr_in (hts (.arrayClass .long) (tbm_1 (List.mem_of_getElem? (i := 69) rfl)))
  obtain ⟨t3, u3, v3⟩ := arr_in (hts (.arrayClass .boolean) (tbm_5 (List.mem_of_getElem? (i := 64) rfl)))
  obtain ⟨comp, t4, k4, a1, a2, a3, a4, a5⟩ := Cond.arrayOver_spec hAO
  refine ⟨(fun k => match k with | 0 => c0 | 1 => c1 | 2 => c2 | 3 => c3 | 4 => c4 | 5 => c5 | 6 => c6 | 7 => c7 | 8 => c8 | 9 => c9 | _ => c10, fun k => match k with | 0 => i0 | 1 => i1 | 2 => i2 | 3 => i3 | 4 => i4 | 5 => i5 | 6 => i6 | 7 => i7 | 8 => i8 | 9 => i9 | _ => i10), fun k => match k with | 0 => t0 | 1 => t1 | 2 => t2 | 3 => t3 | _ => t4, ⟨fun k q hq => ?_, fun k q hq => ?_⟩, hAO⟩
  · match k, hq with
    | 0, hq => cases hq; exact hK0
    | 1, hq => cases hq; exact hK1
    | 2, hq => cases hq; exact hK2
    | 3, hq => cases hq; exact hK3
    | 4, hq => cases hq; exact hK4
    | 5, hq => cases hq; exact hK5
    | 6, hq => cases hq; exact hK6
    | 7, hq => cases hq; exact hK7
    | 8, hq => cases hq; exact hK8
    | 9, hq => cases hq; exact hK9
    | 10, hq => cases hq; exact hK10
    | k + 11, hq => simp [vwCl] at hq
  · match k, hq with
    | 0, hq => cases hq; exact ⟨u0, v0⟩
    | 1, hq => cases hq; exact ⟨u1, v1⟩
    | 2, hq => cases hq; exact ⟨u2, v2⟩
    | 3, hq => cases hq; exact ⟨u3, v3⟩
    | 4, hq => cases hq; exact ⟨fun n z => ⟨fun k h => (by cases h), k4, a3, comp, a4⟩, k4, comp, a3, a4, a1, a5⟩
    | k + 5, hq => simp at hq
theorem ent_S {args : Array Value} {s : State} {A : Nat → Prop} (hts : ∀ w ∈ lw_tbl, w.before args s = true) (hs : ∀ c ∈ flatC (Jvm.Cond.and given_1 narrow_1), c.before args s = true) (hA : ∀ a : Nat, a < s.heap.size → ¬ A a) : ∃ t1 t2 : Nat, ∀ (D : va_G) (cf : Nat → ClassId) (ad0 : Nat → Nat), Sta (D, cf, ad0, t1, t2) A s s.heap := by
  obtain ⟨lacking, hv_LACKING, hT_LACKING⟩ : ∃ t : Nat, (Term.static "SetFamilies$Family" "LACKING" "[J").eval args s none [] s = some (.ref t) ∧ va_T .long t 6 (fun j => .long (lackT j)) A s s.heap := by
    refine va_Tof (by decide) (hs (.arrayOf (.static "SetFamilies$Family" "LACKING" "[J") .long) (by decide +kernel)) (va_eqt (hs (.eq (.length (.static "SetFamilies$Family" "LACKING" "[J")) (.int 6)) (by decide +kernel))) (fun j hj => ?_) hA
    match j, hj with
      | 0, _ => exact va_eqtl (hs (.eq (.elem (.static "SetFamilies$Family" "LACKING" "[J") (.int 0)) (.long (6148914691236517205))) (by decide +kernel))
      | 1, _ => exact va_eqtl (hs (.eq (.elem (.static "SetFamilies$Family" "LACKING" "[J") (.int 1)) (.long (3689348814741910323))) (by decide +kernel))
      | 2, _ => exact va_eqtl (hs (.eq (.elem (.static "SetFamilies$Family" "LACKING" "[J") (.int 2)) (.long (1085102592571150095))) (by decide +kernel))
      | 3, _ => exact va_eqtl (hs (.eq (.elem (.static "SetFamilies$Family" "LACKING" "[J") (.int 3)) (.long (71777214294589695))) (by decide +kernel))
      | 4, _ => exact va_eqtl (hs (.eq (.elem (.static "SetFamilies$Family" "LACKING" "[J") (.int 4)) (.long (281470681808895))) (by decide +kernel))
      | 5, _ => exact va_eqtl (hs (.eq (.elem (.static "SetFamilies$Family" "LACKING" "[J") (.int 5)) (.long (4294967295))) (by decide +kernel))
      | j + 6, hj => exact absurd hj (by omega)
  obtain ⟨of_size, hv_OF_SIZE, hT_OF_SIZE⟩ : ∃ t : Nat, (Term.static "SetFamilies$Family" "OF_SIZE" "[J").eval args s none [] s = some (.ref t) ∧ va_T .long t 7 (fun j => .long (sizeT j)) A s s.heap := by
    refine va_Tof (by decide) (hs (.arrayOf (.static "SetFamilies$Family" "OF_SIZE" "[J") .long) (by decide +kernel)) (va_eqt (hs (.eq (.length (.static "SetFamilies$Family" "OF_SIZE" "[J")) (.int 7)) (by decide +kernel))) (fun j hj => ?_) hA
    match j, hj with
      | 0, _ => exact va_eqtl (hs (.eq (.elem (.static "SetFamilies$Family" "OF_SIZE" "[J") (.int 0)) (.long (1))) (by decide +kernel))
      | 1, _ => exact va_eqtl (hs (.eq (.elem (.static "SetFamilies$Family" "OF_SIZE" "[J") (.int 1)) (.long (4295033110))) (by decide +kernel))
      | 2, _ => exact va_eqtl (hs (.eq (.elem (.static "SetFamilies$Family" "OF_SIZE" "[J") (.int 2)) (.long (282668995843688))) (by decide +kernel))
      | 3, _ => exact va_eqtl (hs (.eq (.elem (.static "SetFamilies$Family" "OF_SIZE" "[J") (.int 3)) (.long (78274679833913472))) (by decide +kernel))
      | 4, _ => exact va_eqtl (hs (.eq (.elem (.static "SetFamilies$Family" "OF_SIZE" "[J") (.int 4)) (.long (1614655367130677248))) (by decide +kernel))
      | 5, _ => exact va_eqtl (hs (.eq (.elem (.static "SetFamilies$Family" "OF_SIZE" "[J") (.int 5)) (.long (7530159316599308288))) (by decide +kernel))
      | 6, _ => exact va_eqtl (hs (.eq (.elem (.static "SetFamilies$Family" "OF_SIZE" "[J") (.int 6)) (.long (-9223372036854775808))) (by decide +kernel))
      | j + 7, hj => exact absurd hj (by omega)
  refine ⟨lacking, of_size, fun D cf ad0 => ⟨va_Zof (hts _ (tbm_2 (List.mem_of_getElem? (i := 43) rfl))) (hts _ (tbm_1 (List.mem_of_getElem? (i := 3) rfl))) hv_LACKING hA, hT_LACKING, va_Zof (hts _ (tbm_2 (List.mem_of_getElem? (i := 206) rfl))) (hts _ (tbm_1 (List.mem_of_getElem? (i := 3) rfl))) hv_OF_SIZE hA, hT_OF_SIZE, va_Nw.of rfl (hts _ (tbm_2 (List.mem_of_getElem? (i := 239) rfl))), va_Nw.of rfl (hts _ (tbm_3 (List.mem_of_getElem? (i := 42) rfl))), va_Nw.of rfl (hts _ (tbm_4 (List.mem_of_getElem? (i := 113) rfl)))⟩⟩
theorem ent_k {args : Array Value} {s : State} {k : Nat} {t : String} (h1 : (Cond.stringRef "SetFamilies" k t).before args s = true) (h2 : (Cond.exactly (.string "SetFamilies" k) "java/lang/String").before args s = true) : ∃ a, vk_R "SetFamilies" k t a s := by
  obtain ⟨a, c0, cell, kA, ha, _⟩ := Cond.exactly_spec h2
  exact ⟨a, vk_R.of h1 ha⟩
theorem ent_E {args : Array Value} {s : State} {A : Nat → Prop} (hts : ∀ w ∈ lw_tbl, w.before args s = true) (hs : ∀ c ∈ flatC (Jvm.Cond.and given_1 narrow_1), c.before args s = true) (hA : ∀ a : Nat, a < s.heap.size → ¬ A a) : Ex A s s.heap :=
  ⟨vx_Zqof (hts _ (tbm_3 (List.mem_of_getElem? (i := 118) rfl))) (hts _ (tbm_1 (List.mem_of_getElem? (i := 12) rfl))) (hs (.isRef (.static "java/lang/Throwable" "UNASSIGNED_STACK" "[Ljava/lang/StackTraceElement;")) (by decide +kernel)) hA, vx_Zqof (hts _ (tbm_3 (List.mem_of_getElem? (i := 120) rfl))) (hts _ (tbm_1 (List.mem_of_getElem? (i := 12) rfl))) (hs (.isRef (.static "java/lang/Throwable" "SUPPRESSED_SENTINEL" "Ljava/util/List;")) (by decide +kernel)) hA,
   ⟨va_Nw.of rfl (hts (.castable nIA nIA) (tbm_3 (List.mem_of_getElem? (i := 93) rfl))), va_Nw.of rfl (hts (.castable nIO nIO) (tbm_3 (List.mem_of_getElem? (i := 182) rfl))), va_Nw.of rfl (hts (.castable nIS nIS) (tbm_4 (List.mem_of_getElem? (i := 208) rfl)))⟩,
   ⟨va_Nw.of rfl (hts (.declares (Bundle.initS nRE)) (tbm_3 (List.mem_of_getElem? (i := 95) rfl))), va_Nw.of rfl (hts (.declares (Bundle.initS nEX)) (tbm_3 (List.mem_of_getElem? (i := 97) rfl))), va_Nw.of rfl (hts (.declares (Bundle.initS Bundle.tN)) (tbm_3 (List.mem_of_getElem? (i := 99) rfl)))⟩,
   ⟨va_Nc.of (hs (.not (.castable nIA nIO)) (by decide +kernel)), va_Nc.of (hs (.not (.castable nIS nIA)) (by decide +kernel))⟩,
   (ent_k (hts (.stringRef "SetFamilies" 279 "no such family") (tbm_3 (List.mem_of_getElem? (i := 189) rfl))) (hs (.exactly (.string "SetFamilies" 279) "java/lang/String") (by decide +kernel))), (ent_k (hts (.stringRef "SetFamilies" 282 "out of range") (tbm_3 (List.mem_of_getElem? (i := 132) rfl))) (hs (.exactly (.string "SetFamilies" 282) "java/lang/String") (by decide +kernel))), (ent_k (hts (.stringRef "SetFamilies" 284 "negative") (tbm_3 (List.mem_of_getElem? (i := 238) rfl))) (hs (.exactly (.string "SetFamilies" 284) "java/lang/String") (by decide +kernel))), (ent_k (hts (.stringRef "SetFamilies" 155 "the two elements are equal") (tbm_4 (List.mem_of_getElem? (i := 65) rfl))) (hs (.exactly (.string "SetFamilies" 155) "java/lang/String") (by decide +kernel))), (ent_k (hts (.stringRef "SetFamilies" 244 "the text is full") (tbm_4 (List.mem_of_getElem? (i := 215) rfl))) (hs (.exactly (.string "SetFamilies" 244) "java/lang/String") (by decide +kernel))), (ent_k (hts (.stringRef "SetFamilies" 256 "the undo stack is empty") (tbm_5 (List.mem_of_getElem? (i := 6) rfl))) (hs (.exactly (.string "SetFamilies" 256) "java/lang/String") (by decide +kernel)))⟩
