theorem G_pm {z : Zt} {D : va_G} {A : Nat → Prop} {nL : Nat} {ws ws' : va_W} {ce sl pc : Nat} {lv : List (Nat × Value)} {st : List Value} (h1 : ∀ H, va_P D vwCl ws H → va_P D vwCl ws' H) (h2 : va_D A ws → va_D A ws') (K : G z D A nL ws' ce sl pc lv st) : G z D A nL ws ce sl pc lv st := fun H locs ls hP hD hS hl => K H locs ls (h1 H hP) (h2 hD) hS hl
set_option maxHeartbeats 4000000 in
set_option maxRecDepth 100000 in
theorem lw_G {z : Zt} {A : Nat → Prop} {l : Launch} {g : Gd} {b L : Nat} {xs : Nat → Int32} (C : Cx z A l room_1 cL_law 8 "SetFamiliesLaw") (X : Kn z g) (Sg : ∀ ad0 : Nat → Nat, Sta (g.1, g.2.1, ad0, g.2.2.2) A (zs z) (zs z).heap) (Ee : Ex A (zs z) (zs z).heap) (Lz : Lx z A b L xs) (hl : l.stackTraces = false) (hL : L ≤ 2560) : G z g.1 A 8 ([] ++ []) 0 0 0 [(0, .ref b)] [] := by
  refine n_new C X (R := RX10) (T := TX10) (N := 12) (ci := 9) (fs := [.null, .null, .null, .null, .null, .null, .null, .null, .null, .null, .null, .null]) inw10 tyX10_ok hw_1_24 hw_1_25 hw_1_1 rfl (fun j hj => by rcases (show j = 0 ∨ j = 1 ∨ j = 2 ∨ j = 3 ∨ j = 4 ∨ j = 5 ∨ j = 6 ∨ j = 7 ∨ j = 8 ∨ j = 9 ∨ j = 10 ∨ j = 11 by omega) with rfl | rfl | rfl | rfl | rfl | rfl | rfl | rfl | rfl | rfl | rfl | rfl <;> rfl) (by decide) (by decide) dL_law_0 (fun q0_1 => ?_)
  refine G_ce (ce' := 1) (sl' := 12) (show 0 + 1 = 1 from rfl) (show 0 + 12 = 12 from rfl) ?_
  refine G_ws (ws' := ([] : va_W) ++ [(q0_1, .inr (9, [.null, .null, .null, .null, .null, .null, .null, .null, .null, .null, .null, .null]))]) rfl ?_
  refine r_dup C dL_law_3 rfl ?_
  refine n_callI C X (ce := 1) (sl := 12) (c := []) (As := []) (rest := [.ref q0_1]) miX10_init rfl hw_1_27 (k_X10_init l g (([] : va_W) ++ []) q0_1) hw_1_26 rfl ⟨by decide, by decide, (by decide), (by decide)⟩ rfl (Nat.le_of_ble_eq_true rfl) dL_law_4 (fun c4 hp4 => ?_)
  refine G_ce (ce' := 123) (sl' := 4224) (show 1 + 122 = 123 from rfl) (show 12 + 4212 = 4224 from rfl) ?_
  refine G_ws (ws' := ([] : va_W) ++ (c4)) rfl ?_
  refine r_astore_n C (lv' := [(1, .ref q0_1), (0, .ref b)]) 1 dL_law_7 rfl (by decide) rfl ?_
  refine n_new C X (R := RX11) (T := TX11) (N := 15) (ci := 10) (fs := [.int (nI 0), .int (nI 0), .null, .null, .null, .int (nI 0), .null, .int (nI 0), .null, .long (lN 0), .long (lN 0), .null, .int (nI 0), .null, .long (lN 0)]) inw11 tyX11_ok hw_5_12 hw_5_13 hw_1_11 rfl (fun j hj => by rcases (show j = 0 ∨ j = 1 ∨ j = 2 ∨ j = 3 ∨ j = 4 ∨ j = 5 ∨ j = 6 ∨ j = 7 ∨ j = 8 ∨ j = 9 ∨ j = 10 ∨ j = 11 ∨ j = 12 ∨ j = 13 ∨ j = 14 by omega) with rfl | rfl | rfl | rfl | rfl | rfl | rfl | rfl | rfl | rfl | rfl | rfl | rfl | rfl | rfl <;> rfl) (by decide) (by decide) dL_law_8 (fun q8_2 => ?_)
  refine G_ce (ce' := 124) (sl' := 4239) (show 123 + 1 = 124 from rfl) (show 4224 + 15 = 4239 from rfl) ?_
  refine G_ws (ws' := ([] : va_W) ++ ((c4 ++ [(q8_2, .inr (10, [.int (nI 0), .int (nI 0), .null, .null, .null, .int (nI 0), .null, .int (nI 0), .null, .long (lN 0), .long (lN 0), .null, .int (nI 0), .null, .long (lN 0)]))]))) rfl ?_
  refine r_dup C dL_law_11 rfl ?_
  refine n_callI C X (ce := 124) (sl := 4239) (c := (c4)) (As := []) (rest := [.ref q8_2]) miX11_init rfl hw_5_15 (k_X11_init l g (([] : va_W) ++ (c4)) q8_2) hw_5_14 rfl ⟨by decide, by decide, (by decide), (by decide)⟩ rfl (Nat.le_of_ble_eq_true rfl) dL_law_12 (fun c12 hp12 => ?_)
  refine G_ce (ce' := 131) (sl' := 26902) (show 124 + 7 = 131 from rfl) (show 4239 + 22663 = 26902 from rfl) ?_
  refine G_ws (ws' := ([] : va_W) ++ ((c4 ++ c12))) rfl ?_
  refine r_astore_n C (lv' := [(2, .ref q8_2), (1, .ref q0_1), (0, .ref b)]) 2 dL_law_15 rfl (by decide) rfl ?_
  refine r_iconst C (v := (nI 1)) dL_law_16 rfl ?_
  refine n_newa C X (atype := .long) (ty := .long) (t := 2) (x := (1, .inr (.inl (fun _ => lN 0)))) hw_1_69 rfl rfl (fun _ => rfl) (by decide) (Nat.le_of_ble_eq_true rfl) (by decide) (by decide) dL_law_17 (fun q17_3 => ?_)
  refine G_ce (ce' := 132) (sl' := 26903) (show 131 + 1 = 132 from rfl) (show 26902 + 1 = 26903 from rfl) ?_
  refine G_ws (ws' := ([] : va_W) ++ (((c4 ++ c12) ++ [(q17_3, .inl (cy g 2, 1, .inr (.inl (fun _ => lN 0))))]))) rfl ?_
  refine r_astore_n C (lv' := [(3, .ref q17_3), (2, .ref q8_2), (1, .ref q0_1), (0, .ref b)]) 3 dL_law_19 rfl (by decide) rfl ?_
  refine r_iconst C (v := (nI 0)) dL_law_20 rfl ?_
  refine r_istore C (lv' := [(4, .int (nI 0)), (3, .ref q17_3), (2, .ref q8_2), (1, .ref q0_1), (0, .ref b)]) 4 dL_law_21 (by decide) rfl ?_
  obtain ⟨gr, ar, F4, W4, ch_, ct_, cd_, cm_, cs_, cf_, cp_, hi, tx, dv, cr, sh, su, pc, me, rs, hp, wr, wh, rfl, ⟨eh, sv, F6, W6, rfl⟩, ⟨tq, rfl⟩, ⟨d1, v1, d2, v2, d3, v3, rfl⟩, ⟨e1, x1, e2, x2, e3, x3, rfl⟩, ⟨tr, Ft, Wt, rfl⟩, ⟨ln, Fl, Wl, s1, y1, s2, y2, co, rfl⟩, ⟨pq, pr, rfl⟩⟩ := hp4
  obtain ⟨n1, n2, n3, n4, n5, n6, n7, rfl⟩ := hp12
  refine G_sub (lv' := [(0, .ref b), (1, .ref q0_1), (2, .ref q8_2), (3, .ref q17_3), (4, .int (nI 0))]) [4, 3, 2, 1, 0] rfl ?_
  refine G_ws (ws' := wsC g q0_1 gr ar hi eh sv tx tq dv cr sh tr su ln co pc pq pr me q8_2 n1 n2 n3 n4 n5 n6 n7 q17_3 d1 d2 d3 e1 e2 e3 s1 s2 rs hp v1 v2 v3 x1 x2 x3 y1 y2 wr wh F4 W4 F6 W6 Ft Wt Fl Wl) rfl ?_
  rw [wsC_E]
  refine G_pm (ws' := wd (gdC g q0_1 gr ar hi eh sv tx tq dv cr sh tr su ln co pc pq pr me q8_2 n1 n2 n3 n4 n5 n6 n7 q17_3 d1 d2 d3 e1 e2 e3 s1 s2 rs hp v1 v2 v3 x1 x2 x3 y1 y2 wr wh F4 W4 F6 W6 Ft Wt Fl Wl) mu0) (fun H h => ws_P g q0_1 gr ar hi eh sv tx tq dv cr sh tr su ln co pc pq pr me q8_2 n1 n2 n3 n4 n5 n6 n7 q17_3 d1 d2 d3 e1 e2 e3 s1 s2 rs hp v1 v2 v3 x1 x2 x3 y1 y2 wr wh F4 W4 F6 W6 Ft Wt Fl Wl h) (fun h => ws_D g q0_1 gr ar hi eh sv tx tq dv cr sh tr su ln co pc pq pr me q8_2 n1 n2 n3 n4 n5 n6 n7 q17_3 d1 d2 d3 e1 e2 e3 s1 s2 rs hp v1 v2 v3 x1 x2 x3 y1 y2 wr wh F4 W4 F6 W6 Ft Wt Fl Wl h) ?_
  exact lp_law (g := gdC g q0_1 gr ar hi eh sv tx tq dv cr sh tr su ln co pc pq pr me q8_2 n1 n2 n3 n4 n5 n6 n7 q17_3 d1 d2 d3 e1 e2 e3 s1 s2 rs hp v1 v2 v3 x1 x2 x3 y1 y2 wr wh F4 W4 F6 W6 Ft Wt Fl Wl) C ⟨X.1, Sg _⟩ Ee Lz (fun i μ h => h.w) (all_st hl) hL (L + 6) 0 132 26903 mu0 (by omega) (by omega) (by omega) (by omega) iv0
set_option maxHeartbeats 4000000 in
set_option maxRecDepth 100000 in
theorem whole_start {p : Program} {e : Env} {s : State} {m : MethodId} {below : List Frame} {meth : Method} {c : Code} (l : Launch) (hflags : l.flags = flags0) {b L : Nat} {xs : Nat → Int32} (hL : L ≤ 2560) (C0 : lw_At p s m meth c b L xs) : W p l e room_1 s m #[Value.ref b] below meth c s.heap [] 0 0 (lw_Z below #[Value.ref b] s) (entryFrame m ([Value.ref b] : List Value).toArray 8) := by
  obtain ⟨hx, hb, hr, hml, hown, hts, hX, hbl, hlocks, hgv⟩ := id C0
  have hs := flat_of_before _ hgv
  have hgw : ∀ w ∈ gw, w.before #[Value.ref b] s = true := fun w h => hts w (List.mem_filter.mp h).1
  have hA : ∀ a : Nat, a < s.heap.size → ¬ (fun q : Nat => s.heap.size ≤ q) a := fun a h => Nat.not_le.mpr h
  obtain ⟨D, cf, hK, hAO⟩ := ent_K hts hgw
  obtain ⟨t1, t2, hSt⟩ := ent_S (A := fun q : Nat => s.heap.size ≤ q) hts hs hA
  have hE := ent_E (A := fun q : Nat => s.heap.size ≤ q) hts hs hA
  have hl : l.stackTraces = false := by unfold Launch.stackTraces; rw [hflags]; decide
  have K := lw_G (z := (p, l, e, room_1, s, m, #[Value.ref b], below, meth, c, lw_Z below #[Value.ref b] s)) (A := fun q : Nat => s.heap.size ≤ q) (l := l) (g := (D, cf, fun _ => 0, t1, t2)) (b := b) (L := L) (xs := xs) ⟨hx, hb, hml, hown, hgw, fun q h => h, hlocks, rfl, rfl⟩ ⟨hK, hAO⟩ (fun ad0 => hSt D cf ad0) hE ⟨hr, rfl, rfl, rfl, rfl, hX, hbl⟩ hl hL
  rw [lg_entry_eq]
  exact K s.heap [] _ (fun k q h => by simp at h) ⟨fun i j p q h => by simp at h, fun k q h => by simp at h⟩ va_S.rf (lv_entry [.ref b] (n := 8) (Nat.le_of_ble_eq_true rfl))
set_option maxHeartbeats 4000000 in
theorem lw_walk (l : Launch) (hflags : l.flags = flags0) (b : Addr) (xs : List Int32) : MetFree l x (headSpec (Jvm.Cond.code x code maxLocals ret :: tables_1) room_1) (lw_P b xs) (fun _ _ _ _ _ => True) lw_Q := by
  refine MetFree.of_bodyS (code := code) (maxLocals := maxLocals) (ret := ret) (by decide) ?_ ?_
  · intro args s m h hn
    obtain ⟨meth, c, h1, h2, h3, h4, h5, h6, -, -⟩ := Cond.code_spec hn (atoms_spec (ws := Jvm.Cond.code x code maxLocals ret :: tables_1) h _ List.mem_cons_self)
    exact ⟨meth, c, h1, h2, h3, h4, h5, h6⟩
  · intro p e s m args below meth c s₁ B hml0 hP _
    obtain ⟨rfl, hx, hbd, hgv⟩ := hP
    obtain ⟨scr, harrAt, hlist, hof, hsmall⟩ := hx
    obtain ⟨hcb, hkn, -, -⟩ := State.arrayAt?_spec harrAt
    have hown : s.vm.findClass R_law = some m.cls := findClass_of_methodNamed B.named
    have hts0 : ∀ c ∈ (Jvm.Cond.code x code maxLocals ret :: tables_1), c.before #[Value.ref b] s = true := atoms_spec (ws := Jvm.Cond.code x code maxLocals ret :: tables_1) B.pre
    have hts : ∀ w ∈ lw_tbl, w.before #[Value.ref b] s = true := k2_hts_sels lw_privs (fun w hw => hts0 w (List.mem_cons_of_mem _ hw)) lw_privs_ok
    have hml : c.maxLocals = 8 := B.maxLocals_eq (hts0 _ List.mem_cons_self)
    have X₀ : Stand p l e room_1 s m #[Value.ref b] below meth c s₁ [] 0 0 := Stand.of_body B
    have hh0 : s₁.heap = s.heap := by rw [B.state]; rfl
    have hsz : scr.slots.size = xs.length := by rw [← Array.length_toList, hlist, List.length_map]
    have hval : ∀ j : Nat, j < xs.length → scr.slots[j]? = some (.int (xs.getD j 0)) := fun j hj => by
      rw [← Array.getElem?_toList, hlist]
      simp [hj]
    have hbl : b < s.heap.size := (Array.getElem?_eq_some_iff.mp hcb).1
    have hX : va_X b xs.length (fun j => xs.getD j 0) s s.heap := ⟨scr, hcb, hof, hkn, hsz, hval⟩
    have K : W p l e room_1 s m #[Value.ref b] below meth c s₁.heap [] 0 0 (lw_Z below #[Value.ref b] s) (entryFrame m ([Value.ref b] : List Value).toArray 8) := by
      rw [hh0]
      exact whole_start l hflags hbd ⟨B.exec, B.bytes, B.returns, hml, hown, hts, hX, hbl, B.notSynchronized, hgv⟩
    obtain ⟨t, a1, o, b1, b2, b3⟩ := K s₁ rfl X₀
    exact ⟨t, o, a1, b1, b2, b3⟩
theorem lw_pre_spec {args : Array Value} {s : State} (h : (Jvm.Cond.and given_1 narrow_1).before args s = true) (hr : rest_1_c.before args s = true) : ∃ (b : Addr) (xs : List Int32), lw_P b xs args s := by
  have hs := flat_of_before _ h
  have hq := flat_of_before _ hr
  have hc : (Cond.count 1).before args s = true := hs _ (by decide +kernel)
  have harr : (Cond.arrayOf (.arg 0) .int).before args s = true := hs _ (by decide +kernel)
  have hle : (Cond.le (.length (.arg 0)) (.int 2560)).before args s = true := hs _ (by decide +kernel)
  have hlen : (Cond.isInt (.length (.arg 0))).before args s = true := hq _ (by decide +kernel)
  have hall : (Cond.all (.arg 0) (.isInt (.elem (.arg 0) (.index 0)))).before args s = true := hq _ (by decide +kernel)
  obtain ⟨b, xs, hb, hx⟩ := State.ints_of_pre rfl harr hlen hall
  have hsm : xs.length < 2 ^ 31 := hx.choose_spec.2.2.2
  have hev : (Term.length (.arg 0)).eval args s none [] s = some (.int xs.length.toInt32) := hx.length_eval hb
  have hv := Cond.le_ints hev (show (Term.int 2560).eval args s none [] s = some (.int 2560) from rfl)
  have hd : xs.length.toInt32 ≤ 2560 := by
    simpa [Cond.before, Cond.holds, hv] using hle
  have hN : xs.length ≤ 2560 := (Int32.ofNat_le_ofNat hsm (by decide)).mp (show Int32.ofNat xs.length ≤ Int32.ofNat 2560 from hd)
  exact ⟨b, xs, Cond.one_arg hc (show args[0]? = some (.ref b) from hb), hx, hN, h⟩
theorem lw_comes (l : Launch) (hflags : l.flags = flags0) : Comes l x (Jvm.Cond.code x code maxLocals ret :: tables_1) room_1 (fun tb e args s => Calls_1 tb e args s ∧ rest_1 tb e args s ∧ Pre_1 tb e args s)
    (fun _ _ args s o t => lw_Q args s o t) := by
  intro p e ha hc hk s m args below hf hfit hheap happ hpre
  obtain ⟨b, xs, hP⟩ := lw_pre_spec hpre.2.2 hpre.2.1
  obtain ⟨k, o, h1, h2, h3, hQ⟩ := lw_walk l hflags b xs p e ha hc hk s m args below hf ((Spec.applies_iff_loose hf).mp happ).1 hP trivial
  exact ⟨k, o, h1, h2, h3, hQ⟩
theorem lw_frame {s t : State} {o : Outcome} {args : Array Value} (h : Framed s o t [] 601024 7293034) :
    Framed s o t (fieldLocs frame_1_writes args s ++ arrayLocs frame_1_arrays args s ++ staticLocs frame_1_statics s) 601024 7293034 := h
theorem lw_limb (L : Cond) (hL : ∀ (args : Array Value) (s t : State), L.after args s (.returned (some (.int 1))) t = true) :
    ArmFor flags0 classFile x code maxLocals ret World_1 tables_1 room_1 Calls_1 rest_1 Pre_1
      (fun tb e a s o t => postC L tb e a s o t ∧ Framed s o t (fieldLocs frame_1_writes a s ++ arrayLocs frame_1_arrays a s ++ staticLocs frame_1_statics s) 601024 7293034) := by
  intro l hflags _ _ p e ha hc hk s m args below hf hfit hheap happ hpre
  obtain ⟨k, o, h1, h2, h3, rfl, hF⟩ := lw_comes l hflags p e ha hc hk s m args below hf hfit hheap happ hpre
  exact ⟨k, _, h1, h2, h3, hL args s _, lw_frame hF⟩
theorem i_vc : Claimed_1_1 ∧ Claimed_1_2 := ⟨lw_limb limb_1_1 (fun args s t => by simp [limb_1_1, Cond.after, Cond.holds, Cond.value]), lw_limb limb_1_2 (fun args s t => Cond.after_iff.mpr (by
  first | (rw [show limb_1_2 = Cond.eq .result (.int 1) from rfl, Cond.eq_ints (x := 1) (y := 1) rfl rfl]; simp; done) | (simp [limb_1_2, Cond.value, Term.eval]; done)))⟩

