set_option maxHeartbeats 1000000 in
set_option maxRecDepth 100000 in
theorem lc_setGround {z : Zt} {A : Nat → Prop} {l : Launch} {g : Gd} {μ : Mm} {b L : Nat} {xs : Nat → Int32} (C : Cx z A l room_1 cL_law 8 "SetFamiliesLaw") (X : Kx z g A) (Ee : Ex A (zs z) (zs z).heap) (Lz : Lx z A b L xs) {Inv : Nat → Mm → Prop} (hS : St_setGround l g Inv) {i ce sl : Nat} (hI : Inv i μ) (hi : i + 5 ≤ L) (hL : L ≤ 2560) (hce : ce + 1 ≤ 601024) (hsl : sl + 6 ≤ 7293034) (KK : ∀ μ', Inv (i + 5) μ' → G z g.1 A 8 (wd g μ') (ce + 1) (sl + 6) 2110 [(0, .ref b), (1, .ref (ad g 0)), (2, .ref (ad g 19)), (3, .ref (ad g 27)), (4, .int (nI i))] []) : G z g.1 A 8 (wd g μ) ce sl 172 [(0, .ref b), (1, .ref (ad g 0)), (2, .ref (ad g 19)), (3, .ref (ad g 27)), (4, .int (nI i))] [] := by
  obtain ⟨k, μ1, μ2, v, r1, r2, hr, hM1, hM2, h5, ho, hI2⟩ := hS i μ (xs (i + 1)) (by omega) hI
  refine r_aload_n C dL_law_172 1 rfl ?_
  refine r_aload_n C dL_law_173 0 rfl ?_
  refine r_iload C dL_law_174 4 rfl ?_
  refine r_iconst C (v := (nI 1)) dL_law_176 rfl ?_
  refine r_iadd C (v := (nI (i + 1))) dL_law_177 (nI_add _ _) ?_
  refine l_sld C Lz (j := i + 1) (by omega) hL dL_law_178 ?_
  refine r_aload_n C dL_law_179 3 rfl ?_
  refine r_callW C X Ee (As := [.ref (ad g 0), .int (xs (i + 1)), .ref (ad g 27)]) (rest := []) (st1 := [.int (nI k)]) (μ' := μ1) mcL_setGround miL_setGround hM1 hw_3_80 rfl (hR_w hr.2.1 (by decide) hce hsl) rfl (Nat.le_of_ble_eq_true rfl) dL_law_180 rfl ?_
  refine r_istore C (lv' := [(5, .int (nI k)), (0, .ref b), (1, .ref (ad g 0)), (2, .ref (ad g 19)), (3, .ref (ad g 27)), (4, .int (nI i))]) 5 dL_law_183 (by decide) rfl ?_
  refine r_aload_n C dL_law_185 3 rfl ?_
  refine r_aload_n C dL_law_186 1 rfl ?_
  refine r_iload C dL_law_187 5 rfl ?_
  refine r_iconst C (v := (nI 1)) dL_law_189 rfl ?_
  refine r_iadd C (v := (nI (i + 1))) dL_law_190 (nI_add _ _) ?_
  refine l_sld C Lz (j := i + 1) (by omega) hL dL_law_191 ?_
  refine r_callV C X (As := [.int (xs (i + 1))]) (rest := []) (st1 := [.int v]) (μ' := μ2) (k := 19) (T := TX11) miX11_setGround mvX11_setGround hM2 hw_5_73 (by decide) rfl rfl rfl (hR_c hr.2.2 (by decide) (by omega) (by omega)) rfl (Nat.le_of_ble_eq_true rfl) dL_law_192 rfl ?_
  refine r_istore C (lv' := [(6, .int v), (5, .int (nI k)), (0, .ref b), (1, .ref (ad g 0)), (2, .ref (ad g 19)), (3, .ref (ad g 27)), (4, .int (nI i))]) 6 dL_law_195 (by decide) rfl ?_
  refine r_aload_n C dL_law_197 4 rfl ?_
  refine r_callV C X (As := []) (rest := []) (st1 := [.int (gI μ2 5)]) (μ' := μ2) (k := 19) (T := TX11) miX11_thrown mvX11_thrown (c_thrown l g μ2) hw_5_65 (by decide) rfl rfl rfl (hR_c ⟨by decide, by decide, rfl, rfl⟩ (by decide) (by omega) (by omega)) rfl (Nat.le_of_ble_eq_true rfl) dL_law_198 rfl ?_
  refine G_top (y := (nI k)) h5 ?_
  refine r_iload C dL_law_201 1 rfl ?_
  refine r_icmp_eq C 208 dL_law_203 (by decide) (nI_eq (by omega) (by omega)) (fun h203 => ?_) (fun h203 => ?_)
  · refine r_iload C dL_law_208 1 rfl ?_
    refine r_if_ne C 225 dL_law_210 (by decide) (zI_ne (by omega)) (fun h210 => ?_) (fun h210 => ?_)
    · refine r_goto C 2110 dL_law_225 (by decide) ?_
      refine G_sub (lv' := [(0, .ref b), (1, .ref (ad g 0)), (2, .ref (ad g 19)), (3, .ref (ad g 27)), (4, .int (nI i))]) [2, 3, 4, 5, 6] rfl ?_
      exact KK μ2 hI2
    · refine r_aload_n C dL_law_213 5 rfl ?_
      refine r_iconst C (v := (nI 0)) dL_law_214 rfl ?_
      refine r_lald C X (k := 27) (v := (gJ μ2 53 0)) (by decide) rfl (by omega) (by decide) rfl dL_law_215 ?_
      refine G_topl (y := v.toInt64) (ho (Decidable.not_not.mp h210)) ?_
      refine r_iload C dL_law_216 0 rfl ?_
      refine r_i2l C (v := ((v).toInt64)) dL_law_218 rfl ?_
      refine r_lcmp C dL_law_219 ?_
      refine r_if_eq C 225 dL_law_220 (by decide) (lgc_eq _ _) (fun h220 => ?_) (fun h220 => ?_)
      · refine r_goto C 2110 dL_law_225 (by decide) ?_
        refine G_sub (lv' := [(0, .ref b), (1, .ref (ad g 0)), (2, .ref (ad g 19)), (3, .ref (ad g 27)), (4, .int (nI i))]) [2, 3, 4, 5, 6] rfl ?_
        exact KK μ2 hI2
      · exact absurd rfl h220
  · exact absurd rfl h203
set_option maxHeartbeats 1000000 in
set_option maxRecDepth 100000 in
theorem lc_add {z : Zt} {A : Nat → Prop} {l : Launch} {g : Gd} {μ : Mm} {b L : Nat} {xs : Nat → Int32} (C : Cx z A l room_1 cL_law 8 "SetFamiliesLaw") (X : Kx z g A) (Ee : Ex A (zs z) (zs z).heap) (Lz : Lx z A b L xs) {Inv : Nat → Mm → Prop} (hS : St_add l g Inv) {i ce sl : Nat} (hI : Inv i μ) (hi : i + 5 ≤ L) (hL : L ≤ 2560) (hce : ce + 1 ≤ 601024) (hsl : sl + 6 ≤ 7293034) (KK : ∀ μ', Inv (i + 5) μ' → G z g.1 A 8 (wd g μ') (ce + 1) (sl + 6) 2110 [(0, .ref b), (1, .ref (ad g 0)), (2, .ref (ad g 19)), (3, .ref (ad g 27)), (4, .int (nI i))] []) : G z g.1 A 8 (wd g μ) ce sl 228 [(0, .ref b), (1, .ref (ad g 0)), (2, .ref (ad g 19)), (3, .ref (ad g 27)), (4, .int (nI i))] [] := by
  obtain ⟨k, μ1, μ2, v, r1, r2, hr, hM1, hM2, h5, ho, hI2⟩ := hS i μ (xs (i + 1)) (xs (i + 2)) (by omega) hI
  refine r_aload_n C dL_law_228 1 rfl ?_
  refine r_aload_n C dL_law_229 0 rfl ?_
  refine r_iload C dL_law_230 4 rfl ?_
  refine r_iconst C (v := (nI 1)) dL_law_232 rfl ?_
  refine r_iadd C (v := (nI (i + 1))) dL_law_233 (nI_add _ _) ?_
  refine l_sld C Lz (j := i + 1) (by omega) hL dL_law_234 ?_
  refine r_aload_n C dL_law_235 0 rfl ?_
  refine r_iload C dL_law_236 4 rfl ?_
  refine r_iconst C (v := (nI 2)) dL_law_238 rfl ?_
  refine r_iadd C (v := (nI (i + 2))) dL_law_239 (nI_add _ _) ?_
  refine l_sld C Lz (j := i + 2) (by omega) hL dL_law_240 ?_
  refine r_aload_n C dL_law_241 3 rfl ?_
  refine r_callW C X Ee (As := [.ref (ad g 0), .int (xs (i + 1)), .int (xs (i + 2)), .ref (ad g 27)]) (rest := []) (st1 := [.int (nI k)]) (μ' := μ1) mcL_add miL_add hM1 hw_3_169 rfl (hR_w hr.2.1 (by decide) hce hsl) rfl (Nat.le_of_ble_eq_true rfl) dL_law_242 rfl ?_
  refine r_istore C (lv' := [(5, .int (nI k)), (0, .ref b), (1, .ref (ad g 0)), (2, .ref (ad g 19)), (3, .ref (ad g 27)), (4, .int (nI i))]) 5 dL_law_245 (by decide) rfl ?_
  refine r_aload_n C dL_law_247 3 rfl ?_
  refine r_aload_n C dL_law_248 1 rfl ?_
  refine r_iload C dL_law_249 5 rfl ?_
  refine r_iconst C (v := (nI 1)) dL_law_251 rfl ?_
  refine r_iadd C (v := (nI (i + 1))) dL_law_252 (nI_add _ _) ?_
  refine l_sld C Lz (j := i + 1) (by omega) hL dL_law_253 ?_
  refine r_aload_n C dL_law_254 1 rfl ?_
  refine r_iload C dL_law_255 5 rfl ?_
  refine r_iconst C (v := (nI 2)) dL_law_257 rfl ?_
  refine r_iadd C (v := (nI (i + 2))) dL_law_258 (nI_add _ _) ?_
  refine l_sld C Lz (j := i + 2) (by omega) hL dL_law_259 ?_
  refine r_callV C X (As := [.int (xs (i + 1)), .int (xs (i + 2))]) (rest := []) (st1 := [.int (bI v)]) (μ' := μ2) (k := 19) (T := TX11) miX11_add mvX11_add hM2 hw_5_84 (by decide) rfl rfl rfl (hR_c hr.2.2 (by decide) (by omega) (by omega)) rfl (Nat.le_of_ble_eq_true rfl) dL_law_260 rfl ?_
  refine r_istore C (lv' := [(6, .int (bI v)), (5, .int (nI k)), (0, .ref b), (1, .ref (ad g 0)), (2, .ref (ad g 19)), (3, .ref (ad g 27)), (4, .int (nI i))]) 6 dL_law_263 (by decide) rfl ?_
  refine r_aload_n C dL_law_265 4 rfl ?_
  refine r_callV C X (As := []) (rest := []) (st1 := [.int (gI μ2 5)]) (μ' := μ2) (k := 19) (T := TX11) miX11_thrown mvX11_thrown (c_thrown l g μ2) hw_5_65 (by decide) rfl rfl rfl (hR_c ⟨by decide, by decide, rfl, rfl⟩ (by decide) (by omega) (by omega)) rfl (Nat.le_of_ble_eq_true rfl) dL_law_266 rfl ?_
  refine G_top (y := (nI k)) h5 ?_
  refine r_iload C dL_law_269 1 rfl ?_
  refine r_icmp_eq C 276 dL_law_271 (by decide) (nI_eq (by omega) (by omega)) (fun h271 => ?_) (fun h271 => ?_)
  · refine r_iload C dL_law_276 1 rfl ?_
    refine r_if_ne C 300 dL_law_278 (by decide) (zI_ne (by omega)) (fun h278 => ?_) (fun h278 => ?_)
    · refine r_goto C 2110 dL_law_300 (by decide) ?_
      refine G_sub (lv' := [(0, .ref b), (1, .ref (ad g 0)), (2, .ref (ad g 19)), (3, .ref (ad g 27)), (4, .int (nI i))]) [2, 3, 4, 5, 6] rfl ?_
      exact KK μ2 hI2
    · refine r_aload_n C dL_law_281 5 rfl ?_
      refine r_iconst C (v := (nI 0)) dL_law_282 rfl ?_
      refine r_lald C X (k := 27) (v := (gJ μ2 53 0)) (by decide) rfl (by omega) (by decide) rfl dL_law_283 ?_
      refine G_topl (y := (bL v)) (ho (Decidable.not_not.mp h278)) ?_
      refine r_iload C dL_law_284 0 rfl ?_
      refine r_if_eq C 293 dL_law_286 (by decide) (bI_eq _) (fun h286 => ?_) (fun h286 => ?_)
      · refine r_lconst C (v := (lN 0)) dL_law_293 rfl ?_
        refine r_lcmp C dL_law_294 ?_
        refine r_if_eq C 300 dL_law_295 (by decide) (lgc_eq _ _) (fun h295 => ?_) (fun h295 => ?_)
        · refine r_goto C 2110 dL_law_300 (by decide) ?_
          refine G_sub (lv' := [(0, .ref b), (1, .ref (ad g 0)), (2, .ref (ad g 19)), (3, .ref (ad g 27)), (4, .int (nI i))]) [2, 3, 4, 5, 6] rfl ?_
          exact KK μ2 hI2
        · exact absurd (by first | (rw [h286]; rfl) | (rw [ts_t h286]; rfl)) h295
      · refine r_lconst C (v := (lN 1)) dL_law_289 rfl ?_
        refine r_goto C 294 dL_law_290 (by decide) ?_
        refine r_lcmp C dL_law_294 ?_
        refine r_if_eq C 300 dL_law_295 (by decide) (lgc_eq _ _) (fun h295 => ?_) (fun h295 => ?_)
        · refine r_goto C 2110 dL_law_300 (by decide) ?_
          refine G_sub (lv' := [(0, .ref b), (1, .ref (ad g 0)), (2, .ref (ad g 19)), (3, .ref (ad g 27)), (4, .int (nI i))]) [2, 3, 4, 5, 6] rfl ?_
          exact KK μ2 hI2
        · exact absurd (by first | (rw [h286]; rfl) | (rw [ts_t h286]; rfl)) h295
  · exact absurd rfl h271
set_option maxHeartbeats 1000000 in
set_option maxRecDepth 100000 in
theorem lc_remove {z : Zt} {A : Nat → Prop} {l : Launch} {g : Gd} {μ : Mm} {b L : Nat} {xs : Nat → Int32} (C : Cx z A l room_1 cL_law 8 "SetFamiliesLaw") (X : Kx z g A) (Ee : Ex A (zs z) (zs z).heap) (Lz : Lx z A b L xs) {Inv : Nat → Mm → Prop} (hS : St_remove l g Inv) {i ce sl : Nat} (hI : Inv i μ) (hi : i + 5 ≤ L) (hL : L ≤ 2560) (hce : ce + 1 ≤ 601024) (hsl : sl + 6 ≤ 7293034) (KK : ∀ μ', Inv (i + 5) μ' → G z g.1 A 8 (wd g μ') (ce + 1) (sl + 6) 2110 [(0, .ref b), (1, .ref (ad g 0)), (2, .ref (ad g 19)), (3, .ref (ad g 27)), (4, .int (nI i))] []) : G z g.1 A 8 (wd g μ) ce sl 303 [(0, .ref b), (1, .ref (ad g 0)), (2, .ref (ad g 19)), (3, .ref (ad g 27)), (4, .int (nI i))] [] := by
  obtain ⟨k, μ1, μ2, v, r1, r2, hr, hM1, hM2, h5, ho, hI2⟩ := hS i μ (xs (i + 1)) (xs (i + 2)) (by omega) hI
  refine r_aload_n C dL_law_303 1 rfl ?_
  refine r_aload_n C dL_law_304 0 rfl ?_
  refine r_iload C dL_law_305 4 rfl ?_
  refine r_iconst C (v := (nI 1)) dL_law_307 rfl ?_
  refine r_iadd C (v := (nI (i + 1))) dL_law_308 (nI_add _ _) ?_
  refine l_sld C Lz (j := i + 1) (by omega) hL dL_law_309 ?_
  refine r_aload_n C dL_law_310 0 rfl ?_
  refine r_iload C dL_law_311 4 rfl ?_
  refine r_iconst C (v := (nI 2)) dL_law_313 rfl ?_
  refine r_iadd C (v := (nI (i + 2))) dL_law_314 (nI_add _ _) ?_
  refine l_sld C Lz (j := i + 2) (by omega) hL dL_law_315 ?_
  refine r_aload_n C dL_law_316 3 rfl ?_
  refine r_callW C X Ee (As := [.ref (ad g 0), .int (xs (i + 1)), .int (xs (i + 2)), .ref (ad g 27)]) (rest := []) (st1 := [.int (nI k)]) (μ' := μ1) mcL_remove miL_remove hM1 hw_3_206 rfl (hR_w hr.2.1 (by decide) hce hsl) rfl (Nat.le_of_ble_eq_true rfl) dL_law_317 rfl ?_
  refine r_istore C (lv' := [(5, .int (nI k)), (0, .ref b), (1, .ref (ad g 0)), (2, .ref (ad g 19)), (3, .ref (ad g 27)), (4, .int (nI i))]) 5 dL_law_320 (by decide) rfl ?_
  refine r_aload_n C dL_law_322 3 rfl ?_
  refine r_aload_n C dL_law_323 1 rfl ?_
  refine r_iload C dL_law_324 5 rfl ?_
  refine r_iconst C (v := (nI 1)) dL_law_326 rfl ?_
  refine r_iadd C (v := (nI (i + 1))) dL_law_327 (nI_add _ _) ?_
  refine l_sld C Lz (j := i + 1) (by omega) hL dL_law_328 ?_
  refine r_aload_n C dL_law_329 1 rfl ?_
  refine r_iload C dL_law_330 5 rfl ?_
  refine r_iconst C (v := (nI 2)) dL_law_332 rfl ?_
  refine r_iadd C (v := (nI (i + 2))) dL_law_333 (nI_add _ _) ?_
  refine l_sld C Lz (j := i + 2) (by omega) hL dL_law_334 ?_
  refine r_callV C X (As := [.int (xs (i + 1)), .int (xs (i + 2))]) (rest := []) (st1 := [.int (bI v)]) (μ' := μ2) (k := 19) (T := TX11) miX11_remove mvX11_remove hM2 hw_5_107 (by decide) rfl rfl rfl (hR_c hr.2.2 (by decide) (by omega) (by omega)) rfl (Nat.le_of_ble_eq_true rfl) dL_law_335 rfl ?_
  refine r_istore C (lv' := [(6, .int (bI v)), (5, .int (nI k)), (0, .ref b), (1, .ref (ad g 0)), (2, .ref (ad g 19)), (3, .ref (ad g 27)), (4, .int (nI i))]) 6 dL_law_338 (by decide) rfl ?_
  refine r_aload_n C dL_law_340 4 rfl ?_
  refine r_callV C X (As := []) (rest := []) (st1 := [.int (gI μ2 5)]) (μ' := μ2) (k := 19) (T := TX11) miX11_thrown mvX11_thrown (c_thrown l g μ2) hw_5_65 (by decide) rfl rfl rfl (hR_c ⟨by decide, by decide, rfl, rfl⟩ (by decide) (by omega) (by omega)) rfl (Nat.le_of_ble_eq_true rfl) dL_law_341 rfl ?_
  refine G_top (y := (nI k)) h5 ?_
  refine r_iload C dL_law_344 1 rfl ?_
  refine r_icmp_eq C 351 dL_law_346 (by decide) (nI_eq (by omega) (by omega)) (fun h346 => ?_) (fun h346 => ?_)
  · refine r_iload C dL_law_351 1 rfl ?_
    refine r_if_ne C 375 dL_law_353 (by decide) (zI_ne (by omega)) (fun h353 => ?_) (fun h353 => ?_)
    · refine r_goto C 2110 dL_law_375 (by decide) ?_
      refine G_sub (lv' := [(0, .ref b), (1, .ref (ad g 0)), (2, .ref (ad g 19)), (3, .ref (ad g 27)), (4, .int (nI i))]) [2, 3, 4, 5, 6] rfl ?_
      exact KK μ2 hI2
    · refine r_aload_n C dL_law_356 5 rfl ?_
      refine r_iconst C (v := (nI 0)) dL_law_357 rfl ?_
      refine r_lald C X (k := 27) (v := (gJ μ2 53 0)) (by decide) rfl (by omega) (by decide) rfl dL_law_358 ?_
      refine G_topl (y := (bL v)) (ho (Decidable.not_not.mp h353)) ?_
      refine r_iload C dL_law_359 0 rfl ?_
      refine r_if_eq C 368 dL_law_361 (by decide) (bI_eq _) (fun h361 => ?_) (fun h361 => ?_)
      · refine r_lconst C (v := (lN 0)) dL_law_368 rfl ?_
        refine r_lcmp C dL_law_369 ?_
        refine r_if_eq C 375 dL_law_370 (by decide) (lgc_eq _ _) (fun h370 => ?_) (fun h370 => ?_)
        · refine r_goto C 2110 dL_law_375 (by decide) ?_
          refine G_sub (lv' := [(0, .ref b), (1, .ref (ad g 0)), (2, .ref (ad g 19)), (3, .ref (ad g 27)), (4, .int (nI i))]) [2, 3, 4, 5, 6] rfl ?_
          exact KK μ2 hI2
        · exact absurd (by first | (rw [h361]; rfl) | (rw [ts_t h361]; rfl)) h370
      · refine r_lconst C (v := (lN 1)) dL_law_364 rfl ?_
        refine r_goto C 369 dL_law_365 (by decide) ?_
        refine r_lcmp C dL_law_369 ?_
        refine r_if_eq C 375 dL_law_370 (by decide) (lgc_eq _ _) (fun h370 => ?_) (fun h370 => ?_)
        · refine r_goto C 2110 dL_law_375 (by decide) ?_
          refine G_sub (lv' := [(0, .ref b), (1, .ref (ad g 0)), (2, .ref (ad g 19)), (3, .ref (ad g 27)), (4, .int (nI i))]) [2, 3, 4, 5, 6] rfl ?_
          exact KK μ2 hI2
        · exact absurd (by first | (rw [h361]; rfl) | (rw [ts_t h361]; rfl)) h370
  · exact absurd rfl h346
set_option maxHeartbeats 1000000 in
set_option maxRecDepth 100000 in
theorem lc_has {z : Zt} {A : Nat → Prop} {l : Launch} {g : Gd} {μ : Mm} {b L : Nat} {xs : Nat → Int32} (C : Cx z A l room_1 cL_law 8 "SetFamiliesLaw") (X : Kx z g A) (Ee : Ex A (zs z) (zs z).heap) (Lz : Lx z A b L xs) {Inv : Nat → Mm → Prop} (hS : St_has l g Inv) {i ce sl : Nat} (hI : Inv i μ) (hi : i + 5 ≤ L) (hL : L ≤ 2560) (hce : ce + 1 ≤ 601024) (hsl : sl + 6 ≤ 7293034) (KK : ∀ μ', Inv (i + 5) μ' → G z g.1 A 8 (wd g μ') (ce + 1) (sl + 6) 2110 [(0, .ref b), (1, .ref (ad g 0)), (2, .ref (ad g 19)), (3, .ref (ad g 27)), (4, .int (nI i))] []) : G z g.1 A 8 (wd g μ) ce sl 378 [(0, .ref b), (1, .ref (ad g 0)), (2, .ref (ad g 19)), (3, .ref (ad g 27)), (4, .int (nI i))] [] := by
  obtain ⟨k, μ1, μ2, v, r1, r2, hr, hM1, hM2, h5, ho, hI2⟩ := hS i μ (xs (i + 1)) (xs (i + 2)) (by omega) hI
  refine r_aload_n C dL_law_378 1 rfl ?_
  refine r_aload_n C dL_law_379 0 rfl ?_
  refine r_iload C dL_law_380 4 rfl ?_
  refine r_iconst C (v := (nI 1)) dL_law_382 rfl ?_
  refine r_iadd C (v := (nI (i + 1))) dL_law_383 (nI_add _ _) ?_
  refine l_sld C Lz (j := i + 1) (by omega) hL dL_law_384 ?_
  refine r_aload_n C dL_law_385 0 rfl ?_
  refine r_iload C dL_law_386 4 rfl ?_
  refine r_iconst C (v := (nI 2)) dL_law_388 rfl ?_
  refine r_iadd C (v := (nI (i + 2))) dL_law_389 (nI_add _ _) ?_
  refine l_sld C Lz (j := i + 2) (by omega) hL dL_law_390 ?_
  refine r_aload_n C dL_law_391 3 rfl ?_
  refine r_callW C X Ee (As := [.ref (ad g 0), .int (xs (i + 1)), .int (xs (i + 2)), .ref (ad g 27)]) (rest := []) (st1 := [.int (nI k)]) (μ' := μ1) mcL_has miL_has hM1 hw_3_214 rfl (hR_w hr.2.1 (by decide) hce hsl) rfl (Nat.le_of_ble_eq_true rfl) dL_law_392 rfl ?_
  refine r_istore C (lv' := [(5, .int (nI k)), (0, .ref b), (1, .ref (ad g 0)), (2, .ref (ad g 19)), (3, .ref (ad g 27)), (4, .int (nI i))]) 5 dL_law_395 (by decide) rfl ?_
  refine r_aload_n C dL_law_397 3 rfl ?_
  refine r_aload_n C dL_law_398 1 rfl ?_
  refine r_iload C dL_law_399 5 rfl ?_
  refine r_iconst C (v := (nI 1)) dL_law_401 rfl ?_
  refine r_iadd C (v := (nI (i + 1))) dL_law_402 (nI_add _ _) ?_
  refine l_sld C Lz (j := i + 1) (by omega) hL dL_law_403 ?_
  refine r_aload_n C dL_law_404 1 rfl ?_
  refine r_iload C dL_law_405 5 rfl ?_
  refine r_iconst C (v := (nI 2)) dL_law_407 rfl ?_
  refine r_iadd C (v := (nI (i + 2))) dL_law_408 (nI_add _ _) ?_
  refine l_sld C Lz (j := i + 2) (by omega) hL dL_law_409 ?_
  refine r_callV C X (As := [.int (xs (i + 1)), .int (xs (i + 2))]) (rest := []) (st1 := [.int (bI v)]) (μ' := μ2) (k := 19) (T := TX11) miX11_has mvX11_has hM2 hw_5_111 (by decide) rfl rfl rfl (hR_c hr.2.2 (by decide) (by omega) (by omega)) rfl (Nat.le_of_ble_eq_true rfl) dL_law_410 rfl ?_
  refine r_istore C (lv' := [(6, .int (bI v)), (5, .int (nI k)), (0, .ref b), (1, .ref (ad g 0)), (2, .ref (ad g 19)), (3, .ref (ad g 27)), (4, .int (nI i))]) 6 dL_law_413 (by decide) rfl ?_
  refine r_aload_n C dL_law_415 4 rfl ?_
  refine r_callV C X (As := []) (rest := []) (st1 := [.int (gI μ2 5)]) (μ' := μ2) (k := 19) (T := TX11) miX11_thrown mvX11_thrown (c_thrown l g μ2) hw_5_65 (by decide) rfl rfl rfl (hR_c ⟨by decide, by decide, rfl, rfl⟩ (by decide) (by omega) (by omega)) rfl (Nat.le_of_ble_eq_true rfl) dL_law_416 rfl ?_
  refine G_top (y := (nI k)) h5 ?_
  refine r_iload C dL_law_419 1 rfl ?_
  refine r_icmp_eq C 426 dL_law_421 (by decide) (nI_eq (by omega) (by omega)) (fun h421 => ?_) (fun h421 => ?_)
  · refine r_iload C dL_law_426 1 rfl ?_
    refine r_if_ne C 450 dL_law_428 (by decide) (zI_ne (by omega)) (fun h428 => ?_) (fun h428 => ?_)
    · refine r_goto C 2110 dL_law_450 (by decide) ?_
      refine G_sub (lv' := [(0, .ref b), (1, .ref (ad g 0)), (2, .ref (ad g 19)), (3, .ref (ad g 27)), (4, .int (nI i))]) [2, 3, 4, 5, 6] rfl ?_
      exact KK μ2 hI2
    · refine r_aload_n C dL_law_431 5 rfl ?_
      refine r_iconst C (v := (nI 0)) dL_law_432 rfl ?_
      refine r_lald C X (k := 27) (v := (gJ μ2 53 0)) (by decide) rfl (by omega) (by decide) rfl dL_law_433 ?_
      refine G_topl (y := (bL v)) (ho (Decidable.not_not.mp h428)) ?_
      refine r_iload C dL_law_434 0 rfl ?_
      refine r_if_eq C 443 dL_law_436 (by decide) (bI_eq _) (fun h436 => ?_) (fun h436 => ?_)
      · refine r_lconst C (v := (lN 0)) dL_law_443 rfl ?_
        refine r_lcmp C dL_law_444 ?_
        refine r_if_eq C 450 dL_law_445 (by decide) (lgc_eq _ _) (fun h445 => ?_) (fun h445 => ?_)
        · refine r_goto C 2110 dL_law_450 (by decide) ?_
          refine G_sub (lv' := [(0, .ref b), (1, .ref (ad g 0)), (2, .ref (ad g 19)), (3, .ref (ad g 27)), (4, .int (nI i))]) [2, 3, 4, 5, 6] rfl ?_
          exact KK μ2 hI2
        · exact absurd (by first | (rw [h436]; rfl) | (rw [ts_t h436]; rfl)) h445
      · refine r_lconst C (v := (lN 1)) dL_law_439 rfl ?_
        refine r_goto C 444 dL_law_440 (by decide) ?_
        refine r_lcmp C dL_law_444 ?_
        refine r_if_eq C 450 dL_law_445 (by decide) (lgc_eq _ _) (fun h445 => ?_) (fun h445 => ?_)
        · refine r_goto C 2110 dL_law_450 (by decide) ?_
          refine G_sub (lv' := [(0, .ref b), (1, .ref (ad g 0)), (2, .ref (ad g 19)), (3, .ref (ad g 27)), (4, .int (nI i))]) [2, 3, 4, 5, 6] rfl ?_
          exact KK μ2 hI2
        · exact absurd (by first | (rw [h436]; rfl) | (rw [ts_t h436]; rfl)) h445
  · exact absurd rfl h421
set_option maxHeartbeats 1000000 in
set_option maxRecDepth 100000 in
theorem lc_size {z : Zt} {A : Nat → Prop} {l : Launch} {g : Gd} {μ : Mm} {b L : Nat} {xs : Nat → Int32} (C : Cx z A l room_1 cL_law 8 "SetFamiliesLaw") (X : Kx z g A) (Ee : Ex A (zs z) (zs z).heap) (Lz : Lx z A b L xs) {Inv : Nat → Mm → Prop} (hS : St_size l g Inv) {i ce sl : Nat} (hI : Inv i μ) (hi : i + 5 ≤ L) (hL : L ≤ 2560) (hce : ce + 1 ≤ 601024) (hsl : sl + 6 ≤ 7293034) (KK : ∀ μ', Inv (i + 5) μ' → G z g.1 A 8 (wd g μ') (ce + 1) (sl + 6) 2110 [(0, .ref b), (1, .ref (ad g 0)), (2, .ref (ad g 19)), (3, .ref (ad g 27)), (4, .int (nI i))] []) : G z g.1 A 8 (wd g μ) ce sl 453 [(0, .ref b), (1, .ref (ad g 0)), (2, .ref (ad g 19)), (3, .ref (ad g 27)), (4, .int (nI i))] [] := by
  obtain ⟨k, μ1, μ2, v, r1, r2, hr, hM1, hM2, h5, ho, hI2⟩ := hS i μ (xs (i + 1)) (xs (i + 2)) (by omega) hI
  refine r_aload_n C dL_law_453 1 rfl ?_
  refine r_aload_n C dL_law_454 0 rfl ?_
  refine r_iload C dL_law_455 4 rfl ?_
  refine r_iconst C (v := (nI 1)) dL_law_457 rfl ?_
  refine r_iadd C (v := (nI (i + 1))) dL_law_458 (nI_add _ _) ?_
  refine l_sld C Lz (j := i + 1) (by omega) hL dL_law_459 ?_
  refine r_aload_n C dL_law_460 0 rfl ?_
  refine r_iload C dL_law_461 4 rfl ?_
  refine r_iconst C (v := (nI 2)) dL_law_463 rfl ?_
  refine r_iadd C (v := (nI (i + 2))) dL_law_464 (nI_add _ _) ?_
  refine l_sld C Lz (j := i + 2) (by omega) hL dL_law_465 ?_
  refine r_aload_n C dL_law_466 3 rfl ?_
  refine r_callW C X Ee (As := [.ref (ad g 0), .int (xs (i + 1)), .int (xs (i + 2)), .ref (ad g 27)]) (rest := []) (st1 := [.int (nI k)]) (μ' := μ1) mcL_size miL_size hM1 hw_3_221 rfl (hR_w hr.2.1 (by decide) hce hsl) rfl (Nat.le_of_ble_eq_true rfl) dL_law_467 rfl ?_
  refine r_istore C (lv' := [(5, .int (nI k)), (0, .ref b), (1, .ref (ad g 0)), (2, .ref (ad g 19)), (3, .ref (ad g 27)), (4, .int (nI i))]) 5 dL_law_470 (by decide) rfl ?_
  refine r_aload_n C dL_law_472 3 rfl ?_
  refine r_aload_n C dL_law_473 1 rfl ?_
  refine r_iload C dL_law_474 5 rfl ?_
  refine r_iconst C (v := (nI 1)) dL_law_476 rfl ?_
  refine r_iadd C (v := (nI (i + 1))) dL_law_477 (nI_add _ _) ?_
  refine l_sld C Lz (j := i + 1) (by omega) hL dL_law_478 ?_
  refine r_aload_n C dL_law_479 1 rfl ?_
  refine r_iload C dL_law_480 5 rfl ?_
  refine r_iconst C (v := (nI 2)) dL_law_482 rfl ?_
  refine r_iadd C (v := (nI (i + 2))) dL_law_483 (nI_add _ _) ?_
  refine l_sld C Lz (j := i + 2) (by omega) hL dL_law_484 ?_
  refine r_callV C X (As := [.int (xs (i + 1)), .int (xs (i + 2))]) (rest := []) (st1 := [.int v]) (μ' := μ2) (k := 19) (T := TX11) miX11_size mvX11_size hM2 hw_5_115 (by decide) rfl rfl rfl (hR_c hr.2.2 (by decide) (by omega) (by omega)) rfl (Nat.le_of_ble_eq_true rfl) dL_law_485 rfl ?_
  refine r_istore C (lv' := [(6, .int v), (5, .int (nI k)), (0, .ref b), (1, .ref (ad g 0)), (2, .ref (ad g 19)), (3, .ref (ad g 27)), (4, .int (nI i))]) 6 dL_law_488 (by decide) rfl ?_
  refine r_aload_n C dL_law_490 4 rfl ?_
  refine r_callV C X (As := []) (rest := []) (st1 := [.int (gI μ2 5)]) (μ' := μ2) (k := 19) (T := TX11) miX11_thrown mvX11_thrown (c_thrown l g μ2) hw_5_65 (by decide) rfl rfl rfl (hR_c ⟨by decide, by decide, rfl, rfl⟩ (by decide) (by omega) (by omega)) rfl (Nat.le_of_ble_eq_true rfl) dL_law_491 rfl ?_
  refine G_top (y := (nI k)) h5 ?_
  refine r_iload C dL_law_494 1 rfl ?_
  refine r_icmp_eq C 501 dL_law_496 (by decide) (nI_eq (by omega) (by omega)) (fun h496 => ?_) (fun h496 => ?_)
  · refine r_iload C dL_law_501 1 rfl ?_
    refine r_if_ne C 518 dL_law_503 (by decide) (zI_ne (by omega)) (fun h503 => ?_) (fun h503 => ?_)
    · refine r_goto C 2110 dL_law_518 (by decide) ?_
      refine G_sub (lv' := [(0, .ref b), (1, .ref (ad g 0)), (2, .ref (ad g 19)), (3, .ref (ad g 27)), (4, .int (nI i))]) [2, 3, 4, 5, 6] rfl ?_
      exact KK μ2 hI2
    · refine r_aload_n C dL_law_506 5 rfl ?_
      refine r_iconst C (v := (nI 0)) dL_law_507 rfl ?_
      refine r_lald C X (k := 27) (v := (gJ μ2 53 0)) (by decide) rfl (by omega) (by decide) rfl dL_law_508 ?_
      refine G_topl (y := v.toInt64) (ho (Decidable.not_not.mp h503)) ?_
      refine r_iload C dL_law_509 0 rfl ?_
      refine r_i2l C (v := ((v).toInt64)) dL_law_511 rfl ?_
      refine r_lcmp C dL_law_512 ?_
      refine r_if_eq C 518 dL_law_513 (by decide) (lgc_eq _ _) (fun h513 => ?_) (fun h513 => ?_)
      · refine r_goto C 2110 dL_law_518 (by decide) ?_
        refine G_sub (lv' := [(0, .ref b), (1, .ref (ad g 0)), (2, .ref (ad g 19)), (3, .ref (ad g 27)), (4, .int (nI i))]) [2, 3, 4, 5, 6] rfl ?_
        exact KK μ2 hI2
      · exact absurd rfl h513
  · exact absurd rfl h496
set_option maxHeartbeats 1000000 in
set_option maxRecDepth 100000 in
theorem lc_get {z : Zt} {A : Nat → Prop} {l : Launch} {g : Gd} {μ : Mm} {b L : Nat} {xs : Nat → Int32} (C : Cx z A l room_1 cL_law 8 "SetFamiliesLaw") (X : Kx z g A) (Ee : Ex A (zs z) (zs z).heap) (Lz : Lx z A b L xs) {Inv : Nat → Mm → Prop} (hS : St_get l g Inv) {i ce sl : Nat} (hI : Inv i μ) (hi : i + 5 ≤ L) (hL : L ≤ 2560) (hce : ce + 1 ≤ 601024) (hsl : sl + 6 ≤ 7293034) (KK : ∀ μ', Inv (i + 5) μ' → G z g.1 A 8 (wd g μ') (ce + 1) (sl + 6) 2110 [(0, .ref b), (1, .ref (ad g 0)), (2, .ref (ad g 19)), (3, .ref (ad g 27)), (4, .int (nI i))] []) : G z g.1 A 8 (wd g μ) ce sl 521 [(0, .ref b), (1, .ref (ad g 0)), (2, .ref (ad g 19)), (3, .ref (ad g 27)), (4, .int (nI i))] [] := by
  obtain ⟨k, μ1, μ2, v, r1, r2, hr, hM1, hM2, h5, ho, hI2⟩ := hS i μ (xs (i + 1)) (xs (i + 2)) (by omega) hI
  refine r_aload_n C dL_law_521 1 rfl ?_
  refine r_aload_n C dL_law_522 0 rfl ?_
  refine r_iload C dL_law_523 4 rfl ?_
  refine r_iconst C (v := (nI 1)) dL_law_525 rfl ?_
  refine r_iadd C (v := (nI (i + 1))) dL_law_526 (nI_add _ _) ?_
  refine l_sld C Lz (j := i + 1) (by omega) hL dL_law_527 ?_
  refine r_aload_n C dL_law_528 0 rfl ?_
  refine r_iload C dL_law_529 4 rfl ?_
  refine r_iconst C (v := (nI 2)) dL_law_531 rfl ?_
  refine r_iadd C (v := (nI (i + 2))) dL_law_532 (nI_add _ _) ?_
  refine l_sld C Lz (j := i + 2) (by omega) hL dL_law_533 ?_
  refine r_aload_n C dL_law_534 3 rfl ?_
  refine r_callW C X Ee (As := [.ref (ad g 0), .int (xs (i + 1)), .int (xs (i + 2)), .ref (ad g 27)]) (rest := []) (st1 := [.int (nI k)]) (μ' := μ1) mcL_get miL_get hM1 hw_3_228 rfl (hR_w hr.2.1 (by decide) hce hsl) rfl (Nat.le_of_ble_eq_true rfl) dL_law_535 rfl ?_
  refine r_istore C (lv' := [(5, .int (nI k)), (0, .ref b), (1, .ref (ad g 0)), (2, .ref (ad g 19)), (3, .ref (ad g 27)), (4, .int (nI i))]) 5 dL_law_538 (by decide) rfl ?_
  refine r_aload_n C dL_law_540 3 rfl ?_
  refine r_aload_n C dL_law_541 1 rfl ?_
  refine r_iload C dL_law_542 5 rfl ?_
  refine r_iconst C (v := (nI 1)) dL_law_544 rfl ?_
  refine r_iadd C (v := (nI (i + 1))) dL_law_545 (nI_add _ _) ?_
  refine l_sld C Lz (j := i + 1) (by omega) hL dL_law_546 ?_
  refine r_aload_n C dL_law_547 1 rfl ?_
  refine r_iload C dL_law_548 5 rfl ?_
  refine r_iconst C (v := (nI 2)) dL_law_550 rfl ?_
  refine r_iadd C (v := (nI (i + 2))) dL_law_551 (nI_add _ _) ?_
  refine l_sld C Lz (j := i + 2) (by omega) hL dL_law_552 ?_
  refine r_callV C X (As := [.int (xs (i + 1)), .int (xs (i + 2))]) (rest := []) (st1 := [.int v]) (μ' := μ2) (k := 19) (T := TX11) miX11_get mvX11_get hM2 hw_5_126 (by decide) rfl rfl rfl (hR_c hr.2.2 (by decide) (by omega) (by omega)) rfl (Nat.le_of_ble_eq_true rfl) dL_law_553 rfl ?_
  refine r_istore C (lv' := [(6, .int v), (5, .int (nI k)), (0, .ref b), (1, .ref (ad g 0)), (2, .ref (ad g 19)), (3, .ref (ad g 27)), (4, .int (nI i))]) 6 dL_law_556 (by decide) rfl ?_
  refine r_aload_n C dL_law_558 4 rfl ?_
  refine r_callV C X (As := []) (rest := []) (st1 := [.int (gI μ2 5)]) (μ' := μ2) (k := 19) (T := TX11) miX11_thrown mvX11_thrown (c_thrown l g μ2) hw_5_65 (by decide) rfl rfl rfl (hR_c ⟨by decide, by decide, rfl, rfl⟩ (by decide) (by omega) (by omega)) rfl (Nat.le_of_ble_eq_true rfl) dL_law_559 rfl ?_
  refine G_top (y := (nI k)) h5 ?_
  refine r_iload C dL_law_562 1 rfl ?_
  refine r_icmp_eq C 569 dL_law_564 (by decide) (nI_eq (by omega) (by omega)) (fun h564 => ?_) (fun h564 => ?_)
  · refine r_iload C dL_law_569 1 rfl ?_
    refine r_if_ne C 586 dL_law_571 (by decide) (zI_ne (by omega)) (fun h571 => ?_) (fun h571 => ?_)
    · refine r_goto C 2110 dL_law_586 (by decide) ?_
      refine G_sub (lv' := [(0, .ref b), (1, .ref (ad g 0)), (2, .ref (ad g 19)), (3, .ref (ad g 27)), (4, .int (nI i))]) [2, 3, 4, 5, 6] rfl ?_
      exact KK μ2 hI2
    · refine r_aload_n C dL_law_574 5 rfl ?_
      refine r_iconst C (v := (nI 0)) dL_law_575 rfl ?_
      refine r_lald C X (k := 27) (v := (gJ μ2 53 0)) (by decide) rfl (by omega) (by decide) rfl dL_law_576 ?_
      refine G_topl (y := v.toInt64) (ho (Decidable.not_not.mp h571)) ?_
      refine r_iload C dL_law_577 0 rfl ?_
      refine r_i2l C (v := ((v).toInt64)) dL_law_579 rfl ?_
      refine r_lcmp C dL_law_580 ?_
      refine r_if_eq C 586 dL_law_581 (by decide) (lgc_eq _ _) (fun h581 => ?_) (fun h581 => ?_)
      · refine r_goto C 2110 dL_law_586 (by decide) ?_
        refine G_sub (lv' := [(0, .ref b), (1, .ref (ad g 0)), (2, .ref (ad g 19)), (3, .ref (ad g 27)), (4, .int (nI i))]) [2, 3, 4, 5, 6] rfl ?_
        exact KK μ2 hI2
      · exact absurd rfl h581
  · exact absurd rfl h564
set_option maxHeartbeats 1000000 in
set_option maxRecDepth 100000 in
theorem lc_degree {z : Zt} {A : Nat → Prop} {l : Launch} {g : Gd} {μ : Mm} {b L : Nat} {xs : Nat → Int32} (C : Cx z A l room_1 cL_law 8 "SetFamiliesLaw") (X : Kx z g A) (Ee : Ex A (zs z) (zs z).heap) (Lz : Lx z A b L xs) {Inv : Nat → Mm → Prop} (hS : St_degree l g Inv) {i ce sl : Nat} (hI : Inv i μ) (hi : i + 5 ≤ L) (hL : L ≤ 2560) (hce : ce + 1 ≤ 601024) (hsl : sl + 6 ≤ 7293034) (KK : ∀ μ', Inv (i + 5) μ' → G z g.1 A 8 (wd g μ') (ce + 1) (sl + 6) 2110 [(0, .ref b), (1, .ref (ad g 0)), (2, .ref (ad g 19)), (3, .ref (ad g 27)), (4, .int (nI i))] []) : G z g.1 A 8 (wd g μ) ce sl 589 [(0, .ref b), (1, .ref (ad g 0)), (2, .ref (ad g 19)), (3, .ref (ad g 27)), (4, .int (nI i))] [] := by
  obtain ⟨k, μ1, μ2, v, r1, r2, hr, hM1, hM2, h5, ho, hI2⟩ := hS i μ (xs (i + 1)) (xs (i + 2)) (by omega) hI
  refine r_aload_n C dL_law_589 1 rfl ?_
  refine r_aload_n C dL_law_590 0 rfl ?_
  refine r_iload C dL_law_591 4 rfl ?_
  refine r_iconst C (v := (nI 1)) dL_law_593 rfl ?_
  refine r_iadd C (v := (nI (i + 1))) dL_law_594 (nI_add _ _) ?_
  refine l_sld C Lz (j := i + 1) (by omega) hL dL_law_595 ?_
  refine r_aload_n C dL_law_596 0 rfl ?_
  refine r_iload C dL_law_597 4 rfl ?_
  refine r_iconst C (v := (nI 2)) dL_law_599 rfl ?_
  refine r_iadd C (v := (nI (i + 2))) dL_law_600 (nI_add _ _) ?_
  refine l_sld C Lz (j := i + 2) (by omega) hL dL_law_601 ?_
  refine r_aload_n C dL_law_602 3 rfl ?_
  refine r_callW C X Ee (As := [.ref (ad g 0), .int (xs (i + 1)), .int (xs (i + 2)), .ref (ad g 27)]) (rest := []) (st1 := [.int (nI k)]) (μ' := μ1) mcL_degree miL_degree hM1 hw_3_239 rfl (hR_w hr.2.1 (by decide) hce hsl) rfl (Nat.le_of_ble_eq_true rfl) dL_law_603 rfl ?_
  refine r_istore C (lv' := [(5, .int (nI k)), (0, .ref b), (1, .ref (ad g 0)), (2, .ref (ad g 19)), (3, .ref (ad g 27)), (4, .int (nI i))]) 5 dL_law_606 (by decide) rfl ?_
  refine r_aload_n C dL_law_608 3 rfl ?_
  refine r_aload_n C dL_law_609 1 rfl ?_
  refine r_iload C dL_law_610 5 rfl ?_
  refine r_iconst C (v := (nI 1)) dL_law_612 rfl ?_
  refine r_iadd C (v := (nI (i + 1))) dL_law_613 (nI_add _ _) ?_
  refine l_sld C Lz (j := i + 1) (by omega) hL dL_law_614 ?_
  refine r_aload_n C dL_law_615 1 rfl ?_
  refine r_iload C dL_law_616 5 rfl ?_
  refine r_iconst C (v := (nI 2)) dL_law_618 rfl ?_
  refine r_iadd C (v := (nI (i + 2))) dL_law_619 (nI_add _ _) ?_
  refine l_sld C Lz (j := i + 2) (by omega) hL dL_law_620 ?_
  refine r_callV C X (As := [.int (xs (i + 1)), .int (xs (i + 2))]) (rest := []) (st1 := [.int v]) (μ' := μ2) (k := 19) (T := TX11) miX11_degree mvX11_degree hM2 hw_5_130 (by decide) rfl rfl rfl (hR_c hr.2.2 (by decide) (by omega) (by omega)) rfl (Nat.le_of_ble_eq_true rfl) dL_law_621 rfl ?_
  refine r_istore C (lv' := [(6, .int v), (5, .int (nI k)), (0, .ref b), (1, .ref (ad g 0)), (2, .ref (ad g 19)), (3, .ref (ad g 27)), (4, .int (nI i))]) 6 dL_law_624 (by decide) rfl ?_
  refine r_aload_n C dL_law_626 4 rfl ?_
  refine r_callV C X (As := []) (rest := []) (st1 := [.int (gI μ2 5)]) (μ' := μ2) (k := 19) (T := TX11) miX11_thrown mvX11_thrown (c_thrown l g μ2) hw_5_65 (by decide) rfl rfl rfl (hR_c ⟨by decide, by decide, rfl, rfl⟩ (by decide) (by omega) (by omega)) rfl (Nat.le_of_ble_eq_true rfl) dL_law_627 rfl ?_
  refine G_top (y := (nI k)) h5 ?_
  refine r_iload C dL_law_630 1 rfl ?_
  refine r_icmp_eq C 637 dL_law_632 (by decide) (nI_eq (by omega) (by omega)) (fun h632 => ?_) (fun h632 => ?_)
  · refine r_iload C dL_law_637 1 rfl ?_
    refine r_if_ne C 654 dL_law_639 (by decide) (zI_ne (by omega)) (fun h639 => ?_) (fun h639 => ?_)
    · refine r_goto C 2110 dL_law_654 (by decide) ?_
      refine G_sub (lv' := [(0, .ref b), (1, .ref (ad g 0)), (2, .ref (ad g 19)), (3, .ref (ad g 27)), (4, .int (nI i))]) [2, 3, 4, 5, 6] rfl ?_
      exact KK μ2 hI2
    · refine r_aload_n C dL_law_642 5 rfl ?_
      refine r_iconst C (v := (nI 0)) dL_law_643 rfl ?_
      refine r_lald C X (k := 27) (v := (gJ μ2 53 0)) (by decide) rfl (by omega) (by decide) rfl dL_law_644 ?_
      refine G_topl (y := v.toInt64) (ho (Decidable.not_not.mp h639)) ?_
      refine r_iload C dL_law_645 0 rfl ?_
      refine r_i2l C (v := ((v).toInt64)) dL_law_647 rfl ?_
      refine r_lcmp C dL_law_648 ?_
      refine r_if_eq C 654 dL_law_649 (by decide) (lgc_eq _ _) (fun h649 => ?_) (fun h649 => ?_)
      · refine r_goto C 2110 dL_law_654 (by decide) ?_
        refine G_sub (lv' := [(0, .ref b), (1, .ref (ad g 0)), (2, .ref (ad g 19)), (3, .ref (ad g 27)), (4, .int (nI i))]) [2, 3, 4, 5, 6] rfl ?_
        exact KK μ2 hI2
      · exact absurd rfl h649
  · exact absurd rfl h632
set_option maxHeartbeats 1000000 in
set_option maxRecDepth 100000 in
theorem lc_combine {z : Zt} {A : Nat → Prop} {l : Launch} {g : Gd} {μ : Mm} {b L : Nat} {xs : Nat → Int32} (C : Cx z A l room_1 cL_law 8 "SetFamiliesLaw") (X : Kx z g A) (Ee : Ex A (zs z) (zs z).heap) (Lz : Lx z A b L xs) {Inv : Nat → Mm → Prop} (hS : St_combine l g Inv) {i ce sl : Nat} (hI : Inv i μ) (hi : i + 5 ≤ L) (hL : L ≤ 2560) (hce : ce + 1 ≤ 601024) (hsl : sl + 6 ≤ 7293034) (KK : ∀ μ', Inv (i + 5) μ' → G z g.1 A 8 (wd g μ') (ce + 1) (sl + 6) 2110 [(0, .ref b), (1, .ref (ad g 0)), (2, .ref (ad g 19)), (3, .ref (ad g 27)), (4, .int (nI i))] []) : G z g.1 A 8 (wd g μ) ce sl 657 [(0, .ref b), (1, .ref (ad g 0)), (2, .ref (ad g 19)), (3, .ref (ad g 27)), (4, .int (nI i))] [] := by
  obtain ⟨k, μ1, μ2, v, r1, r2, hr, hM1, hM2, h5, ho, hI2⟩ := hS i μ (xs (i + 1)) (xs (i + 2)) (xs (i + 3)) (xs (i + 4)) (by omega) hI
  refine r_aload_n C dL_law_657 1 rfl ?_
  refine r_aload_n C dL_law_658 0 rfl ?_
  refine r_iload C dL_law_659 4 rfl ?_
  refine r_iconst C (v := (nI 1)) dL_law_661 rfl ?_
  refine r_iadd C (v := (nI (i + 1))) dL_law_662 (nI_add _ _) ?_
  refine l_sld C Lz (j := i + 1) (by omega) hL dL_law_663 ?_
  refine r_aload_n C dL_law_664 0 rfl ?_
  refine r_iload C dL_law_665 4 rfl ?_
  refine r_iconst C (v := (nI 2)) dL_law_667 rfl ?_
  refine r_iadd C (v := (nI (i + 2))) dL_law_668 (nI_add _ _) ?_
  refine l_sld C Lz (j := i + 2) (by omega) hL dL_law_669 ?_
  refine r_aload_n C dL_law_670 0 rfl ?_
  refine r_iload C dL_law_671 4 rfl ?_
  refine r_iconst C (v := (nI 3)) dL_law_673 rfl ?_
  refine r_iadd C (v := (nI (i + 3))) dL_law_674 (nI_add _ _) ?_
  refine l_sld C Lz (j := i + 3) (by omega) hL dL_law_675 ?_
  refine r_aload_n C dL_law_676 0 rfl ?_
  refine r_iload C dL_law_677 4 rfl ?_
  refine r_iconst C (v := (nI 4)) dL_law_679 rfl ?_
  refine r_iadd C (v := (nI (i + 4))) dL_law_680 (nI_add _ _) ?_
  refine l_sld C Lz (j := i + 4) (by omega) hL dL_law_681 ?_
  refine r_aload_n C dL_law_682 3 rfl ?_
  refine r_callW C X Ee (As := [.ref (ad g 0), .int (xs (i + 1)), .int (xs (i + 2)), .int (xs (i + 3)), .int (xs (i + 4)), .ref (ad g 27)]) (rest := []) (st1 := [.int (nI k)]) (μ' := μ1) mcL_combine miL_combine hM1 hw_4_10 rfl (hR_w hr.2.1 (by decide) hce hsl) rfl (Nat.le_of_ble_eq_true rfl) dL_law_683 rfl ?_
  refine r_istore C (lv' := [(5, .int (nI k)), (0, .ref b), (1, .ref (ad g 0)), (2, .ref (ad g 19)), (3, .ref (ad g 27)), (4, .int (nI i))]) 5 dL_law_686 (by decide) rfl ?_
  refine r_aload_n C dL_law_688 3 rfl ?_
  refine r_aload_n C dL_law_689 1 rfl ?_
  refine r_iload C dL_law_690 5 rfl ?_
  refine r_iconst C (v := (nI 1)) dL_law_692 rfl ?_
  refine r_iadd C (v := (nI (i + 1))) dL_law_693 (nI_add _ _) ?_
  refine l_sld C Lz (j := i + 1) (by omega) hL dL_law_694 ?_
  refine r_aload_n C dL_law_695 1 rfl ?_
  refine r_iload C dL_law_696 5 rfl ?_
  refine r_iconst C (v := (nI 2)) dL_law_698 rfl ?_
  refine r_iadd C (v := (nI (i + 2))) dL_law_699 (nI_add _ _) ?_
  refine l_sld C Lz (j := i + 2) (by omega) hL dL_law_700 ?_
  refine r_aload_n C dL_law_701 1 rfl ?_
  refine r_iload C dL_law_702 5 rfl ?_
  refine r_iconst C (v := (nI 3)) dL_law_704 rfl ?_
  refine r_iadd C (v := (nI (i + 3))) dL_law_705 (nI_add _ _) ?_
  refine l_sld C Lz (j := i + 3) (by omega) hL dL_law_706 ?_
  refine r_aload_n C dL_law_707 1 rfl ?_
  refine r_iload C dL_law_708 5 rfl ?_
  refine r_iconst C (v := (nI 4)) dL_law_710 rfl ?_
  refine r_iadd C (v := (nI (i + 4))) dL_law_711 (nI_add _ _) ?_
  refine l_sld C Lz (j := i + 4) (by omega) hL dL_law_712 ?_
  refine r_callV C X (As := [.int (xs (i + 1)), .int (xs (i + 2)), .int (xs (i + 3)), .int (xs (i + 4))]) (rest := []) (st1 := [.int v]) (μ' := μ2) (k := 19) (T := TX11) miX11_combine mvX11_combine hM2 hw_5_142 (by decide) rfl rfl rfl (hR_c hr.2.2 (by decide) (by omega) (by omega)) rfl (Nat.le_of_ble_eq_true rfl) dL_law_713 rfl ?_
  refine r_istore C (lv' := [(6, .int v), (5, .int (nI k)), (0, .ref b), (1, .ref (ad g 0)), (2, .ref (ad g 19)), (3, .ref (ad g 27)), (4, .int (nI i))]) 6 dL_law_716 (by decide) rfl ?_
  refine r_aload_n C dL_law_718 4 rfl ?_
  refine r_callV C X (As := []) (rest := []) (st1 := [.int (gI μ2 5)]) (μ' := μ2) (k := 19) (T := TX11) miX11_thrown mvX11_thrown (c_thrown l g μ2) hw_5_65 (by decide) rfl rfl rfl (hR_c ⟨by decide, by decide, rfl, rfl⟩ (by decide) (by omega) (by omega)) rfl (Nat.le_of_ble_eq_true rfl) dL_law_719 rfl ?_
  refine G_top (y := (nI k)) h5 ?_
  refine r_iload C dL_law_722 1 rfl ?_
  refine r_icmp_eq C 729 dL_law_724 (by decide) (nI_eq (by omega) (by omega)) (fun h724 => ?_) (fun h724 => ?_)
  · refine r_iload C dL_law_729 1 rfl ?_
    refine r_if_ne C 746 dL_law_731 (by decide) (zI_ne (by omega)) (fun h731 => ?_) (fun h731 => ?_)
    · refine r_goto C 2110 dL_law_746 (by decide) ?_
      refine G_sub (lv' := [(0, .ref b), (1, .ref (ad g 0)), (2, .ref (ad g 19)), (3, .ref (ad g 27)), (4, .int (nI i))]) [2, 3, 4, 5, 6] rfl ?_
      exact KK μ2 hI2
    · refine r_aload_n C dL_law_734 5 rfl ?_
      refine r_iconst C (v := (nI 0)) dL_law_735 rfl ?_
      refine r_lald C X (k := 27) (v := (gJ μ2 53 0)) (by decide) rfl (by omega) (by decide) rfl dL_law_736 ?_
      refine G_topl (y := v.toInt64) (ho (Decidable.not_not.mp h731)) ?_
      refine r_iload C dL_law_737 0 rfl ?_
      refine r_i2l C (v := ((v).toInt64)) dL_law_739 rfl ?_
      refine r_lcmp C dL_law_740 ?_
      refine r_if_eq C 746 dL_law_741 (by decide) (lgc_eq _ _) (fun h741 => ?_) (fun h741 => ?_)
      · refine r_goto C 2110 dL_law_746 (by decide) ?_
        refine G_sub (lv' := [(0, .ref b), (1, .ref (ad g 0)), (2, .ref (ad g 19)), (3, .ref (ad g 27)), (4, .int (nI i))]) [2, 3, 4, 5, 6] rfl ?_
        exact KK μ2 hI2
      · exact absurd rfl h741
  · exact absurd rfl h724
set_option maxHeartbeats 1000000 in
set_option maxRecDepth 100000 in
theorem lc_derive {z : Zt} {A : Nat → Prop} {l : Launch} {g : Gd} {μ : Mm} {b L : Nat} {xs : Nat → Int32} (C : Cx z A l room_1 cL_law 8 "SetFamiliesLaw") (X : Kx z g A) (Ee : Ex A (zs z) (zs z).heap) (Lz : Lx z A b L xs) {Inv : Nat → Mm → Prop} (hS : St_derive l g Inv) {i ce sl : Nat} (hI : Inv i μ) (hi : i + 5 ≤ L) (hL : L ≤ 2560) (hce : ce + 1 ≤ 601024) (hsl : sl + 6 ≤ 7293034) (KK : ∀ μ', Inv (i + 5) μ' → G z g.1 A 8 (wd g μ') (ce + 1) (sl + 6) 2110 [(0, .ref b), (1, .ref (ad g 0)), (2, .ref (ad g 19)), (3, .ref (ad g 27)), (4, .int (nI i))] []) : G z g.1 A 8 (wd g μ) ce sl 749 [(0, .ref b), (1, .ref (ad g 0)), (2, .ref (ad g 19)), (3, .ref (ad g 27)), (4, .int (nI i))] [] := by
  obtain ⟨k, μ1, μ2, v, r1, r2, hr, hM1, hM2, h5, ho, hI2⟩ := hS i μ (xs (i + 1)) (xs (i + 2)) (xs (i + 3)) (by omega) hI
  refine r_aload_n C dL_law_749 1 rfl ?_
  refine r_aload_n C dL_law_750 0 rfl ?_
  refine r_iload C dL_law_751 4 rfl ?_
  refine r_iconst C (v := (nI 1)) dL_law_753 rfl ?_
  refine r_iadd C (v := (nI (i + 1))) dL_law_754 (nI_add _ _) ?_
  refine l_sld C Lz (j := i + 1) (by omega) hL dL_law_755 ?_
  refine r_aload_n C dL_law_756 0 rfl ?_
  refine r_iload C dL_law_757 4 rfl ?_
  refine r_iconst C (v := (nI 2)) dL_law_759 rfl ?_
  refine r_iadd C (v := (nI (i + 2))) dL_law_760 (nI_add _ _) ?_
  refine l_sld C Lz (j := i + 2) (by omega) hL dL_law_761 ?_
  refine r_aload_n C dL_law_762 0 rfl ?_
  refine r_iload C dL_law_763 4 rfl ?_
  refine r_iconst C (v := (nI 3)) dL_law_765 rfl ?_
  refine r_iadd C (v := (nI (i + 3))) dL_law_766 (nI_add _ _) ?_
  refine l_sld C Lz (j := i + 3) (by omega) hL dL_law_767 ?_
  refine r_aload_n C dL_law_768 3 rfl ?_
  refine r_callW C X Ee (As := [.ref (ad g 0), .int (xs (i + 1)), .int (xs (i + 2)), .int (xs (i + 3)), .ref (ad g 27)]) (rest := []) (st1 := [.int (nI k)]) (μ' := μ1) mcL_derive miL_derive hM1 hw_4_32 rfl (hR_w hr.2.1 (by decide) hce hsl) rfl (Nat.le_of_ble_eq_true rfl) dL_law_769 rfl ?_
  refine r_istore C (lv' := [(5, .int (nI k)), (0, .ref b), (1, .ref (ad g 0)), (2, .ref (ad g 19)), (3, .ref (ad g 27)), (4, .int (nI i))]) 5 dL_law_772 (by decide) rfl ?_
  refine r_aload_n C dL_law_774 3 rfl ?_
  refine r_aload_n C dL_law_775 1 rfl ?_
  refine r_iload C dL_law_776 5 rfl ?_
  refine r_iconst C (v := (nI 1)) dL_law_778 rfl ?_
  refine r_iadd C (v := (nI (i + 1))) dL_law_779 (nI_add _ _) ?_
  refine l_sld C Lz (j := i + 1) (by omega) hL dL_law_780 ?_
  refine r_aload_n C dL_law_781 1 rfl ?_
  refine r_iload C dL_law_782 5 rfl ?_
  refine r_iconst C (v := (nI 2)) dL_law_784 rfl ?_
  refine r_iadd C (v := (nI (i + 2))) dL_law_785 (nI_add _ _) ?_
  refine l_sld C Lz (j := i + 2) (by omega) hL dL_law_786 ?_
  refine r_aload_n C dL_law_787 1 rfl ?_
  refine r_iload C dL_law_788 5 rfl ?_
  refine r_iconst C (v := (nI 3)) dL_law_790 rfl ?_
  refine r_iadd C (v := (nI (i + 3))) dL_law_791 (nI_add _ _) ?_
  refine l_sld C Lz (j := i + 3) (by omega) hL dL_law_792 ?_
  refine r_callV C X (As := [.int (xs (i + 1)), .int (xs (i + 2)), .int (xs (i + 3))]) (rest := []) (st1 := [.int v]) (μ' := μ2) (k := 19) (T := TX11) miX11_derive mvX11_derive hM2 hw_5_150 (by decide) rfl rfl rfl (hR_c hr.2.2 (by decide) (by omega) (by omega)) rfl (Nat.le_of_ble_eq_true rfl) dL_law_793 rfl ?_
  refine r_istore C (lv' := [(6, .int v), (5, .int (nI k)), (0, .ref b), (1, .ref (ad g 0)), (2, .ref (ad g 19)), (3, .ref (ad g 27)), (4, .int (nI i))]) 6 dL_law_796 (by decide) rfl ?_
  refine r_aload_n C dL_law_798 4 rfl ?_
  refine r_callV C X (As := []) (rest := []) (st1 := [.int (gI μ2 5)]) (μ' := μ2) (k := 19) (T := TX11) miX11_thrown mvX11_thrown (c_thrown l g μ2) hw_5_65 (by decide) rfl rfl rfl (hR_c ⟨by decide, by decide, rfl, rfl⟩ (by decide) (by omega) (by omega)) rfl (Nat.le_of_ble_eq_true rfl) dL_law_799 rfl ?_
  refine G_top (y := (nI k)) h5 ?_
  refine r_iload C dL_law_802 1 rfl ?_
  refine r_icmp_eq C 809 dL_law_804 (by decide) (nI_eq (by omega) (by omega)) (fun h804 => ?_) (fun h804 => ?_)
  · refine r_iload C dL_law_809 1 rfl ?_
    refine r_if_ne C 826 dL_law_811 (by decide) (zI_ne (by omega)) (fun h811 => ?_) (fun h811 => ?_)
    · refine r_goto C 2110 dL_law_826 (by decide) ?_
      refine G_sub (lv' := [(0, .ref b), (1, .ref (ad g 0)), (2, .ref (ad g 19)), (3, .ref (ad g 27)), (4, .int (nI i))]) [2, 3, 4, 5, 6] rfl ?_
      exact KK μ2 hI2
    · refine r_aload_n C dL_law_814 5 rfl ?_
      refine r_iconst C (v := (nI 0)) dL_law_815 rfl ?_
      refine r_lald C X (k := 27) (v := (gJ μ2 53 0)) (by decide) rfl (by omega) (by decide) rfl dL_law_816 ?_
      refine G_topl (y := v.toInt64) (ho (Decidable.not_not.mp h811)) ?_
      refine r_iload C dL_law_817 0 rfl ?_
      refine r_i2l C (v := ((v).toInt64)) dL_law_819 rfl ?_
      refine r_lcmp C dL_law_820 ?_
      refine r_if_eq C 826 dL_law_821 (by decide) (lgc_eq _ _) (fun h821 => ?_) (fun h821 => ?_)
      · refine r_goto C 2110 dL_law_826 (by decide) ?_
        refine G_sub (lv' := [(0, .ref b), (1, .ref (ad g 0)), (2, .ref (ad g 19)), (3, .ref (ad g 27)), (4, .int (nI i))]) [2, 3, 4, 5, 6] rfl ?_
        exact KK μ2 hI2
      · exact absurd rfl h821
  · exact absurd rfl h804
set_option maxHeartbeats 1000000 in
set_option maxRecDepth 100000 in
theorem lc_compress {z : Zt} {A : Nat → Prop} {l : Launch} {g : Gd} {μ : Mm} {b L : Nat} {xs : Nat → Int32} (C : Cx z A l room_1 cL_law 8 "SetFamiliesLaw") (X : Kx z g A) (Ee : Ex A (zs z) (zs z).heap) (Lz : Lx z A b L xs) {Inv : Nat → Mm → Prop} (hS : St_compress l g Inv) {i ce sl : Nat} (hI : Inv i μ) (hi : i + 5 ≤ L) (hL : L ≤ 2560) (hce : ce + 1 ≤ 601024) (hsl : sl + 6 ≤ 7293034) (KK : ∀ μ', Inv (i + 5) μ' → G z g.1 A 8 (wd g μ') (ce + 1) (sl + 6) 2110 [(0, .ref b), (1, .ref (ad g 0)), (2, .ref (ad g 19)), (3, .ref (ad g 27)), (4, .int (nI i))] []) : G z g.1 A 8 (wd g μ) ce sl 829 [(0, .ref b), (1, .ref (ad g 0)), (2, .ref (ad g 19)), (3, .ref (ad g 27)), (4, .int (nI i))] [] := by
  obtain ⟨k, μ1, μ2, v, r1, r2, hr, hM1, hM2, h5, ho, hI2⟩ := hS i μ (xs (i + 1)) (xs (i + 2)) (xs (i + 3)) (by omega) hI
  refine r_aload_n C dL_law_829 1 rfl ?_
  refine r_aload_n C dL_law_830 0 rfl ?_
  refine r_iload C dL_law_831 4 rfl ?_
  refine r_iconst C (v := (nI 1)) dL_law_833 rfl ?_
  refine r_iadd C (v := (nI (i + 1))) dL_law_834 (nI_add _ _) ?_
  refine l_sld C Lz (j := i + 1) (by omega) hL dL_law_835 ?_
  refine r_aload_n C dL_law_836 0 rfl ?_
  refine r_iload C dL_law_837 4 rfl ?_
  refine r_iconst C (v := (nI 2)) dL_law_839 rfl ?_
  refine r_iadd C (v := (nI (i + 2))) dL_law_840 (nI_add _ _) ?_
  refine l_sld C Lz (j := i + 2) (by omega) hL dL_law_841 ?_
  refine r_aload_n C dL_law_842 0 rfl ?_
  refine r_iload C dL_law_843 4 rfl ?_
  refine r_iconst C (v := (nI 3)) dL_law_845 rfl ?_
  refine r_iadd C (v := (nI (i + 3))) dL_law_846 (nI_add _ _) ?_
  refine l_sld C Lz (j := i + 3) (by omega) hL dL_law_847 ?_
  refine r_aload_n C dL_law_848 3 rfl ?_
  refine r_callW C X Ee (As := [.ref (ad g 0), .int (xs (i + 1)), .int (xs (i + 2)), .int (xs (i + 3)), .ref (ad g 27)]) (rest := []) (st1 := [.int (nI k)]) (μ' := μ1) mcL_compress miL_compress hM1 hw_4_58 rfl (hR_w hr.2.1 (by decide) hce hsl) rfl (Nat.le_of_ble_eq_true rfl) dL_law_849 rfl ?_
  refine r_istore C (lv' := [(5, .int (nI k)), (0, .ref b), (1, .ref (ad g 0)), (2, .ref (ad g 19)), (3, .ref (ad g 27)), (4, .int (nI i))]) 5 dL_law_852 (by decide) rfl ?_
  refine r_aload_n C dL_law_854 3 rfl ?_
  refine r_aload_n C dL_law_855 1 rfl ?_
  refine r_iload C dL_law_856 5 rfl ?_
  refine r_iconst C (v := (nI 1)) dL_law_858 rfl ?_
  refine r_iadd C (v := (nI (i + 1))) dL_law_859 (nI_add _ _) ?_
  refine l_sld C Lz (j := i + 1) (by omega) hL dL_law_860 ?_
  refine r_aload_n C dL_law_861 1 rfl ?_
  refine r_iload C dL_law_862 5 rfl ?_
  refine r_iconst C (v := (nI 2)) dL_law_864 rfl ?_
  refine r_iadd C (v := (nI (i + 2))) dL_law_865 (nI_add _ _) ?_
  refine l_sld C Lz (j := i + 2) (by omega) hL dL_law_866 ?_
  refine r_aload_n C dL_law_867 1 rfl ?_
  refine r_iload C dL_law_868 5 rfl ?_
  refine r_iconst C (v := (nI 3)) dL_law_870 rfl ?_
  refine r_iadd C (v := (nI (i + 3))) dL_law_871 (nI_add _ _) ?_
  refine l_sld C Lz (j := i + 3) (by omega) hL dL_law_872 ?_
  refine r_callV C X (As := [.int (xs (i + 1)), .int (xs (i + 2)), .int (xs (i + 3))]) (rest := []) (st1 := [.int v]) (μ' := μ2) (k := 19) (T := TX11) miX11_compress mvX11_compress hM2 hw_5_182 (by decide) rfl rfl rfl (hR_c hr.2.2 (by decide) (by omega) (by omega)) rfl (Nat.le_of_ble_eq_true rfl) dL_law_873 rfl ?_
  refine r_istore C (lv' := [(6, .int v), (5, .int (nI k)), (0, .ref b), (1, .ref (ad g 0)), (2, .ref (ad g 19)), (3, .ref (ad g 27)), (4, .int (nI i))]) 6 dL_law_876 (by decide) rfl ?_
  refine r_aload_n C dL_law_878 4 rfl ?_
  refine r_callV C X (As := []) (rest := []) (st1 := [.int (gI μ2 5)]) (μ' := μ2) (k := 19) (T := TX11) miX11_thrown mvX11_thrown (c_thrown l g μ2) hw_5_65 (by decide) rfl rfl rfl (hR_c ⟨by decide, by decide, rfl, rfl⟩ (by decide) (by omega) (by omega)) rfl (Nat.le_of_ble_eq_true rfl) dL_law_879 rfl ?_
  refine G_top (y := (nI k)) h5 ?_
  refine r_iload C dL_law_882 1 rfl ?_
  refine r_icmp_eq C 889 dL_law_884 (by decide) (nI_eq (by omega) (by omega)) (fun h884 => ?_) (fun h884 => ?_)
  · refine r_iload C dL_law_889 1 rfl ?_
    refine r_if_ne C 906 dL_law_891 (by decide) (zI_ne (by omega)) (fun h891 => ?_) (fun h891 => ?_)
    · refine r_goto C 2110 dL_law_906 (by decide) ?_
      refine G_sub (lv' := [(0, .ref b), (1, .ref (ad g 0)), (2, .ref (ad g 19)), (3, .ref (ad g 27)), (4, .int (nI i))]) [2, 3, 4, 5, 6] rfl ?_
      exact KK μ2 hI2
    · refine r_aload_n C dL_law_894 5 rfl ?_
      refine r_iconst C (v := (nI 0)) dL_law_895 rfl ?_
      refine r_lald C X (k := 27) (v := (gJ μ2 53 0)) (by decide) rfl (by omega) (by decide) rfl dL_law_896 ?_
      refine G_topl (y := v.toInt64) (ho (Decidable.not_not.mp h891)) ?_
      refine r_iload C dL_law_897 0 rfl ?_
      refine r_i2l C (v := ((v).toInt64)) dL_law_899 rfl ?_
      refine r_lcmp C dL_law_900 ?_
      refine r_if_eq C 906 dL_law_901 (by decide) (lgc_eq _ _) (fun h901 => ?_) (fun h901 => ?_)
      · refine r_goto C 2110 dL_law_906 (by decide) ?_
        refine G_sub (lv' := [(0, .ref b), (1, .ref (ad g 0)), (2, .ref (ad g 19)), (3, .ref (ad g 27)), (4, .int (nI i))]) [2, 3, 4, 5, 6] rfl ?_
        exact KK μ2 hI2
      · exact absurd rfl h901
  · exact absurd rfl h884
set_option maxHeartbeats 1000000 in
set_option maxRecDepth 100000 in
theorem lc_shift {z : Zt} {A : Nat → Prop} {l : Launch} {g : Gd} {μ : Mm} {b L : Nat} {xs : Nat → Int32} (C : Cx z A l room_1 cL_law 8 "SetFamiliesLaw") (X : Kx z g A) (Ee : Ex A (zs z) (zs z).heap) (Lz : Lx z A b L xs) {Inv : Nat → Mm → Prop} (hS : St_shift l g Inv) {i ce sl : Nat} (hI : Inv i μ) (hi : i + 5 ≤ L) (hL : L ≤ 2560) (hce : ce + 1 ≤ 601024) (hsl : sl + 6 ≤ 7293034) (KK : ∀ μ', Inv (i + 5) μ' → G z g.1 A 8 (wd g μ') (ce + 1) (sl + 6) 2110 [(0, .ref b), (1, .ref (ad g 0)), (2, .ref (ad g 19)), (3, .ref (ad g 27)), (4, .int (nI i))] []) : G z g.1 A 8 (wd g μ) ce sl 909 [(0, .ref b), (1, .ref (ad g 0)), (2, .ref (ad g 19)), (3, .ref (ad g 27)), (4, .int (nI i))] [] := by
  obtain ⟨k, μ1, μ2, v, r1, r2, hr, hM1, hM2, h5, ho, hI2⟩ := hS i μ (xs (i + 1)) (by omega) hI
  refine r_aload_n C dL_law_909 1 rfl ?_
  refine r_aload_n C dL_law_910 0 rfl ?_
  refine r_iload C dL_law_911 4 rfl ?_
  refine r_iconst C (v := (nI 1)) dL_law_913 rfl ?_
  refine r_iadd C (v := (nI (i + 1))) dL_law_914 (nI_add _ _) ?_
  refine l_sld C Lz (j := i + 1) (by omega) hL dL_law_915 ?_
  refine r_aload_n C dL_law_916 3 rfl ?_
  refine r_callW C X Ee (As := [.ref (ad g 0), .int (xs (i + 1)), .ref (ad g 27)]) (rest := []) (st1 := [.int (nI k)]) (μ' := μ1) mcL_shift miL_shift hM1 hw_4_71 rfl (hR_w hr.2.1 (by decide) hce hsl) rfl (Nat.le_of_ble_eq_true rfl) dL_law_917 rfl ?_
  refine r_istore C (lv' := [(5, .int (nI k)), (0, .ref b), (1, .ref (ad g 0)), (2, .ref (ad g 19)), (3, .ref (ad g 27)), (4, .int (nI i))]) 5 dL_law_920 (by decide) rfl ?_
  refine r_aload_n C dL_law_922 3 rfl ?_
  refine r_aload_n C dL_law_923 1 rfl ?_
  refine r_iload C dL_law_924 5 rfl ?_
  refine r_iconst C (v := (nI 1)) dL_law_926 rfl ?_
  refine r_iadd C (v := (nI (i + 1))) dL_law_927 (nI_add _ _) ?_
  refine l_sld C Lz (j := i + 1) (by omega) hL dL_law_928 ?_
  refine r_callV C X (As := [.int (xs (i + 1))]) (rest := []) (st1 := [.int v]) (μ' := μ2) (k := 19) (T := TX11) miX11_shift mvX11_shift hM2 hw_5_190 (by decide) rfl rfl rfl (hR_c hr.2.2 (by decide) (by omega) (by omega)) rfl (Nat.le_of_ble_eq_true rfl) dL_law_929 rfl ?_
  refine r_istore C (lv' := [(6, .int v), (5, .int (nI k)), (0, .ref b), (1, .ref (ad g 0)), (2, .ref (ad g 19)), (3, .ref (ad g 27)), (4, .int (nI i))]) 6 dL_law_932 (by decide) rfl ?_
  refine r_aload_n C dL_law_934 4 rfl ?_
  refine r_callV C X (As := []) (rest := []) (st1 := [.int (gI μ2 5)]) (μ' := μ2) (k := 19) (T := TX11) miX11_thrown mvX11_thrown (c_thrown l g μ2) hw_5_65 (by decide) rfl rfl rfl (hR_c ⟨by decide, by decide, rfl, rfl⟩ (by decide) (by omega) (by omega)) rfl (Nat.le_of_ble_eq_true rfl) dL_law_935 rfl ?_
  refine G_top (y := (nI k)) h5 ?_
  refine r_iload C dL_law_938 1 rfl ?_
  refine r_icmp_eq C 945 dL_law_940 (by decide) (nI_eq (by omega) (by omega)) (fun h940 => ?_) (fun h940 => ?_)
  · refine r_iload C dL_law_945 1 rfl ?_
    refine r_if_ne C 962 dL_law_947 (by decide) (zI_ne (by omega)) (fun h947 => ?_) (fun h947 => ?_)
    · refine r_goto C 2110 dL_law_962 (by decide) ?_
      refine G_sub (lv' := [(0, .ref b), (1, .ref (ad g 0)), (2, .ref (ad g 19)), (3, .ref (ad g 27)), (4, .int (nI i))]) [2, 3, 4, 5, 6] rfl ?_
      exact KK μ2 hI2
    · refine r_aload_n C dL_law_950 5 rfl ?_
      refine r_iconst C (v := (nI 0)) dL_law_951 rfl ?_
      refine r_lald C X (k := 27) (v := (gJ μ2 53 0)) (by decide) rfl (by omega) (by decide) rfl dL_law_952 ?_
      refine G_topl (y := v.toInt64) (ho (Decidable.not_not.mp h947)) ?_
      refine r_iload C dL_law_953 0 rfl ?_
      refine r_i2l C (v := ((v).toInt64)) dL_law_955 rfl ?_
      refine r_lcmp C dL_law_956 ?_
      refine r_if_eq C 962 dL_law_957 (by decide) (lgc_eq _ _) (fun h957 => ?_) (fun h957 => ?_)
      · refine r_goto C 2110 dL_law_962 (by decide) ?_
        refine G_sub (lv' := [(0, .ref b), (1, .ref (ad g 0)), (2, .ref (ad g 19)), (3, .ref (ad g 27)), (4, .int (nI i))]) [2, 3, 4, 5, 6] rfl ?_
        exact KK μ2 hI2
      · exact absurd rfl h957
  · exact absurd rfl h940
set_option maxHeartbeats 1000000 in
set_option maxRecDepth 100000 in
theorem lc_trace {z : Zt} {A : Nat → Prop} {l : Launch} {g : Gd} {μ : Mm} {b L : Nat} {xs : Nat → Int32} (C : Cx z A l room_1 cL_law 8 "SetFamiliesLaw") (X : Kx z g A) (Ee : Ex A (zs z) (zs z).heap) (Lz : Lx z A b L xs) {Inv : Nat → Mm → Prop} (hS : St_trace l g Inv) {i ce sl : Nat} (hI : Inv i μ) (hi : i + 5 ≤ L) (hL : L ≤ 2560) (hce : ce + 1 ≤ 601024) (hsl : sl + 6 ≤ 7293034) (KK : ∀ μ', Inv (i + 5) μ' → G z g.1 A 8 (wd g μ') (ce + 1) (sl + 6) 2110 [(0, .ref b), (1, .ref (ad g 0)), (2, .ref (ad g 19)), (3, .ref (ad g 27)), (4, .int (nI i))] []) : G z g.1 A 8 (wd g μ) ce sl 965 [(0, .ref b), (1, .ref (ad g 0)), (2, .ref (ad g 19)), (3, .ref (ad g 27)), (4, .int (nI i))] [] := by
  obtain ⟨k, μ1, μ2, v, r1, r2, hr, hM1, hM2, h5, ho, hI2⟩ := hS i μ (xs (i + 1)) (xs (i + 2)) (xs (i + 3)) (by omega) hI
  refine r_aload_n C dL_law_965 1 rfl ?_
  refine r_aload_n C dL_law_966 0 rfl ?_
  refine r_iload C dL_law_967 4 rfl ?_
  refine r_iconst C (v := (nI 1)) dL_law_969 rfl ?_
  refine r_iadd C (v := (nI (i + 1))) dL_law_970 (nI_add _ _) ?_
  refine l_sld C Lz (j := i + 1) (by omega) hL dL_law_971 ?_
  refine r_aload_n C dL_law_972 0 rfl ?_
  refine r_iload C dL_law_973 4 rfl ?_
  refine r_iconst C (v := (nI 2)) dL_law_975 rfl ?_
  refine r_iadd C (v := (nI (i + 2))) dL_law_976 (nI_add _ _) ?_
  refine l_sld C Lz (j := i + 2) (by omega) hL dL_law_977 ?_
  refine r_aload_n C dL_law_978 0 rfl ?_
  refine r_iload C dL_law_979 4 rfl ?_
  refine r_iconst C (v := (nI 3)) dL_law_981 rfl ?_
  refine r_iadd C (v := (nI (i + 3))) dL_law_982 (nI_add _ _) ?_
  refine l_sld C Lz (j := i + 3) (by omega) hL dL_law_983 ?_
  refine r_aload_n C dL_law_984 3 rfl ?_
  refine r_callW C X Ee (As := [.ref (ad g 0), .int (xs (i + 1)), .int (xs (i + 2)), .int (xs (i + 3)), .ref (ad g 27)]) (rest := []) (st1 := [.int (nI k)]) (μ' := μ1) mcL_trace miL_trace hM1 hw_4_88 rfl (hR_w hr.2.1 (by decide) hce hsl) rfl (Nat.le_of_ble_eq_true rfl) dL_law_985 rfl ?_
  refine r_istore C (lv' := [(5, .int (nI k)), (0, .ref b), (1, .ref (ad g 0)), (2, .ref (ad g 19)), (3, .ref (ad g 27)), (4, .int (nI i))]) 5 dL_law_988 (by decide) rfl ?_
  refine r_aload_n C dL_law_990 3 rfl ?_
  refine r_aload_n C dL_law_991 1 rfl ?_
  refine r_iload C dL_law_992 5 rfl ?_
  refine r_iconst C (v := (nI 1)) dL_law_994 rfl ?_
  refine r_iadd C (v := (nI (i + 1))) dL_law_995 (nI_add _ _) ?_
  refine l_sld C Lz (j := i + 1) (by omega) hL dL_law_996 ?_
  refine r_aload_n C dL_law_997 1 rfl ?_
  refine r_iload C dL_law_998 5 rfl ?_
  refine r_iconst C (v := (nI 2)) dL_law_1000 rfl ?_
  refine r_iadd C (v := (nI (i + 2))) dL_law_1001 (nI_add _ _) ?_
  refine l_sld C Lz (j := i + 2) (by omega) hL dL_law_1002 ?_
  refine r_aload_n C dL_law_1003 1 rfl ?_
  refine r_iload C dL_law_1004 5 rfl ?_
  refine r_iconst C (v := (nI 3)) dL_law_1006 rfl ?_
  refine r_iadd C (v := (nI (i + 3))) dL_law_1007 (nI_add _ _) ?_
  refine l_sld C Lz (j := i + 3) (by omega) hL dL_law_1008 ?_
  refine r_callV C X (As := [.int (xs (i + 1)), .int (xs (i + 2)), .int (xs (i + 3))]) (rest := []) (st1 := [.int v]) (μ' := μ2) (k := 19) (T := TX11) miX11_trace mvX11_trace hM2 hw_5_194 (by decide) rfl rfl rfl (hR_c hr.2.2 (by decide) (by omega) (by omega)) rfl (Nat.le_of_ble_eq_true rfl) dL_law_1009 rfl ?_
  refine r_istore C (lv' := [(6, .int v), (5, .int (nI k)), (0, .ref b), (1, .ref (ad g 0)), (2, .ref (ad g 19)), (3, .ref (ad g 27)), (4, .int (nI i))]) 6 dL_law_1012 (by decide) rfl ?_
  refine r_aload_n C dL_law_1014 4 rfl ?_
  refine r_callV C X (As := []) (rest := []) (st1 := [.int (gI μ2 5)]) (μ' := μ2) (k := 19) (T := TX11) miX11_thrown mvX11_thrown (c_thrown l g μ2) hw_5_65 (by decide) rfl rfl rfl (hR_c ⟨by decide, by decide, rfl, rfl⟩ (by decide) (by omega) (by omega)) rfl (Nat.le_of_ble_eq_true rfl) dL_law_1015 rfl ?_
  refine G_top (y := (nI k)) h5 ?_
  refine r_iload C dL_law_1018 1 rfl ?_
  refine r_icmp_eq C 1025 dL_law_1020 (by decide) (nI_eq (by omega) (by omega)) (fun h1020 => ?_) (fun h1020 => ?_)
  · refine r_iload C dL_law_1025 1 rfl ?_
    refine r_if_ne C 1042 dL_law_1027 (by decide) (zI_ne (by omega)) (fun h1027 => ?_) (fun h1027 => ?_)
    · refine r_goto C 2110 dL_law_1042 (by decide) ?_
      refine G_sub (lv' := [(0, .ref b), (1, .ref (ad g 0)), (2, .ref (ad g 19)), (3, .ref (ad g 27)), (4, .int (nI i))]) [2, 3, 4, 5, 6] rfl ?_
      exact KK μ2 hI2
    · refine r_aload_n C dL_law_1030 5 rfl ?_
      refine r_iconst C (v := (nI 0)) dL_law_1031 rfl ?_
      refine r_lald C X (k := 27) (v := (gJ μ2 53 0)) (by decide) rfl (by omega) (by decide) rfl dL_law_1032 ?_
      refine G_topl (y := v.toInt64) (ho (Decidable.not_not.mp h1027)) ?_
      refine r_iload C dL_law_1033 0 rfl ?_
      refine r_i2l C (v := ((v).toInt64)) dL_law_1035 rfl ?_
      refine r_lcmp C dL_law_1036 ?_
      refine r_if_eq C 1042 dL_law_1037 (by decide) (lgc_eq _ _) (fun h1037 => ?_) (fun h1037 => ?_)
      · refine r_goto C 2110 dL_law_1042 (by decide) ?_
        refine G_sub (lv' := [(0, .ref b), (1, .ref (ad g 0)), (2, .ref (ad g 19)), (3, .ref (ad g 27)), (4, .int (nI i))]) [2, 3, 4, 5, 6] rfl ?_
        exact KK μ2 hI2
      · exact absurd rfl h1037
  · exact absurd rfl h1020
set_option maxHeartbeats 1000000 in
set_option maxRecDepth 100000 in
theorem lc_segment {z : Zt} {A : Nat → Prop} {l : Launch} {g : Gd} {μ : Mm} {b L : Nat} {xs : Nat → Int32} (C : Cx z A l room_1 cL_law 8 "SetFamiliesLaw") (X : Kx z g A) (Ee : Ex A (zs z) (zs z).heap) (Lz : Lx z A b L xs) {Inv : Nat → Mm → Prop} (hS : St_segment l g Inv) {i ce sl : Nat} (hI : Inv i μ) (hi : i + 5 ≤ L) (hL : L ≤ 2560) (hce : ce + 1 ≤ 601024) (hsl : sl + 6 ≤ 7293034) (KK : ∀ μ', Inv (i + 5) μ' → G z g.1 A 8 (wd g μ') (ce + 1) (sl + 6) 2110 [(0, .ref b), (1, .ref (ad g 0)), (2, .ref (ad g 19)), (3, .ref (ad g 27)), (4, .int (nI i))] []) : G z g.1 A 8 (wd g μ) ce sl 1045 [(0, .ref b), (1, .ref (ad g 0)), (2, .ref (ad g 19)), (3, .ref (ad g 27)), (4, .int (nI i))] [] := by
  obtain ⟨k, μ1, μ2, v, r1, r2, hr, hM1, hM2, h5, ho, hI2⟩ := hS i μ (xs (i + 1)) (xs (i + 2)) (xs (i + 3)) (by omega) hI
  refine r_aload_n C dL_law_1045 1 rfl ?_
  refine r_aload_n C dL_law_1046 0 rfl ?_
  refine r_iload C dL_law_1047 4 rfl ?_
  refine r_iconst C (v := (nI 1)) dL_law_1049 rfl ?_
  refine r_iadd C (v := (nI (i + 1))) dL_law_1050 (nI_add _ _) ?_
  refine l_sld C Lz (j := i + 1) (by omega) hL dL_law_1051 ?_
  refine r_aload_n C dL_law_1052 0 rfl ?_
  refine r_iload C dL_law_1053 4 rfl ?_
  refine r_iconst C (v := (nI 2)) dL_law_1055 rfl ?_
  refine r_iadd C (v := (nI (i + 2))) dL_law_1056 (nI_add _ _) ?_
  refine l_sld C Lz (j := i + 2) (by omega) hL dL_law_1057 ?_
  refine r_aload_n C dL_law_1058 0 rfl ?_
  refine r_iload C dL_law_1059 4 rfl ?_
  refine r_iconst C (v := (nI 3)) dL_law_1061 rfl ?_
  refine r_iadd C (v := (nI (i + 3))) dL_law_1062 (nI_add _ _) ?_
  refine l_sld C Lz (j := i + 3) (by omega) hL dL_law_1063 ?_
  refine r_aload_n C dL_law_1064 3 rfl ?_
  refine r_callW C X Ee (As := [.ref (ad g 0), .int (xs (i + 1)), .int (xs (i + 2)), .int (xs (i + 3)), .ref (ad g 27)]) (rest := []) (st1 := [.int (nI k)]) (μ' := μ1) mcL_segment miL_segment hM1 hw_4_96 rfl (hR_w hr.2.1 (by decide) hce hsl) rfl (Nat.le_of_ble_eq_true rfl) dL_law_1065 rfl ?_
  refine r_istore C (lv' := [(5, .int (nI k)), (0, .ref b), (1, .ref (ad g 0)), (2, .ref (ad g 19)), (3, .ref (ad g 27)), (4, .int (nI i))]) 5 dL_law_1068 (by decide) rfl ?_
  refine r_aload_n C dL_law_1070 3 rfl ?_
  refine r_aload_n C dL_law_1071 1 rfl ?_
  refine r_iload C dL_law_1072 5 rfl ?_
  refine r_iconst C (v := (nI 1)) dL_law_1074 rfl ?_
  refine r_iadd C (v := (nI (i + 1))) dL_law_1075 (nI_add _ _) ?_
  refine l_sld C Lz (j := i + 1) (by omega) hL dL_law_1076 ?_
  refine r_aload_n C dL_law_1077 1 rfl ?_
  refine r_iload C dL_law_1078 5 rfl ?_
  refine r_iconst C (v := (nI 2)) dL_law_1080 rfl ?_
  refine r_iadd C (v := (nI (i + 2))) dL_law_1081 (nI_add _ _) ?_
  refine l_sld C Lz (j := i + 2) (by omega) hL dL_law_1082 ?_
  refine r_aload_n C dL_law_1083 1 rfl ?_
  refine r_iload C dL_law_1084 5 rfl ?_
  refine r_iconst C (v := (nI 3)) dL_law_1086 rfl ?_
  refine r_iadd C (v := (nI (i + 3))) dL_law_1087 (nI_add _ _) ?_
  refine l_sld C Lz (j := i + 3) (by omega) hL dL_law_1088 ?_
  refine r_callV C X (As := [.int (xs (i + 1)), .int (xs (i + 2)), .int (xs (i + 3))]) (rest := []) (st1 := [.int v]) (μ' := μ2) (k := 19) (T := TX11) miX11_segment mvX11_segment hM2 hw_5_198 (by decide) rfl rfl rfl (hR_c hr.2.2 (by decide) (by omega) (by omega)) rfl (Nat.le_of_ble_eq_true rfl) dL_law_1089 rfl ?_
  refine r_istore C (lv' := [(6, .int v), (5, .int (nI k)), (0, .ref b), (1, .ref (ad g 0)), (2, .ref (ad g 19)), (3, .ref (ad g 27)), (4, .int (nI i))]) 6 dL_law_1092 (by decide) rfl ?_
  refine r_aload_n C dL_law_1094 4 rfl ?_
  refine r_callV C X (As := []) (rest := []) (st1 := [.int (gI μ2 5)]) (μ' := μ2) (k := 19) (T := TX11) miX11_thrown mvX11_thrown (c_thrown l g μ2) hw_5_65 (by decide) rfl rfl rfl (hR_c ⟨by decide, by decide, rfl, rfl⟩ (by decide) (by omega) (by omega)) rfl (Nat.le_of_ble_eq_true rfl) dL_law_1095 rfl ?_
  refine G_top (y := (nI k)) h5 ?_
  refine r_iload C dL_law_1098 1 rfl ?_
  refine r_icmp_eq C 1105 dL_law_1100 (by decide) (nI_eq (by omega) (by omega)) (fun h1100 => ?_) (fun h1100 => ?_)
  · refine r_iload C dL_law_1105 1 rfl ?_
    refine r_if_ne C 1122 dL_law_1107 (by decide) (zI_ne (by omega)) (fun h1107 => ?_) (fun h1107 => ?_)
    · refine r_goto C 2110 dL_law_1122 (by decide) ?_
      refine G_sub (lv' := [(0, .ref b), (1, .ref (ad g 0)), (2, .ref (ad g 19)), (3, .ref (ad g 27)), (4, .int (nI i))]) [2, 3, 4, 5, 6] rfl ?_
      exact KK μ2 hI2
    · refine r_aload_n C dL_law_1110 5 rfl ?_
      refine r_iconst C (v := (nI 0)) dL_law_1111 rfl ?_
      refine r_lald C X (k := 27) (v := (gJ μ2 53 0)) (by decide) rfl (by omega) (by decide) rfl dL_law_1112 ?_
      refine G_topl (y := v.toInt64) (ho (Decidable.not_not.mp h1107)) ?_
      refine r_iload C dL_law_1113 0 rfl ?_
      refine r_i2l C (v := ((v).toInt64)) dL_law_1115 rfl ?_
      refine r_lcmp C dL_law_1116 ?_
      refine r_if_eq C 1122 dL_law_1117 (by decide) (lgc_eq _ _) (fun h1117 => ?_) (fun h1117 => ?_)
      · refine r_goto C 2110 dL_law_1122 (by decide) ?_
        refine G_sub (lv' := [(0, .ref b), (1, .ref (ad g 0)), (2, .ref (ad g 19)), (3, .ref (ad g 27)), (4, .int (nI i))]) [2, 3, 4, 5, 6] rfl ?_
        exact KK μ2 hI2
      · exact absurd rfl h1117
  · exact absurd rfl h1100
set_option maxHeartbeats 1000000 in
set_option maxRecDepth 100000 in
theorem lc_rank {z : Zt} {A : Nat → Prop} {l : Launch} {g : Gd} {μ : Mm} {b L : Nat} {xs : Nat → Int32} (C : Cx z A l room_1 cL_law 8 "SetFamiliesLaw") (X : Kx z g A) (Ee : Ex A (zs z) (zs z).heap) (Lz : Lx z A b L xs) {Inv : Nat → Mm → Prop} (hS : St_rank l g Inv) {i ce sl : Nat} (hI : Inv i μ) (hi : i + 5 ≤ L) (hL : L ≤ 2560) (hce : ce + 1 ≤ 601024) (hsl : sl + 6 ≤ 7293034) (KK : ∀ μ', Inv (i + 5) μ' → G z g.1 A 8 (wd g μ') (ce + 1) (sl + 6) 2110 [(0, .ref b), (1, .ref (ad g 0)), (2, .ref (ad g 19)), (3, .ref (ad g 27)), (4, .int (nI i))] []) : G z g.1 A 8 (wd g μ) ce sl 1125 [(0, .ref b), (1, .ref (ad g 0)), (2, .ref (ad g 19)), (3, .ref (ad g 27)), (4, .int (nI i))] [] := by
  obtain ⟨k, μ1, μ2, v, r1, r2, hr, hM1, hM2, h5, ho, hI2⟩ := hS i μ (xs (i + 1)) (by omega) hI
  refine r_aload_n C dL_law_1125 1 rfl ?_
  refine r_aload_n C dL_law_1126 0 rfl ?_
  refine r_iload C dL_law_1127 4 rfl ?_
  refine r_iconst C (v := (nI 1)) dL_law_1129 rfl ?_
  refine r_iadd C (v := (nI (i + 1))) dL_law_1130 (nI_add _ _) ?_
  refine l_sld C Lz (j := i + 1) (by omega) hL dL_law_1131 ?_
  refine r_aload_n C dL_law_1132 3 rfl ?_
  refine r_callW C X Ee (As := [.ref (ad g 0), .int (xs (i + 1)), .ref (ad g 27)]) (rest := []) (st1 := [.int (nI k)]) (μ' := μ1) mcL_rank miL_rank hM1 hw_4_103 rfl (hR_w hr.2.1 (by decide) hce hsl) rfl (Nat.le_of_ble_eq_true rfl) dL_law_1133 rfl ?_
  refine r_istore C (lv' := [(5, .int (nI k)), (0, .ref b), (1, .ref (ad g 0)), (2, .ref (ad g 19)), (3, .ref (ad g 27)), (4, .int (nI i))]) 5 dL_law_1136 (by decide) rfl ?_
  refine r_aload_n C dL_law_1138 3 rfl ?_
  refine r_aload_n C dL_law_1139 1 rfl ?_
  refine r_iload C dL_law_1140 5 rfl ?_
  refine r_iconst C (v := (nI 1)) dL_law_1142 rfl ?_
  refine r_iadd C (v := (nI (i + 1))) dL_law_1143 (nI_add _ _) ?_
  refine l_sld C Lz (j := i + 1) (by omega) hL dL_law_1144 ?_
  refine r_callV C X (As := [.int (xs (i + 1))]) (rest := []) (st1 := [.int v]) (μ' := μ2) (k := 19) (T := TX11) miX11_rank mvX11_rank hM2 hw_5_205 (by decide) rfl rfl rfl (hR_c hr.2.2 (by decide) (by omega) (by omega)) rfl (Nat.le_of_ble_eq_true rfl) dL_law_1145 rfl ?_
  refine r_istore C (lv' := [(6, .int v), (5, .int (nI k)), (0, .ref b), (1, .ref (ad g 0)), (2, .ref (ad g 19)), (3, .ref (ad g 27)), (4, .int (nI i))]) 6 dL_law_1148 (by decide) rfl ?_
  refine r_aload_n C dL_law_1150 4 rfl ?_
  refine r_callV C X (As := []) (rest := []) (st1 := [.int (gI μ2 5)]) (μ' := μ2) (k := 19) (T := TX11) miX11_thrown mvX11_thrown (c_thrown l g μ2) hw_5_65 (by decide) rfl rfl rfl (hR_c ⟨by decide, by decide, rfl, rfl⟩ (by decide) (by omega) (by omega)) rfl (Nat.le_of_ble_eq_true rfl) dL_law_1151 rfl ?_
  refine G_top (y := (nI k)) h5 ?_
  refine r_iload C dL_law_1154 1 rfl ?_
  refine r_icmp_eq C 1161 dL_law_1156 (by decide) (nI_eq (by omega) (by omega)) (fun h1156 => ?_) (fun h1156 => ?_)
  · refine r_iload C dL_law_1161 1 rfl ?_
    refine r_if_ne C 1178 dL_law_1163 (by decide) (zI_ne (by omega)) (fun h1163 => ?_) (fun h1163 => ?_)
    · refine r_goto C 2110 dL_law_1178 (by decide) ?_
      refine G_sub (lv' := [(0, .ref b), (1, .ref (ad g 0)), (2, .ref (ad g 19)), (3, .ref (ad g 27)), (4, .int (nI i))]) [2, 3, 4, 5, 6] rfl ?_
      exact KK μ2 hI2
    · refine r_aload_n C dL_law_1166 5 rfl ?_
      refine r_iconst C (v := (nI 0)) dL_law_1167 rfl ?_
      refine r_lald C X (k := 27) (v := (gJ μ2 53 0)) (by decide) rfl (by omega) (by decide) rfl dL_law_1168 ?_
      refine G_topl (y := v.toInt64) (ho (Decidable.not_not.mp h1163)) ?_
      refine r_iload C dL_law_1169 0 rfl ?_
      refine r_i2l C (v := ((v).toInt64)) dL_law_1171 rfl ?_
      refine r_lcmp C dL_law_1172 ?_
      refine r_if_eq C 1178 dL_law_1173 (by decide) (lgc_eq _ _) (fun h1173 => ?_) (fun h1173 => ?_)
      · refine r_goto C 2110 dL_law_1178 (by decide) ?_
        refine G_sub (lv' := [(0, .ref b), (1, .ref (ad g 0)), (2, .ref (ad g 19)), (3, .ref (ad g 27)), (4, .int (nI i))]) [2, 3, 4, 5, 6] rfl ?_
        exact KK μ2 hI2
      · exact absurd rfl h1173
  · exact absurd rfl h1156
set_option maxHeartbeats 1000000 in
set_option maxRecDepth 100000 in
theorem lc_unrank {z : Zt} {A : Nat → Prop} {l : Launch} {g : Gd} {μ : Mm} {b L : Nat} {xs : Nat → Int32} (C : Cx z A l room_1 cL_law 8 "SetFamiliesLaw") (X : Kx z g A) (Ee : Ex A (zs z) (zs z).heap) (Lz : Lx z A b L xs) {Inv : Nat → Mm → Prop} (hS : St_unrank l g Inv) {i ce sl : Nat} (hI : Inv i μ) (hi : i + 5 ≤ L) (hL : L ≤ 2560) (hce : ce + 1 ≤ 601024) (hsl : sl + 6 ≤ 7293034) (KK : ∀ μ', Inv (i + 5) μ' → G z g.1 A 8 (wd g μ') (ce + 1) (sl + 6) 2110 [(0, .ref b), (1, .ref (ad g 0)), (2, .ref (ad g 19)), (3, .ref (ad g 27)), (4, .int (nI i))] []) : G z g.1 A 8 (wd g μ) ce sl 1181 [(0, .ref b), (1, .ref (ad g 0)), (2, .ref (ad g 19)), (3, .ref (ad g 27)), (4, .int (nI i))] [] := by
  obtain ⟨k, μ1, μ2, v, r1, r2, hr, hM1, hM2, h5, ho, hI2⟩ := hS i μ (xs (i + 1)) (xs (i + 2)) (by omega) hI
  refine r_aload_n C dL_law_1181 1 rfl ?_
  refine r_aload_n C dL_law_1182 0 rfl ?_
  refine r_iload C dL_law_1183 4 rfl ?_
  refine r_iconst C (v := (nI 1)) dL_law_1185 rfl ?_
  refine r_iadd C (v := (nI (i + 1))) dL_law_1186 (nI_add _ _) ?_
  refine l_sld C Lz (j := i + 1) (by omega) hL dL_law_1187 ?_
  refine r_aload_n C dL_law_1188 0 rfl ?_
  refine r_iload C dL_law_1189 4 rfl ?_
  refine r_iconst C (v := (nI 2)) dL_law_1191 rfl ?_
  refine r_iadd C (v := (nI (i + 2))) dL_law_1192 (nI_add _ _) ?_
  refine l_sld C Lz (j := i + 2) (by omega) hL dL_law_1193 ?_
  refine r_aload_n C dL_law_1194 3 rfl ?_
  refine r_callW C X Ee (As := [.ref (ad g 0), .int (xs (i + 1)), .int (xs (i + 2)), .ref (ad g 27)]) (rest := []) (st1 := [.int (nI k)]) (μ' := μ1) mcL_unrank miL_unrank hM1 hw_4_114 rfl (hR_w hr.2.1 (by decide) hce hsl) rfl (Nat.le_of_ble_eq_true rfl) dL_law_1195 rfl ?_
  refine r_istore C (lv' := [(5, .int (nI k)), (0, .ref b), (1, .ref (ad g 0)), (2, .ref (ad g 19)), (3, .ref (ad g 27)), (4, .int (nI i))]) 5 dL_law_1198 (by decide) rfl ?_
  refine r_aload_n C dL_law_1200 3 rfl ?_
  refine r_aload_n C dL_law_1201 1 rfl ?_
  refine r_iload C dL_law_1202 5 rfl ?_
  refine r_iconst C (v := (nI 1)) dL_law_1204 rfl ?_
  refine r_iadd C (v := (nI (i + 1))) dL_law_1205 (nI_add _ _) ?_
  refine l_sld C Lz (j := i + 1) (by omega) hL dL_law_1206 ?_
  refine r_aload_n C dL_law_1207 1 rfl ?_
  refine r_iload C dL_law_1208 5 rfl ?_
  refine r_iconst C (v := (nI 2)) dL_law_1210 rfl ?_
  refine r_iadd C (v := (nI (i + 2))) dL_law_1211 (nI_add _ _) ?_
  refine l_sld C Lz (j := i + 2) (by omega) hL dL_law_1212 ?_
  refine r_callV C X (As := [.int (xs (i + 1)), .int (xs (i + 2))]) (rest := []) (st1 := [.int v]) (μ' := μ2) (k := 19) (T := TX11) miX11_unrank mvX11_unrank hM2 hw_5_209 (by decide) rfl rfl rfl (hR_c hr.2.2 (by decide) (by omega) (by omega)) rfl (Nat.le_of_ble_eq_true rfl) dL_law_1213 rfl ?_
  refine r_istore C (lv' := [(6, .int v), (5, .int (nI k)), (0, .ref b), (1, .ref (ad g 0)), (2, .ref (ad g 19)), (3, .ref (ad g 27)), (4, .int (nI i))]) 6 dL_law_1216 (by decide) rfl ?_
  refine r_aload_n C dL_law_1218 4 rfl ?_
  refine r_callV C X (As := []) (rest := []) (st1 := [.int (gI μ2 5)]) (μ' := μ2) (k := 19) (T := TX11) miX11_thrown mvX11_thrown (c_thrown l g μ2) hw_5_65 (by decide) rfl rfl rfl (hR_c ⟨by decide, by decide, rfl, rfl⟩ (by decide) (by omega) (by omega)) rfl (Nat.le_of_ble_eq_true rfl) dL_law_1219 rfl ?_
  refine G_top (y := (nI k)) h5 ?_
  refine r_iload C dL_law_1222 1 rfl ?_
  refine r_icmp_eq C 1229 dL_law_1224 (by decide) (nI_eq (by omega) (by omega)) (fun h1224 => ?_) (fun h1224 => ?_)
  · refine r_iload C dL_law_1229 1 rfl ?_
    refine r_if_ne C 1246 dL_law_1231 (by decide) (zI_ne (by omega)) (fun h1231 => ?_) (fun h1231 => ?_)
    · refine r_goto C 2110 dL_law_1246 (by decide) ?_
      refine G_sub (lv' := [(0, .ref b), (1, .ref (ad g 0)), (2, .ref (ad g 19)), (3, .ref (ad g 27)), (4, .int (nI i))]) [2, 3, 4, 5, 6] rfl ?_
      exact KK μ2 hI2
    · refine r_aload_n C dL_law_1234 5 rfl ?_
      refine r_iconst C (v := (nI 0)) dL_law_1235 rfl ?_
      refine r_lald C X (k := 27) (v := (gJ μ2 53 0)) (by decide) rfl (by omega) (by decide) rfl dL_law_1236 ?_
      refine G_topl (y := v.toInt64) (ho (Decidable.not_not.mp h1231)) ?_
      refine r_iload C dL_law_1237 0 rfl ?_
      refine r_i2l C (v := ((v).toInt64)) dL_law_1239 rfl ?_
      refine r_lcmp C dL_law_1240 ?_
      refine r_if_eq C 1246 dL_law_1241 (by decide) (lgc_eq _ _) (fun h1241 => ?_) (fun h1241 => ?_)
      · refine r_goto C 2110 dL_law_1246 (by decide) ?_
        refine G_sub (lv' := [(0, .ref b), (1, .ref (ad g 0)), (2, .ref (ad g 19)), (3, .ref (ad g 27)), (4, .int (nI i))]) [2, 3, 4, 5, 6] rfl ?_
        exact KK μ2 hI2
      · exact absurd rfl h1241
  · exact absurd rfl h1224
set_option maxHeartbeats 1000000 in
set_option maxRecDepth 100000 in
theorem lc_cascade {z : Zt} {A : Nat → Prop} {l : Launch} {g : Gd} {μ : Mm} {b L : Nat} {xs : Nat → Int32} (C : Cx z A l room_1 cL_law 8 "SetFamiliesLaw") (X : Kx z g A) (Ee : Ex A (zs z) (zs z).heap) (Lz : Lx z A b L xs) {Inv : Nat → Mm → Prop} (hS : St_cascade l g Inv) {i ce sl : Nat} (hI : Inv i μ) (hi : i + 5 ≤ L) (hL : L ≤ 2560) (hce : ce + 1 ≤ 601024) (hsl : sl + 6 ≤ 7293034) (KK : ∀ μ', Inv (i + 5) μ' → G z g.1 A 8 (wd g μ') (ce + 1) (sl + 6) 2110 [(0, .ref b), (1, .ref (ad g 0)), (2, .ref (ad g 19)), (3, .ref (ad g 27)), (4, .int (nI i))] []) : G z g.1 A 8 (wd g μ) ce sl 1249 [(0, .ref b), (1, .ref (ad g 0)), (2, .ref (ad g 19)), (3, .ref (ad g 27)), (4, .int (nI i))] [] := by
  obtain ⟨k, μ1, μ2, v, r1, r2, hr, hM1, hM2, h5, ho, hI2⟩ := hS i μ (xs (i + 1)) (xs (i + 2)) (xs (i + 3)) (by omega) hI
  refine r_aload_n C dL_law_1249 1 rfl ?_
  refine r_aload_n C dL_law_1250 0 rfl ?_
  refine r_iload C dL_law_1251 4 rfl ?_
  refine r_iconst C (v := (nI 1)) dL_law_1253 rfl ?_
  refine r_iadd C (v := (nI (i + 1))) dL_law_1254 (nI_add _ _) ?_
  refine l_sld C Lz (j := i + 1) (by omega) hL dL_law_1255 ?_
  refine r_aload_n C dL_law_1256 0 rfl ?_
  refine r_iload C dL_law_1257 4 rfl ?_
  refine r_iconst C (v := (nI 2)) dL_law_1259 rfl ?_
  refine r_iadd C (v := (nI (i + 2))) dL_law_1260 (nI_add _ _) ?_
  refine l_sld C Lz (j := i + 2) (by omega) hL dL_law_1261 ?_
  refine r_aload_n C dL_law_1262 0 rfl ?_
  refine r_iload C dL_law_1263 4 rfl ?_
  refine r_iconst C (v := (nI 3)) dL_law_1265 rfl ?_
  refine r_iadd C (v := (nI (i + 3))) dL_law_1266 (nI_add _ _) ?_
  refine l_sld C Lz (j := i + 3) (by omega) hL dL_law_1267 ?_
  refine r_aload_n C dL_law_1268 3 rfl ?_
  refine r_callW C X Ee (As := [.ref (ad g 0), .int (xs (i + 1)), .int (xs (i + 2)), .int (xs (i + 3)), .ref (ad g 27)]) (rest := []) (st1 := [.int (nI k)]) (μ' := μ1) mcL_cascade miL_cascade hM1 hw_4_124 rfl (hR_w hr.2.1 (by decide) hce hsl) rfl (Nat.le_of_ble_eq_true rfl) dL_law_1269 rfl ?_
  refine r_istore C (lv' := [(5, .int (nI k)), (0, .ref b), (1, .ref (ad g 0)), (2, .ref (ad g 19)), (3, .ref (ad g 27)), (4, .int (nI i))]) 5 dL_law_1272 (by decide) rfl ?_
  refine r_aload_n C dL_law_1274 3 rfl ?_
  refine r_aload_n C dL_law_1275 1 rfl ?_
  refine r_iload C dL_law_1276 5 rfl ?_
  refine r_iconst C (v := (nI 1)) dL_law_1278 rfl ?_
  refine r_iadd C (v := (nI (i + 1))) dL_law_1279 (nI_add _ _) ?_
  refine l_sld C Lz (j := i + 1) (by omega) hL dL_law_1280 ?_
  refine r_aload_n C dL_law_1281 1 rfl ?_
  refine r_iload C dL_law_1282 5 rfl ?_
  refine r_iconst C (v := (nI 2)) dL_law_1284 rfl ?_
  refine r_iadd C (v := (nI (i + 2))) dL_law_1285 (nI_add _ _) ?_
  refine l_sld C Lz (j := i + 2) (by omega) hL dL_law_1286 ?_
  refine r_aload_n C dL_law_1287 1 rfl ?_
  refine r_iload C dL_law_1288 5 rfl ?_
  refine r_iconst C (v := (nI 3)) dL_law_1290 rfl ?_
  refine r_iadd C (v := (nI (i + 3))) dL_law_1291 (nI_add _ _) ?_
  refine l_sld C Lz (j := i + 3) (by omega) hL dL_law_1292 ?_
  refine r_callV C X (As := [.int (xs (i + 1)), .int (xs (i + 2)), .int (xs (i + 3))]) (rest := []) (st1 := [.int v]) (μ' := μ2) (k := 19) (T := TX11) miX11_cascade mvX11_cascade hM2 hw_5_213 (by decide) rfl rfl rfl (hR_c hr.2.2 (by decide) (by omega) (by omega)) rfl (Nat.le_of_ble_eq_true rfl) dL_law_1293 rfl ?_
  refine r_istore C (lv' := [(6, .int v), (5, .int (nI k)), (0, .ref b), (1, .ref (ad g 0)), (2, .ref (ad g 19)), (3, .ref (ad g 27)), (4, .int (nI i))]) 6 dL_law_1296 (by decide) rfl ?_
  refine r_aload_n C dL_law_1298 4 rfl ?_
  refine r_callV C X (As := []) (rest := []) (st1 := [.int (gI μ2 5)]) (μ' := μ2) (k := 19) (T := TX11) miX11_thrown mvX11_thrown (c_thrown l g μ2) hw_5_65 (by decide) rfl rfl rfl (hR_c ⟨by decide, by decide, rfl, rfl⟩ (by decide) (by omega) (by omega)) rfl (Nat.le_of_ble_eq_true rfl) dL_law_1299 rfl ?_
  refine G_top (y := (nI k)) h5 ?_
  refine r_iload C dL_law_1302 1 rfl ?_
  refine r_icmp_eq C 1309 dL_law_1304 (by decide) (nI_eq (by omega) (by omega)) (fun h1304 => ?_) (fun h1304 => ?_)
  · refine r_iload C dL_law_1309 1 rfl ?_
    refine r_if_ne C 1326 dL_law_1311 (by decide) (zI_ne (by omega)) (fun h1311 => ?_) (fun h1311 => ?_)
    · refine r_goto C 2110 dL_law_1326 (by decide) ?_
      refine G_sub (lv' := [(0, .ref b), (1, .ref (ad g 0)), (2, .ref (ad g 19)), (3, .ref (ad g 27)), (4, .int (nI i))]) [2, 3, 4, 5, 6] rfl ?_
      exact KK μ2 hI2
    · refine r_aload_n C dL_law_1314 5 rfl ?_
      refine r_iconst C (v := (nI 0)) dL_law_1315 rfl ?_
      refine r_lald C X (k := 27) (v := (gJ μ2 53 0)) (by decide) rfl (by omega) (by decide) rfl dL_law_1316 ?_
      refine G_topl (y := v.toInt64) (ho (Decidable.not_not.mp h1311)) ?_
      refine r_iload C dL_law_1317 0 rfl ?_
      refine r_i2l C (v := ((v).toInt64)) dL_law_1319 rfl ?_
      refine r_lcmp C dL_law_1320 ?_
      refine r_if_eq C 1326 dL_law_1321 (by decide) (lgc_eq _ _) (fun h1321 => ?_) (fun h1321 => ?_)
      · refine r_goto C 2110 dL_law_1326 (by decide) ?_
        refine G_sub (lv' := [(0, .ref b), (1, .ref (ad g 0)), (2, .ref (ad g 19)), (3, .ref (ad g 27)), (4, .int (nI i))]) [2, 3, 4, 5, 6] rfl ?_
        exact KK μ2 hI2
      · exact absurd rfl h1321
  · exact absurd rfl h1304
set_option maxHeartbeats 1000000 in
set_option maxRecDepth 100000 in
theorem lc_shadowBound {z : Zt} {A : Nat → Prop} {l : Launch} {g : Gd} {μ : Mm} {b L : Nat} {xs : Nat → Int32} (C : Cx z A l room_1 cL_law 8 "SetFamiliesLaw") (X : Kx z g A) (Ee : Ex A (zs z) (zs z).heap) (Lz : Lx z A b L xs) {Inv : Nat → Mm → Prop} (hS : St_shadowBound l g Inv) {i ce sl : Nat} (hI : Inv i μ) (hi : i + 5 ≤ L) (hL : L ≤ 2560) (hce : ce + 1 ≤ 601024) (hsl : sl + 6 ≤ 7293034) (KK : ∀ μ', Inv (i + 5) μ' → G z g.1 A 8 (wd g μ') (ce + 1) (sl + 6) 2110 [(0, .ref b), (1, .ref (ad g 0)), (2, .ref (ad g 19)), (3, .ref (ad g 27)), (4, .int (nI i))] []) : G z g.1 A 8 (wd g μ) ce sl 1329 [(0, .ref b), (1, .ref (ad g 0)), (2, .ref (ad g 19)), (3, .ref (ad g 27)), (4, .int (nI i))] [] := by
  obtain ⟨k, μ1, μ2, v, r1, r2, hr, hM1, hM2, h5, ho, hI2⟩ := hS i μ (xs (i + 1)) (xs (i + 2)) (by omega) hI
  refine r_aload_n C dL_law_1329 1 rfl ?_
  refine r_aload_n C dL_law_1330 0 rfl ?_
  refine r_iload C dL_law_1331 4 rfl ?_
  refine r_iconst C (v := (nI 1)) dL_law_1333 rfl ?_
  refine r_iadd C (v := (nI (i + 1))) dL_law_1334 (nI_add _ _) ?_
  refine l_sld C Lz (j := i + 1) (by omega) hL dL_law_1335 ?_
  refine r_aload_n C dL_law_1336 0 rfl ?_
  refine r_iload C dL_law_1337 4 rfl ?_
  refine r_iconst C (v := (nI 2)) dL_law_1339 rfl ?_
  refine r_iadd C (v := (nI (i + 2))) dL_law_1340 (nI_add _ _) ?_
  refine l_sld C Lz (j := i + 2) (by omega) hL dL_law_1341 ?_
  refine r_aload_n C dL_law_1342 3 rfl ?_
  refine r_callW C X Ee (As := [.ref (ad g 0), .int (xs (i + 1)), .int (xs (i + 2)), .ref (ad g 27)]) (rest := []) (st1 := [.int (nI k)]) (μ' := μ1) mcL_shadowBound miL_shadowBound hM1 hw_4_135 rfl (hR_w hr.2.1 (by decide) hce hsl) rfl (Nat.le_of_ble_eq_true rfl) dL_law_1343 rfl ?_
  refine r_istore C (lv' := [(5, .int (nI k)), (0, .ref b), (1, .ref (ad g 0)), (2, .ref (ad g 19)), (3, .ref (ad g 27)), (4, .int (nI i))]) 5 dL_law_1346 (by decide) rfl ?_
  refine r_aload_n C dL_law_1348 3 rfl ?_
  refine r_aload_n C dL_law_1349 1 rfl ?_
  refine r_iload C dL_law_1350 5 rfl ?_
  refine r_iconst C (v := (nI 1)) dL_law_1352 rfl ?_
  refine r_iadd C (v := (nI (i + 1))) dL_law_1353 (nI_add _ _) ?_
  refine l_sld C Lz (j := i + 1) (by omega) hL dL_law_1354 ?_
  refine r_aload_n C dL_law_1355 1 rfl ?_
  refine r_iload C dL_law_1356 5 rfl ?_
  refine r_iconst C (v := (nI 2)) dL_law_1358 rfl ?_
  refine r_iadd C (v := (nI (i + 2))) dL_law_1359 (nI_add _ _) ?_
  refine l_sld C Lz (j := i + 2) (by omega) hL dL_law_1360 ?_
  refine r_callV C X (As := [.int (xs (i + 1)), .int (xs (i + 2))]) (rest := []) (st1 := [.int v]) (μ' := μ2) (k := 19) (T := TX11) miX11_shadowBound mvX11_shadowBound hM2 hw_5_221 (by decide) rfl rfl rfl (hR_c hr.2.2 (by decide) (by omega) (by omega)) rfl (Nat.le_of_ble_eq_true rfl) dL_law_1361 rfl ?_
  refine r_istore C (lv' := [(6, .int v), (5, .int (nI k)), (0, .ref b), (1, .ref (ad g 0)), (2, .ref (ad g 19)), (3, .ref (ad g 27)), (4, .int (nI i))]) 6 dL_law_1364 (by decide) rfl ?_
  refine r_aload_n C dL_law_1366 4 rfl ?_
  refine r_callV C X (As := []) (rest := []) (st1 := [.int (gI μ2 5)]) (μ' := μ2) (k := 19) (T := TX11) miX11_thrown mvX11_thrown (c_thrown l g μ2) hw_5_65 (by decide) rfl rfl rfl (hR_c ⟨by decide, by decide, rfl, rfl⟩ (by decide) (by omega) (by omega)) rfl (Nat.le_of_ble_eq_true rfl) dL_law_1367 rfl ?_
  refine G_top (y := (nI k)) h5 ?_
  refine r_iload C dL_law_1370 1 rfl ?_
  refine r_icmp_eq C 1377 dL_law_1372 (by decide) (nI_eq (by omega) (by omega)) (fun h1372 => ?_) (fun h1372 => ?_)
  · refine r_iload C dL_law_1377 1 rfl ?_
    refine r_if_ne C 1394 dL_law_1379 (by decide) (zI_ne (by omega)) (fun h1379 => ?_) (fun h1379 => ?_)
    · refine r_goto C 2110 dL_law_1394 (by decide) ?_
      refine G_sub (lv' := [(0, .ref b), (1, .ref (ad g 0)), (2, .ref (ad g 19)), (3, .ref (ad g 27)), (4, .int (nI i))]) [2, 3, 4, 5, 6] rfl ?_
      exact KK μ2 hI2
    · refine r_aload_n C dL_law_1382 5 rfl ?_
      refine r_iconst C (v := (nI 0)) dL_law_1383 rfl ?_
      refine r_lald C X (k := 27) (v := (gJ μ2 53 0)) (by decide) rfl (by omega) (by decide) rfl dL_law_1384 ?_
      refine G_topl (y := v.toInt64) (ho (Decidable.not_not.mp h1379)) ?_
      refine r_iload C dL_law_1385 0 rfl ?_
      refine r_i2l C (v := ((v).toInt64)) dL_law_1387 rfl ?_
      refine r_lcmp C dL_law_1388 ?_
      refine r_if_eq C 1394 dL_law_1389 (by decide) (lgc_eq _ _) (fun h1389 => ?_) (fun h1389 => ?_)
      · refine r_goto C 2110 dL_law_1394 (by decide) ?_
        refine G_sub (lv' := [(0, .ref b), (1, .ref (ad g 0)), (2, .ref (ad g 19)), (3, .ref (ad g 27)), (4, .int (nI i))]) [2, 3, 4, 5, 6] rfl ?_
        exact KK μ2 hI2
      · exact absurd rfl h1389
  · exact absurd rfl h1372
set_option maxHeartbeats 1000000 in
set_option maxRecDepth 100000 in
theorem lc_excess {z : Zt} {A : Nat → Prop} {l : Launch} {g : Gd} {μ : Mm} {b L : Nat} {xs : Nat → Int32} (C : Cx z A l room_1 cL_law 8 "SetFamiliesLaw") (X : Kx z g A) (Ee : Ex A (zs z) (zs z).heap) (Lz : Lx z A b L xs) {Inv : Nat → Mm → Prop} (hS : St_excess l g Inv) {i ce sl : Nat} (hI : Inv i μ) (hi : i + 5 ≤ L) (hL : L ≤ 2560) (hce : ce + 1 ≤ 601024) (hsl : sl + 6 ≤ 7293034) (KK : ∀ μ', Inv (i + 5) μ' → G z g.1 A 8 (wd g μ') (ce + 1) (sl + 6) 2110 [(0, .ref b), (1, .ref (ad g 0)), (2, .ref (ad g 19)), (3, .ref (ad g 27)), (4, .int (nI i))] []) : G z g.1 A 8 (wd g μ) ce sl 1397 [(0, .ref b), (1, .ref (ad g 0)), (2, .ref (ad g 19)), (3, .ref (ad g 27)), (4, .int (nI i))] [] := by
  obtain ⟨k, μ1, μ2, v, r1, r2, hr, hM1, hM2, h5, ho, hI2⟩ := hS i μ (xs (i + 1)) (xs (i + 2)) (by omega) hI
  refine r_aload_n C dL_law_1397 1 rfl ?_
  refine r_aload_n C dL_law_1398 0 rfl ?_
  refine r_iload C dL_law_1399 4 rfl ?_
  refine r_iconst C (v := (nI 1)) dL_law_1401 rfl ?_
  refine r_iadd C (v := (nI (i + 1))) dL_law_1402 (nI_add _ _) ?_
  refine l_sld C Lz (j := i + 1) (by omega) hL dL_law_1403 ?_
  refine r_aload_n C dL_law_1404 0 rfl ?_
  refine r_iload C dL_law_1405 4 rfl ?_
  refine r_iconst C (v := (nI 2)) dL_law_1407 rfl ?_
  refine r_iadd C (v := (nI (i + 2))) dL_law_1408 (nI_add _ _) ?_
  refine l_sld C Lz (j := i + 2) (by omega) hL dL_law_1409 ?_
  refine r_aload_n C dL_law_1410 3 rfl ?_
  refine r_callW C X Ee (As := [.ref (ad g 0), .int (xs (i + 1)), .int (xs (i + 2)), .ref (ad g 27)]) (rest := []) (st1 := [.int (nI k)]) (μ' := μ1) mcL_excess miL_excess hM1 hw_4_142 rfl (hR_w hr.2.1 (by decide) hce hsl) rfl (Nat.le_of_ble_eq_true rfl) dL_law_1411 rfl ?_
  refine r_istore C (lv' := [(5, .int (nI k)), (0, .ref b), (1, .ref (ad g 0)), (2, .ref (ad g 19)), (3, .ref (ad g 27)), (4, .int (nI i))]) 5 dL_law_1414 (by decide) rfl ?_
  refine r_aload_n C dL_law_1416 3 rfl ?_
  refine r_aload_n C dL_law_1417 1 rfl ?_
  refine r_iload C dL_law_1418 5 rfl ?_
  refine r_iconst C (v := (nI 1)) dL_law_1420 rfl ?_
  refine r_iadd C (v := (nI (i + 1))) dL_law_1421 (nI_add _ _) ?_
  refine l_sld C Lz (j := i + 1) (by omega) hL dL_law_1422 ?_
  refine r_aload_n C dL_law_1423 1 rfl ?_
  refine r_iload C dL_law_1424 5 rfl ?_
  refine r_iconst C (v := (nI 2)) dL_law_1426 rfl ?_
  refine r_iadd C (v := (nI (i + 2))) dL_law_1427 (nI_add _ _) ?_
  refine l_sld C Lz (j := i + 2) (by omega) hL dL_law_1428 ?_
  refine r_callV C X (As := [.int (xs (i + 1)), .int (xs (i + 2))]) (rest := []) (st1 := [.int v]) (μ' := μ2) (k := 19) (T := TX11) miX11_excess mvX11_excess hM2 hw_5_228 (by decide) rfl rfl rfl (hR_c hr.2.2 (by decide) (by omega) (by omega)) rfl (Nat.le_of_ble_eq_true rfl) dL_law_1429 rfl ?_
  refine r_istore C (lv' := [(6, .int v), (5, .int (nI k)), (0, .ref b), (1, .ref (ad g 0)), (2, .ref (ad g 19)), (3, .ref (ad g 27)), (4, .int (nI i))]) 6 dL_law_1432 (by decide) rfl ?_
  refine r_aload_n C dL_law_1434 4 rfl ?_
  refine r_callV C X (As := []) (rest := []) (st1 := [.int (gI μ2 5)]) (μ' := μ2) (k := 19) (T := TX11) miX11_thrown mvX11_thrown (c_thrown l g μ2) hw_5_65 (by decide) rfl rfl rfl (hR_c ⟨by decide, by decide, rfl, rfl⟩ (by decide) (by omega) (by omega)) rfl (Nat.le_of_ble_eq_true rfl) dL_law_1435 rfl ?_
  refine G_top (y := (nI k)) h5 ?_
  refine r_iload C dL_law_1438 1 rfl ?_
  refine r_icmp_eq C 1445 dL_law_1440 (by decide) (nI_eq (by omega) (by omega)) (fun h1440 => ?_) (fun h1440 => ?_)
  · refine r_iload C dL_law_1445 1 rfl ?_
    refine r_if_ne C 1462 dL_law_1447 (by decide) (zI_ne (by omega)) (fun h1447 => ?_) (fun h1447 => ?_)
    · refine r_goto C 2110 dL_law_1462 (by decide) ?_
      refine G_sub (lv' := [(0, .ref b), (1, .ref (ad g 0)), (2, .ref (ad g 19)), (3, .ref (ad g 27)), (4, .int (nI i))]) [2, 3, 4, 5, 6] rfl ?_
      exact KK μ2 hI2
    · refine r_aload_n C dL_law_1450 5 rfl ?_
      refine r_iconst C (v := (nI 0)) dL_law_1451 rfl ?_
      refine r_lald C X (k := 27) (v := (gJ μ2 53 0)) (by decide) rfl (by omega) (by decide) rfl dL_law_1452 ?_
      refine G_topl (y := v.toInt64) (ho (Decidable.not_not.mp h1447)) ?_
      refine r_iload C dL_law_1453 0 rfl ?_
      refine r_i2l C (v := ((v).toInt64)) dL_law_1455 rfl ?_
      refine r_lcmp C dL_law_1456 ?_
      refine r_if_eq C 1462 dL_law_1457 (by decide) (lgc_eq _ _) (fun h1457 => ?_) (fun h1457 => ?_)
      · refine r_goto C 2110 dL_law_1462 (by decide) ?_
        refine G_sub (lv' := [(0, .ref b), (1, .ref (ad g 0)), (2, .ref (ad g 19)), (3, .ref (ad g 27)), (4, .int (nI i))]) [2, 3, 4, 5, 6] rfl ?_
        exact KK μ2 hI2
      · exact absurd rfl h1457
  · exact absurd rfl h1440
set_option maxHeartbeats 1000000 in
set_option maxRecDepth 100000 in
theorem lc_is {z : Zt} {A : Nat → Prop} {l : Launch} {g : Gd} {μ : Mm} {b L : Nat} {xs : Nat → Int32} (C : Cx z A l room_1 cL_law 8 "SetFamiliesLaw") (X : Kx z g A) (Ee : Ex A (zs z) (zs z).heap) (Lz : Lx z A b L xs) {Inv : Nat → Mm → Prop} (hS : St_is l g Inv) {i ce sl : Nat} (hI : Inv i μ) (hi : i + 5 ≤ L) (hL : L ≤ 2560) (hce : ce + 1 ≤ 601024) (hsl : sl + 6 ≤ 7293034) (KK : ∀ μ', Inv (i + 5) μ' → G z g.1 A 8 (wd g μ') (ce + 1) (sl + 6) 2110 [(0, .ref b), (1, .ref (ad g 0)), (2, .ref (ad g 19)), (3, .ref (ad g 27)), (4, .int (nI i))] []) : G z g.1 A 8 (wd g μ) ce sl 1465 [(0, .ref b), (1, .ref (ad g 0)), (2, .ref (ad g 19)), (3, .ref (ad g 27)), (4, .int (nI i))] [] := by
  obtain ⟨k, μ1, μ2, v, r1, r2, hr, hM1, hM2, h5, ho, hI2⟩ := hS i μ (xs (i + 1)) (xs (i + 2)) (by omega) hI
  refine r_aload_n C dL_law_1465 1 rfl ?_
  refine r_aload_n C dL_law_1466 0 rfl ?_
  refine r_iload C dL_law_1467 4 rfl ?_
  refine r_iconst C (v := (nI 1)) dL_law_1469 rfl ?_
  refine r_iadd C (v := (nI (i + 1))) dL_law_1470 (nI_add _ _) ?_
  refine l_sld C Lz (j := i + 1) (by omega) hL dL_law_1471 ?_
  refine r_aload_n C dL_law_1472 0 rfl ?_
  refine r_iload C dL_law_1473 4 rfl ?_
  refine r_iconst C (v := (nI 2)) dL_law_1475 rfl ?_
  refine r_iadd C (v := (nI (i + 2))) dL_law_1476 (nI_add _ _) ?_
  refine l_sld C Lz (j := i + 2) (by omega) hL dL_law_1477 ?_
  refine r_aload_n C dL_law_1478 3 rfl ?_
  refine r_callW C X Ee (As := [.ref (ad g 0), .int (xs (i + 1)), .int (xs (i + 2)), .ref (ad g 27)]) (rest := []) (st1 := [.int (nI k)]) (μ' := μ1) mcL_is miL_is hM1 hw_4_149 rfl (hR_w hr.2.1 (by decide) hce hsl) rfl (Nat.le_of_ble_eq_true rfl) dL_law_1479 rfl ?_
  refine r_istore C (lv' := [(5, .int (nI k)), (0, .ref b), (1, .ref (ad g 0)), (2, .ref (ad g 19)), (3, .ref (ad g 27)), (4, .int (nI i))]) 5 dL_law_1482 (by decide) rfl ?_
  refine r_aload_n C dL_law_1484 3 rfl ?_
  refine r_aload_n C dL_law_1485 1 rfl ?_
  refine r_iload C dL_law_1486 5 rfl ?_
  refine r_iconst C (v := (nI 1)) dL_law_1488 rfl ?_
  refine r_iadd C (v := (nI (i + 1))) dL_law_1489 (nI_add _ _) ?_
  refine l_sld C Lz (j := i + 1) (by omega) hL dL_law_1490 ?_
  refine r_aload_n C dL_law_1491 1 rfl ?_
  refine r_iload C dL_law_1492 5 rfl ?_
  refine r_iconst C (v := (nI 2)) dL_law_1494 rfl ?_
  refine r_iadd C (v := (nI (i + 2))) dL_law_1495 (nI_add _ _) ?_
  refine l_sld C Lz (j := i + 2) (by omega) hL dL_law_1496 ?_
  refine r_callV C X (As := [.int (xs (i + 1)), .int (xs (i + 2))]) (rest := []) (st1 := [.int (bI v)]) (μ' := μ2) (k := 19) (T := TX11) miX11_is mvX11_is hM2 hw_5_236 (by decide) rfl rfl rfl (hR_c hr.2.2 (by decide) (by omega) (by omega)) rfl (Nat.le_of_ble_eq_true rfl) dL_law_1497 rfl ?_
  refine r_istore C (lv' := [(6, .int (bI v)), (5, .int (nI k)), (0, .ref b), (1, .ref (ad g 0)), (2, .ref (ad g 19)), (3, .ref (ad g 27)), (4, .int (nI i))]) 6 dL_law_1500 (by decide) rfl ?_
  refine r_aload_n C dL_law_1502 4 rfl ?_
  refine r_callV C X (As := []) (rest := []) (st1 := [.int (gI μ2 5)]) (μ' := μ2) (k := 19) (T := TX11) miX11_thrown mvX11_thrown (c_thrown l g μ2) hw_5_65 (by decide) rfl rfl rfl (hR_c ⟨by decide, by decide, rfl, rfl⟩ (by decide) (by omega) (by omega)) rfl (Nat.le_of_ble_eq_true rfl) dL_law_1503 rfl ?_
  refine G_top (y := (nI k)) h5 ?_
  refine r_iload C dL_law_1506 1 rfl ?_
  refine r_icmp_eq C 1513 dL_law_1508 (by decide) (nI_eq (by omega) (by omega)) (fun h1508 => ?_) (fun h1508 => ?_)
  · refine r_iload C dL_law_1513 1 rfl ?_
    refine r_if_ne C 1537 dL_law_1515 (by decide) (zI_ne (by omega)) (fun h1515 => ?_) (fun h1515 => ?_)
    · refine r_goto C 2110 dL_law_1537 (by decide) ?_
      refine G_sub (lv' := [(0, .ref b), (1, .ref (ad g 0)), (2, .ref (ad g 19)), (3, .ref (ad g 27)), (4, .int (nI i))]) [2, 3, 4, 5, 6] rfl ?_
      exact KK μ2 hI2
    · refine r_aload_n C dL_law_1518 5 rfl ?_
      refine r_iconst C (v := (nI 0)) dL_law_1519 rfl ?_
      refine r_lald C X (k := 27) (v := (gJ μ2 53 0)) (by decide) rfl (by omega) (by decide) rfl dL_law_1520 ?_
      refine G_topl (y := (bL v)) (ho (Decidable.not_not.mp h1515)) ?_
      refine r_iload C dL_law_1521 0 rfl ?_
      refine r_if_eq C 1530 dL_law_1523 (by decide) (bI_eq _) (fun h1523 => ?_) (fun h1523 => ?_)
      · refine r_lconst C (v := (lN 0)) dL_law_1530 rfl ?_
        refine r_lcmp C dL_law_1531 ?_
        refine r_if_eq C 1537 dL_law_1532 (by decide) (lgc_eq _ _) (fun h1532 => ?_) (fun h1532 => ?_)
        · refine r_goto C 2110 dL_law_1537 (by decide) ?_
          refine G_sub (lv' := [(0, .ref b), (1, .ref (ad g 0)), (2, .ref (ad g 19)), (3, .ref (ad g 27)), (4, .int (nI i))]) [2, 3, 4, 5, 6] rfl ?_
          exact KK μ2 hI2
        · exact absurd (by first | (rw [h1523]; rfl) | (rw [ts_t h1523]; rfl)) h1532
      · refine r_lconst C (v := (lN 1)) dL_law_1526 rfl ?_
        refine r_goto C 1531 dL_law_1527 (by decide) ?_
        refine r_lcmp C dL_law_1531 ?_
        refine r_if_eq C 1537 dL_law_1532 (by decide) (lgc_eq _ _) (fun h1532 => ?_) (fun h1532 => ?_)
        · refine r_goto C 2110 dL_law_1537 (by decide) ?_
          refine G_sub (lv' := [(0, .ref b), (1, .ref (ad g 0)), (2, .ref (ad g 19)), (3, .ref (ad g 27)), (4, .int (nI i))]) [2, 3, 4, 5, 6] rfl ?_
          exact KK μ2 hI2
        · exact absurd (by first | (rw [h1523]; rfl) | (rw [ts_t h1523]; rfl)) h1532
  · exact absurd rfl h1508
set_option maxHeartbeats 1000000 in
set_option maxRecDepth 100000 in
theorem lc_weight {z : Zt} {A : Nat → Prop} {l : Launch} {g : Gd} {μ : Mm} {b L : Nat} {xs : Nat → Int32} (C : Cx z A l room_1 cL_law 8 "SetFamiliesLaw") (X : Kx z g A) (Ee : Ex A (zs z) (zs z).heap) (Lz : Lx z A b L xs) {Inv : Nat → Mm → Prop} (hS : St_weight l g Inv) {i ce sl : Nat} (hI : Inv i μ) (hi : i + 5 ≤ L) (hL : L ≤ 2560) (hce : ce + 1 ≤ 601024) (hsl : sl + 6 ≤ 7293034) (KK : ∀ μ', Inv (i + 5) μ' → G z g.1 A 8 (wd g μ') (ce + 1) (sl + 6) 2110 [(0, .ref b), (1, .ref (ad g 0)), (2, .ref (ad g 19)), (3, .ref (ad g 27)), (4, .int (nI i))] []) : G z g.1 A 8 (wd g μ) ce sl 1540 [(0, .ref b), (1, .ref (ad g 0)), (2, .ref (ad g 19)), (3, .ref (ad g 27)), (4, .int (nI i))] [] := by
  obtain ⟨k, μ1, μ2, v, r1, r2, hr, hM1, hM2, h5, ho, hI2⟩ := hS i μ (xs (i + 1)) (decide (¬ xs (i + 2) = 0)) (by omega) hI
  refine r_aload_n C dL_law_1540 1 rfl ?_
  refine r_aload_n C dL_law_1541 0 rfl ?_
  refine r_iload C dL_law_1542 4 rfl ?_
  refine r_iconst C (v := (nI 1)) dL_law_1544 rfl ?_
  refine r_iadd C (v := (nI (i + 1))) dL_law_1545 (nI_add _ _) ?_
  refine l_sld C Lz (j := i + 1) (by omega) hL dL_law_1546 ?_
  refine r_aload_n C dL_law_1547 0 rfl ?_
  refine r_iload C dL_law_1548 4 rfl ?_
  refine r_iconst C (v := (nI 2)) dL_law_1550 rfl ?_
  refine r_iadd C (v := (nI (i + 2))) dL_law_1551 (nI_add _ _) ?_
  refine l_sld C Lz (j := i + 2) (by omega) hL dL_law_1552 ?_
  refine r_if_eq C 1560 dL_law_1553 (by decide) Iff.rfl (fun h1553 => ?_) (fun h1553 => ?_)
  · refine r_iconst C (v := (nI 0)) dL_law_1560 rfl ?_
    refine G_top (y := (bI (decide (¬ xs (i + 2) = 0)))) (by rw [decide_eq_false (fun r => r h1553)]; rfl) ?_
    refine r_aload_n C dL_law_1561 3 rfl ?_
    refine r_callW C X Ee (As := [.ref (ad g 0), .int (xs (i + 1)), .int (bI (decide (¬ xs (i + 2) = 0))), .ref (ad g 27)]) (rest := []) (st1 := [.int (nI k)]) (μ' := μ1) mcL_weight miL_weight hM1 hw_4_156 rfl (hR_w hr.2.1 (by decide) hce hsl) rfl (Nat.le_of_ble_eq_true rfl) dL_law_1562 rfl ?_
    refine r_istore C (lv' := [(5, .int (nI k)), (0, .ref b), (1, .ref (ad g 0)), (2, .ref (ad g 19)), (3, .ref (ad g 27)), (4, .int (nI i))]) 5 dL_law_1565 (by decide) rfl ?_
    refine r_aload_n C dL_law_1567 3 rfl ?_
    refine r_aload_n C dL_law_1568 1 rfl ?_
    refine r_iload C dL_law_1569 5 rfl ?_
    refine r_iconst C (v := (nI 1)) dL_law_1571 rfl ?_
    refine r_iadd C (v := (nI (i + 1))) dL_law_1572 (nI_add _ _) ?_
    refine l_sld C Lz (j := i + 1) (by omega) hL dL_law_1573 ?_
    refine r_aload_n C dL_law_1574 1 rfl ?_
    refine r_iload C dL_law_1575 5 rfl ?_
    refine r_iconst C (v := (nI 2)) dL_law_1577 rfl ?_
    refine r_iadd C (v := (nI (i + 2))) dL_law_1578 (nI_add _ _) ?_
    refine l_sld C Lz (j := i + 2) (by omega) hL dL_law_1579 ?_
    refine r_if_eq C 1587 dL_law_1580 (by decide) Iff.rfl (fun h1580 => ?_) (fun h1580 => ?_)
    · refine r_iconst C (v := (nI 0)) dL_law_1587 rfl ?_
      refine G_top (y := (bI (decide (¬ xs (i + 2) = 0)))) (by rw [decide_eq_false (fun r => r h1580)]; rfl) ?_
      refine r_callV C X (As := [.int (xs (i + 1)), .int (bI (decide (¬ xs (i + 2) = 0)))]) (rest := []) (st1 := [.long v]) (μ' := μ2) (k := 19) (T := TX11) miX11_weight mvX11_weight hM2 hw_6_12 (by decide) rfl rfl rfl (hR_c hr.2.2 (by decide) (by omega) (by omega)) rfl (Nat.le_of_ble_eq_true rfl) dL_law_1588 rfl ?_
      refine r_lstore C (lv' := [(6, .long v), (5, .int (nI k)), (0, .ref b), (1, .ref (ad g 0)), (2, .ref (ad g 19)), (3, .ref (ad g 27)), (4, .int (nI i))]) 6 dL_law_1591 (by decide) rfl ?_
      refine r_aload_n C dL_law_1593 4 rfl ?_
      refine r_callV C X (As := []) (rest := []) (st1 := [.int (gI μ2 5)]) (μ' := μ2) (k := 19) (T := TX11) miX11_thrown mvX11_thrown (c_thrown l g μ2) hw_5_65 (by decide) rfl rfl rfl (hR_c ⟨by decide, by decide, rfl, rfl⟩ (by decide) (by omega) (by omega)) rfl (Nat.le_of_ble_eq_true rfl) dL_law_1594 rfl ?_
      refine G_top (y := (nI k)) h5 ?_
      refine r_iload C dL_law_1597 1 rfl ?_
      refine r_icmp_eq C 1604 dL_law_1599 (by decide) (nI_eq (by omega) (by omega)) (fun h1599 => ?_) (fun h1599 => ?_)
      · refine r_iload C dL_law_1604 1 rfl ?_
        refine r_if_ne C 1620 dL_law_1606 (by decide) (zI_ne (by omega)) (fun h1606 => ?_) (fun h1606 => ?_)
        · refine r_goto C 2110 dL_law_1620 (by decide) ?_
          refine G_sub (lv' := [(0, .ref b), (1, .ref (ad g 0)), (2, .ref (ad g 19)), (3, .ref (ad g 27)), (4, .int (nI i))]) [2, 3, 4, 5, 6] rfl ?_
          exact KK μ2 hI2
        · refine r_aload_n C dL_law_1609 5 rfl ?_
          refine r_iconst C (v := (nI 0)) dL_law_1610 rfl ?_
          refine r_lald C X (k := 27) (v := (gJ μ2 53 0)) (by decide) rfl (by omega) (by decide) rfl dL_law_1611 ?_
          refine G_topl (y := v) (ho (Decidable.not_not.mp h1606)) ?_
          refine r_lload C dL_law_1612 0 rfl ?_
          refine r_lcmp C dL_law_1614 ?_
          refine r_if_eq C 1620 dL_law_1615 (by decide) (lgc_eq _ _) (fun h1615 => ?_) (fun h1615 => ?_)
          · refine r_goto C 2110 dL_law_1620 (by decide) ?_
            refine G_sub (lv' := [(0, .ref b), (1, .ref (ad g 0)), (2, .ref (ad g 19)), (3, .ref (ad g 27)), (4, .int (nI i))]) [2, 3, 4, 5, 6] rfl ?_
            exact KK μ2 hI2
          · exact absurd rfl h1615
      · exact absurd rfl h1599
    · refine r_iconst C (v := (nI 1)) dL_law_1583 rfl ?_
      refine r_goto C 1588 dL_law_1584 (by decide) ?_
      refine G_top (y := (bI (decide (¬ xs (i + 2) = 0)))) (by rw [decide_eq_true h1580]; rfl) ?_
      refine r_callV C X (As := [.int (xs (i + 1)), .int (bI (decide (¬ xs (i + 2) = 0)))]) (rest := []) (st1 := [.long v]) (μ' := μ2) (k := 19) (T := TX11) miX11_weight mvX11_weight hM2 hw_6_12 (by decide) rfl rfl rfl (hR_c hr.2.2 (by decide) (by omega) (by omega)) rfl (Nat.le_of_ble_eq_true rfl) dL_law_1588 rfl ?_
      refine r_lstore C (lv' := [(6, .long v), (5, .int (nI k)), (0, .ref b), (1, .ref (ad g 0)), (2, .ref (ad g 19)), (3, .ref (ad g 27)), (4, .int (nI i))]) 6 dL_law_1591 (by decide) rfl ?_
      refine r_aload_n C dL_law_1593 4 rfl ?_
      refine r_callV C X (As := []) (rest := []) (st1 := [.int (gI μ2 5)]) (μ' := μ2) (k := 19) (T := TX11) miX11_thrown mvX11_thrown (c_thrown l g μ2) hw_5_65 (by decide) rfl rfl rfl (hR_c ⟨by decide, by decide, rfl, rfl⟩ (by decide) (by omega) (by omega)) rfl (Nat.le_of_ble_eq_true rfl) dL_law_1594 rfl ?_
      refine G_top (y := (nI k)) h5 ?_
      refine r_iload C dL_law_1597 1 rfl ?_
      refine r_icmp_eq C 1604 dL_law_1599 (by decide) (nI_eq (by omega) (by omega)) (fun h1599 => ?_) (fun h1599 => ?_)
      · refine r_iload C dL_law_1604 1 rfl ?_
        refine r_if_ne C 1620 dL_law_1606 (by decide) (zI_ne (by omega)) (fun h1606 => ?_) (fun h1606 => ?_)
        · refine r_goto C 2110 dL_law_1620 (by decide) ?_
          refine G_sub (lv' := [(0, .ref b), (1, .ref (ad g 0)), (2, .ref (ad g 19)), (3, .ref (ad g 27)), (4, .int (nI i))]) [2, 3, 4, 5, 6] rfl ?_
          exact KK μ2 hI2
        · refine r_aload_n C dL_law_1609 5 rfl ?_
          refine r_iconst C (v := (nI 0)) dL_law_1610 rfl ?_
          refine r_lald C X (k := 27) (v := (gJ μ2 53 0)) (by decide) rfl (by omega) (by decide) rfl dL_law_1611 ?_
          refine G_topl (y := v) (ho (Decidable.not_not.mp h1606)) ?_
          refine r_lload C dL_law_1612 0 rfl ?_
          refine r_lcmp C dL_law_1614 ?_
          refine r_if_eq C 1620 dL_law_1615 (by decide) (lgc_eq _ _) (fun h1615 => ?_) (fun h1615 => ?_)
          · refine r_goto C 2110 dL_law_1620 (by decide) ?_
            refine G_sub (lv' := [(0, .ref b), (1, .ref (ad g 0)), (2, .ref (ad g 19)), (3, .ref (ad g 27)), (4, .int (nI i))]) [2, 3, 4, 5, 6] rfl ?_
            exact KK μ2 hI2
          · exact absurd rfl h1615
      · exact absurd rfl h1599
  · refine r_iconst C (v := (nI 1)) dL_law_1556 rfl ?_
    refine r_goto C 1561 dL_law_1557 (by decide) ?_
    refine G_top (y := (bI (decide (¬ xs (i + 2) = 0)))) (by rw [decide_eq_true h1553]; rfl) ?_
    refine r_aload_n C dL_law_1561 3 rfl ?_
    refine r_callW C X Ee (As := [.ref (ad g 0), .int (xs (i + 1)), .int (bI (decide (¬ xs (i + 2) = 0))), .ref (ad g 27)]) (rest := []) (st1 := [.int (nI k)]) (μ' := μ1) mcL_weight miL_weight hM1 hw_4_156 rfl (hR_w hr.2.1 (by decide) hce hsl) rfl (Nat.le_of_ble_eq_true rfl) dL_law_1562 rfl ?_
    refine r_istore C (lv' := [(5, .int (nI k)), (0, .ref b), (1, .ref (ad g 0)), (2, .ref (ad g 19)), (3, .ref (ad g 27)), (4, .int (nI i))]) 5 dL_law_1565 (by decide) rfl ?_
    refine r_aload_n C dL_law_1567 3 rfl ?_
    refine r_aload_n C dL_law_1568 1 rfl ?_
    refine r_iload C dL_law_1569 5 rfl ?_
    refine r_iconst C (v := (nI 1)) dL_law_1571 rfl ?_
    refine r_iadd C (v := (nI (i + 1))) dL_law_1572 (nI_add _ _) ?_
    refine l_sld C Lz (j := i + 1) (by omega) hL dL_law_1573 ?_
    refine r_aload_n C dL_law_1574 1 rfl ?_
    refine r_iload C dL_law_1575 5 rfl ?_
    refine r_iconst C (v := (nI 2)) dL_law_1577 rfl ?_
    refine r_iadd C (v := (nI (i + 2))) dL_law_1578 (nI_add _ _) ?_
    refine l_sld C Lz (j := i + 2) (by omega) hL dL_law_1579 ?_
    refine r_if_eq C 1587 dL_law_1580 (by decide) Iff.rfl (fun h1580 => ?_) (fun h1580 => ?_)
    · refine r_iconst C (v := (nI 0)) dL_law_1587 rfl ?_
      refine G_top (y := (bI (decide (¬ xs (i + 2) = 0)))) (by rw [decide_eq_false (fun r => r h1580)]; rfl) ?_
      refine r_callV C X (As := [.int (xs (i + 1)), .int (bI (decide (¬ xs (i + 2) = 0)))]) (rest := []) (st1 := [.long v]) (μ' := μ2) (k := 19) (T := TX11) miX11_weight mvX11_weight hM2 hw_6_12 (by decide) rfl rfl rfl (hR_c hr.2.2 (by decide) (by omega) (by omega)) rfl (Nat.le_of_ble_eq_true rfl) dL_law_1588 rfl ?_
      refine r_lstore C (lv' := [(6, .long v), (5, .int (nI k)), (0, .ref b), (1, .ref (ad g 0)), (2, .ref (ad g 19)), (3, .ref (ad g 27)), (4, .int (nI i))]) 6 dL_law_1591 (by decide) rfl ?_
      refine r_aload_n C dL_law_1593 4 rfl ?_
      refine r_callV C X (As := []) (rest := []) (st1 := [.int (gI μ2 5)]) (μ' := μ2) (k := 19) (T := TX11) miX11_thrown mvX11_thrown (c_thrown l g μ2) hw_5_65 (by decide) rfl rfl rfl (hR_c ⟨by decide, by decide, rfl, rfl⟩ (by decide) (by omega) (by omega)) rfl (Nat.le_of_ble_eq_true rfl) dL_law_1594 rfl ?_
      refine G_top (y := (nI k)) h5 ?_
      refine r_iload C dL_law_1597 1 rfl ?_
      refine r_icmp_eq C 1604 dL_law_1599 (by decide) (nI_eq (by omega) (by omega)) (fun h1599 => ?_) (fun h1599 => ?_)
      · refine r_iload C dL_law_1604 1 rfl ?_
        refine r_if_ne C 1620 dL_law_1606 (by decide) (zI_ne (by omega)) (fun h1606 => ?_) (fun h1606 => ?_)
        · refine r_goto C 2110 dL_law_1620 (by decide) ?_
          refine G_sub (lv' := [(0, .ref b), (1, .ref (ad g 0)), (2, .ref (ad g 19)), (3, .ref (ad g 27)), (4, .int (nI i))]) [2, 3, 4, 5, 6] rfl ?_
          exact KK μ2 hI2
        · refine r_aload_n C dL_law_1609 5 rfl ?_
          refine r_iconst C (v := (nI 0)) dL_law_1610 rfl ?_
          refine r_lald C X (k := 27) (v := (gJ μ2 53 0)) (by decide) rfl (by omega) (by decide) rfl dL_law_1611 ?_
          refine G_topl (y := v) (ho (Decidable.not_not.mp h1606)) ?_
          refine r_lload C dL_law_1612 0 rfl ?_
          refine r_lcmp C dL_law_1614 ?_
          refine r_if_eq C 1620 dL_law_1615 (by decide) (lgc_eq _ _) (fun h1615 => ?_) (fun h1615 => ?_)
          · refine r_goto C 2110 dL_law_1620 (by decide) ?_
            refine G_sub (lv' := [(0, .ref b), (1, .ref (ad g 0)), (2, .ref (ad g 19)), (3, .ref (ad g 27)), (4, .int (nI i))]) [2, 3, 4, 5, 6] rfl ?_
            exact KK μ2 hI2
          · exact absurd rfl h1615
      · exact absurd rfl h1599
    · refine r_iconst C (v := (nI 1)) dL_law_1583 rfl ?_
      refine r_goto C 1588 dL_law_1584 (by decide) ?_
      refine G_top (y := (bI (decide (¬ xs (i + 2) = 0)))) (by rw [decide_eq_true h1580]; rfl) ?_
      refine r_callV C X (As := [.int (xs (i + 1)), .int (bI (decide (¬ xs (i + 2) = 0)))]) (rest := []) (st1 := [.long v]) (μ' := μ2) (k := 19) (T := TX11) miX11_weight mvX11_weight hM2 hw_6_12 (by decide) rfl rfl rfl (hR_c hr.2.2 (by decide) (by omega) (by omega)) rfl (Nat.le_of_ble_eq_true rfl) dL_law_1588 rfl ?_
      refine r_lstore C (lv' := [(6, .long v), (5, .int (nI k)), (0, .ref b), (1, .ref (ad g 0)), (2, .ref (ad g 19)), (3, .ref (ad g 27)), (4, .int (nI i))]) 6 dL_law_1591 (by decide) rfl ?_
      refine r_aload_n C dL_law_1593 4 rfl ?_
      refine r_callV C X (As := []) (rest := []) (st1 := [.int (gI μ2 5)]) (μ' := μ2) (k := 19) (T := TX11) miX11_thrown mvX11_thrown (c_thrown l g μ2) hw_5_65 (by decide) rfl rfl rfl (hR_c ⟨by decide, by decide, rfl, rfl⟩ (by decide) (by omega) (by omega)) rfl (Nat.le_of_ble_eq_true rfl) dL_law_1594 rfl ?_
      refine G_top (y := (nI k)) h5 ?_
      refine r_iload C dL_law_1597 1 rfl ?_
      refine r_icmp_eq C 1604 dL_law_1599 (by decide) (nI_eq (by omega) (by omega)) (fun h1599 => ?_) (fun h1599 => ?_)
      · refine r_iload C dL_law_1604 1 rfl ?_
        refine r_if_ne C 1620 dL_law_1606 (by decide) (zI_ne (by omega)) (fun h1606 => ?_) (fun h1606 => ?_)
        · refine r_goto C 2110 dL_law_1620 (by decide) ?_
          refine G_sub (lv' := [(0, .ref b), (1, .ref (ad g 0)), (2, .ref (ad g 19)), (3, .ref (ad g 27)), (4, .int (nI i))]) [2, 3, 4, 5, 6] rfl ?_
          exact KK μ2 hI2
        · refine r_aload_n C dL_law_1609 5 rfl ?_
          refine r_iconst C (v := (nI 0)) dL_law_1610 rfl ?_
          refine r_lald C X (k := 27) (v := (gJ μ2 53 0)) (by decide) rfl (by omega) (by decide) rfl dL_law_1611 ?_
          refine G_topl (y := v) (ho (Decidable.not_not.mp h1606)) ?_
          refine r_lload C dL_law_1612 0 rfl ?_
          refine r_lcmp C dL_law_1614 ?_
          refine r_if_eq C 1620 dL_law_1615 (by decide) (lgc_eq _ _) (fun h1615 => ?_) (fun h1615 => ?_)
          · refine r_goto C 2110 dL_law_1620 (by decide) ?_
            refine G_sub (lv' := [(0, .ref b), (1, .ref (ad g 0)), (2, .ref (ad g 19)), (3, .ref (ad g 27)), (4, .int (nI i))]) [2, 3, 4, 5, 6] rfl ?_
            exact KK μ2 hI2
          · exact absurd rfl h1615
      · exact absurd rfl h1599
set_option maxHeartbeats 1000000 in
set_option maxRecDepth 100000 in
theorem lc_dimension {z : Zt} {A : Nat → Prop} {l : Launch} {g : Gd} {μ : Mm} {b L : Nat} {xs : Nat → Int32} (C : Cx z A l room_1 cL_law 8 "SetFamiliesLaw") (X : Kx z g A) (Ee : Ex A (zs z) (zs z).heap) (Lz : Lx z A b L xs) {Inv : Nat → Mm → Prop} (hS : St_dimension l g Inv) {i ce sl : Nat} (hI : Inv i μ) (hi : i + 5 ≤ L) (hL : L ≤ 2560) (hce : ce + 1 ≤ 601024) (hsl : sl + 6 ≤ 7293034) (KK : ∀ μ', Inv (i + 5) μ' → G z g.1 A 8 (wd g μ') (ce + 1) (sl + 6) 2110 [(0, .ref b), (1, .ref (ad g 0)), (2, .ref (ad g 19)), (3, .ref (ad g 27)), (4, .int (nI i))] []) : G z g.1 A 8 (wd g μ) ce sl 1623 [(0, .ref b), (1, .ref (ad g 0)), (2, .ref (ad g 19)), (3, .ref (ad g 27)), (4, .int (nI i))] [] := by
  obtain ⟨k, μ1, μ2, v, r1, r2, hr, hM1, hM2, h5, ho, hI2⟩ := hS i μ (xs (i + 1)) (by omega) hI
  refine r_aload_n C dL_law_1623 1 rfl ?_
  refine r_aload_n C dL_law_1624 0 rfl ?_
  refine r_iload C dL_law_1625 4 rfl ?_
  refine r_iconst C (v := (nI 1)) dL_law_1627 rfl ?_
  refine r_iadd C (v := (nI (i + 1))) dL_law_1628 (nI_add _ _) ?_
  refine l_sld C Lz (j := i + 1) (by omega) hL dL_law_1629 ?_
  refine r_aload_n C dL_law_1630 3 rfl ?_
  refine r_callW C X Ee (As := [.ref (ad g 0), .int (xs (i + 1)), .ref (ad g 27)]) (rest := []) (st1 := [.int (nI k)]) (μ' := μ1) mcL_dimension miL_dimension hM1 hw_4_163 rfl (hR_w hr.2.1 (by decide) hce hsl) rfl (Nat.le_of_ble_eq_true rfl) dL_law_1631 rfl ?_
  refine r_istore C (lv' := [(5, .int (nI k)), (0, .ref b), (1, .ref (ad g 0)), (2, .ref (ad g 19)), (3, .ref (ad g 27)), (4, .int (nI i))]) 5 dL_law_1634 (by decide) rfl ?_
  refine r_aload_n C dL_law_1636 3 rfl ?_
  refine r_aload_n C dL_law_1637 1 rfl ?_
  refine r_iload C dL_law_1638 5 rfl ?_
  refine r_iconst C (v := (nI 1)) dL_law_1640 rfl ?_
  refine r_iadd C (v := (nI (i + 1))) dL_law_1641 (nI_add _ _) ?_
  refine l_sld C Lz (j := i + 1) (by omega) hL dL_law_1642 ?_
  refine r_callV C X (As := [.int (xs (i + 1))]) (rest := []) (st1 := [.int v]) (μ' := μ2) (k := 19) (T := TX11) miX11_dimension mvX11_dimension hM2 hw_6_23 (by decide) rfl rfl rfl (hR_c hr.2.2 (by decide) (by omega) (by omega)) rfl (Nat.le_of_ble_eq_true rfl) dL_law_1643 rfl ?_
  refine r_istore C (lv' := [(6, .int v), (5, .int (nI k)), (0, .ref b), (1, .ref (ad g 0)), (2, .ref (ad g 19)), (3, .ref (ad g 27)), (4, .int (nI i))]) 6 dL_law_1646 (by decide) rfl ?_
  refine r_aload_n C dL_law_1648 4 rfl ?_
  refine r_callV C X (As := []) (rest := []) (st1 := [.int (gI μ2 5)]) (μ' := μ2) (k := 19) (T := TX11) miX11_thrown mvX11_thrown (c_thrown l g μ2) hw_5_65 (by decide) rfl rfl rfl (hR_c ⟨by decide, by decide, rfl, rfl⟩ (by decide) (by omega) (by omega)) rfl (Nat.le_of_ble_eq_true rfl) dL_law_1649 rfl ?_
  refine G_top (y := (nI k)) h5 ?_
  refine r_iload C dL_law_1652 1 rfl ?_
  refine r_icmp_eq C 1659 dL_law_1654 (by decide) (nI_eq (by omega) (by omega)) (fun h1654 => ?_) (fun h1654 => ?_)
  · refine r_iload C dL_law_1659 1 rfl ?_
    refine r_if_ne C 1676 dL_law_1661 (by decide) (zI_ne (by omega)) (fun h1661 => ?_) (fun h1661 => ?_)
    · refine r_goto C 2110 dL_law_1676 (by decide) ?_
      refine G_sub (lv' := [(0, .ref b), (1, .ref (ad g 0)), (2, .ref (ad g 19)), (3, .ref (ad g 27)), (4, .int (nI i))]) [2, 3, 4, 5, 6] rfl ?_
      exact KK μ2 hI2
    · refine r_aload_n C dL_law_1664 5 rfl ?_
      refine r_iconst C (v := (nI 0)) dL_law_1665 rfl ?_
      refine r_lald C X (k := 27) (v := (gJ μ2 53 0)) (by decide) rfl (by omega) (by decide) rfl dL_law_1666 ?_
      refine G_topl (y := v.toInt64) (ho (Decidable.not_not.mp h1661)) ?_
      refine r_iload C dL_law_1667 0 rfl ?_
      refine r_i2l C (v := ((v).toInt64)) dL_law_1669 rfl ?_
      refine r_lcmp C dL_law_1670 ?_
      refine r_if_eq C 1676 dL_law_1671 (by decide) (lgc_eq _ _) (fun h1671 => ?_) (fun h1671 => ?_)
      · refine r_goto C 2110 dL_law_1676 (by decide) ?_
        refine G_sub (lv' := [(0, .ref b), (1, .ref (ad g 0)), (2, .ref (ad g 19)), (3, .ref (ad g 27)), (4, .int (nI i))]) [2, 3, 4, 5, 6] rfl ?_
        exact KK μ2 hI2
      · exact absurd rfl h1671
  · exact absurd rfl h1654
set_option maxHeartbeats 1000000 in
set_option maxRecDepth 100000 in
theorem lc_shattered {z : Zt} {A : Nat → Prop} {l : Launch} {g : Gd} {μ : Mm} {b L : Nat} {xs : Nat → Int32} (C : Cx z A l room_1 cL_law 8 "SetFamiliesLaw") (X : Kx z g A) (Ee : Ex A (zs z) (zs z).heap) (Lz : Lx z A b L xs) {Inv : Nat → Mm → Prop} (hS : St_shattered l g Inv) {i ce sl : Nat} (hI : Inv i μ) (hi : i + 5 ≤ L) (hL : L ≤ 2560) (hce : ce + 1 ≤ 601024) (hsl : sl + 6 ≤ 7293034) (KK : ∀ μ', Inv (i + 5) μ' → G z g.1 A 8 (wd g μ') (ce + 1) (sl + 6) 2110 [(0, .ref b), (1, .ref (ad g 0)), (2, .ref (ad g 19)), (3, .ref (ad g 27)), (4, .int (nI i))] []) : G z g.1 A 8 (wd g μ) ce sl 1679 [(0, .ref b), (1, .ref (ad g 0)), (2, .ref (ad g 19)), (3, .ref (ad g 27)), (4, .int (nI i))] [] := by
  obtain ⟨k, μ1, μ2, v, r1, r2, hr, hM1, hM2, h5, ho, hI2⟩ := hS i μ (xs (i + 1)) (by omega) hI
  refine r_aload_n C dL_law_1679 1 rfl ?_
  refine r_aload_n C dL_law_1680 0 rfl ?_
  refine r_iload C dL_law_1681 4 rfl ?_
  refine r_iconst C (v := (nI 1)) dL_law_1683 rfl ?_
  refine r_iadd C (v := (nI (i + 1))) dL_law_1684 (nI_add _ _) ?_
  refine l_sld C Lz (j := i + 1) (by omega) hL dL_law_1685 ?_
  refine r_aload_n C dL_law_1686 3 rfl ?_
  refine r_callW C X Ee (As := [.ref (ad g 0), .int (xs (i + 1)), .ref (ad g 27)]) (rest := []) (st1 := [.int (nI k)]) (μ' := μ1) mcL_shattered miL_shattered hM1 hw_4_170 rfl (hR_w hr.2.1 (by decide) hce hsl) rfl (Nat.le_of_ble_eq_true rfl) dL_law_1687 rfl ?_
  refine r_istore C (lv' := [(5, .int (nI k)), (0, .ref b), (1, .ref (ad g 0)), (2, .ref (ad g 19)), (3, .ref (ad g 27)), (4, .int (nI i))]) 5 dL_law_1690 (by decide) rfl ?_
  refine r_aload_n C dL_law_1692 3 rfl ?_
  refine r_aload_n C dL_law_1693 1 rfl ?_
  refine r_iload C dL_law_1694 5 rfl ?_
  refine r_iconst C (v := (nI 1)) dL_law_1696 rfl ?_
  refine r_iadd C (v := (nI (i + 1))) dL_law_1697 (nI_add _ _) ?_
  refine l_sld C Lz (j := i + 1) (by omega) hL dL_law_1698 ?_
  refine r_callV C X (As := [.int (xs (i + 1))]) (rest := []) (st1 := [.int v]) (μ' := μ2) (k := 19) (T := TX11) miX11_shattered mvX11_shattered hM2 hw_6_35 (by decide) rfl rfl rfl (hR_c hr.2.2 (by decide) (by omega) (by omega)) rfl (Nat.le_of_ble_eq_true rfl) dL_law_1699 rfl ?_
  refine r_istore C (lv' := [(6, .int v), (5, .int (nI k)), (0, .ref b), (1, .ref (ad g 0)), (2, .ref (ad g 19)), (3, .ref (ad g 27)), (4, .int (nI i))]) 6 dL_law_1702 (by decide) rfl ?_
  refine r_aload_n C dL_law_1704 4 rfl ?_
  refine r_callV C X (As := []) (rest := []) (st1 := [.int (gI μ2 5)]) (μ' := μ2) (k := 19) (T := TX11) miX11_thrown mvX11_thrown (c_thrown l g μ2) hw_5_65 (by decide) rfl rfl rfl (hR_c ⟨by decide, by decide, rfl, rfl⟩ (by decide) (by omega) (by omega)) rfl (Nat.le_of_ble_eq_true rfl) dL_law_1705 rfl ?_
  refine G_top (y := (nI k)) h5 ?_
  refine r_iload C dL_law_1708 1 rfl ?_
  refine r_icmp_eq C 1715 dL_law_1710 (by decide) (nI_eq (by omega) (by omega)) (fun h1710 => ?_) (fun h1710 => ?_)
  · refine r_iload C dL_law_1715 1 rfl ?_
    refine r_if_ne C 1732 dL_law_1717 (by decide) (zI_ne (by omega)) (fun h1717 => ?_) (fun h1717 => ?_)
    · refine r_goto C 2110 dL_law_1732 (by decide) ?_
      refine G_sub (lv' := [(0, .ref b), (1, .ref (ad g 0)), (2, .ref (ad g 19)), (3, .ref (ad g 27)), (4, .int (nI i))]) [2, 3, 4, 5, 6] rfl ?_
      exact KK μ2 hI2
    · refine r_aload_n C dL_law_1720 5 rfl ?_
      refine r_iconst C (v := (nI 0)) dL_law_1721 rfl ?_
      refine r_lald C X (k := 27) (v := (gJ μ2 53 0)) (by decide) rfl (by omega) (by decide) rfl dL_law_1722 ?_
      refine G_topl (y := v.toInt64) (ho (Decidable.not_not.mp h1717)) ?_
      refine r_iload C dL_law_1723 0 rfl ?_
      refine r_i2l C (v := ((v).toInt64)) dL_law_1725 rfl ?_
      refine r_lcmp C dL_law_1726 ?_
      refine r_if_eq C 1732 dL_law_1727 (by decide) (lgc_eq _ _) (fun h1727 => ?_) (fun h1727 => ?_)
      · refine r_goto C 2110 dL_law_1732 (by decide) ?_
        refine G_sub (lv' := [(0, .ref b), (1, .ref (ad g 0)), (2, .ref (ad g 19)), (3, .ref (ad g 27)), (4, .int (nI i))]) [2, 3, 4, 5, 6] rfl ?_
        exact KK μ2 hI2
      · exact absurd rfl h1727
  · exact absurd rfl h1710
set_option maxHeartbeats 1000000 in
set_option maxRecDepth 100000 in
theorem lc_crossing {z : Zt} {A : Nat → Prop} {l : Launch} {g : Gd} {μ : Mm} {b L : Nat} {xs : Nat → Int32} (C : Cx z A l room_1 cL_law 8 "SetFamiliesLaw") (X : Kx z g A) (Ee : Ex A (zs z) (zs z).heap) (Lz : Lx z A b L xs) {Inv : Nat → Mm → Prop} (hS : St_crossing l g Inv) {i ce sl : Nat} (hI : Inv i μ) (hi : i + 5 ≤ L) (hL : L ≤ 2560) (hce : ce + 1 ≤ 601024) (hsl : sl + 6 ≤ 7293034) (KK : ∀ μ', Inv (i + 5) μ' → G z g.1 A 8 (wd g μ') (ce + 1) (sl + 6) 2110 [(0, .ref b), (1, .ref (ad g 0)), (2, .ref (ad g 19)), (3, .ref (ad g 27)), (4, .int (nI i))] []) : G z g.1 A 8 (wd g μ) ce sl 1735 [(0, .ref b), (1, .ref (ad g 0)), (2, .ref (ad g 19)), (3, .ref (ad g 27)), (4, .int (nI i))] [] := by
  obtain ⟨k, μ1, μ2, v, r1, r2, hr, hM1, hM2, h5, ho, hI2⟩ := hS i μ (xs (i + 1)) (xs (i + 2)) (by omega) hI
  refine r_aload_n C dL_law_1735 1 rfl ?_
  refine r_aload_n C dL_law_1736 0 rfl ?_
  refine r_iload C dL_law_1737 4 rfl ?_
  refine r_iconst C (v := (nI 1)) dL_law_1739 rfl ?_
  refine r_iadd C (v := (nI (i + 1))) dL_law_1740 (nI_add _ _) ?_
  refine l_sld C Lz (j := i + 1) (by omega) hL dL_law_1741 ?_
  refine r_aload_n C dL_law_1742 0 rfl ?_
  refine r_iload C dL_law_1743 4 rfl ?_
  refine r_iconst C (v := (nI 2)) dL_law_1745 rfl ?_
  refine r_iadd C (v := (nI (i + 2))) dL_law_1746 (nI_add _ _) ?_
  refine l_sld C Lz (j := i + 2) (by omega) hL dL_law_1747 ?_
  refine r_aload_n C dL_law_1748 3 rfl ?_
  refine r_callW C X Ee (As := [.ref (ad g 0), .int (xs (i + 1)), .int (xs (i + 2)), .ref (ad g 27)]) (rest := []) (st1 := [.int (nI k)]) (μ' := μ1) mcL_crossing miL_crossing hM1 hw_4_177 rfl (hR_w hr.2.1 (by decide) hce hsl) rfl (Nat.le_of_ble_eq_true rfl) dL_law_1749 rfl ?_
  refine r_istore C (lv' := [(5, .int (nI k)), (0, .ref b), (1, .ref (ad g 0)), (2, .ref (ad g 19)), (3, .ref (ad g 27)), (4, .int (nI i))]) 5 dL_law_1752 (by decide) rfl ?_
  refine r_aload_n C dL_law_1754 3 rfl ?_
  refine r_aload_n C dL_law_1755 1 rfl ?_
  refine r_iload C dL_law_1756 5 rfl ?_
  refine r_iconst C (v := (nI 1)) dL_law_1758 rfl ?_
  refine r_iadd C (v := (nI (i + 1))) dL_law_1759 (nI_add _ _) ?_
  refine l_sld C Lz (j := i + 1) (by omega) hL dL_law_1760 ?_
  refine r_aload_n C dL_law_1761 1 rfl ?_
  refine r_iload C dL_law_1762 5 rfl ?_
  refine r_iconst C (v := (nI 2)) dL_law_1764 rfl ?_
  refine r_iadd C (v := (nI (i + 2))) dL_law_1765 (nI_add _ _) ?_
  refine l_sld C Lz (j := i + 2) (by omega) hL dL_law_1766 ?_
  refine r_callV C X (As := [.int (xs (i + 1)), .int (xs (i + 2))]) (rest := []) (st1 := [.int v]) (μ' := μ2) (k := 19) (T := TX11) miX11_crossing mvX11_crossing hM2 hw_6_39 (by decide) rfl rfl rfl (hR_c hr.2.2 (by decide) (by omega) (by omega)) rfl (Nat.le_of_ble_eq_true rfl) dL_law_1767 rfl ?_
  refine r_istore C (lv' := [(6, .int v), (5, .int (nI k)), (0, .ref b), (1, .ref (ad g 0)), (2, .ref (ad g 19)), (3, .ref (ad g 27)), (4, .int (nI i))]) 6 dL_law_1770 (by decide) rfl ?_
  refine r_aload_n C dL_law_1772 4 rfl ?_
  refine r_callV C X (As := []) (rest := []) (st1 := [.int (gI μ2 5)]) (μ' := μ2) (k := 19) (T := TX11) miX11_thrown mvX11_thrown (c_thrown l g μ2) hw_5_65 (by decide) rfl rfl rfl (hR_c ⟨by decide, by decide, rfl, rfl⟩ (by decide) (by omega) (by omega)) rfl (Nat.le_of_ble_eq_true rfl) dL_law_1773 rfl ?_
  refine G_top (y := (nI k)) h5 ?_
  refine r_iload C dL_law_1776 1 rfl ?_
  refine r_icmp_eq C 1783 dL_law_1778 (by decide) (nI_eq (by omega) (by omega)) (fun h1778 => ?_) (fun h1778 => ?_)
  · refine r_iload C dL_law_1783 1 rfl ?_
    refine r_if_ne C 1800 dL_law_1785 (by decide) (zI_ne (by omega)) (fun h1785 => ?_) (fun h1785 => ?_)
    · refine r_goto C 2110 dL_law_1800 (by decide) ?_
      refine G_sub (lv' := [(0, .ref b), (1, .ref (ad g 0)), (2, .ref (ad g 19)), (3, .ref (ad g 27)), (4, .int (nI i))]) [2, 3, 4, 5, 6] rfl ?_
      exact KK μ2 hI2
    · refine r_aload_n C dL_law_1788 5 rfl ?_
      refine r_iconst C (v := (nI 0)) dL_law_1789 rfl ?_
      refine r_lald C X (k := 27) (v := (gJ μ2 53 0)) (by decide) rfl (by omega) (by decide) rfl dL_law_1790 ?_
      refine G_topl (y := v.toInt64) (ho (Decidable.not_not.mp h1785)) ?_
      refine r_iload C dL_law_1791 0 rfl ?_
      refine r_i2l C (v := ((v).toInt64)) dL_law_1793 rfl ?_
      refine r_lcmp C dL_law_1794 ?_
      refine r_if_eq C 1800 dL_law_1795 (by decide) (lgc_eq _ _) (fun h1795 => ?_) (fun h1795 => ?_)
      · refine r_goto C 2110 dL_law_1800 (by decide) ?_
        refine G_sub (lv' := [(0, .ref b), (1, .ref (ad g 0)), (2, .ref (ad g 19)), (3, .ref (ad g 27)), (4, .int (nI i))]) [2, 3, 4, 5, 6] rfl ?_
        exact KK μ2 hI2
      · exact absurd rfl h1795
  · exact absurd rfl h1778
set_option maxHeartbeats 1000000 in
set_option maxRecDepth 100000 in
theorem lc_sunflower {z : Zt} {A : Nat → Prop} {l : Launch} {g : Gd} {μ : Mm} {b L : Nat} {xs : Nat → Int32} (C : Cx z A l room_1 cL_law 8 "SetFamiliesLaw") (X : Kx z g A) (Ee : Ex A (zs z) (zs z).heap) (Lz : Lx z A b L xs) {Inv : Nat → Mm → Prop} (hS : St_sunflower l g Inv) {i ce sl : Nat} (hI : Inv i μ) (hi : i + 5 ≤ L) (hL : L ≤ 2560) (hce : ce + 1 ≤ 601024) (hsl : sl + 6 ≤ 7293034) (KK : ∀ μ', Inv (i + 5) μ' → G z g.1 A 8 (wd g μ') (ce + 1) (sl + 6) 2110 [(0, .ref b), (1, .ref (ad g 0)), (2, .ref (ad g 19)), (3, .ref (ad g 27)), (4, .int (nI i))] []) : G z g.1 A 8 (wd g μ) ce sl 1803 [(0, .ref b), (1, .ref (ad g 0)), (2, .ref (ad g 19)), (3, .ref (ad g 27)), (4, .int (nI i))] [] := by
  obtain ⟨k, μ1, μ2, v, r1, r2, hr, hM1, hM2, h5, ho, hI2⟩ := hS i μ (xs (i + 1)) (by omega) hI
  refine r_aload_n C dL_law_1803 1 rfl ?_
  refine r_aload_n C dL_law_1804 0 rfl ?_
  refine r_iload C dL_law_1805 4 rfl ?_
  refine r_iconst C (v := (nI 1)) dL_law_1807 rfl ?_
  refine r_iadd C (v := (nI (i + 1))) dL_law_1808 (nI_add _ _) ?_
  refine l_sld C Lz (j := i + 1) (by omega) hL dL_law_1809 ?_
  refine r_aload_n C dL_law_1810 3 rfl ?_
  refine r_callW C X Ee (As := [.ref (ad g 0), .int (xs (i + 1)), .ref (ad g 27)]) (rest := []) (st1 := [.int (nI k)]) (μ' := μ1) mcL_sunflower miL_sunflower hM1 hw_4_184 rfl (hR_w hr.2.1 (by decide) hce hsl) rfl (Nat.le_of_ble_eq_true rfl) dL_law_1811 rfl ?_
  refine r_istore C (lv' := [(5, .int (nI k)), (0, .ref b), (1, .ref (ad g 0)), (2, .ref (ad g 19)), (3, .ref (ad g 27)), (4, .int (nI i))]) 5 dL_law_1814 (by decide) rfl ?_
  refine r_aload_n C dL_law_1816 3 rfl ?_
  refine r_aload_n C dL_law_1817 1 rfl ?_
  refine r_iload C dL_law_1818 5 rfl ?_
  refine r_iconst C (v := (nI 1)) dL_law_1820 rfl ?_
  refine r_iadd C (v := (nI (i + 1))) dL_law_1821 (nI_add _ _) ?_
  refine l_sld C Lz (j := i + 1) (by omega) hL dL_law_1822 ?_
  refine r_callV C X (As := [.int (xs (i + 1))]) (rest := []) (st1 := [.int v]) (μ' := μ2) (k := 19) (T := TX11) miX11_sunflower mvX11_sunflower hM2 hw_6_47 (by decide) rfl rfl rfl (hR_c hr.2.2 (by decide) (by omega) (by omega)) rfl (Nat.le_of_ble_eq_true rfl) dL_law_1823 rfl ?_
  refine r_istore C (lv' := [(6, .int v), (5, .int (nI k)), (0, .ref b), (1, .ref (ad g 0)), (2, .ref (ad g 19)), (3, .ref (ad g 27)), (4, .int (nI i))]) 6 dL_law_1826 (by decide) rfl ?_
  refine r_aload_n C dL_law_1828 4 rfl ?_
  refine r_callV C X (As := []) (rest := []) (st1 := [.int (gI μ2 5)]) (μ' := μ2) (k := 19) (T := TX11) miX11_thrown mvX11_thrown (c_thrown l g μ2) hw_5_65 (by decide) rfl rfl rfl (hR_c ⟨by decide, by decide, rfl, rfl⟩ (by decide) (by omega) (by omega)) rfl (Nat.le_of_ble_eq_true rfl) dL_law_1829 rfl ?_
  refine G_top (y := (nI k)) h5 ?_
  refine r_iload C dL_law_1832 1 rfl ?_
  refine r_icmp_eq C 1839 dL_law_1834 (by decide) (nI_eq (by omega) (by omega)) (fun h1834 => ?_) (fun h1834 => ?_)
  · refine r_iload C dL_law_1839 1 rfl ?_
    refine r_if_ne C 1856 dL_law_1841 (by decide) (zI_ne (by omega)) (fun h1841 => ?_) (fun h1841 => ?_)
    · refine r_goto C 2110 dL_law_1856 (by decide) ?_
      refine G_sub (lv' := [(0, .ref b), (1, .ref (ad g 0)), (2, .ref (ad g 19)), (3, .ref (ad g 27)), (4, .int (nI i))]) [2, 3, 4, 5, 6] rfl ?_
      exact KK μ2 hI2
    · refine r_aload_n C dL_law_1844 5 rfl ?_
      refine r_iconst C (v := (nI 0)) dL_law_1845 rfl ?_
      refine r_lald C X (k := 27) (v := (gJ μ2 53 0)) (by decide) rfl (by omega) (by decide) rfl dL_law_1846 ?_
      refine G_topl (y := v.toInt64) (ho (Decidable.not_not.mp h1841)) ?_
      refine r_iload C dL_law_1847 0 rfl ?_
      refine r_i2l C (v := ((v).toInt64)) dL_law_1849 rfl ?_
      refine r_lcmp C dL_law_1850 ?_
      refine r_if_eq C 1856 dL_law_1851 (by decide) (lgc_eq _ _) (fun h1851 => ?_) (fun h1851 => ?_)
      · refine r_goto C 2110 dL_law_1856 (by decide) ?_
        refine G_sub (lv' := [(0, .ref b), (1, .ref (ad g 0)), (2, .ref (ad g 19)), (3, .ref (ad g 27)), (4, .int (nI i))]) [2, 3, 4, 5, 6] rfl ?_
        exact KK μ2 hI2
      · exact absurd rfl h1851
  · exact absurd rfl h1834
set_option maxHeartbeats 1000000 in
set_option maxRecDepth 100000 in
theorem lc_pairs {z : Zt} {A : Nat → Prop} {l : Launch} {g : Gd} {μ : Mm} {b L : Nat} {xs : Nat → Int32} (C : Cx z A l room_1 cL_law 8 "SetFamiliesLaw") (X : Kx z g A) (Ee : Ex A (zs z) (zs z).heap) (Lz : Lx z A b L xs) {Inv : Nat → Mm → Prop} (hS : St_pairs l g Inv) {i ce sl : Nat} (hI : Inv i μ) (hi : i + 5 ≤ L) (hL : L ≤ 2560) (hce : ce + 1 ≤ 601024) (hsl : sl + 6 ≤ 7293034) (KK : ∀ μ', Inv (i + 5) μ' → G z g.1 A 8 (wd g μ') (ce + 1) (sl + 6) 2110 [(0, .ref b), (1, .ref (ad g 0)), (2, .ref (ad g 19)), (3, .ref (ad g 27)), (4, .int (nI i))] []) : G z g.1 A 8 (wd g μ) ce sl 1859 [(0, .ref b), (1, .ref (ad g 0)), (2, .ref (ad g 19)), (3, .ref (ad g 27)), (4, .int (nI i))] [] := by
  obtain ⟨k, μ1, μ2, v, r1, r2, hr, hM1, hM2, h5, ho, hI2⟩ := hS i μ (xs (i + 1)) (xs (i + 2)) (by omega) hI
  refine r_aload_n C dL_law_1859 1 rfl ?_
  refine r_aload_n C dL_law_1860 0 rfl ?_
  refine r_iload C dL_law_1861 4 rfl ?_
  refine r_iconst C (v := (nI 1)) dL_law_1863 rfl ?_
  refine r_iadd C (v := (nI (i + 1))) dL_law_1864 (nI_add _ _) ?_
  refine l_sld C Lz (j := i + 1) (by omega) hL dL_law_1865 ?_
  refine r_aload_n C dL_law_1866 0 rfl ?_
  refine r_iload C dL_law_1867 4 rfl ?_
  refine r_iconst C (v := (nI 2)) dL_law_1869 rfl ?_
  refine r_iadd C (v := (nI (i + 2))) dL_law_1870 (nI_add _ _) ?_
  refine l_sld C Lz (j := i + 2) (by omega) hL dL_law_1871 ?_
  refine r_aload_n C dL_law_1872 3 rfl ?_
  refine r_callW C X Ee (As := [.ref (ad g 0), .int (xs (i + 1)), .int (xs (i + 2)), .ref (ad g 27)]) (rest := []) (st1 := [.int (nI k)]) (μ' := μ1) mcL_pairs miL_pairs hM1 hw_4_191 rfl (hR_w hr.2.1 (by decide) hce hsl) rfl (Nat.le_of_ble_eq_true rfl) dL_law_1873 rfl ?_
  refine r_istore C (lv' := [(5, .int (nI k)), (0, .ref b), (1, .ref (ad g 0)), (2, .ref (ad g 19)), (3, .ref (ad g 27)), (4, .int (nI i))]) 5 dL_law_1876 (by decide) rfl ?_
  refine r_aload_n C dL_law_1878 3 rfl ?_
  refine r_aload_n C dL_law_1879 1 rfl ?_
  refine r_iload C dL_law_1880 5 rfl ?_
  refine r_iconst C (v := (nI 1)) dL_law_1882 rfl ?_
  refine r_iadd C (v := (nI (i + 1))) dL_law_1883 (nI_add _ _) ?_
  refine l_sld C Lz (j := i + 1) (by omega) hL dL_law_1884 ?_
  refine r_aload_n C dL_law_1885 1 rfl ?_
  refine r_iload C dL_law_1886 5 rfl ?_
  refine r_iconst C (v := (nI 2)) dL_law_1888 rfl ?_
  refine r_iadd C (v := (nI (i + 2))) dL_law_1889 (nI_add _ _) ?_
  refine l_sld C Lz (j := i + 2) (by omega) hL dL_law_1890 ?_
  refine r_callV C X (As := [.int (xs (i + 1)), .int (xs (i + 2))]) (rest := []) (st1 := [.int v]) (μ' := μ2) (k := 19) (T := TX11) miX11_pairs mvX11_pairs hM2 hw_6_59 (by decide) rfl rfl rfl (hR_c hr.2.2 (by decide) (by omega) (by omega)) rfl (Nat.le_of_ble_eq_true rfl) dL_law_1891 rfl ?_
  refine r_istore C (lv' := [(6, .int v), (5, .int (nI k)), (0, .ref b), (1, .ref (ad g 0)), (2, .ref (ad g 19)), (3, .ref (ad g 27)), (4, .int (nI i))]) 6 dL_law_1894 (by decide) rfl ?_
  refine r_aload_n C dL_law_1896 4 rfl ?_
  refine r_callV C X (As := []) (rest := []) (st1 := [.int (gI μ2 5)]) (μ' := μ2) (k := 19) (T := TX11) miX11_thrown mvX11_thrown (c_thrown l g μ2) hw_5_65 (by decide) rfl rfl rfl (hR_c ⟨by decide, by decide, rfl, rfl⟩ (by decide) (by omega) (by omega)) rfl (Nat.le_of_ble_eq_true rfl) dL_law_1897 rfl ?_
  refine G_top (y := (nI k)) h5 ?_
  refine r_iload C dL_law_1900 1 rfl ?_
  refine r_icmp_eq C 1907 dL_law_1902 (by decide) (nI_eq (by omega) (by omega)) (fun h1902 => ?_) (fun h1902 => ?_)
  · refine r_iload C dL_law_1907 1 rfl ?_
    refine r_if_ne C 1924 dL_law_1909 (by decide) (zI_ne (by omega)) (fun h1909 => ?_) (fun h1909 => ?_)
    · refine r_goto C 2110 dL_law_1924 (by decide) ?_
      refine G_sub (lv' := [(0, .ref b), (1, .ref (ad g 0)), (2, .ref (ad g 19)), (3, .ref (ad g 27)), (4, .int (nI i))]) [2, 3, 4, 5, 6] rfl ?_
      exact KK μ2 hI2
    · refine r_aload_n C dL_law_1912 5 rfl ?_
      refine r_iconst C (v := (nI 0)) dL_law_1913 rfl ?_
      refine r_lald C X (k := 27) (v := (gJ μ2 53 0)) (by decide) rfl (by omega) (by decide) rfl dL_law_1914 ?_
      refine G_topl (y := v.toInt64) (ho (Decidable.not_not.mp h1909)) ?_
      refine r_iload C dL_law_1915 0 rfl ?_
      refine r_i2l C (v := ((v).toInt64)) dL_law_1917 rfl ?_
      refine r_lcmp C dL_law_1918 ?_
      refine r_if_eq C 1924 dL_law_1919 (by decide) (lgc_eq _ _) (fun h1919 => ?_) (fun h1919 => ?_)
      · refine r_goto C 2110 dL_law_1924 (by decide) ?_
        refine G_sub (lv' := [(0, .ref b), (1, .ref (ad g 0)), (2, .ref (ad g 19)), (3, .ref (ad g 27)), (4, .int (nI i))]) [2, 3, 4, 5, 6] rfl ?_
        exact KK μ2 hI2
      · exact absurd rfl h1919
  · exact absurd rfl h1902
set_option maxHeartbeats 1000000 in
set_option maxRecDepth 100000 in
theorem lc_type {z : Zt} {A : Nat → Prop} {l : Launch} {g : Gd} {μ : Mm} {b L : Nat} {xs : Nat → Int32} (C : Cx z A l room_1 cL_law 8 "SetFamiliesLaw") (X : Kx z g A) (Ee : Ex A (zs z) (zs z).heap) (Lz : Lx z A b L xs) {Inv : Nat → Mm → Prop} (hS : St_type l g Inv) {i ce sl : Nat} (hI : Inv i μ) (hi : i + 5 ≤ L) (hL : L ≤ 2560) (hce : ce + 1 ≤ 601024) (hsl : sl + 6 ≤ 7293034) (KK : ∀ μ', Inv (i + 5) μ' → G z g.1 A 8 (wd g μ') (ce + 1) (sl + 6) 2110 [(0, .ref b), (1, .ref (ad g 0)), (2, .ref (ad g 19)), (3, .ref (ad g 27)), (4, .int (nI i))] []) : G z g.1 A 8 (wd g μ) ce sl 1927 [(0, .ref b), (1, .ref (ad g 0)), (2, .ref (ad g 19)), (3, .ref (ad g 27)), (4, .int (nI i))] [] := by
  obtain ⟨k, μ1, μ2, v, r1, r2, hr, hM1, hM2, h5, ho, hI2⟩ := hS i μ (xs (i + 1)) (by omega) hI
  refine r_aload_n C dL_law_1927 1 rfl ?_
  refine r_aload_n C dL_law_1928 0 rfl ?_
  refine r_iload C dL_law_1929 4 rfl ?_
  refine r_iconst C (v := (nI 1)) dL_law_1931 rfl ?_
  refine r_iadd C (v := (nI (i + 1))) dL_law_1932 (nI_add _ _) ?_
  refine l_sld C Lz (j := i + 1) (by omega) hL dL_law_1933 ?_
  refine r_aload_n C dL_law_1934 3 rfl ?_
  refine r_callW C X Ee (As := [.ref (ad g 0), .int (xs (i + 1)), .ref (ad g 27)]) (rest := []) (st1 := [.int (nI k)]) (μ' := μ1) mcL_type miL_type hM1 hw_4_198 rfl (hR_w hr.2.1 (by decide) hce hsl) rfl (Nat.le_of_ble_eq_true rfl) dL_law_1935 rfl ?_
  refine r_istore C (lv' := [(5, .int (nI k)), (0, .ref b), (1, .ref (ad g 0)), (2, .ref (ad g 19)), (3, .ref (ad g 27)), (4, .int (nI i))]) 5 dL_law_1938 (by decide) rfl ?_
  refine r_aload_n C dL_law_1940 3 rfl ?_
  refine r_aload_n C dL_law_1941 1 rfl ?_
  refine r_iload C dL_law_1942 5 rfl ?_
  refine r_iconst C (v := (nI 1)) dL_law_1944 rfl ?_
  refine r_iadd C (v := (nI (i + 1))) dL_law_1945 (nI_add _ _) ?_
  refine l_sld C Lz (j := i + 1) (by omega) hL dL_law_1946 ?_
  refine r_callV C X (As := [.int (xs (i + 1))]) (rest := []) (st1 := [.int v]) (μ' := μ2) (k := 19) (T := TX11) miX11_type mvX11_type hM2 hw_6_67 (by decide) rfl rfl rfl (hR_c hr.2.2 (by decide) (by omega) (by omega)) rfl (Nat.le_of_ble_eq_true rfl) dL_law_1947 rfl ?_
  refine r_istore C (lv' := [(6, .int v), (5, .int (nI k)), (0, .ref b), (1, .ref (ad g 0)), (2, .ref (ad g 19)), (3, .ref (ad g 27)), (4, .int (nI i))]) 6 dL_law_1950 (by decide) rfl ?_
  refine r_aload_n C dL_law_1952 4 rfl ?_
  refine r_callV C X (As := []) (rest := []) (st1 := [.int (gI μ2 5)]) (μ' := μ2) (k := 19) (T := TX11) miX11_thrown mvX11_thrown (c_thrown l g μ2) hw_5_65 (by decide) rfl rfl rfl (hR_c ⟨by decide, by decide, rfl, rfl⟩ (by decide) (by omega) (by omega)) rfl (Nat.le_of_ble_eq_true rfl) dL_law_1953 rfl ?_
  refine G_top (y := (nI k)) h5 ?_
  refine r_iload C dL_law_1956 1 rfl ?_
  refine r_icmp_eq C 1963 dL_law_1958 (by decide) (nI_eq (by omega) (by omega)) (fun h1958 => ?_) (fun h1958 => ?_)
  · refine r_iload C dL_law_1963 1 rfl ?_
    refine r_if_ne C 1980 dL_law_1965 (by decide) (zI_ne (by omega)) (fun h1965 => ?_) (fun h1965 => ?_)
    · refine r_goto C 2110 dL_law_1980 (by decide) ?_
      refine G_sub (lv' := [(0, .ref b), (1, .ref (ad g 0)), (2, .ref (ad g 19)), (3, .ref (ad g 27)), (4, .int (nI i))]) [2, 3, 4, 5, 6] rfl ?_
      exact KK μ2 hI2
    · refine r_aload_n C dL_law_1968 5 rfl ?_
      refine r_iconst C (v := (nI 0)) dL_law_1969 rfl ?_
      refine r_lald C X (k := 27) (v := (gJ μ2 53 0)) (by decide) rfl (by omega) (by decide) rfl dL_law_1970 ?_
      refine G_topl (y := v.toInt64) (ho (Decidable.not_not.mp h1965)) ?_
      refine r_iload C dL_law_1971 0 rfl ?_
      refine r_i2l C (v := ((v).toInt64)) dL_law_1973 rfl ?_
      refine r_lcmp C dL_law_1974 ?_
      refine r_if_eq C 1980 dL_law_1975 (by decide) (lgc_eq _ _) (fun h1975 => ?_) (fun h1975 => ?_)
      · refine r_goto C 2110 dL_law_1980 (by decide) ?_
        refine G_sub (lv' := [(0, .ref b), (1, .ref (ad g 0)), (2, .ref (ad g 19)), (3, .ref (ad g 27)), (4, .int (nI i))]) [2, 3, 4, 5, 6] rfl ?_
        exact KK μ2 hI2
      · exact absurd rfl h1975
  · exact absurd rfl h1958
set_option maxHeartbeats 1000000 in
set_option maxRecDepth 100000 in
theorem lc_clearText {z : Zt} {A : Nat → Prop} {l : Launch} {g : Gd} {μ : Mm} {b L : Nat} {xs : Nat → Int32} (C : Cx z A l room_1 cL_law 8 "SetFamiliesLaw") (X : Kx z g A) (Ee : Ex A (zs z) (zs z).heap) (Lz : Lx z A b L xs) {Inv : Nat → Mm → Prop} (hS : St_clearText l g Inv) {i ce sl : Nat} (hI : Inv i μ) (hi : i + 5 ≤ L) (hL : L ≤ 2560) (hce : ce + 1 ≤ 601024) (hsl : sl + 6 ≤ 7293034) (KK : ∀ μ', Inv (i + 5) μ' → G z g.1 A 8 (wd g μ') ce sl 2110 [(0, .ref b), (1, .ref (ad g 0)), (2, .ref (ad g 19)), (3, .ref (ad g 27)), (4, .int (nI i))] []) : G z g.1 A 8 (wd g μ) ce sl 1983 [(0, .ref b), (1, .ref (ad g 0)), (2, .ref (ad g 19)), (3, .ref (ad g 27)), (4, .int (nI i))] [] := by
  obtain ⟨μ1, μ2, v, r1, r2, hr, hM1, hM2, hI2⟩ := hS i μ (by omega) hI
  refine r_aload_n C dL_law_1983 1 rfl ?_
  refine r_callV C X (As := []) (rest := []) (st1 := [.int v]) (μ' := μ1) (k := 0) (T := TX10) miX10_clearText mvX10_clearText hM1 hw_2_5 (by decide) rfl rfl rfl (hR_c hr.1 (by decide) (by omega) (by omega)) rfl (Nat.le_of_ble_eq_true rfl) dL_law_1984 rfl ?_
  refine r_aload_n C dL_law_1987 2 rfl ?_
  refine r_callV C X (As := []) (rest := [.int v]) (st1 := [.int v, .int v]) (μ' := μ2) (k := 19) (T := TX11) miX11_clearText mvX11_clearText hM2 hw_6_71 (by decide) rfl rfl rfl (hR_c hr.2 (by decide) (by omega) (by omega)) rfl (Nat.le_of_ble_eq_true rfl) dL_law_1988 rfl ?_
  refine r_icmp_eq C 2110 dL_law_1991 (by decide) Iff.rfl (fun h1991 => ?_) (fun h1991 => ?_)
  · exact KK μ2 hI2
  · exact absurd rfl h1991
set_option maxHeartbeats 1000000 in
set_option maxRecDepth 100000 in
theorem lc_read {z : Zt} {A : Nat → Prop} {l : Launch} {g : Gd} {μ : Mm} {b L : Nat} {xs : Nat → Int32} (C : Cx z A l room_1 cL_law 8 "SetFamiliesLaw") (X : Kx z g A) (Ee : Ex A (zs z) (zs z).heap) (Lz : Lx z A b L xs) {Inv : Nat → Mm → Prop} (hS : St_read l g Inv) {i ce sl : Nat} (hI : Inv i μ) (hi : i + 5 ≤ L) (hL : L ≤ 2560) (hce : ce + 1 ≤ 601024) (hsl : sl + 6 ≤ 7293034) (KK : ∀ μ', Inv (i + 5) μ' → G z g.1 A 8 (wd g μ') (ce + 1) (sl + 6) 2110 [(0, .ref b), (1, .ref (ad g 0)), (2, .ref (ad g 19)), (3, .ref (ad g 27)), (4, .int (nI i))] []) : G z g.1 A 8 (wd g μ) ce sl 1996 [(0, .ref b), (1, .ref (ad g 0)), (2, .ref (ad g 19)), (3, .ref (ad g 27)), (4, .int (nI i))] [] := by
  obtain ⟨k, μ1, μ2, v, r1, r2, hr, hM1, hM2, h5, ho, hI2⟩ := hS i μ (xs (i + 1)) (by omega) hI
  refine r_aload_n C dL_law_1996 1 rfl ?_
  refine r_aload_n C dL_law_1997 0 rfl ?_
  refine r_iload C dL_law_1998 4 rfl ?_
  refine r_iconst C (v := (nI 1)) dL_law_2000 rfl ?_
  refine r_iadd C (v := (nI (i + 1))) dL_law_2001 (nI_add _ _) ?_
  refine l_sld C Lz (j := i + 1) (by omega) hL dL_law_2002 ?_
  refine r_aload_n C dL_law_2003 3 rfl ?_
  refine r_callW C X Ee (As := [.ref (ad g 0), .int (xs (i + 1)), .ref (ad g 27)]) (rest := []) (st1 := [.int (nI k)]) (μ' := μ1) mcL_read miL_read hM1 hw_4_226 rfl (hR_w hr.2.1 (by decide) hce hsl) rfl (Nat.le_of_ble_eq_true rfl) dL_law_2004 rfl ?_
  refine r_istore C (lv' := [(5, .int (nI k)), (0, .ref b), (1, .ref (ad g 0)), (2, .ref (ad g 19)), (3, .ref (ad g 27)), (4, .int (nI i))]) 5 dL_law_2007 (by decide) rfl ?_
  refine r_aload_n C dL_law_2009 3 rfl ?_
  refine r_aload_n C dL_law_2010 1 rfl ?_
  refine r_iload C dL_law_2011 5 rfl ?_
  refine r_iconst C (v := (nI 1)) dL_law_2013 rfl ?_
  refine r_iadd C (v := (nI (i + 1))) dL_law_2014 (nI_add _ _) ?_
  refine l_sld C Lz (j := i + 1) (by omega) hL dL_law_2015 ?_
  refine r_callV C X (As := [.int (xs (i + 1))]) (rest := []) (st1 := [.int v]) (μ' := μ2) (k := 19) (T := TX11) miX11_read mvX11_read hM2 hw_6_75 (by decide) rfl rfl rfl (hR_c hr.2.2 (by decide) (by omega) (by omega)) rfl (Nat.le_of_ble_eq_true rfl) dL_law_2016 rfl ?_
  refine r_istore C (lv' := [(6, .int v), (5, .int (nI k)), (0, .ref b), (1, .ref (ad g 0)), (2, .ref (ad g 19)), (3, .ref (ad g 27)), (4, .int (nI i))]) 6 dL_law_2019 (by decide) rfl ?_
  refine r_aload_n C dL_law_2021 4 rfl ?_
  refine r_callV C X (As := []) (rest := []) (st1 := [.int (gI μ2 5)]) (μ' := μ2) (k := 19) (T := TX11) miX11_thrown mvX11_thrown (c_thrown l g μ2) hw_5_65 (by decide) rfl rfl rfl (hR_c ⟨by decide, by decide, rfl, rfl⟩ (by decide) (by omega) (by omega)) rfl (Nat.le_of_ble_eq_true rfl) dL_law_2022 rfl ?_
  refine G_top (y := (nI k)) h5 ?_
  refine r_iload C dL_law_2025 1 rfl ?_
  refine r_icmp_eq C 2032 dL_law_2027 (by decide) (nI_eq (by omega) (by omega)) (fun h2027 => ?_) (fun h2027 => ?_)
  · refine r_iload C dL_law_2032 1 rfl ?_
    refine r_if_ne C 2049 dL_law_2034 (by decide) (zI_ne (by omega)) (fun h2034 => ?_) (fun h2034 => ?_)
    · refine r_goto C 2110 dL_law_2049 (by decide) ?_
      refine G_sub (lv' := [(0, .ref b), (1, .ref (ad g 0)), (2, .ref (ad g 19)), (3, .ref (ad g 27)), (4, .int (nI i))]) [2, 3, 4, 5, 6] rfl ?_
      exact KK μ2 hI2
    · refine r_aload_n C dL_law_2037 5 rfl ?_
      refine r_iconst C (v := (nI 0)) dL_law_2038 rfl ?_
      refine r_lald C X (k := 27) (v := (gJ μ2 53 0)) (by decide) rfl (by omega) (by decide) rfl dL_law_2039 ?_
      refine G_topl (y := v.toInt64) (ho (Decidable.not_not.mp h2034)) ?_
      refine r_iload C dL_law_2040 0 rfl ?_
      refine r_i2l C (v := ((v).toInt64)) dL_law_2042 rfl ?_
      refine r_lcmp C dL_law_2043 ?_
      refine r_if_eq C 2049 dL_law_2044 (by decide) (lgc_eq _ _) (fun h2044 => ?_) (fun h2044 => ?_)
      · refine r_goto C 2110 dL_law_2049 (by decide) ?_
        refine G_sub (lv' := [(0, .ref b), (1, .ref (ad g 0)), (2, .ref (ad g 19)), (3, .ref (ad g 27)), (4, .int (nI i))]) [2, 3, 4, 5, 6] rfl ?_
        exact KK μ2 hI2
      · exact absurd rfl h2044
  · exact absurd rfl h2027
set_option maxHeartbeats 1000000 in
set_option maxRecDepth 100000 in
theorem lc_undo {z : Zt} {A : Nat → Prop} {l : Launch} {g : Gd} {μ : Mm} {b L : Nat} {xs : Nat → Int32} (C : Cx z A l room_1 cL_law 8 "SetFamiliesLaw") (X : Kx z g A) (Ee : Ex A (zs z) (zs z).heap) (Lz : Lx z A b L xs) {Inv : Nat → Mm → Prop} (hS : St_undo l g Inv) {i ce sl : Nat} (hI : Inv i μ) (hi : i + 5 ≤ L) (hL : L ≤ 2560) (hce : ce + 1 ≤ 601024) (hsl : sl + 6 ≤ 7293034) (KK : ∀ μ', Inv (i + 5) μ' → G z g.1 A 8 (wd g μ') (ce + 1) (sl + 6) 2110 [(0, .ref b), (1, .ref (ad g 0)), (2, .ref (ad g 19)), (3, .ref (ad g 27)), (4, .int (nI i))] []) : G z g.1 A 8 (wd g μ) ce sl 2052 [(0, .ref b), (1, .ref (ad g 0)), (2, .ref (ad g 19)), (3, .ref (ad g 27)), (4, .int (nI i))] [] := by
  obtain ⟨k, μ1, μ2, v, r1, r2, hr, hM1, hM2, h5, ho, hI2⟩ := hS i μ  (by omega) hI
  refine r_aload_n C dL_law_2052 1 rfl ?_
  refine r_aload_n C dL_law_2053 3 rfl ?_
  refine r_callW C X Ee (As := [.ref (ad g 0), .ref (ad g 27)]) (rest := []) (st1 := [.int (nI k)]) (μ' := μ1) mcL_undo miL_undo hM1 hw_4_239 rfl (hR_w hr.2.1 (by decide) hce hsl) rfl (Nat.le_of_ble_eq_true rfl) dL_law_2054 rfl ?_
  refine r_istore C (lv' := [(5, .int (nI k)), (0, .ref b), (1, .ref (ad g 0)), (2, .ref (ad g 19)), (3, .ref (ad g 27)), (4, .int (nI i))]) 5 dL_law_2057 (by decide) rfl ?_
  refine r_aload_n C dL_law_2059 3 rfl ?_
  refine r_callV C X (As := []) (rest := []) (st1 := [.int v]) (μ' := μ2) (k := 19) (T := TX11) miX11_undo mvX11_undo hM2 hw_5_69 (by decide) rfl rfl rfl (hR_c hr.2.2 (by decide) (by omega) (by omega)) rfl (Nat.le_of_ble_eq_true rfl) dL_law_2060 rfl ?_
  refine r_istore C (lv' := [(6, .int v), (5, .int (nI k)), (0, .ref b), (1, .ref (ad g 0)), (2, .ref (ad g 19)), (3, .ref (ad g 27)), (4, .int (nI i))]) 6 dL_law_2063 (by decide) rfl ?_
  refine r_aload_n C dL_law_2065 4 rfl ?_
  refine r_callV C X (As := []) (rest := []) (st1 := [.int (gI μ2 5)]) (μ' := μ2) (k := 19) (T := TX11) miX11_thrown mvX11_thrown (c_thrown l g μ2) hw_5_65 (by decide) rfl rfl rfl (hR_c ⟨by decide, by decide, rfl, rfl⟩ (by decide) (by omega) (by omega)) rfl (Nat.le_of_ble_eq_true rfl) dL_law_2066 rfl ?_
  refine G_top (y := (nI k)) h5 ?_
  refine r_iload C dL_law_2069 1 rfl ?_
  refine r_icmp_eq C 2076 dL_law_2071 (by decide) (nI_eq (by omega) (by omega)) (fun h2071 => ?_) (fun h2071 => ?_)
  · refine r_iload C dL_law_2076 1 rfl ?_
    refine r_if_ne C 2093 dL_law_2078 (by decide) (zI_ne (by omega)) (fun h2078 => ?_) (fun h2078 => ?_)
    · refine r_goto C 2110 dL_law_2093 (by decide) ?_
      refine G_sub (lv' := [(0, .ref b), (1, .ref (ad g 0)), (2, .ref (ad g 19)), (3, .ref (ad g 27)), (4, .int (nI i))]) [2, 3, 4, 5, 6] rfl ?_
      exact KK μ2 hI2
    · refine r_aload_n C dL_law_2081 5 rfl ?_
      refine r_iconst C (v := (nI 0)) dL_law_2082 rfl ?_
      refine r_lald C X (k := 27) (v := (gJ μ2 53 0)) (by decide) rfl (by omega) (by decide) rfl dL_law_2083 ?_
      refine G_topl (y := v.toInt64) (ho (Decidable.not_not.mp h2078)) ?_
      refine r_iload C dL_law_2084 0 rfl ?_
      refine r_i2l C (v := ((v).toInt64)) dL_law_2086 rfl ?_
      refine r_lcmp C dL_law_2087 ?_
      refine r_if_eq C 2093 dL_law_2088 (by decide) (lgc_eq _ _) (fun h2088 => ?_) (fun h2088 => ?_)
      · refine r_goto C 2110 dL_law_2093 (by decide) ?_
        refine G_sub (lv' := [(0, .ref b), (1, .ref (ad g 0)), (2, .ref (ad g 19)), (3, .ref (ad g 27)), (4, .int (nI i))]) [2, 3, 4, 5, 6] rfl ?_
        exact KK μ2 hI2
      · exact absurd rfl h2088
  · exact absurd rfl h2071
set_option maxHeartbeats 1000000 in
set_option maxRecDepth 100000 in
theorem lc_digest {z : Zt} {A : Nat → Prop} {l : Launch} {g : Gd} {μ : Mm} {b L : Nat} {xs : Nat → Int32} (C : Cx z A l room_1 cL_law 8 "SetFamiliesLaw") (X : Kx z g A) (Ee : Ex A (zs z) (zs z).heap) (Lz : Lx z A b L xs) {Inv : Nat → Mm → Prop} (hS : St_digest l g Inv) {i ce sl : Nat} (hI : Inv i μ) (hi : i + 5 ≤ L) (hL : L ≤ 2560) (hce : ce + 1 ≤ 601024) (hsl : sl + 6 ≤ 7293034) (KK : ∀ μ', Inv (i + 5) μ' → G z g.1 A 8 (wd g μ') ce sl 2110 [(0, .ref b), (1, .ref (ad g 0)), (2, .ref (ad g 19)), (3, .ref (ad g 27)), (4, .int (nI i))] []) : G z g.1 A 8 (wd g μ) ce sl 2096 [(0, .ref b), (1, .ref (ad g 0)), (2, .ref (ad g 19)), (3, .ref (ad g 27)), (4, .int (nI i))] [] := by
  obtain ⟨μ1, μ2, v, r1, r2, hr, hM1, hM2, hI2⟩ := hS i μ (by omega) hI
  refine r_aload_n C dL_law_2096 1 rfl ?_
  refine r_callV C X (As := []) (rest := []) (st1 := [.long v]) (μ' := μ1) (k := 0) (T := TX10) miX10_digest mvX10_digest hM1 hw_2_9 (by decide) rfl rfl rfl (hR_c hr.1 (by decide) (by omega) (by omega)) rfl (Nat.le_of_ble_eq_true rfl) dL_law_2097 rfl ?_
  refine r_aload_n C dL_law_2100 2 rfl ?_
  refine r_callV C X (As := []) (rest := [.long v]) (st1 := [.long v, .long v]) (μ' := μ2) (k := 19) (T := TX11) miX11_digest mvX11_digest hM2 hw_6_79 (by decide) rfl rfl rfl (hR_c hr.2 (by decide) (by omega) (by omega)) rfl (Nat.le_of_ble_eq_true rfl) dL_law_2101 rfl ?_
  refine r_lcmp C dL_law_2104 ?_
  refine r_if_eq C 2110 dL_law_2105 (by decide) (lgc_eq _ _) (fun h2105 => ?_) (fun h2105 => ?_)
  · exact KK μ2 hI2
  · exact absurd rfl h2105
