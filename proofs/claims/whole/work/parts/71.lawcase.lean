set_option maxHeartbeats 16000000 in
theorem lc_addMove {G : GT} {K : KT} {b Ls i cells slots : Nat} {xs : Nat → Int32} {Q : State → Prop} {v : VV} {L : LL} {a : AS} (g : GH G) (F : Fx G K ML_law 601024 7293034) (hX : SX G K b Ls xs) (z : cells + 1 ≤ 601024 ∧ slots + 6 ≤ 7293034) (hi : i + 6 ≤ Ls) (ic : IC v a) (im : IM v a) (w : WA a) (kk : KK G K b i (cells + 1) (slots + 6) Q) : CW G K 9 cells slots Q v L 164 (lwv G b i) [] := by
  have hl3 : Ls ≤ 3072 := hX.2.2.2
  obtain ⟨k, x, a', hk, wa, h1, h2⟩ := o_addMove g w (xs (i + 1)) (xs (i + 2))
  refine r_aload_n F dL_law_164 rfl ?_
  refine r_aload_n F dL_law_165 rfl ?_
  refine r_iload F dL_law_166 rfl ?_
  refine r_iconst (x := 1) F dL_law_168 rfl ?_
  refine r_iadd F dL_law_169 ?_
  refine r_sld F hX dL_law_170 (by omega) ?_
  refine r_aload_n F dL_law_171 rfl ?_
  refine r_iload F dL_law_172 rfl ?_
  refine r_iconst (x := 2) F dL_law_174 rfl ?_
  refine r_iadd F dL_law_175 ?_
  refine r_sld F hX dL_law_176 (by omega) ?_
  refine r_aload_n F dL_law_177 rfl ?_
  refine r_callH (As := [.ref (gB G 0), .int (xs (i + 1)), .int (xs (i + 2)), .ref (gB G 91)]) F hML_addMove tw_711 rfl dL_law_178 rfl rfl z (h1 v L ic) ?_
  rintro y v1 L1 ⟨rfl, f1, i1, e1⟩
  refine r_ist5 F dL_law_181 rfl rfl ?_
  refine r_aload_n F dL_law_183 rfl ?_
  refine r_aload_n F dL_law_184 rfl ?_
  refine r_iload F dL_law_185 rfl ?_
  refine r_iconst (x := 1) F dL_law_187 rfl ?_
  refine r_iadd F dL_law_188 ?_
  refine r_sld F hX dL_law_189 (by omega) ?_
  refine r_aload_n F dL_law_190 rfl ?_
  refine r_iload F dL_law_191 rfl ?_
  refine r_iconst (x := 2) F dL_law_193 rfl ?_
  refine r_iadd F dL_law_194 ?_
  refine r_sld F hX dL_law_195 (by omega) ?_
  refine r_callV2j F fMX8_addMove tw_924 rfl rfl rfl rfl dL_law_196 rfl rfl z (h2 v1 L1 (im.ofC f1)) ?_
  rintro y2 v2 L2 ⟨rfl, f2, e2, m2, e3⟩
  have c2 := i1.ofM f2
  refine r_ist6 F dL_law_199 rfl rfl ?_
  refine r_aload_n F dL_law_201 rfl ?_
  refine r_callV0i F fMX8_thrown tw_920 rfl rfl rfl rfl dL_law_202 rfl rfl z (m8_thrown g) ?_
  rw [e2]
  refine r_iload F dL_law_205 rfl ?_
  refine r_iceq F dL_law_207 (by omega) (by omega) (fun h207 => ?_) (fun h207 => ?_)
  · refine r_iload F dL_law_212 rfl ?_
    refine r_ifne F dL_law_214 (by omega) (fun h214 => ?_) (fun h214 => ?_)
    · exact r_goto F dL_law_229 (r_dr5 (r_dr6 (kk _ _ _ c2 m2 wa)))
    · refine r_aload_n F dL_law_217 rfl ?_
      refine r_iconst (x := 0) F dL_law_218 rfl ?_
      refine r_lald F dL_law_219 rfl ?_
      rw [e1 h214]
      refine r_iload F dL_law_220 rfl ?_
      refine r_i2l F dL_law_222 rfl ?_
      rw [e3 h214]
      refine r_lcmp F dL_law_223 ?_
      rw [lg_self]
      refine R_ifeq F dL_law_224 (fun h224 => ?_) (fun h224 => ?_)
      · exact r_goto F dL_law_229 (r_dr5 (r_dr6 (kk _ _ _ c2 m2 wa)))
      · exact absurd rfl h224
  · exact absurd rfl h207
set_option maxHeartbeats 16000000 in
theorem lc_clearMoves {G : GT} {K : KT} {b Ls i cells slots : Nat} {xs : Nat → Int32} {Q : State → Prop} {v : VV} {L : LL} {a : AS} (g : GH G) (F : Fx G K ML_law 601024 7293034) (hX : SX G K b Ls xs) (z : cells + 1 ≤ 601024 ∧ slots + 6 ≤ 7293034) (hi : i + 6 ≤ Ls) (ic : IC v a) (im : IM v a) (w : WA a) (kk : KK G K b i (cells + 1) (slots + 6) Q) : CW G K 9 cells slots Q v L 232 (lwv G b i) [] := by
  have hl3 : Ls ≤ 3072 := hX.2.2.2
  obtain ⟨k, x, a', hk, wa, h1, h2⟩ := o_clearMoves g w (xs (i + 1))
  refine r_aload_n F dL_law_232 rfl ?_
  refine r_aload_n F dL_law_233 rfl ?_
  refine r_iload F dL_law_234 rfl ?_
  refine r_iconst (x := 1) F dL_law_236 rfl ?_
  refine r_iadd F dL_law_237 ?_
  refine r_sld F hX dL_law_238 (by omega) ?_
  refine r_aload_n F dL_law_239 rfl ?_
  refine r_callH (As := [.ref (gB G 0), .int (xs (i + 1)), .ref (gB G 91)]) F hML_clearMoves tw_739 rfl dL_law_240 rfl rfl z (h1 v L ic) ?_
  rintro y v1 L1 ⟨rfl, f1, i1, e1⟩
  refine r_ist5 F dL_law_243 rfl rfl ?_
  refine r_aload_n F dL_law_245 rfl ?_
  refine r_aload_n F dL_law_246 rfl ?_
  refine r_iload F dL_law_247 rfl ?_
  refine r_iconst (x := 1) F dL_law_249 rfl ?_
  refine r_iadd F dL_law_250 ?_
  refine r_sld F hX dL_law_251 (by omega) ?_
  refine r_callV1j F fMX8_clearMoves tw_954 rfl rfl rfl rfl dL_law_252 rfl rfl z (h2 v1 L1 (im.ofC f1)) ?_
  rintro y2 v2 L2 ⟨rfl, f2, e2, m2, e3⟩
  have c2 := i1.ofM f2
  refine r_ist6 F dL_law_255 rfl rfl ?_
  refine r_aload_n F dL_law_257 rfl ?_
  refine r_callV0i F fMX8_thrown tw_920 rfl rfl rfl rfl dL_law_258 rfl rfl z (m8_thrown g) ?_
  rw [e2]
  refine r_iload F dL_law_261 rfl ?_
  refine r_iceq F dL_law_263 (by omega) (by omega) (fun h263 => ?_) (fun h263 => ?_)
  · refine r_iload F dL_law_268 rfl ?_
    refine r_ifne F dL_law_270 (by omega) (fun h270 => ?_) (fun h270 => ?_)
    · exact r_goto F dL_law_285 (r_dr5 (r_dr6 (kk _ _ _ c2 m2 wa)))
    · refine r_aload_n F dL_law_273 rfl ?_
      refine r_iconst (x := 0) F dL_law_274 rfl ?_
      refine r_lald F dL_law_275 rfl ?_
      rw [e1 h270]
      refine r_iload F dL_law_276 rfl ?_
      refine r_i2l F dL_law_278 rfl ?_
      rw [e3 h270]
      refine r_lcmp F dL_law_279 ?_
      rw [lg_self]
      refine R_ifeq F dL_law_280 (fun h280 => ?_) (fun h280 => ?_)
      · exact r_goto F dL_law_285 (r_dr5 (r_dr6 (kk _ _ _ c2 m2 wa)))
      · exact absurd rfl h280
  · exact absurd rfl h263
set_option maxHeartbeats 16000000 in
theorem lc_mark {G : GT} {K : KT} {b Ls i cells slots : Nat} {xs : Nat → Int32} {Q : State → Prop} {v : VV} {L : LL} {a : AS} (g : GH G) (F : Fx G K ML_law 601024 7293034) (hX : SX G K b Ls xs) (z : cells + 1 ≤ 601024 ∧ slots + 6 ≤ 7293034) (hi : i + 6 ≤ Ls) (ic : IC v a) (im : IM v a) (w : WA a) (kk : KK G K b i (cells + 1) (slots + 6) Q) : CW G K 9 cells slots Q v L 288 (lwv G b i) [] := by
  have hl3 : Ls ≤ 3072 := hX.2.2.2
  obtain ⟨k, x, a', hk, wa, h1, h2⟩ := o_mark g w (xs (i + 1)) (xs (i + 2))
  refine r_aload_n F dL_law_288 rfl ?_
  refine r_aload_n F dL_law_289 rfl ?_
  refine r_iload F dL_law_290 rfl ?_
  refine r_iconst (x := 1) F dL_law_292 rfl ?_
  refine r_iadd F dL_law_293 ?_
  refine r_sld F hX dL_law_294 (by omega) ?_
  refine r_aload_n F dL_law_295 rfl ?_
  refine r_iload F dL_law_296 rfl ?_
  refine r_iconst (x := 2) F dL_law_298 rfl ?_
  refine r_iadd F dL_law_299 ?_
  refine r_sld F hX dL_law_300 (by omega) ?_
  refine r_aload_n F dL_law_301 rfl ?_
  refine r_callH (As := [.ref (gB G 0), .int (xs (i + 1)), .int (xs (i + 2)), .ref (gB G 91)]) F hML_mark tw_746 rfl dL_law_302 rfl rfl z (h1 v L ic) ?_
  rintro y v1 L1 ⟨rfl, f1, i1, e1⟩
  refine r_ist5 F dL_law_305 rfl rfl ?_
  refine r_aload_n F dL_law_307 rfl ?_
  refine r_aload_n F dL_law_308 rfl ?_
  refine r_iload F dL_law_309 rfl ?_
  refine r_iconst (x := 1) F dL_law_311 rfl ?_
  refine r_iadd F dL_law_312 ?_
  refine r_sld F hX dL_law_313 (by omega) ?_
  refine r_aload_n F dL_law_314 rfl ?_
  refine r_iload F dL_law_315 rfl ?_
  refine r_iconst (x := 2) F dL_law_317 rfl ?_
  refine r_iadd F dL_law_318 ?_
  refine r_sld F hX dL_law_319 (by omega) ?_
  refine r_callV2j F fMX8_mark tw_958 rfl rfl rfl rfl dL_law_320 rfl rfl z (h2 v1 L1 (im.ofC f1)) ?_
  rintro y2 v2 L2 ⟨rfl, f2, e2, m2, e3⟩
  have c2 := i1.ofM f2
  refine r_ist6 F dL_law_323 rfl rfl ?_
  refine r_aload_n F dL_law_325 rfl ?_
  refine r_callV0i F fMX8_thrown tw_920 rfl rfl rfl rfl dL_law_326 rfl rfl z (m8_thrown g) ?_
  rw [e2]
  refine r_iload F dL_law_329 rfl ?_
  refine r_iceq F dL_law_331 (by omega) (by omega) (fun h331 => ?_) (fun h331 => ?_)
  · refine r_iload F dL_law_336 rfl ?_
    refine r_ifne F dL_law_338 (by omega) (fun h338 => ?_) (fun h338 => ?_)
    · exact r_goto F dL_law_353 (r_dr5 (r_dr6 (kk _ _ _ c2 m2 wa)))
    · refine r_aload_n F dL_law_341 rfl ?_
      refine r_iconst (x := 0) F dL_law_342 rfl ?_
      refine r_lald F dL_law_343 rfl ?_
      rw [e1 h338]
      refine r_iload F dL_law_344 rfl ?_
      refine r_i2l F dL_law_346 rfl ?_
      rw [e3 h338]
      refine r_lcmp F dL_law_347 ?_
      rw [lg_self]
      refine R_ifeq F dL_law_348 (fun h348 => ?_) (fun h348 => ?_)
      · exact r_goto F dL_law_353 (r_dr5 (r_dr6 (kk _ _ _ c2 m2 wa)))
      · exact absurd rfl h348
  · exact absurd rfl h331
set_option maxHeartbeats 16000000 in
theorem lc_reverse {G : GT} {K : KT} {b Ls i cells slots : Nat} {xs : Nat → Int32} {Q : State → Prop} {v : VV} {L : LL} {a : AS} (g : GH G) (F : Fx G K ML_law 601024 7293034) (hX : SX G K b Ls xs) (z : cells + 1 ≤ 601024 ∧ slots + 6 ≤ 7293034) (hi : i + 6 ≤ Ls) (ic : IC v a) (im : IM v a) (w : WA a) (kk : KK G K b i (cells + 1) (slots + 6) Q) : CW G K 9 cells slots Q v L 356 (lwv G b i) [] := by
  have hl3 : Ls ≤ 3072 := hX.2.2.2
  obtain ⟨x, a', wa, h1, h2⟩ := o_reverse g w
  refine cw_widen (M := ML_law) (Nat.le_succ cells) (Nat.le_add_right slots 6) ?_
  refine r_aload_n F dL_law_356 rfl ?_
  refine r_callV0j F fMX7_reverse tw_296 rfl rfl rfl rfl dL_law_357 rfl rfl z (h1 v L ic) ?_
  rintro y v1 L1 ⟨rfl, rfl, f1, i1⟩
  refine r_aload_n F dL_law_360 rfl ?_
  refine r_callV0j F fMX8_reverse tw_962 rfl rfl rfl rfl dL_law_361 rfl rfl z (h2 v1 L1 (im.ofC f1)) ?_
  rintro y2 v2 L2 ⟨rfl, rfl, f2, e2, m2⟩
  have c2 := i1.ofM f2
  refine R_iceq F dL_law_364 (fun h364 => ?_) (fun h364 => ?_)
  · exact kk _ _ _ c2 m2 wa
  · exact absurd rfl h364
set_option maxHeartbeats 16000000 in
theorem lc_set {G : GT} {K : KT} {b Ls i cells slots : Nat} {xs : Nat → Int32} {Q : State → Prop} {v : VV} {L : LL} {a : AS} (g : GH G) (F : Fx G K ML_law 601024 7293034) (hX : SX G K b Ls xs) (z : cells + 1 ≤ 601024 ∧ slots + 6 ≤ 7293034) (hi : i + 6 ≤ Ls) (ic : IC v a) (im : IM v a) (w : WA a) (kk : KK G K b i (cells + 1) (slots + 6) Q) : CW G K 9 cells slots Q v L 369 (lwv G b i) [] := by
  have hl3 : Ls ≤ 3072 := hX.2.2.2
  obtain ⟨k, x, a', hk, wa, h1, h2⟩ := o_set g w (xs (i + 1)) (xs (i + 2))
  refine r_aload_n F dL_law_369 rfl ?_
  refine r_aload_n F dL_law_370 rfl ?_
  refine r_iload F dL_law_371 rfl ?_
  refine r_iconst (x := 1) F dL_law_373 rfl ?_
  refine r_iadd F dL_law_374 ?_
  refine r_sld F hX dL_law_375 (by omega) ?_
  refine r_aload_n F dL_law_376 rfl ?_
  refine r_iload F dL_law_377 rfl ?_
  refine r_iconst (x := 2) F dL_law_379 rfl ?_
  refine r_iadd F dL_law_380 ?_
  refine r_sld F hX dL_law_381 (by omega) ?_
  refine r_aload_n F dL_law_382 rfl ?_
  refine r_callH (As := [.ref (gB G 0), .int (xs (i + 1)), .int (xs (i + 2)), .ref (gB G 91)]) F hML_set tw_753 rfl dL_law_383 rfl rfl z (h1 v L ic) ?_
  rintro y v1 L1 ⟨rfl, f1, i1, e1⟩
  refine r_ist5 F dL_law_386 rfl rfl ?_
  refine r_aload_n F dL_law_388 rfl ?_
  refine r_aload_n F dL_law_389 rfl ?_
  refine r_iload F dL_law_390 rfl ?_
  refine r_iconst (x := 1) F dL_law_392 rfl ?_
  refine r_iadd F dL_law_393 ?_
  refine r_sld F hX dL_law_394 (by omega) ?_
  refine r_aload_n F dL_law_395 rfl ?_
  refine r_iload F dL_law_396 rfl ?_
  refine r_iconst (x := 2) F dL_law_398 rfl ?_
  refine r_iadd F dL_law_399 ?_
  refine r_sld F hX dL_law_400 (by omega) ?_
  refine r_callV2j F fMX8_set tw_966 rfl rfl rfl rfl dL_law_401 rfl rfl z (h2 v1 L1 (im.ofC f1)) ?_
  rintro y2 v2 L2 ⟨rfl, f2, e2, m2, e3⟩
  have c2 := i1.ofM f2
  refine r_ist6 F dL_law_404 rfl rfl ?_
  refine r_aload_n F dL_law_406 rfl ?_
  refine r_callV0i F fMX8_thrown tw_920 rfl rfl rfl rfl dL_law_407 rfl rfl z (m8_thrown g) ?_
  rw [e2]
  refine r_iload F dL_law_410 rfl ?_
  refine r_iceq F dL_law_412 (by omega) (by omega) (fun h412 => ?_) (fun h412 => ?_)
  · refine r_iload F dL_law_417 rfl ?_
    refine r_ifne F dL_law_419 (by omega) (fun h419 => ?_) (fun h419 => ?_)
    · exact r_goto F dL_law_434 (r_dr5 (r_dr6 (kk _ _ _ c2 m2 wa)))
    · refine r_aload_n F dL_law_422 rfl ?_
      refine r_iconst (x := 0) F dL_law_423 rfl ?_
      refine r_lald F dL_law_424 rfl ?_
      rw [e1 h419]
      refine r_iload F dL_law_425 rfl ?_
      refine r_i2l F dL_law_427 rfl ?_
      rw [e3 h419]
      refine r_lcmp F dL_law_428 ?_
      rw [lg_self]
      refine R_ifeq F dL_law_429 (fun h429 => ?_) (fun h429 => ?_)
      · exact r_goto F dL_law_434 (r_dr5 (r_dr6 (kk _ _ _ c2 m2 wa)))
      · exact absurd rfl h429
  · exact absurd rfl h412
set_option maxHeartbeats 16000000 in
theorem lc_place {G : GT} {K : KT} {b Ls i cells slots : Nat} {xs : Nat → Int32} {Q : State → Prop} {v : VV} {L : LL} {a : AS} (g : GH G) (F : Fx G K ML_law 601024 7293034) (hX : SX G K b Ls xs) (z : cells + 1 ≤ 601024 ∧ slots + 6 ≤ 7293034) (hi : i + 6 ≤ Ls) (ic : IC v a) (im : IM v a) (w : WA a) (kk : KK G K b i (cells + 1) (slots + 6) Q) : CW G K 9 cells slots Q v L 437 (lwv G b i) [] := by
  have hl3 : Ls ≤ 3072 := hX.2.2.2
  obtain ⟨k, x, a', hk, wa, h1, h2⟩ := o_place g w (xs (i + 1)) (xs (i + 2)) (xs (i + 3))
  refine r_aload_n F dL_law_437 rfl ?_
  refine r_aload_n F dL_law_438 rfl ?_
  refine r_iload F dL_law_439 rfl ?_
  refine r_iconst (x := 1) F dL_law_441 rfl ?_
  refine r_iadd F dL_law_442 ?_
  refine r_sld F hX dL_law_443 (by omega) ?_
  refine r_aload_n F dL_law_444 rfl ?_
  refine r_iload F dL_law_445 rfl ?_
  refine r_iconst (x := 2) F dL_law_447 rfl ?_
  refine r_iadd F dL_law_448 ?_
  refine r_sld F hX dL_law_449 (by omega) ?_
  refine r_aload_n F dL_law_450 rfl ?_
  refine r_iload F dL_law_451 rfl ?_
  refine r_iconst (x := 3) F dL_law_453 rfl ?_
  refine r_iadd F dL_law_454 ?_
  refine r_sld F hX dL_law_455 (by omega) ?_
  refine r_aload_n F dL_law_456 rfl ?_
  refine r_callH (As := [.ref (gB G 0), .int (xs (i + 1)), .int (xs (i + 2)), .int (xs (i + 3)), .ref (gB G 91)]) F hML_place tw_768 rfl dL_law_457 rfl rfl z (h1 v L ic) ?_
  rintro y v1 L1 ⟨rfl, f1, i1, e1⟩
  refine r_ist5 F dL_law_460 rfl rfl ?_
  refine r_aload_n F dL_law_462 rfl ?_
  refine r_aload_n F dL_law_463 rfl ?_
  refine r_iload F dL_law_464 rfl ?_
  refine r_iconst (x := 1) F dL_law_466 rfl ?_
  refine r_iadd F dL_law_467 ?_
  refine r_sld F hX dL_law_468 (by omega) ?_
  refine r_aload_n F dL_law_469 rfl ?_
  refine r_iload F dL_law_470 rfl ?_
  refine r_iconst (x := 2) F dL_law_472 rfl ?_
  refine r_iadd F dL_law_473 ?_
  refine r_sld F hX dL_law_474 (by omega) ?_
  refine r_aload_n F dL_law_475 rfl ?_
  refine r_iload F dL_law_476 rfl ?_
  refine r_iconst (x := 3) F dL_law_478 rfl ?_
  refine r_iadd F dL_law_479 ?_
  refine r_sld F hX dL_law_480 (by omega) ?_
  refine r_callV3j F fMX8_place tw_973 rfl rfl rfl rfl dL_law_481 rfl rfl z (h2 v1 L1 (im.ofC f1)) ?_
  rintro y2 v2 L2 ⟨rfl, f2, e2, m2, e3⟩
  have c2 := i1.ofM f2
  refine r_ist6 F dL_law_484 rfl rfl ?_
  refine r_aload_n F dL_law_486 rfl ?_
  refine r_callV0i F fMX8_thrown tw_920 rfl rfl rfl rfl dL_law_487 rfl rfl z (m8_thrown g) ?_
  rw [e2]
  refine r_iload F dL_law_490 rfl ?_
  refine r_iceq F dL_law_492 (by omega) (by omega) (fun h492 => ?_) (fun h492 => ?_)
  · refine r_iload F dL_law_497 rfl ?_
    refine r_ifne F dL_law_499 (by omega) (fun h499 => ?_) (fun h499 => ?_)
    · exact r_goto F dL_law_514 (r_dr5 (r_dr6 (kk _ _ _ c2 m2 wa)))
    · refine r_aload_n F dL_law_502 rfl ?_
      refine r_iconst (x := 0) F dL_law_503 rfl ?_
      refine r_lald F dL_law_504 rfl ?_
      rw [e1 h499]
      refine r_iload F dL_law_505 rfl ?_
      refine r_i2l F dL_law_507 rfl ?_
      rw [e3 h499]
      refine r_lcmp F dL_law_508 ?_
      rw [lg_self]
      refine R_ifeq F dL_law_509 (fun h509 => ?_) (fun h509 => ?_)
      · exact r_goto F dL_law_514 (r_dr5 (r_dr6 (kk _ _ _ c2 m2 wa)))
      · exact absurd rfl h509
  · exact absurd rfl h492
set_option maxHeartbeats 16000000 in
theorem lc_bid {G : GT} {K : KT} {b Ls i cells slots : Nat} {xs : Nat → Int32} {Q : State → Prop} {v : VV} {L : LL} {a : AS} (g : GH G) (F : Fx G K ML_law 601024 7293034) (hX : SX G K b Ls xs) (z : cells + 1 ≤ 601024 ∧ slots + 6 ≤ 7293034) (hi : i + 6 ≤ Ls) (ic : IC v a) (im : IM v a) (w : WA a) (kk : KK G K b i (cells + 1) (slots + 6) Q) : CW G K 9 cells slots Q v L 517 (lwv G b i) [] := by
  have hl3 : Ls ≤ 3072 := hX.2.2.2
  obtain ⟨x, a', wa, h1, h2⟩ := o_bid g w (xs (i + 1)) (xs (i + 2))
  refine cw_widen (M := ML_law) (Nat.le_succ cells) (Nat.le_add_right slots 6) ?_
  refine r_aload_n F dL_law_517 rfl ?_
  refine r_aload_n F dL_law_518 rfl ?_
  refine r_iload F dL_law_519 rfl ?_
  refine r_iconst (x := 1) F dL_law_521 rfl ?_
  refine r_iadd F dL_law_522 ?_
  refine r_sld F hX dL_law_523 (by omega) ?_
  refine r_aload_n F dL_law_524 rfl ?_
  refine r_iload F dL_law_525 rfl ?_
  refine r_iconst (x := 2) F dL_law_527 rfl ?_
  refine r_iadd F dL_law_528 ?_
  refine r_sld F hX dL_law_529 (by omega) ?_
  refine r_callV2j F fMX7_bid tw_340 rfl rfl rfl rfl dL_law_530 rfl rfl z (h1 v L ic) ?_
  rintro y v1 L1 ⟨rfl, rfl, f1, i1⟩
  refine r_aload_n F dL_law_533 rfl ?_
  refine r_aload_n F dL_law_534 rfl ?_
  refine r_iload F dL_law_535 rfl ?_
  refine r_iconst (x := 1) F dL_law_537 rfl ?_
  refine r_iadd F dL_law_538 ?_
  refine r_sld F hX dL_law_539 (by omega) ?_
  refine r_aload_n F dL_law_540 rfl ?_
  refine r_iload F dL_law_541 rfl ?_
  refine r_iconst (x := 2) F dL_law_543 rfl ?_
  refine r_iadd F dL_law_544 ?_
  refine r_sld F hX dL_law_545 (by omega) ?_
  refine r_callV2j F fMX8_bid tw_981 rfl rfl rfl rfl dL_law_546 rfl rfl z (h2 v1 L1 (im.ofC f1)) ?_
  rintro y2 v2 L2 ⟨rfl, rfl, f2, e2, m2⟩
  have c2 := i1.ofM f2
  refine R_iceq F dL_law_549 (fun h549 => ?_) (fun h549 => ?_)
  · exact kk _ _ _ c2 m2 wa
  · exact absurd rfl h549
set_option maxHeartbeats 16000000 in
theorem lc_move {G : GT} {K : KT} {b Ls i cells slots : Nat} {xs : Nat → Int32} {Q : State → Prop} {v : VV} {L : LL} {a : AS} (g : GH G) (F : Fx G K ML_law 601024 7293034) (hX : SX G K b Ls xs) (z : cells + 1 ≤ 601024 ∧ slots + 6 ≤ 7293034) (hi : i + 6 ≤ Ls) (ic : IC v a) (im : IM v a) (w : WA a) (kk : KK G K b i (cells + 1) (slots + 6) Q) : CW G K 9 cells slots Q v L 554 (lwv G b i) [] := by
  have hl3 : Ls ≤ 3072 := hX.2.2.2
  obtain ⟨x, a', wa, h1, h2⟩ := o_move g w (xs (i + 1))
  refine cw_widen (M := ML_law) (Nat.le_succ cells) (Nat.le_add_right slots 6) ?_
  refine r_aload_n F dL_law_554 rfl ?_
  refine r_aload_n F dL_law_555 rfl ?_
  refine r_iload F dL_law_556 rfl ?_
  refine r_iconst (x := 1) F dL_law_558 rfl ?_
  refine r_iadd F dL_law_559 ?_
  refine r_sld F hX dL_law_560 (by omega) ?_
  refine r_callV1j F fMX7_move tw_367 rfl rfl rfl rfl dL_law_561 rfl rfl z (h1 v L ic) ?_
  rintro y v1 L1 ⟨rfl, rfl, f1, i1⟩
  refine r_aload_n F dL_law_564 rfl ?_
  refine r_aload_n F dL_law_565 rfl ?_
  refine r_iload F dL_law_566 rfl ?_
  refine r_iconst (x := 1) F dL_law_568 rfl ?_
  refine r_iadd F dL_law_569 ?_
  refine r_sld F hX dL_law_570 (by omega) ?_
  refine r_callV1j F fMX8_move tw_993 rfl rfl rfl rfl dL_law_571 rfl rfl z (h2 v1 L1 (im.ofC f1)) ?_
  rintro y2 v2 L2 ⟨rfl, rfl, f2, e2, m2⟩
  have c2 := i1.ofM f2
  refine R_iceq F dL_law_574 (fun h574 => ?_) (fun h574 => ?_)
  · exact kk _ _ _ c2 m2 wa
  · exact absurd rfl h574
set_option maxHeartbeats 16000000 in
theorem lc_append {G : GT} {K : KT} {b Ls i cells slots : Nat} {xs : Nat → Int32} {Q : State → Prop} {v : VV} {L : LL} {a : AS} (g : GH G) (F : Fx G K ML_law 601024 7293034) (hX : SX G K b Ls xs) (z : cells + 1 ≤ 601024 ∧ slots + 6 ≤ 7293034) (hi : i + 6 ≤ Ls) (ic : IC v a) (im : IM v a) (w : WA a) (kk : KK G K b i (cells + 1) (slots + 6) Q) : CW G K 9 cells slots Q v L 579 (lwv G b i) [] := by
  have hl3 : Ls ≤ 3072 := hX.2.2.2
  obtain ⟨k, x, a', hk, wa, h1, h2⟩ := o_append g w (xs (i + 1))
  refine r_aload_n F dL_law_579 rfl ?_
  refine r_aload_n F dL_law_580 rfl ?_
  refine r_iload F dL_law_581 rfl ?_
  refine r_iconst (x := 1) F dL_law_583 rfl ?_
  refine r_iadd F dL_law_584 ?_
  refine r_sld F hX dL_law_585 (by omega) ?_
  refine r_aload_n F dL_law_586 rfl ?_
  refine r_callH (As := [.ref (gB G 0), .int (xs (i + 1)), .ref (gB G 91)]) F hML_append tw_775 rfl dL_law_587 rfl rfl z (h1 v L ic) ?_
  rintro y v1 L1 ⟨rfl, f1, i1, e1⟩
  refine r_ist5 F dL_law_590 rfl rfl ?_
  refine r_aload_n F dL_law_592 rfl ?_
  refine r_aload_n F dL_law_593 rfl ?_
  refine r_iload F dL_law_594 rfl ?_
  refine r_iconst (x := 1) F dL_law_596 rfl ?_
  refine r_iadd F dL_law_597 ?_
  refine r_sld F hX dL_law_598 (by omega) ?_
  refine r_callV1j F fMX8_append tw_997 rfl rfl rfl rfl dL_law_599 rfl rfl z (h2 v1 L1 (im.ofC f1)) ?_
  rintro y2 v2 L2 ⟨rfl, f2, e2, m2, e3⟩
  have c2 := i1.ofM f2
  refine r_ist6 F dL_law_602 rfl rfl ?_
  refine r_aload_n F dL_law_604 rfl ?_
  refine r_callV0i F fMX8_thrown tw_920 rfl rfl rfl rfl dL_law_605 rfl rfl z (m8_thrown g) ?_
  rw [e2]
  refine r_iload F dL_law_608 rfl ?_
  refine r_iceq F dL_law_610 (by omega) (by omega) (fun h610 => ?_) (fun h610 => ?_)
  · refine r_iload F dL_law_615 rfl ?_
    refine r_ifne F dL_law_617 (by omega) (fun h617 => ?_) (fun h617 => ?_)
    · exact r_goto F dL_law_632 (r_dr5 (r_dr6 (kk _ _ _ c2 m2 wa)))
    · refine r_aload_n F dL_law_620 rfl ?_
      refine r_iconst (x := 0) F dL_law_621 rfl ?_
      refine r_lald F dL_law_622 rfl ?_
      rw [e1 h617]
      refine r_iload F dL_law_623 rfl ?_
      refine r_i2l F dL_law_625 rfl ?_
      rw [e3 h617]
      refine r_lcmp F dL_law_626 ?_
      rw [lg_self]
      refine R_ifeq F dL_law_627 (fun h627 => ?_) (fun h627 => ?_)
      · exact r_goto F dL_law_632 (r_dr5 (r_dr6 (kk _ _ _ c2 m2 wa)))
      · exact absurd rfl h627
  · exact absurd rfl h610
set_option maxHeartbeats 16000000 in
theorem lc_clearBuffer {G : GT} {K : KT} {b Ls i cells slots : Nat} {xs : Nat → Int32} {Q : State → Prop} {v : VV} {L : LL} {a : AS} (g : GH G) (F : Fx G K ML_law 601024 7293034) (hX : SX G K b Ls xs) (z : cells + 1 ≤ 601024 ∧ slots + 6 ≤ 7293034) (hi : i + 6 ≤ Ls) (ic : IC v a) (im : IM v a) (w : WA a) (kk : KK G K b i (cells + 1) (slots + 6) Q) : CW G K 9 cells slots Q v L 635 (lwv G b i) [] := by
  have hl3 : Ls ≤ 3072 := hX.2.2.2
  obtain ⟨x, a', wa, h1, h2⟩ := o_clearBuffer g w
  refine cw_widen (M := ML_law) (Nat.le_succ cells) (Nat.le_add_right slots 6) ?_
  refine r_aload_n F dL_law_635 rfl ?_
  refine r_callV0j F fMX7_clearBuffer tw_379 rfl rfl rfl rfl dL_law_636 rfl rfl z (h1 v L ic) ?_
  rintro y v1 L1 ⟨rfl, rfl, f1, i1⟩
  refine r_aload_n F dL_law_639 rfl ?_
  refine r_callV0j F fMX8_clearBuffer tw_1001 rfl rfl rfl rfl dL_law_640 rfl rfl z (h2 v1 L1 (im.ofC f1)) ?_
  rintro y2 v2 L2 ⟨rfl, rfl, f2, e2, m2⟩
  have c2 := i1.ofM f2
  refine R_iceq F dL_law_643 (fun h643 => ?_) (fun h643 => ?_)
  · exact kk _ _ _ c2 m2 wa
  · exact absurd rfl h643
set_option maxHeartbeats 16000000 in
theorem lc_firstError {G : GT} {K : KT} {b Ls i cells slots : Nat} {xs : Nat → Int32} {Q : State → Prop} {v : VV} {L : LL} {a : AS} (g : GH G) (F : Fx G K ML_law 601024 7293034) (hX : SX G K b Ls xs) (z : cells + 1 ≤ 601024 ∧ slots + 6 ≤ 7293034) (hi : i + 6 ≤ Ls) (ic : IC v a) (im : IM v a) (w : WA a) (kk : KK G K b i (cells + 1) (slots + 6) Q) : CW G K 9 cells slots Q v L 648 (lwv G b i) [] := by
  have hl3 : Ls ≤ 3072 := hX.2.2.2
  obtain ⟨x, a', wa, h1, h2⟩ := o_firstError g w
  refine cw_widen (M := ML_law) (Nat.le_succ cells) (Nat.le_add_right slots 6) ?_
  refine r_aload_n F dL_law_648 rfl ?_
  refine r_callV0j F fMX7_firstError tw_383 rfl rfl rfl rfl dL_law_649 rfl rfl z (h1 v L ic) ?_
  rintro y v1 L1 ⟨rfl, rfl, f1, i1⟩
  refine r_aload_n F dL_law_652 rfl ?_
  refine r_callV0j F fMX8_firstError tw_1005 rfl rfl rfl rfl dL_law_653 rfl rfl z (h2 v1 L1 (im.ofC f1)) ?_
  rintro y2 v2 L2 ⟨rfl, rfl, f2, e2, m2⟩
  have c2 := i1.ofM f2
  refine R_iceq F dL_law_656 (fun h656 => ?_) (fun h656 => ?_)
  · exact kk _ _ _ c2 m2 wa
  · exact absurd rfl h656
set_option maxHeartbeats 16000000 in
theorem lc_load {G : GT} {K : KT} {b Ls i cells slots : Nat} {xs : Nat → Int32} {Q : State → Prop} {v : VV} {L : LL} {a : AS} (g : GH G) (F : Fx G K ML_law 601024 7293034) (hX : SX G K b Ls xs) (z : cells + 1 ≤ 601024 ∧ slots + 6 ≤ 7293034) (hi : i + 6 ≤ Ls) (ic : IC v a) (im : IM v a) (w : WA a) (kk : KK G K b i (cells + 1) (slots + 6) Q) : CW G K 9 cells slots Q v L 661 (lwv G b i) [] := by
  have hl3 : Ls ≤ 3072 := hX.2.2.2
  obtain ⟨k, x, a', hk, wa, h1, h2⟩ := o_load g w
  refine r_aload_n F dL_law_661 rfl ?_
  refine r_aload_n F dL_law_662 rfl ?_
  refine r_callH (As := [.ref (gB G 0), .ref (gB G 91)]) F hML_load tw_784 rfl dL_law_663 rfl rfl z (h1 v L ic) ?_
  rintro y v1 L1 ⟨rfl, f1, i1, e1⟩
  refine r_ist5 F dL_law_666 rfl rfl ?_
  refine r_aload_n F dL_law_668 rfl ?_
  refine r_callV0j F fMX8_load tw_1033 rfl rfl rfl rfl dL_law_669 rfl rfl z (h2 v1 L1 (im.ofC f1)) ?_
  rintro y2 v2 L2 ⟨rfl, f2, e2, m2, e3⟩
  have c2 := i1.ofM f2
  refine r_ist6 F dL_law_672 rfl rfl ?_
  refine r_aload_n F dL_law_674 rfl ?_
  refine r_callV0i F fMX8_thrown tw_920 rfl rfl rfl rfl dL_law_675 rfl rfl z (m8_thrown g) ?_
  rw [e2]
  refine r_iload F dL_law_678 rfl ?_
  refine r_iceq F dL_law_680 (by omega) (by omega) (fun h680 => ?_) (fun h680 => ?_)
  · refine r_iload F dL_law_685 rfl ?_
    refine r_ifne F dL_law_687 (by omega) (fun h687 => ?_) (fun h687 => ?_)
    · exact r_goto F dL_law_702 (r_dr5 (r_dr6 (kk _ _ _ c2 m2 wa)))
    · refine r_aload_n F dL_law_690 rfl ?_
      refine r_iconst (x := 0) F dL_law_691 rfl ?_
      refine r_lald F dL_law_692 rfl ?_
      rw [e1 h687]
      refine r_iload F dL_law_693 rfl ?_
      refine r_i2l F dL_law_695 rfl ?_
      rw [e3 h687]
      refine r_lcmp F dL_law_696 ?_
      rw [lg_self]
      refine R_ifeq F dL_law_697 (fun h697 => ?_) (fun h697 => ?_)
      · exact r_goto F dL_law_702 (r_dr5 (r_dr6 (kk _ _ _ c2 m2 wa)))
      · exact absurd rfl h697
  · exact absurd rfl h680
set_option maxHeartbeats 16000000 in
theorem lc_keep {G : GT} {K : KT} {b Ls i cells slots : Nat} {xs : Nat → Int32} {Q : State → Prop} {v : VV} {L : LL} {a : AS} (g : GH G) (F : Fx G K ML_law 601024 7293034) (hX : SX G K b Ls xs) (z : cells + 1 ≤ 601024 ∧ slots + 6 ≤ 7293034) (hi : i + 6 ≤ Ls) (ic : IC v a) (im : IM v a) (w : WA a) (kk : KK G K b i (cells + 1) (slots + 6) Q) : CW G K 9 cells slots Q v L 705 (lwv G b i) [] := by
  have hl3 : Ls ≤ 3072 := hX.2.2.2
  obtain ⟨k, x, a', hk, wa, h1, h2⟩ := o_keep g w (xs (i + 1))
  refine r_aload_n F dL_law_705 rfl ?_
  refine r_aload_n F dL_law_706 rfl ?_
  refine r_iload F dL_law_707 rfl ?_
  refine r_iconst (x := 1) F dL_law_709 rfl ?_
  refine r_iadd F dL_law_710 ?_
  refine r_sld F hX dL_law_711 (by omega) ?_
  refine r_aload_n F dL_law_712 rfl ?_
  refine r_callH (As := [.ref (gB G 0), .int (xs (i + 1)), .ref (gB G 91)]) F hML_keep tw_797 rfl dL_law_713 rfl rfl z (h1 v L ic) ?_
  rintro y v1 L1 ⟨rfl, f1, i1, e1⟩
  refine r_ist5 F dL_law_716 rfl rfl ?_
  refine r_aload_n F dL_law_718 rfl ?_
  refine r_aload_n F dL_law_719 rfl ?_
  refine r_iload F dL_law_720 rfl ?_
  refine r_iconst (x := 1) F dL_law_722 rfl ?_
  refine r_iadd F dL_law_723 ?_
  refine r_sld F hX dL_law_724 (by omega) ?_
  refine r_callV1j F fMX8_keep tw_1037 rfl rfl rfl rfl dL_law_725 rfl rfl z (h2 v1 L1 (im.ofC f1)) ?_
  rintro y2 v2 L2 ⟨rfl, f2, e2, m2, e3⟩
  have c2 := i1.ofM f2
  refine r_ist6 F dL_law_728 rfl rfl ?_
  refine r_aload_n F dL_law_730 rfl ?_
  refine r_callV0i F fMX8_thrown tw_920 rfl rfl rfl rfl dL_law_731 rfl rfl z (m8_thrown g) ?_
  rw [e2]
  refine r_iload F dL_law_734 rfl ?_
  refine r_iceq F dL_law_736 (by omega) (by omega) (fun h736 => ?_) (fun h736 => ?_)
  · refine r_iload F dL_law_741 rfl ?_
    refine r_ifne F dL_law_743 (by omega) (fun h743 => ?_) (fun h743 => ?_)
    · exact r_goto F dL_law_758 (r_dr5 (r_dr6 (kk _ _ _ c2 m2 wa)))
    · refine r_aload_n F dL_law_746 rfl ?_
      refine r_iconst (x := 0) F dL_law_747 rfl ?_
      refine r_lald F dL_law_748 rfl ?_
      rw [e1 h743]
      refine r_iload F dL_law_749 rfl ?_
      refine r_i2l F dL_law_751 rfl ?_
      rw [e3 h743]
      refine r_lcmp F dL_law_752 ?_
      rw [lg_self]
      refine R_ifeq F dL_law_753 (fun h753 => ?_) (fun h753 => ?_)
      · exact r_goto F dL_law_758 (r_dr5 (r_dr6 (kk _ _ _ c2 m2 wa)))
      · exact absurd rfl h753
  · exact absurd rfl h736
set_option maxHeartbeats 16000000 in
theorem lc_goBack {G : GT} {K : KT} {b Ls i cells slots : Nat} {xs : Nat → Int32} {Q : State → Prop} {v : VV} {L : LL} {a : AS} (g : GH G) (F : Fx G K ML_law 601024 7293034) (hX : SX G K b Ls xs) (z : cells + 1 ≤ 601024 ∧ slots + 6 ≤ 7293034) (hi : i + 6 ≤ Ls) (ic : IC v a) (im : IM v a) (w : WA a) (kk : KK G K b i (cells + 1) (slots + 6) Q) : CW G K 9 cells slots Q v L 761 (lwv G b i) [] := by
  have hl3 : Ls ≤ 3072 := hX.2.2.2
  obtain ⟨k, x, a', hk, wa, h1, h2⟩ := o_goBack g w (xs (i + 1))
  refine r_aload_n F dL_law_761 rfl ?_
  refine r_aload_n F dL_law_762 rfl ?_
  refine r_iload F dL_law_763 rfl ?_
  refine r_iconst (x := 1) F dL_law_765 rfl ?_
  refine r_iadd F dL_law_766 ?_
  refine r_sld F hX dL_law_767 (by omega) ?_
  refine r_aload_n F dL_law_768 rfl ?_
  refine r_callH (As := [.ref (gB G 0), .int (xs (i + 1)), .ref (gB G 91)]) F hML_goBack tw_805 rfl dL_law_769 rfl rfl z (h1 v L ic) ?_
  rintro y v1 L1 ⟨rfl, f1, i1, e1⟩
  refine r_ist5 F dL_law_772 rfl rfl ?_
  refine r_aload_n F dL_law_774 rfl ?_
  refine r_aload_n F dL_law_775 rfl ?_
  refine r_iload F dL_law_776 rfl ?_
  refine r_iconst (x := 1) F dL_law_778 rfl ?_
  refine r_iadd F dL_law_779 ?_
  refine r_sld F hX dL_law_780 (by omega) ?_
  refine r_callV1j F fMX8_goBack tw_1041 rfl rfl rfl rfl dL_law_781 rfl rfl z (h2 v1 L1 (im.ofC f1)) ?_
  rintro y2 v2 L2 ⟨rfl, f2, e2, m2, e3⟩
  have c2 := i1.ofM f2
  refine r_ist6 F dL_law_784 rfl rfl ?_
  refine r_aload_n F dL_law_786 rfl ?_
  refine r_callV0i F fMX8_thrown tw_920 rfl rfl rfl rfl dL_law_787 rfl rfl z (m8_thrown g) ?_
  rw [e2]
  refine r_iload F dL_law_790 rfl ?_
  refine r_iceq F dL_law_792 (by omega) (by omega) (fun h792 => ?_) (fun h792 => ?_)
  · refine r_iload F dL_law_797 rfl ?_
    refine r_ifne F dL_law_799 (by omega) (fun h799 => ?_) (fun h799 => ?_)
    · exact r_goto F dL_law_814 (r_dr5 (r_dr6 (kk _ _ _ c2 m2 wa)))
    · refine r_aload_n F dL_law_802 rfl ?_
      refine r_iconst (x := 0) F dL_law_803 rfl ?_
      refine r_lald F dL_law_804 rfl ?_
      rw [e1 h799]
      refine r_iload F dL_law_805 rfl ?_
      refine r_i2l F dL_law_807 rfl ?_
      rw [e3 h799]
      refine r_lcmp F dL_law_808 ?_
      rw [lg_self]
      refine R_ifeq F dL_law_809 (fun h809 => ?_) (fun h809 => ?_)
      · exact r_goto F dL_law_814 (r_dr5 (r_dr6 (kk _ _ _ c2 m2 wa)))
      · exact absurd rfl h809
  · exact absurd rfl h792
set_option maxHeartbeats 16000000 in
theorem lc_undo {G : GT} {K : KT} {b Ls i cells slots : Nat} {xs : Nat → Int32} {Q : State → Prop} {v : VV} {L : LL} {a : AS} (g : GH G) (F : Fx G K ML_law 601024 7293034) (hX : SX G K b Ls xs) (z : cells + 1 ≤ 601024 ∧ slots + 6 ≤ 7293034) (hi : i + 6 ≤ Ls) (ic : IC v a) (im : IM v a) (w : WA a) (kk : KK G K b i (cells + 1) (slots + 6) Q) : CW G K 9 cells slots Q v L 817 (lwv G b i) [] := by
  have hl3 : Ls ≤ 3072 := hX.2.2.2
  obtain ⟨k, x, a', hk, wa, h1, h2⟩ := o_undo g w
  refine r_aload_n F dL_law_817 rfl ?_
  refine r_aload_n F dL_law_818 rfl ?_
  refine r_callH (As := [.ref (gB G 0), .ref (gB G 91)]) F hML_undo tw_813 rfl dL_law_819 rfl rfl z (h1 v L ic) ?_
  rintro y v1 L1 ⟨rfl, f1, i1, e1⟩
  refine r_ist5 F dL_law_822 rfl rfl ?_
  refine r_aload_n F dL_law_824 rfl ?_
  refine r_callV0j F fMX8_undo tw_1045 rfl rfl rfl rfl dL_law_825 rfl rfl z (h2 v1 L1 (im.ofC f1)) ?_
  rintro y2 v2 L2 ⟨rfl, f2, e2, m2, e3⟩
  have c2 := i1.ofM f2
  refine r_ist6 F dL_law_828 rfl rfl ?_
  refine r_aload_n F dL_law_830 rfl ?_
  refine r_callV0i F fMX8_thrown tw_920 rfl rfl rfl rfl dL_law_831 rfl rfl z (m8_thrown g) ?_
  rw [e2]
  refine r_iload F dL_law_834 rfl ?_
  refine r_iceq F dL_law_836 (by omega) (by omega) (fun h836 => ?_) (fun h836 => ?_)
  · refine r_iload F dL_law_841 rfl ?_
    refine r_ifne F dL_law_843 (by omega) (fun h843 => ?_) (fun h843 => ?_)
    · exact r_goto F dL_law_858 (r_dr5 (r_dr6 (kk _ _ _ c2 m2 wa)))
    · refine r_aload_n F dL_law_846 rfl ?_
      refine r_iconst (x := 0) F dL_law_847 rfl ?_
      refine r_lald F dL_law_848 rfl ?_
      rw [e1 h843]
      refine r_iload F dL_law_849 rfl ?_
      refine r_i2l F dL_law_851 rfl ?_
      rw [e3 h843]
      refine r_lcmp F dL_law_852 ?_
      rw [lg_self]
      refine R_ifeq F dL_law_853 (fun h853 => ?_) (fun h853 => ?_)
      · exact r_goto F dL_law_858 (r_dr5 (r_dr6 (kk _ _ _ c2 m2 wa)))
      · exact absurd rfl h853
  · exact absurd rfl h836
set_option maxHeartbeats 16000000 in
theorem lc_positionOf {G : GT} {K : KT} {b Ls i cells slots : Nat} {xs : Nat → Int32} {Q : State → Prop} {v : VV} {L : LL} {a : AS} (g : GH G) (F : Fx G K ML_law 601024 7293034) (hX : SX G K b Ls xs) (z : cells + 1 ≤ 601024 ∧ slots + 6 ≤ 7293034) (hi : i + 6 ≤ Ls) (ic : IC v a) (im : IM v a) (w : WA a) (kk : KK G K b i (cells + 1) (slots + 6) Q) : CW G K 9 cells slots Q v L 861 (lwv G b i) [] := by
  have hl3 : Ls ≤ 3072 := hX.2.2.2
  obtain ⟨k, x, a', hk, wa, h1, h2⟩ := o_positionOf g w (xs (i + 1)) (xs (i + 2))
  refine r_aload_n F dL_law_861 rfl ?_
  refine r_aload_n F dL_law_862 rfl ?_
  refine r_iload F dL_law_863 rfl ?_
  refine r_iconst (x := 1) F dL_law_865 rfl ?_
  refine r_iadd F dL_law_866 ?_
  refine r_sld F hX dL_law_867 (by omega) ?_
  refine r_aload_n F dL_law_868 rfl ?_
  refine r_iload F dL_law_869 rfl ?_
  refine r_iconst (x := 2) F dL_law_871 rfl ?_
  refine r_iadd F dL_law_872 ?_
  refine r_sld F hX dL_law_873 (by omega) ?_
  refine r_aload_n F dL_law_874 rfl ?_
  refine r_callH (As := [.ref (gB G 0), .int (xs (i + 1)), .int (xs (i + 2)), .ref (gB G 91)]) F hML_positionOf tw_825 rfl dL_law_875 rfl rfl z (h1 v L ic) ?_
  rintro y v1 L1 ⟨rfl, f1, i1, e1⟩
  refine r_ist5 F dL_law_878 rfl rfl ?_
  refine r_aload_n F dL_law_880 rfl ?_
  refine r_aload_n F dL_law_881 rfl ?_
  refine r_iload F dL_law_882 rfl ?_
  refine r_iconst (x := 1) F dL_law_884 rfl ?_
  refine r_iadd F dL_law_885 ?_
  refine r_sld F hX dL_law_886 (by omega) ?_
  refine r_aload_n F dL_law_887 rfl ?_
  refine r_iload F dL_law_888 rfl ?_
  refine r_iconst (x := 2) F dL_law_890 rfl ?_
  refine r_iadd F dL_law_891 ?_
  refine r_sld F hX dL_law_892 (by omega) ?_
  refine r_callV2j F fMX8_positionOf tw_1049 rfl rfl rfl rfl dL_law_893 rfl rfl z (h2 v1 L1 (im.ofC f1)) ?_
  rintro y2 v2 L2 ⟨rfl, f2, e2, m2, e3⟩
  have c2 := i1.ofM f2
  refine r_ist6 F dL_law_896 rfl rfl ?_
  refine r_aload_n F dL_law_898 rfl ?_
  refine r_callV0i F fMX8_thrown tw_920 rfl rfl rfl rfl dL_law_899 rfl rfl z (m8_thrown g) ?_
  rw [e2]
  refine r_iload F dL_law_902 rfl ?_
  refine r_iceq F dL_law_904 (by omega) (by omega) (fun h904 => ?_) (fun h904 => ?_)
  · refine r_iload F dL_law_909 rfl ?_
    refine r_ifne F dL_law_911 (by omega) (fun h911 => ?_) (fun h911 => ?_)
    · exact r_goto F dL_law_926 (r_dr5 (r_dr6 (kk _ _ _ c2 m2 wa)))
    · refine r_aload_n F dL_law_914 rfl ?_
      refine r_iconst (x := 0) F dL_law_915 rfl ?_
      refine r_lald F dL_law_916 rfl ?_
      rw [e1 h911]
      refine r_iload F dL_law_917 rfl ?_
      refine r_i2l F dL_law_919 rfl ?_
      rw [e3 h911]
      refine r_lcmp F dL_law_920 ?_
      rw [lg_self]
      refine R_ifeq F dL_law_921 (fun h921 => ?_) (fun h921 => ?_)
      · exact r_goto F dL_law_926 (r_dr5 (r_dr6 (kk _ _ _ c2 m2 wa)))
      · exact absurd rfl h921
  · exact absurd rfl h904
set_option maxHeartbeats 16000000 in
theorem lc_playerOf {G : GT} {K : KT} {b Ls i cells slots : Nat} {xs : Nat → Int32} {Q : State → Prop} {v : VV} {L : LL} {a : AS} (g : GH G) (F : Fx G K ML_law 601024 7293034) (hX : SX G K b Ls xs) (z : cells + 1 ≤ 601024 ∧ slots + 6 ≤ 7293034) (hi : i + 6 ≤ Ls) (ic : IC v a) (im : IM v a) (w : WA a) (kk : KK G K b i (cells + 1) (slots + 6) Q) : CW G K 9 cells slots Q v L 929 (lwv G b i) [] := by
  have hl3 : Ls ≤ 3072 := hX.2.2.2
  obtain ⟨k, x, a', hk, wa, h1, h2⟩ := o_playerOf g w (xs (i + 1)) (xs (i + 2))
  refine r_aload_n F dL_law_929 rfl ?_
  refine r_aload_n F dL_law_930 rfl ?_
  refine r_iload F dL_law_931 rfl ?_
  refine r_iconst (x := 1) F dL_law_933 rfl ?_
  refine r_iadd F dL_law_934 ?_
  refine r_sld F hX dL_law_935 (by omega) ?_
  refine r_aload_n F dL_law_936 rfl ?_
  refine r_iload F dL_law_937 rfl ?_
  refine r_iconst (x := 2) F dL_law_939 rfl ?_
  refine r_iadd F dL_law_940 ?_
  refine r_sld F hX dL_law_941 (by omega) ?_
  refine r_aload_n F dL_law_942 rfl ?_
  refine r_callH (As := [.ref (gB G 0), .int (xs (i + 1)), .int (xs (i + 2)), .ref (gB G 91)]) F hML_playerOf tw_829 rfl dL_law_943 rfl rfl z (h1 v L ic) ?_
  rintro y v1 L1 ⟨rfl, f1, i1, e1⟩
  refine r_ist5 F dL_law_946 rfl rfl ?_
  refine r_aload_n F dL_law_948 rfl ?_
  refine r_aload_n F dL_law_949 rfl ?_
  refine r_iload F dL_law_950 rfl ?_
  refine r_iconst (x := 1) F dL_law_952 rfl ?_
  refine r_iadd F dL_law_953 ?_
  refine r_sld F hX dL_law_954 (by omega) ?_
  refine r_aload_n F dL_law_955 rfl ?_
  refine r_iload F dL_law_956 rfl ?_
  refine r_iconst (x := 2) F dL_law_958 rfl ?_
  refine r_iadd F dL_law_959 ?_
  refine r_sld F hX dL_law_960 (by omega) ?_
  refine r_callV2j F fMX8_playerOf tw_1057 rfl rfl rfl rfl dL_law_961 rfl rfl z (h2 v1 L1 (im.ofC f1)) ?_
  rintro y2 v2 L2 ⟨rfl, f2, e2, m2, e3⟩
  have c2 := i1.ofM f2
  refine r_ist6 F dL_law_964 rfl rfl ?_
  refine r_aload_n F dL_law_966 rfl ?_
  refine r_callV0i F fMX8_thrown tw_920 rfl rfl rfl rfl dL_law_967 rfl rfl z (m8_thrown g) ?_
  rw [e2]
  refine r_iload F dL_law_970 rfl ?_
  refine r_iceq F dL_law_972 (by omega) (by omega) (fun h972 => ?_) (fun h972 => ?_)
  · refine r_iload F dL_law_977 rfl ?_
    refine r_ifne F dL_law_979 (by omega) (fun h979 => ?_) (fun h979 => ?_)
    · exact r_goto F dL_law_994 (r_dr5 (r_dr6 (kk _ _ _ c2 m2 wa)))
    · refine r_aload_n F dL_law_982 rfl ?_
      refine r_iconst (x := 0) F dL_law_983 rfl ?_
      refine r_lald F dL_law_984 rfl ?_
      rw [e1 h979]
      refine r_iload F dL_law_985 rfl ?_
      refine r_i2l F dL_law_987 rfl ?_
      rw [e3 h979]
      refine r_lcmp F dL_law_988 ?_
      rw [lg_self]
      refine R_ifeq F dL_law_989 (fun h989 => ?_) (fun h989 => ?_)
      · exact r_goto F dL_law_994 (r_dr5 (r_dr6 (kk _ _ _ c2 m2 wa)))
      · exact absurd rfl h989
  · exact absurd rfl h972
set_option maxHeartbeats 16000000 in
theorem lc_count {G : GT} {K : KT} {b Ls i cells slots : Nat} {xs : Nat → Int32} {Q : State → Prop} {v : VV} {L : LL} {a : AS} (g : GH G) (F : Fx G K ML_law 601024 7293034) (hX : SX G K b Ls xs) (z : cells + 1 ≤ 601024 ∧ slots + 6 ≤ 7293034) (hi : i + 6 ≤ Ls) (ic : IC v a) (im : IM v a) (w : WA a) (kk : KK G K b i (cells + 1) (slots + 6) Q) : CW G K 9 cells slots Q v L 997 (lwv G b i) [] := by
  have hl3 : Ls ≤ 3072 := hX.2.2.2
  obtain ⟨k, x, a', hk, wa, h1, h2⟩ := o_count g w (xs (i + 1))
  refine r_aload_n F dL_law_997 rfl ?_
  refine r_aload_n F dL_law_998 rfl ?_
  refine r_iload F dL_law_999 rfl ?_
  refine r_iconst (x := 1) F dL_law_1001 rfl ?_
  refine r_iadd F dL_law_1002 ?_
  refine r_sld F hX dL_law_1003 (by omega) ?_
  refine r_aload_n F dL_law_1004 rfl ?_
  refine r_callH (As := [.ref (gB G 0), .int (xs (i + 1)), .ref (gB G 91)]) F hML_count tw_833 rfl dL_law_1005 rfl rfl z (h1 v L ic) ?_
  rintro y v1 L1 ⟨rfl, f1, i1, e1⟩
  refine r_ist5 F dL_law_1008 rfl rfl ?_
  refine r_aload_n F dL_law_1010 rfl ?_
  refine r_aload_n F dL_law_1011 rfl ?_
  refine r_iload F dL_law_1012 rfl ?_
  refine r_iconst (x := 1) F dL_law_1014 rfl ?_
  refine r_iadd F dL_law_1015 ?_
  refine r_sld F hX dL_law_1016 (by omega) ?_
  refine r_callV1j F fMX8_count tw_1109 rfl rfl rfl rfl dL_law_1017 rfl rfl z (h2 v1 L1 (im.ofC f1)) ?_
  rintro y2 v2 L2 ⟨rfl, f2, e2, m2, e3⟩
  have c2 := i1.ofM f2
  refine r_ist6 F dL_law_1020 rfl rfl ?_
  refine r_aload_n F dL_law_1022 rfl ?_
  refine r_callV0i F fMX8_thrown tw_920 rfl rfl rfl rfl dL_law_1023 rfl rfl z (m8_thrown g) ?_
  rw [e2]
  refine r_iload F dL_law_1026 rfl ?_
  refine r_iceq F dL_law_1028 (by omega) (by omega) (fun h1028 => ?_) (fun h1028 => ?_)
  · refine r_iload F dL_law_1033 rfl ?_
    refine r_ifne F dL_law_1035 (by omega) (fun h1035 => ?_) (fun h1035 => ?_)
    · exact r_goto F dL_law_1050 (r_dr5 (r_dr6 (kk _ _ _ c2 m2 wa)))
    · refine r_aload_n F dL_law_1038 rfl ?_
      refine r_iconst (x := 0) F dL_law_1039 rfl ?_
      refine r_lald F dL_law_1040 rfl ?_
      rw [e1 h1035]
      refine r_iload F dL_law_1041 rfl ?_
      refine r_i2l F dL_law_1043 rfl ?_
      rw [e3 h1035]
      refine r_lcmp F dL_law_1044 ?_
      rw [lg_self]
      refine R_ifeq F dL_law_1045 (fun h1045 => ?_) (fun h1045 => ?_)
      · exact r_goto F dL_law_1050 (r_dr5 (r_dr6 (kk _ _ _ c2 m2 wa)))
      · exact absurd rfl h1045
  · exact absurd rfl h1028
set_option maxHeartbeats 16000000 in
theorem lc_setting {G : GT} {K : KT} {b Ls i cells slots : Nat} {xs : Nat → Int32} {Q : State → Prop} {v : VV} {L : LL} {a : AS} (g : GH G) (F : Fx G K ML_law 601024 7293034) (hX : SX G K b Ls xs) (z : cells + 1 ≤ 601024 ∧ slots + 6 ≤ 7293034) (hi : i + 6 ≤ Ls) (ic : IC v a) (im : IM v a) (w : WA a) (kk : KK G K b i (cells + 1) (slots + 6) Q) : CW G K 9 cells slots Q v L 1053 (lwv G b i) [] := by
  have hl3 : Ls ≤ 3072 := hX.2.2.2
  obtain ⟨k, x, a', hk, wa, h1, h2⟩ := o_setting g w (xs (i + 1))
  refine r_aload_n F dL_law_1053 rfl ?_
  refine r_aload_n F dL_law_1054 rfl ?_
  refine r_iload F dL_law_1055 rfl ?_
  refine r_iconst (x := 1) F dL_law_1057 rfl ?_
  refine r_iadd F dL_law_1058 ?_
  refine r_sld F hX dL_law_1059 (by omega) ?_
  refine r_aload_n F dL_law_1060 rfl ?_
  refine r_callH (As := [.ref (gB G 0), .int (xs (i + 1)), .ref (gB G 91)]) F hML_setting tw_837 rfl dL_law_1061 rfl rfl z (h1 v L ic) ?_
  rintro y v1 L1 ⟨rfl, f1, i1, e1⟩
  refine r_ist5 F dL_law_1064 rfl rfl ?_
  refine r_aload_n F dL_law_1066 rfl ?_
  refine r_aload_n F dL_law_1067 rfl ?_
  refine r_iload F dL_law_1068 rfl ?_
  refine r_iconst (x := 1) F dL_law_1070 rfl ?_
  refine r_iadd F dL_law_1071 ?_
  refine r_sld F hX dL_law_1072 (by omega) ?_
  refine r_callV1j F fMX8_setting tw_1121 rfl rfl rfl rfl dL_law_1073 rfl rfl z (h2 v1 L1 (im.ofC f1)) ?_
  rintro y2 v2 L2 ⟨rfl, f2, e2, m2, e3⟩
  have c2 := i1.ofM f2
  refine r_ist6 F dL_law_1076 rfl rfl ?_
  refine r_aload_n F dL_law_1078 rfl ?_
  refine r_callV0i F fMX8_thrown tw_920 rfl rfl rfl rfl dL_law_1079 rfl rfl z (m8_thrown g) ?_
  rw [e2]
  refine r_iload F dL_law_1082 rfl ?_
  refine r_iceq F dL_law_1084 (by omega) (by omega) (fun h1084 => ?_) (fun h1084 => ?_)
  · refine r_iload F dL_law_1089 rfl ?_
    refine r_ifne F dL_law_1091 (by omega) (fun h1091 => ?_) (fun h1091 => ?_)
    · exact r_goto F dL_law_1106 (r_dr5 (r_dr6 (kk _ _ _ c2 m2 wa)))
    · refine r_aload_n F dL_law_1094 rfl ?_
      refine r_iconst (x := 0) F dL_law_1095 rfl ?_
      refine r_lald F dL_law_1096 rfl ?_
      rw [e1 h1091]
      refine r_iload F dL_law_1097 rfl ?_
      refine r_i2l F dL_law_1099 rfl ?_
      rw [e3 h1091]
      refine r_lcmp F dL_law_1100 ?_
      rw [lg_self]
      refine R_ifeq F dL_law_1101 (fun h1101 => ?_) (fun h1101 => ?_)
      · exact r_goto F dL_law_1106 (r_dr5 (r_dr6 (kk _ _ _ c2 m2 wa)))
      · exact absurd rfl h1101
  · exact absurd rfl h1084
set_option maxHeartbeats 16000000 in
theorem lc_force {G : GT} {K : KT} {b Ls i cells slots : Nat} {xs : Nat → Int32} {Q : State → Prop} {v : VV} {L : LL} {a : AS} (g : GH G) (F : Fx G K ML_law 601024 7293034) (hX : SX G K b Ls xs) (z : cells + 1 ≤ 601024 ∧ slots + 6 ≤ 7293034) (hi : i + 6 ≤ Ls) (ic : IC v a) (im : IM v a) (w : WA a) (kk : KK G K b i (cells + 1) (slots + 6) Q) : CW G K 9 cells slots Q v L 1109 (lwv G b i) [] := by
  have hl3 : Ls ≤ 3072 := hX.2.2.2
  obtain ⟨k, x, a', hk, wa, h1, h2⟩ := o_force g w (xs (i + 1)) (xs (i + 2)) (xs (i + 3)) (xs (i + 4)) (xs (i + 5))
  refine r_aload_n F dL_law_1109 rfl ?_
  refine r_aload_n F dL_law_1110 rfl ?_
  refine r_iload F dL_law_1111 rfl ?_
  refine r_iconst (x := 1) F dL_law_1113 rfl ?_
  refine r_iadd F dL_law_1114 ?_
  refine r_sld F hX dL_law_1115 (by omega) ?_
  refine r_aload_n F dL_law_1116 rfl ?_
  refine r_iload F dL_law_1117 rfl ?_
  refine r_iconst (x := 2) F dL_law_1119 rfl ?_
  refine r_iadd F dL_law_1120 ?_
  refine r_sld F hX dL_law_1121 (by omega) ?_
  refine r_aload_n F dL_law_1122 rfl ?_
  refine r_iload F dL_law_1123 rfl ?_
  refine r_iconst (x := 3) F dL_law_1125 rfl ?_
  refine r_iadd F dL_law_1126 ?_
  refine r_sld F hX dL_law_1127 (by omega) ?_
  refine r_aload_n F dL_law_1128 rfl ?_
  refine r_iload F dL_law_1129 rfl ?_
  refine r_iconst (x := 4) F dL_law_1131 rfl ?_
  refine r_iadd F dL_law_1132 ?_
  refine r_sld F hX dL_law_1133 (by omega) ?_
  refine r_aload_n F dL_law_1134 rfl ?_
  refine r_iload F dL_law_1135 rfl ?_
  refine r_iconst (x := 5) F dL_law_1137 rfl ?_
  refine r_iadd F dL_law_1138 ?_
  refine r_sld F hX dL_law_1139 (by omega) ?_
  refine r_aload_n F dL_law_1140 rfl ?_
  refine r_callH (As := [.ref (gB G 0), .int (xs (i + 1)), .int (xs (i + 2)), .int (xs (i + 3)), .int (xs (i + 4)), .int (xs (i + 5)), .ref (gB G 91)]) F hML_force tw_844 rfl dL_law_1141 rfl rfl z (h1 v L ic) ?_
  rintro y v1 L1 ⟨rfl, f1, i1, e1⟩
  refine r_ist5 F dL_law_1144 rfl rfl ?_
  refine r_aload_n F dL_law_1146 rfl ?_
  refine r_aload_n F dL_law_1147 rfl ?_
  refine r_iload F dL_law_1148 rfl ?_
  refine r_iconst (x := 1) F dL_law_1150 rfl ?_
  refine r_iadd F dL_law_1151 ?_
  refine r_sld F hX dL_law_1152 (by omega) ?_
  refine r_aload_n F dL_law_1153 rfl ?_
  refine r_iload F dL_law_1154 rfl ?_
  refine r_iconst (x := 2) F dL_law_1156 rfl ?_
  refine r_iadd F dL_law_1157 ?_
  refine r_sld F hX dL_law_1158 (by omega) ?_
  refine r_aload_n F dL_law_1159 rfl ?_
  refine r_iload F dL_law_1160 rfl ?_
  refine r_iconst (x := 3) F dL_law_1162 rfl ?_
  refine r_iadd F dL_law_1163 ?_
  refine r_sld F hX dL_law_1164 (by omega) ?_
  refine r_aload_n F dL_law_1165 rfl ?_
  refine r_iload F dL_law_1166 rfl ?_
  refine r_iconst (x := 4) F dL_law_1168 rfl ?_
  refine r_iadd F dL_law_1169 ?_
  refine r_sld F hX dL_law_1170 (by omega) ?_
  refine r_aload_n F dL_law_1171 rfl ?_
  refine r_iload F dL_law_1172 rfl ?_
  refine r_iconst (x := 5) F dL_law_1174 rfl ?_
  refine r_iadd F dL_law_1175 ?_
  refine r_sld F hX dL_law_1176 (by omega) ?_
  refine r_callV5j F fMX8_force tw_1125 rfl rfl rfl rfl dL_law_1177 rfl rfl z (h2 v1 L1 (im.ofC f1)) ?_
  rintro y2 v2 L2 ⟨rfl, f2, e2, m2, e3⟩
  have c2 := i1.ofM f2
  refine r_ist6 F dL_law_1180 rfl rfl ?_
  refine r_aload_n F dL_law_1182 rfl ?_
  refine r_callV0i F fMX8_thrown tw_920 rfl rfl rfl rfl dL_law_1183 rfl rfl z (m8_thrown g) ?_
  rw [e2]
  refine r_iload F dL_law_1186 rfl ?_
  refine r_iceq F dL_law_1188 (by omega) (by omega) (fun h1188 => ?_) (fun h1188 => ?_)
  · refine r_iload F dL_law_1193 rfl ?_
    refine r_ifne F dL_law_1195 (by omega) (fun h1195 => ?_) (fun h1195 => ?_)
    · exact r_goto F dL_law_1210 (r_dr5 (r_dr6 (kk _ _ _ c2 m2 wa)))
    · refine r_aload_n F dL_law_1198 rfl ?_
      refine r_iconst (x := 0) F dL_law_1199 rfl ?_
      refine r_lald F dL_law_1200 rfl ?_
      rw [e1 h1195]
      refine r_iload F dL_law_1201 rfl ?_
      refine r_i2l F dL_law_1203 rfl ?_
      rw [e3 h1195]
      refine r_lcmp F dL_law_1204 ?_
      rw [lg_self]
      refine R_ifeq F dL_law_1205 (fun h1205 => ?_) (fun h1205 => ?_)
      · exact r_goto F dL_law_1210 (r_dr5 (r_dr6 (kk _ _ _ c2 m2 wa)))
      · exact absurd rfl h1205
  · exact absurd rfl h1188
set_option maxHeartbeats 16000000 in
theorem lc_threshold {G : GT} {K : KT} {b Ls i cells slots : Nat} {xs : Nat → Int32} {Q : State → Prop} {v : VV} {L : LL} {a : AS} (g : GH G) (F : Fx G K ML_law 601024 7293034) (hX : SX G K b Ls xs) (z : cells + 1 ≤ 601024 ∧ slots + 6 ≤ 7293034) (hi : i + 6 ≤ Ls) (ic : IC v a) (im : IM v a) (w : WA a) (kk : KK G K b i (cells + 1) (slots + 6) Q) : CW G K 9 cells slots Q v L 1213 (lwv G b i) [] := by
  have hl3 : Ls ≤ 3072 := hX.2.2.2
  obtain ⟨k, x, a', hk, wa, h1, h2⟩ := o_threshold g w (xs (i + 1)) (xs (i + 2)) (xs (i + 3)) (xs (i + 4))
  refine r_aload_n F dL_law_1213 rfl ?_
  refine r_aload_n F dL_law_1214 rfl ?_
  refine r_iload F dL_law_1215 rfl ?_
  refine r_iconst (x := 1) F dL_law_1217 rfl ?_
  refine r_iadd F dL_law_1218 ?_
  refine r_sld F hX dL_law_1219 (by omega) ?_
  refine r_aload_n F dL_law_1220 rfl ?_
  refine r_iload F dL_law_1221 rfl ?_
  refine r_iconst (x := 2) F dL_law_1223 rfl ?_
  refine r_iadd F dL_law_1224 ?_
  refine r_sld F hX dL_law_1225 (by omega) ?_
  refine r_aload_n F dL_law_1226 rfl ?_
  refine r_iload F dL_law_1227 rfl ?_
  refine r_iconst (x := 3) F dL_law_1229 rfl ?_
  refine r_iadd F dL_law_1230 ?_
  refine r_sld F hX dL_law_1231 (by omega) ?_
  refine r_aload_n F dL_law_1232 rfl ?_
  refine r_iload F dL_law_1233 rfl ?_
  refine r_iconst (x := 4) F dL_law_1235 rfl ?_
  refine r_iadd F dL_law_1236 ?_
  refine r_sld F hX dL_law_1237 (by omega) ?_
  refine r_aload_n F dL_law_1238 rfl ?_
  refine r_callH (As := [.ref (gB G 0), .int (xs (i + 1)), .int (xs (i + 2)), .int (xs (i + 3)), .int (xs (i + 4)), .ref (gB G 91)]) F hML_threshold tw_851 rfl dL_law_1239 rfl rfl z (h1 v L ic) ?_
  rintro y v1 L1 ⟨rfl, f1, i1, e1⟩
  refine r_ist5 F dL_law_1242 rfl rfl ?_
  refine r_aload_n F dL_law_1244 rfl ?_
  refine r_aload_n F dL_law_1245 rfl ?_
  refine r_iload F dL_law_1246 rfl ?_
  refine r_iconst (x := 1) F dL_law_1248 rfl ?_
  refine r_iadd F dL_law_1249 ?_
  refine r_sld F hX dL_law_1250 (by omega) ?_
  refine r_aload_n F dL_law_1251 rfl ?_
  refine r_iload F dL_law_1252 rfl ?_
  refine r_iconst (x := 2) F dL_law_1254 rfl ?_
  refine r_iadd F dL_law_1255 ?_
  refine r_sld F hX dL_law_1256 (by omega) ?_
  refine r_aload_n F dL_law_1257 rfl ?_
  refine r_iload F dL_law_1258 rfl ?_
  refine r_iconst (x := 3) F dL_law_1260 rfl ?_
  refine r_iadd F dL_law_1261 ?_
  refine r_sld F hX dL_law_1262 (by omega) ?_
  refine r_aload_n F dL_law_1263 rfl ?_
  refine r_iload F dL_law_1264 rfl ?_
  refine r_iconst (x := 4) F dL_law_1266 rfl ?_
  refine r_iadd F dL_law_1267 ?_
  refine r_sld F hX dL_law_1268 (by omega) ?_
  refine r_callV4j F fMX8_threshold tw_1129 rfl rfl rfl rfl dL_law_1269 rfl rfl z (h2 v1 L1 (im.ofC f1)) ?_
  rintro y2 v2 L2 ⟨rfl, f2, e2, m2, e3⟩
  have c2 := i1.ofM f2
  refine r_ist6 F dL_law_1272 rfl rfl ?_
  refine r_aload_n F dL_law_1274 rfl ?_
  refine r_callV0i F fMX8_thrown tw_920 rfl rfl rfl rfl dL_law_1275 rfl rfl z (m8_thrown g) ?_
  rw [e2]
  refine r_iload F dL_law_1278 rfl ?_
  refine r_iceq F dL_law_1280 (by omega) (by omega) (fun h1280 => ?_) (fun h1280 => ?_)
  · refine r_iload F dL_law_1285 rfl ?_
    refine r_ifne F dL_law_1287 (by omega) (fun h1287 => ?_) (fun h1287 => ?_)
    · exact r_goto F dL_law_1302 (r_dr5 (r_dr6 (kk _ _ _ c2 m2 wa)))
    · refine r_aload_n F dL_law_1290 rfl ?_
      refine r_iconst (x := 0) F dL_law_1291 rfl ?_
      refine r_lald F dL_law_1292 rfl ?_
      rw [e1 h1287]
      refine r_iload F dL_law_1293 rfl ?_
      refine r_i2l F dL_law_1295 rfl ?_
      rw [e3 h1287]
      refine r_lcmp F dL_law_1296 ?_
      rw [lg_self]
      refine R_ifeq F dL_law_1297 (fun h1297 => ?_) (fun h1297 => ?_)
      · exact r_goto F dL_law_1302 (r_dr5 (r_dr6 (kk _ _ _ c2 m2 wa)))
      · exact absurd rfl h1297
  · exact absurd rfl h1280
set_option maxHeartbeats 16000000 in
theorem lc_advice {G : GT} {K : KT} {b Ls i cells slots : Nat} {xs : Nat → Int32} {Q : State → Prop} {v : VV} {L : LL} {a : AS} (g : GH G) (F : Fx G K ML_law 601024 7293034) (hX : SX G K b Ls xs) (z : cells + 1 ≤ 601024 ∧ slots + 6 ≤ 7293034) (hi : i + 6 ≤ Ls) (ic : IC v a) (im : IM v a) (w : WA a) (kk : KK G K b i (cells + 1) (slots + 6) Q) : CW G K 9 cells slots Q v L 1305 (lwv G b i) [] := by
  have hl3 : Ls ≤ 3072 := hX.2.2.2
  obtain ⟨k, x, a', hk, wa, h1, h2⟩ := o_advice g w (xs (i + 1))
  refine r_aload_n F dL_law_1305 rfl ?_
  refine r_aload_n F dL_law_1306 rfl ?_
  refine r_iload F dL_law_1307 rfl ?_
  refine r_iconst (x := 1) F dL_law_1309 rfl ?_
  refine r_iadd F dL_law_1310 ?_
  refine r_sld F hX dL_law_1311 (by omega) ?_
  refine r_aload_n F dL_law_1312 rfl ?_
  refine r_callH (As := [.ref (gB G 0), .int (xs (i + 1)), .ref (gB G 91)]) F hML_advice tw_855 rfl dL_law_1313 rfl rfl z (h1 v L ic) ?_
  rintro y v1 L1 ⟨rfl, f1, i1, e1⟩
  refine r_ist5 F dL_law_1316 rfl rfl ?_
  refine r_aload_n F dL_law_1318 rfl ?_
  refine r_aload_n F dL_law_1319 rfl ?_
  refine r_iload F dL_law_1320 rfl ?_
  refine r_iconst (x := 1) F dL_law_1322 rfl ?_
  refine r_iadd F dL_law_1323 ?_
  refine r_sld F hX dL_law_1324 (by omega) ?_
  refine r_callV1j F fMX8_advice tw_1137 rfl rfl rfl rfl dL_law_1325 rfl rfl z (h2 v1 L1 (im.ofC f1)) ?_
  rintro y2 v2 L2 ⟨rfl, f2, e2, m2, e3⟩
  have c2 := i1.ofM f2
  refine r_ist6 F dL_law_1328 rfl rfl ?_
  refine r_aload_n F dL_law_1330 rfl ?_
  refine r_callV0i F fMX8_thrown tw_920 rfl rfl rfl rfl dL_law_1331 rfl rfl z (m8_thrown g) ?_
  rw [e2]
  refine r_iload F dL_law_1334 rfl ?_
  refine r_iceq F dL_law_1336 (by omega) (by omega) (fun h1336 => ?_) (fun h1336 => ?_)
  · refine r_iload F dL_law_1341 rfl ?_
    refine r_ifne F dL_law_1343 (by omega) (fun h1343 => ?_) (fun h1343 => ?_)
    · exact r_goto F dL_law_1358 (r_dr5 (r_dr6 (kk _ _ _ c2 m2 wa)))
    · refine r_aload_n F dL_law_1346 rfl ?_
      refine r_iconst (x := 0) F dL_law_1347 rfl ?_
      refine r_lald F dL_law_1348 rfl ?_
      rw [e1 h1343]
      refine r_iload F dL_law_1349 rfl ?_
      refine r_i2l F dL_law_1351 rfl ?_
      rw [e3 h1343]
      refine r_lcmp F dL_law_1352 ?_
      rw [lg_self]
      refine R_ifeq F dL_law_1353 (fun h1353 => ?_) (fun h1353 => ?_)
      · exact r_goto F dL_law_1358 (r_dr5 (r_dr6 (kk _ _ _ c2 m2 wa)))
      · exact absurd rfl h1353
  · exact absurd rfl h1336
set_option maxHeartbeats 16000000 in
theorem lc_refuted {G : GT} {K : KT} {b Ls i cells slots : Nat} {xs : Nat → Int32} {Q : State → Prop} {v : VV} {L : LL} {a : AS} (g : GH G) (F : Fx G K ML_law 601024 7293034) (hX : SX G K b Ls xs) (z : cells + 1 ≤ 601024 ∧ slots + 6 ≤ 7293034) (hi : i + 6 ≤ Ls) (ic : IC v a) (im : IM v a) (w : WA a) (kk : KK G K b i (cells + 1) (slots + 6) Q) : CW G K 9 cells slots Q v L 1361 (lwv G b i) [] := by
  have hl3 : Ls ≤ 3072 := hX.2.2.2
  obtain ⟨k, x, a', hk, wa, h1, h2⟩ := o_refuted g w (xs (i + 1)) (xs (i + 2))
  refine r_aload_n F dL_law_1361 rfl ?_
  refine r_aload_n F dL_law_1362 rfl ?_
  refine r_iload F dL_law_1363 rfl ?_
  refine r_iconst (x := 1) F dL_law_1365 rfl ?_
  refine r_iadd F dL_law_1366 ?_
  refine r_sld F hX dL_law_1367 (by omega) ?_
  refine r_aload_n F dL_law_1368 rfl ?_
  refine r_iload F dL_law_1369 rfl ?_
  refine r_iconst (x := 2) F dL_law_1371 rfl ?_
  refine r_iadd F dL_law_1372 ?_
  refine r_sld F hX dL_law_1373 (by omega) ?_
  refine r_aload_n F dL_law_1374 rfl ?_
  refine r_callH (As := [.ref (gB G 0), .int (xs (i + 1)), .int (xs (i + 2)), .ref (gB G 91)]) F hML_refuted tw_859 rfl dL_law_1375 rfl rfl z (h1 v L ic) ?_
  rintro y v1 L1 ⟨rfl, f1, i1, e1⟩
  refine r_ist5 F dL_law_1378 rfl rfl ?_
  refine r_aload_n F dL_law_1380 rfl ?_
  refine r_aload_n F dL_law_1381 rfl ?_
  refine r_iload F dL_law_1382 rfl ?_
  refine r_iconst (x := 1) F dL_law_1384 rfl ?_
  refine r_iadd F dL_law_1385 ?_
  refine r_sld F hX dL_law_1386 (by omega) ?_
  refine r_aload_n F dL_law_1387 rfl ?_
  refine r_iload F dL_law_1388 rfl ?_
  refine r_iconst (x := 2) F dL_law_1390 rfl ?_
  refine r_iadd F dL_law_1391 ?_
  refine r_sld F hX dL_law_1392 (by omega) ?_
  refine r_callV2j F fMX8_refuted tw_1145 rfl rfl rfl rfl dL_law_1393 rfl rfl z (h2 v1 L1 (im.ofC f1)) ?_
  rintro y2 v2 L2 ⟨rfl, f2, e2, m2, e3⟩
  have c2 := i1.ofM f2
  refine r_ist6 F dL_law_1396 rfl rfl ?_
  refine r_aload_n F dL_law_1398 rfl ?_
  refine r_callV0i F fMX8_thrown tw_920 rfl rfl rfl rfl dL_law_1399 rfl rfl z (m8_thrown g) ?_
  rw [e2]
  refine r_iload F dL_law_1402 rfl ?_
  refine r_iceq F dL_law_1404 (by omega) (by omega) (fun h1404 => ?_) (fun h1404 => ?_)
  · refine r_iload F dL_law_1409 rfl ?_
    refine r_ifne F dL_law_1411 (by omega) (fun h1411 => ?_) (fun h1411 => ?_)
    · exact r_goto F dL_law_1426 (r_dr5 (r_dr6 (kk _ _ _ c2 m2 wa)))
    · refine r_aload_n F dL_law_1414 rfl ?_
      refine r_iconst (x := 0) F dL_law_1415 rfl ?_
      refine r_lald F dL_law_1416 rfl ?_
      rw [e1 h1411]
      refine r_iload F dL_law_1417 rfl ?_
      refine r_i2l F dL_law_1419 rfl ?_
      rw [e3 h1411]
      refine r_lcmp F dL_law_1420 ?_
      rw [lg_self]
      refine R_ifeq F dL_law_1421 (fun h1421 => ?_) (fun h1421 => ?_)
      · exact r_goto F dL_law_1426 (r_dr5 (r_dr6 (kk _ _ _ c2 m2 wa)))
      · exact absurd rfl h1421
  · exact absurd rfl h1404
set_option maxHeartbeats 16000000 in
theorem lc_bestMove {G : GT} {K : KT} {b Ls i cells slots : Nat} {xs : Nat → Int32} {Q : State → Prop} {v : VV} {L : LL} {a : AS} (g : GH G) (F : Fx G K ML_law 601024 7293034) (hX : SX G K b Ls xs) (z : cells + 1 ≤ 601024 ∧ slots + 6 ≤ 7293034) (hi : i + 6 ≤ Ls) (ic : IC v a) (im : IM v a) (w : WA a) (kk : KK G K b i (cells + 1) (slots + 6) Q) : CW G K 9 cells slots Q v L 1429 (lwv G b i) [] := by
  have hl3 : Ls ≤ 3072 := hX.2.2.2
  obtain ⟨k, x, a', hk, wa, h1, h2⟩ := o_bestMove g w (xs (i + 1)) (xs (i + 2))
  refine r_aload_n F dL_law_1429 rfl ?_
  refine r_aload_n F dL_law_1430 rfl ?_
  refine r_iload F dL_law_1431 rfl ?_
  refine r_iconst (x := 1) F dL_law_1433 rfl ?_
  refine r_iadd F dL_law_1434 ?_
  refine r_sld F hX dL_law_1435 (by omega) ?_
  refine r_aload_n F dL_law_1436 rfl ?_
  refine r_iload F dL_law_1437 rfl ?_
  refine r_iconst (x := 2) F dL_law_1439 rfl ?_
  refine r_iadd F dL_law_1440 ?_
  refine r_sld F hX dL_law_1441 (by omega) ?_
  refine r_aload_n F dL_law_1442 rfl ?_
  refine r_callH (As := [.ref (gB G 0), .int (xs (i + 1)), .int (xs (i + 2)), .ref (gB G 91)]) F hML_bestMove tw_863 rfl dL_law_1443 rfl rfl z (h1 v L ic) ?_
  rintro y v1 L1 ⟨rfl, f1, i1, e1⟩
  refine r_ist5 F dL_law_1446 rfl rfl ?_
  refine r_aload_n F dL_law_1448 rfl ?_
  refine r_aload_n F dL_law_1449 rfl ?_
  refine r_iload F dL_law_1450 rfl ?_
  refine r_iconst (x := 1) F dL_law_1452 rfl ?_
  refine r_iadd F dL_law_1453 ?_
  refine r_sld F hX dL_law_1454 (by omega) ?_
  refine r_aload_n F dL_law_1455 rfl ?_
  refine r_iload F dL_law_1456 rfl ?_
  refine r_iconst (x := 2) F dL_law_1458 rfl ?_
  refine r_iadd F dL_law_1459 ?_
  refine r_sld F hX dL_law_1460 (by omega) ?_
  refine r_callV2j F fMX8_bestMove tw_1157 rfl rfl rfl rfl dL_law_1461 rfl rfl z (h2 v1 L1 (im.ofC f1)) ?_
  rintro y2 v2 L2 ⟨rfl, f2, e2, m2, e3⟩
  have c2 := i1.ofM f2
  refine r_ist6 F dL_law_1464 rfl rfl ?_
  refine r_aload_n F dL_law_1466 rfl ?_
  refine r_callV0i F fMX8_thrown tw_920 rfl rfl rfl rfl dL_law_1467 rfl rfl z (m8_thrown g) ?_
  rw [e2]
  refine r_iload F dL_law_1470 rfl ?_
  refine r_iceq F dL_law_1472 (by omega) (by omega) (fun h1472 => ?_) (fun h1472 => ?_)
  · refine r_iload F dL_law_1477 rfl ?_
    refine r_ifne F dL_law_1479 (by omega) (fun h1479 => ?_) (fun h1479 => ?_)
    · exact r_goto F dL_law_1494 (r_dr5 (r_dr6 (kk _ _ _ c2 m2 wa)))
    · refine r_aload_n F dL_law_1482 rfl ?_
      refine r_iconst (x := 0) F dL_law_1483 rfl ?_
      refine r_lald F dL_law_1484 rfl ?_
      rw [e1 h1479]
      refine r_iload F dL_law_1485 rfl ?_
      refine r_i2l F dL_law_1487 rfl ?_
      rw [e3 h1479]
      refine r_lcmp F dL_law_1488 ?_
      rw [lg_self]
      refine R_ifeq F dL_law_1489 (fun h1489 => ?_) (fun h1489 => ?_)
      · exact r_goto F dL_law_1494 (r_dr5 (r_dr6 (kk _ _ _ c2 m2 wa)))
      · exact absurd rfl h1489
  · exact absurd rfl h1472
set_option maxHeartbeats 16000000 in
theorem lc_winIn {G : GT} {K : KT} {b Ls i cells slots : Nat} {xs : Nat → Int32} {Q : State → Prop} {v : VV} {L : LL} {a : AS} (g : GH G) (F : Fx G K ML_law 601024 7293034) (hX : SX G K b Ls xs) (z : cells + 1 ≤ 601024 ∧ slots + 6 ≤ 7293034) (hi : i + 6 ≤ Ls) (ic : IC v a) (im : IM v a) (w : WA a) (kk : KK G K b i (cells + 1) (slots + 6) Q) : CW G K 9 cells slots Q v L 1497 (lwv G b i) [] := by
  have hl3 : Ls ≤ 3072 := hX.2.2.2
  obtain ⟨k, x, a', hk, wa, h1, h2⟩ := o_winIn g w (xs (i + 1))
  refine r_aload_n F dL_law_1497 rfl ?_
  refine r_aload_n F dL_law_1498 rfl ?_
  refine r_iload F dL_law_1499 rfl ?_
  refine r_iconst (x := 1) F dL_law_1501 rfl ?_
  refine r_iadd F dL_law_1502 ?_
  refine r_sld F hX dL_law_1503 (by omega) ?_
  refine r_aload_n F dL_law_1504 rfl ?_
  refine r_callH (As := [.ref (gB G 0), .int (xs (i + 1)), .ref (gB G 91)]) F hML_winIn tw_867 rfl dL_law_1505 rfl rfl z (h1 v L ic) ?_
  rintro y v1 L1 ⟨rfl, f1, i1, e1⟩
  refine r_ist5 F dL_law_1508 rfl rfl ?_
  refine r_aload_n F dL_law_1510 rfl ?_
  refine r_aload_n F dL_law_1511 rfl ?_
  refine r_iload F dL_law_1512 rfl ?_
  refine r_iconst (x := 1) F dL_law_1514 rfl ?_
  refine r_iadd F dL_law_1515 ?_
  refine r_sld F hX dL_law_1516 (by omega) ?_
  refine r_callV1j F fMX8_winIn tw_1165 rfl rfl rfl rfl dL_law_1517 rfl rfl z (h2 v1 L1 (im.ofC f1)) ?_
  rintro y2 v2 L2 ⟨rfl, f2, e2, m2, e3⟩
  have c2 := i1.ofM f2
  refine r_ist6 F dL_law_1520 rfl rfl ?_
  refine r_aload_n F dL_law_1522 rfl ?_
  refine r_callV0i F fMX8_thrown tw_920 rfl rfl rfl rfl dL_law_1523 rfl rfl z (m8_thrown g) ?_
  rw [e2]
  refine r_iload F dL_law_1526 rfl ?_
  refine r_iceq F dL_law_1528 (by omega) (by omega) (fun h1528 => ?_) (fun h1528 => ?_)
  · refine r_iload F dL_law_1533 rfl ?_
    refine r_ifne F dL_law_1535 (by omega) (fun h1535 => ?_) (fun h1535 => ?_)
    · exact r_goto F dL_law_1550 (r_dr5 (r_dr6 (kk _ _ _ c2 m2 wa)))
    · refine r_aload_n F dL_law_1538 rfl ?_
      refine r_iconst (x := 0) F dL_law_1539 rfl ?_
      refine r_lald F dL_law_1540 rfl ?_
      rw [e1 h1535]
      refine r_iload F dL_law_1541 rfl ?_
      refine r_i2l F dL_law_1543 rfl ?_
      rw [e3 h1535]
      refine r_lcmp F dL_law_1544 ?_
      rw [lg_self]
      refine R_ifeq F dL_law_1545 (fun h1545 => ?_) (fun h1545 => ?_)
      · exact r_goto F dL_law_1550 (r_dr5 (r_dr6 (kk _ _ _ c2 m2 wa)))
      · exact absurd rfl h1545
  · exact absurd rfl h1528
set_option maxHeartbeats 16000000 in
theorem lc_forcedShare {G : GT} {K : KT} {b Ls i cells slots : Nat} {xs : Nat → Int32} {Q : State → Prop} {v : VV} {L : LL} {a : AS} (g : GH G) (F : Fx G K ML_law 601024 7293034) (hX : SX G K b Ls xs) (z : cells + 1 ≤ 601024 ∧ slots + 6 ≤ 7293034) (hi : i + 6 ≤ Ls) (ic : IC v a) (im : IM v a) (w : WA a) (kk : KK G K b i (cells + 1) (slots + 6) Q) : CW G K 9 cells slots Q v L 1553 (lwv G b i) [] := by
  have hl3 : Ls ≤ 3072 := hX.2.2.2
  refine cw_widen (M := ML_law) (Nat.le_succ cells) (Nat.le_add_right slots 6) ?_
  refine r_aload_n F dL_law_1553 rfl ?_
  refine r_callV0d F fMX7_forcedShare tw_423 rfl rfl rfl rfl dL_law_1554 rfl rfl z (m7_forcedShare g ic w) ?_
  rintro y v1 L1 ⟨y1, rfl, f1, i1⟩
  refine r_dst5 F dL_law_1557 rfl rfl ?_
  refine r_aload_n F dL_law_1559 rfl ?_
  refine r_callV0d F fMX8_forcedShare tw_1173 rfl rfl rfl rfl dL_law_1560 rfl rfl z (m8_forcedShare g (im.ofC f1) w) ?_
  rintro y2 v2 L2 ⟨z1, rfl, f2, e2, m2⟩
  have c2 := i1.ofM f2
  have e9 : y2 = y := z1.trans y1.symm
  rw [e9]
  refine r_dst7 F dL_law_1563 rfl rfl ?_
  refine r_dload F dL_law_1565 rfl ?_
  refine r_dload F dL_law_1567 rfl ?_
  refine r_dcmp F dL_law_1569 ?_
  refine R_ifeq F dL_law_1570 (fun h1570 => ?_) (fun h1570 => ?_)
  · exact r_goto F dL_law_1591 (r_dr5 (r_dr7 (kk _ _ _ c2 m2 w)))
  · refine r_dload F dL_law_1573 rfl ?_
    refine r_dload F dL_law_1575 rfl ?_
    refine r_dcmp F dL_law_1577 ?_
    refine R_ifeq F dL_law_1578 (fun h1578 => ?_) (fun h1578 => ?_)
    · exact absurd h1578 h1570
    · refine r_dload F dL_law_1581 rfl ?_
      refine r_dload F dL_law_1583 rfl ?_
      refine r_dcmp F dL_law_1585 ?_
      refine R_ifne F dL_law_1586 (fun h1586 => ?_) (fun h1586 => ?_)
      · exact r_goto F dL_law_1591 (r_dr5 (r_dr7 (kk _ _ _ c2 m2 w)))
      · exact absurd h1586 h1570
set_option maxHeartbeats 16000000 in
theorem lc_digest {G : GT} {K : KT} {b Ls i cells slots : Nat} {xs : Nat → Int32} {Q : State → Prop} {v : VV} {L : LL} {a : AS} (g : GH G) (F : Fx G K ML_law 601024 7293034) (hX : SX G K b Ls xs) (z : cells + 1 ≤ 601024 ∧ slots + 6 ≤ 7293034) (hi : i + 6 ≤ Ls) (ic : IC v a) (im : IM v a) (w : WA a) (kk : KK G K b i (cells + 1) (slots + 6) Q) : CW G K 9 cells slots Q v L 1594 (lwv G b i) [] := by
  have hl3 : Ls ≤ 3072 := hX.2.2.2
  refine cw_widen (M := ML_law) (Nat.le_succ cells) (Nat.le_add_right slots 6) ?_
  refine r_aload_n F dL_law_1594 rfl ?_
  refine r_callV0l F fMX7_digest tw_534 rfl rfl rfl rfl dL_law_1595 rfl rfl z (m7_digest g ic w) ?_
  rintro y v1 L1 ⟨y1, rfl, f1, i1⟩
  refine r_aload_n F dL_law_1598 rfl ?_
  refine r_callV0l F fMX8_digest tw_1181 rfl rfl rfl rfl dL_law_1599 rfl rfl z (m8_digest g (im.ofC f1) w) ?_
  rintro y2 v2 L2 ⟨z1, eL, f2, e2, m2⟩
  have c2 := i1.ofM f2
  rw [z1.trans y1.symm]
  refine r_lcmp F dL_law_1602 ?_
  rw [lg_self]
  refine R_ifeq F dL_law_1603 (fun h1603 => ?_) (fun h1603 => ?_)
  · exact kk _ _ _ c2 m2 w
  · exact absurd rfl h1603
