def DGc (v : VV) (L : LL) (a : AS) : Int64 → VV → LL → Prop := fun x v' L' => x = dgV a ∧ L' = L ∧ FrC v v' ∧ IC v' a
set_option maxHeartbeats 16000000 in
theorem m7_digest {G : GT} {v : VV} {L : LL} {a : AS} (g : GH G) (h : IC v a) (w : WA a) : CC G MX7_digest [.ref (gB G 0)] v L (gJ (DGc v L a)) := by
  refine cc_of g [some (.ref (gB G 0)), none, none, none, none, none] rfl rfl rfl rfl (fun K F => ?_)
  have w0 : sS a 0 ≤ 20 := w.1.1
  have wl : sL a ≤ 60 := w.2.2.2.2.1
  obtain ⟨fT, hfT⟩ : ∃ f : Nat → Int64, f = fun i => (nI (sT a i)).toInt64 := ⟨_, rfl⟩
  obtain ⟨fK, hfK⟩ : ∃ f : Nat → Int64, f = fun i => (nI (sKp a i).toNat).toInt64 := ⟨_, rfl⟩
  obtain ⟨fC, hfC⟩ : ∃ f : Nat → Int64, f = fun w => (cnV a w).toInt64 := ⟨_, rfl⟩
  have l4 : ∀ (n j : Nat) (v1 : VV), IC v1 a → FrC v v1 → sL a < j + n → j ≤ sL a → CW G K 6 0 0 (MQ (kb K) (Qn G (gJ (DGc v L a))) (ka K) (ks K) 0 0 (gA G)) v1 L 335 [some (.ref (gB G 0)), some (.long (fd fT j (mx (fd fK 2 (dg1 a)) (nI (sL a)).toInt64))), none, some (.int (nI j)), none, none] [] := by
    intro n
    induction n with
    | zero => intro j v1 _ _ a1 a2; omega
    | succ n ih =>
      intro j v1 hi hf a1 a2
      have q6 : v1 68 1 = sL a := hi.2.1.2.2.1
      have qt : ∀ i, i < sL a → v1 69 i = sT a i := hi.2.1.2.2.2
      refine r_iload_n F dX7_digest_335 rfl ?_
      refine r_aload_n F dX7_digest_336 rfl ?_
      refine r_get (x := .ref (gB G 68)) (T := TX7) (n := 4) F uw7 rfl rfl tw_278 (Or.inl rfl) dX7_digest_337 (kd_lt (rfl : kd 0 = (6,0,0)) (by decide)) (ce6 rfl) rfl ?_
      refine r_getN (T := TX1) (n := 1) F uw1 rfl rfl tw_208 (Or.inl rfl) dX7_digest_340 (kd_lt (rfl : kd 68 = (1,0,0)) (by decide)) (ce1 rfl) rfl ?_
      rw [q6]
      refine r_icge F dX7_digest_343 (by omega) (by omega) (fun h343 => ?_) (fun h343 => ?_)
      · refine r_lload_n F dX7_digest_369 rfl ?_
        exact r_lret F rfl dX7_digest_370 ⟨_, rfl, by rw [show j = sL a by omega, hfT, hfK]; rfl, rfl, hf, hi⟩
      · refine r_ldc2 F dX7_digest_346 tw_539 ?_
        refine r_lload_n F dX7_digest_349 rfl ?_
        refine r_lmul F dX7_digest_350 ?_
        refine r_aload_n F dX7_digest_351 rfl ?_
        refine r_get (x := .ref (gB G 68)) (T := TX7) (n := 4) F uw7 rfl rfl tw_278 (Or.inl rfl) dX7_digest_352 (kd_lt (rfl : kd 0 = (6,0,0)) (by decide)) (ce6 rfl) rfl ?_
        refine r_getN (x := .ref (gB G 69)) (T := TX1) (n := 0) F uw1 rfl rfl tw_206 (Or.inl rfl) dX7_digest_355 (kd_lt (rfl : kd 68 = (1,0,0)) (by decide)) (ce1 rfl) rfl ?_
        refine r_iload_n F dX7_digest_358 rfl ?_
        refine r_cald F dX7_digest_359 rfl (by omega) ?_
        rw [qt j h343]
        refine r_i2l F dX7_digest_360 rfl ?_
        refine r_ladd F dX7_digest_361 ?_
        refine r_lst1 F dX7_digest_362 rfl rfl ?_
        refine r_iinc3 (y := 1) F dX7_digest_363 rfl rfl rfl rfl ?_
        refine r_goto F dX7_digest_366 ?_
        have := ih (j + 1) v1 hi hf (by omega) (by omega)
        rw [show fd fT (j + 1) (mx (fd fK 2 (dg1 a)) (nI (sL a)).toInt64) = 31 * fd fT j (mx (fd fK 2 (dg1 a)) (nI (sL a)).toInt64) + (nI (sT a j)).toInt64 from (by rw [hfT]; rfl)] at this
        exact this
  have l3 : ∀ (n j : Nat) (v1 : VV), IC v1 a → FrC v v1 → 2 < j + n → j ≤ 2 → CW G K 6 0 0 (MQ (kb K) (Qn G (gJ (DGc v L a))) (ka K) (ks K) 0 0 (gA G)) v1 L 285 [some (.ref (gB G 0)), some (.long (fd fK j (dg1 a))), none, some (.int (nI j)), none, none] [] := by
    intro n
    induction n with
    | zero => intro j v1 _ _ a1 a2; omega
    | succ n ih =>
      intro j v1 hi hf a1 a2
      have tb := Bool.toNat_le (sKp a j)
      have q6 : v1 68 1 = sL a := hi.2.1.2.2.1
      have qk : ∀ i, i < 2 → v1 67 i = (sKp a i).toNat := fun i hi2 => (hi.2.1.2.1 i hi2).1
      refine r_iload_n F dX7_digest_285 rfl ?_
      refine r_iconst (x := 2) F dX7_digest_286 rfl ?_
      refine r_icge F dX7_digest_287 (by omega) (by omega) (fun h287 => ?_) (fun h287 => ?_)
      · refine r_ldc2 F dX7_digest_318 tw_539 ?_
        refine r_lload_n F dX7_digest_321 rfl ?_
        refine r_lmul F dX7_digest_322 ?_
        refine r_aload_n F dX7_digest_323 rfl ?_
        refine r_get (x := .ref (gB G 68)) (T := TX7) (n := 4) F uw7 rfl rfl tw_278 (Or.inl rfl) dX7_digest_324 (kd_lt (rfl : kd 0 = (6,0,0)) (by decide)) (ce6 rfl) rfl ?_
        refine r_getN (T := TX1) (n := 1) F uw1 rfl rfl tw_208 (Or.inl rfl) dX7_digest_327 (kd_lt (rfl : kd 68 = (1,0,0)) (by decide)) (ce1 rfl) rfl ?_
        rw [q6]
        refine r_i2l F dX7_digest_330 rfl ?_
        refine r_ladd F dX7_digest_331 ?_
        refine r_lst1 F dX7_digest_332 rfl rfl ?_
        refine r_iconst (x := 0) F dX7_digest_333 rfl ?_
        refine r_ist3 F dX7_digest_334 rfl rfl ?_
        have e2 : j = 2 := by omega
        subst e2
        exact l4 (sL a + 1) 0 v1 hi hf (by omega) (Nat.zero_le _)
      · refine r_ldc2 F dX7_digest_290 tw_539 ?_
        refine r_lload_n F dX7_digest_293 rfl ?_
        refine r_lmul F dX7_digest_294 ?_
        refine r_aload_n F dX7_digest_295 rfl ?_
        refine r_get (x := .ref (gB G 67)) (T := TX7) (n := 3) F uw7 rfl rfl tw_277 (Or.inl rfl) dX7_digest_296 (kd_lt (rfl : kd 0 = (6,0,0)) (by decide)) (ce6 rfl) rfl ?_
        refine r_iload_n F dX7_digest_299 rfl ?_
        refine r_zald F dX7_digest_300 rfl (by omega) ?_
        rw [qk j h287]
        refine r_ifeq F dX7_digest_301 (by omega) (fun h301 => ?_) (fun h301 => ?_)
        · refine r_iconst (x := 0) F dX7_digest_308 rfl ?_
          refine r_i2l F dX7_digest_309 rfl ?_
          refine r_ladd F dX7_digest_310 ?_
          refine r_lst1 F dX7_digest_311 rfl rfl ?_
          refine r_iinc3 (y := 1) F dX7_digest_312 rfl rfl rfl rfl ?_
          refine r_goto F dX7_digest_315 ?_
          have := ih (j + 1) v1 hi hf (by omega) (by omega)
          first
            | (rw [show fd fK (j + 1) (dg1 a) = 31 * fd fK j (dg1 a) + (nI 1).toInt64 from (by show mx _ (fK j) = _; rw [hfK]; show mx _ (nI (sKp a j).toNat).toInt64 = _; rw [show (sKp a j).toNat = 1 by omega]; rfl)] at this; exact this)
            | (rw [show fd fK (j + 1) (dg1 a) = 31 * fd fK j (dg1 a) + (nI 0).toInt64 from (by show mx _ (fK j) = _; rw [hfK]; show mx _ (nI (sKp a j).toNat).toInt64 = _; rw [show (sKp a j).toNat = 0 by omega]; rfl)] at this; exact this)
        · refine r_iconst (x := 1) F dX7_digest_304 rfl ?_
          refine r_goto F dX7_digest_305 ?_
          refine r_i2l F dX7_digest_309 rfl ?_
          refine r_ladd F dX7_digest_310 ?_
          refine r_lst1 F dX7_digest_311 rfl rfl ?_
          refine r_iinc3 (y := 1) F dX7_digest_312 rfl rfl rfl rfl ?_
          refine r_goto F dX7_digest_315 ?_
          have := ih (j + 1) v1 hi hf (by omega) (by omega)
          first
            | (rw [show fd fK (j + 1) (dg1 a) = 31 * fd fK j (dg1 a) + (nI 1).toInt64 from (by show mx _ (fK j) = _; rw [hfK]; show mx _ (nI (sKp a j).toNat).toInt64 = _; rw [show (sKp a j).toNat = 1 by omega]; rfl)] at this; exact this)
            | (rw [show fd fK (j + 1) (dg1 a) = 31 * fd fK j (dg1 a) + (nI 0).toInt64 from (by show mx _ (fK j) = _; rw [hfK]; show mx _ (nI (sKp a j).toNat).toInt64 = _; rw [show (sKp a j).toNat = 0 by omega]; rfl)] at this; exact this)
  sorry
