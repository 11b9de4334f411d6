theorem mx_eq (h x : Int64) : 31 * h + x = mx h x := rfl
theorem fd_s (f : Nat → Int64) (n : Nat) (h : Int64) : fd f (n + 1) h = mx (fd f n h) (f n) := rfl
theorem fd_0 (f : Nat → Int64) (h : Int64) : fd f 0 h = h := rfl
def plA (S : Nat → Nat) : Nat → Int64 → Int64
  | 0, h => h
  | n + 1, h => plD S n (plA S n h)
def fTa (a : AS) : Nat → Int64 := fun i => (nI (sT a i)).toInt64
def fKa (a : AS) : Nat → Int64 := fun i => (nI (sKp a i).toNat).toInt64
def fCa (a : AS) : Nat → Int64 := fun w => (cnV a w).toInt64
def fPl (S : Nat → Nat) (pl : Nat) : Nat → Int64 := fun w => (plV S pl w).toInt64
def fPo (S : Nat → Nat) (p : Nat) : Nat → Int64 := fun w => (posV S p w).toInt64
def fTh (S : Nat → Nat) (p : Nat) : Nat → Int64 := fun k => (thV (thr S (S 1) (k / 4) p (k / 2 % 2))).toInt64
def dg2 (a : AS) : Int64 := mx (fd (fKa a) 2 (dg1 a)) (nI (sL a)).toInt64
theorem plA_s (S : Nat → Nat) (n : Nat) (h : Int64) : plA S (n + 1) h = mx (mx (mx (mx (fd (fPl S n) 6 (plA S n h)) (adV S n).toInt64) (reV S n 0).toInt64) (bmV S n 0).toInt64) (wiV S n).toInt64 := rfl
theorem allP_s (S : Nat → Nat) (p : Nat) (h : Int64) : allP S (p + 1) h = fd (fTh S p) 8 (fd (fPo S p) 7 (allP S p h)) := rfl
theorem dg1_eq (a : AS) : dg1 a = mx (plA (sS a) 2 (allP (sS a) 8 (dg0 a))) (biV (shN (sS a) 16) (sS a 0)) := rfl
theorem dg0_eq (a : AS) : dg0 a = mx (mx (fd (fCa a) 11 3433) (nI (sS a 0)).toInt64) (nI (sS a 1)).toInt64 := rfl
theorem dgV_eq (a : AS) : dgV a = fd (fTa a) (sL a) (dg2 a) := rfl
def DGc (v : VV) (L : LL) (a : AS) : Int64 → VV → LL → Prop := fun x v' L' => x = dgV a ∧ L' = L ∧ FrC v v' ∧ IC v' a
abbrev DQ (G : GT) (K : KT) (v : VV) (L : LL) (a : AS) : State → Prop := MQ (kb K) (Qn G (gJ (DGc v L a))) (ka K) (ks K) 0 0 (gA G)
set_option maxHeartbeats 4000000 in
theorem d7_l4 {G : GT} {K : KT} {v : VV} {L : LL} {a : AS} (F : Fx G K MX7_digest 0 0) (w : WA a) : ∀ (n j : Nat) (v1 : VV) (x : Int64), IC v1 a → FrC v v1 → sL a < j + n → j ≤ sL a → x = fd (fTa a) j (dg2 a) → CW G K 6 0 0 (DQ G K v L a) v1 L 335 [some (.ref (gB G 0)), some (.long x), none, some (.int (nI j)), none, none] [] := by
  have wl : sL a ≤ 60 := w.2.2.2.2.1
  intro n
  induction n with
  | zero => intro j v1 x _ _ a1 a2; omega
  | succ n ih =>
    intro j v1 x hi hf a1 a2 e
    have q6 : v1 68 1 = sL a := hi.2.1.2.2.1
    have qt : ∀ i, i < sL a → v1 69 i = sT a i := hi.2.1.2.2.2
    refine r_iload_n F dX7_digest_335 rfl ?_
    refine r_aload_n F dX7_digest_336 rfl ?_
    refine r_get (x := .ref (gB G 68)) (T := TX7) (n := 4) F uw7 rfl rfl tw_278 (Or.inl rfl) dX7_digest_337 (kd_lt (rfl : kd 0 = (6,0,0)) (by decide)) (ce6 rfl) rfl ?_
    refine r_getN (T := TX1) (n := 1) F uw1 rfl rfl tw_208 (Or.inl rfl) dX7_digest_340 (kd_lt (rfl : kd 68 = (1,0,0)) (by decide)) (ce1 rfl) rfl ?_
    rw [q6]
    refine r_icge F dX7_digest_343 (by omega) (by omega) (fun h343 => ?_) (fun h343 => ?_)
    · refine r_lload_n F dX7_digest_369 rfl ?_
      exact r_lret F rfl dX7_digest_370 ⟨_, rfl, by rw [e, show j = sL a by omega, dgV_eq], rfl, hf, hi⟩
    · refine r_ldc2 F dX7_digest_346 tw_539 ?_
      refine r_lload_n F dX7_digest_349 rfl ?_
      refine r_lmul F dX7_digest_350 ?_
      refine r_aload_n F dX7_digest_351 rfl ?_
      refine r_get (x := .ref (gB G 68)) (T := TX7) (n := 4) F uw7 rfl rfl tw_278 (Or.inl rfl) dX7_digest_352 (kd_lt (rfl : kd 0 = (6,0,0)) (by decide)) (ce6 rfl) rfl ?_
      refine r_getN (x := .ref (gB G 69)) (T := TX1) (n := 0) F uw1 rfl rfl tw_206 (Or.inl rfl) dX7_digest_355 (kd_lt (rfl : kd 68 = (1,0,0)) (by decide)) (ce1 rfl) rfl ?_
      refine r_iload_n F dX7_digest_358 rfl ?_
      refine r_cald F dX7_digest_359 rfl (by omega) ?_
      rw [qt j h343]
      refine r_i2l F dX7_digest_360 rfl ?_
      refine r_ladd F dX7_digest_361 ?_
      refine r_lst1 F dX7_digest_362 rfl rfl ?_
      refine r_iinc3 (y := 1) F dX7_digest_363 rfl rfl rfl rfl ?_
      refine r_goto F dX7_digest_366 ?_
      exact ih (j + 1) v1 _ hi hf (by omega) (by omega) (by rw [fd_s, ← e, ← mx_eq]; rfl)
set_option maxHeartbeats 4000000 in
theorem d7_l3 {G : GT} {K : KT} {v : VV} {L : LL} {a : AS} (F : Fx G K MX7_digest 0 0) (w : WA a) : ∀ (n j : Nat) (v1 : VV) (x : Int64), IC v1 a → FrC v v1 → 2 < j + n → j ≤ 2 → x = fd (fKa a) j (dg1 a) → CW G K 6 0 0 (DQ G K v L a) v1 L 285 [some (.ref (gB G 0)), some (.long x), none, some (.int (nI j)), none, none] [] := by
  have wl : sL a ≤ 60 := w.2.2.2.2.1
  intro n
  induction n with
  | zero => intro j v1 x _ _ a1 a2; omega
  | succ n ih =>
    intro j v1 x hi hf a1 a2 e
    have tb := Bool.toNat_le (sKp a j)
    have q6 : v1 68 1 = sL a := hi.2.1.2.2.1
    have qk : ∀ i, i < 2 → v1 67 i = (sKp a i).toNat := fun i hi2 => (hi.2.1.2.1 i hi2).1
    refine r_iload_n F dX7_digest_285 rfl ?_
    refine r_iconst (x := 2) F dX7_digest_286 rfl ?_
    refine r_icge F dX7_digest_287 (by omega) (by omega) (fun h287 => ?_) (fun h287 => ?_)
    · refine r_ldc2 F dX7_digest_318 tw_539 ?_
      refine r_lload_n F dX7_digest_321 rfl ?_
      refine r_lmul F dX7_digest_322 ?_
      refine r_aload_n F dX7_digest_323 rfl ?_
      refine r_get (x := .ref (gB G 68)) (T := TX7) (n := 4) F uw7 rfl rfl tw_278 (Or.inl rfl) dX7_digest_324 (kd_lt (rfl : kd 0 = (6,0,0)) (by decide)) (ce6 rfl) rfl ?_
      refine r_getN (T := TX1) (n := 1) F uw1 rfl rfl tw_208 (Or.inl rfl) dX7_digest_327 (kd_lt (rfl : kd 68 = (1,0,0)) (by decide)) (ce1 rfl) rfl ?_
      rw [q6]
      refine r_i2l F dX7_digest_330 rfl ?_
      refine r_ladd F dX7_digest_331 ?_
      refine r_lst1 F dX7_digest_332 rfl rfl ?_
      refine r_iconst (x := 0) F dX7_digest_333 rfl ?_
      refine r_ist3 F dX7_digest_334 rfl rfl ?_
      exact d7_l4 F w (sL a + 1) 0 v1 _ hi hf (by omega) (Nat.zero_le _) (by rw [fd_0, e, show j = 2 by omega, mx_eq]; rfl)
    · refine r_ldc2 F dX7_digest_290 tw_539 ?_
      refine r_lload_n F dX7_digest_293 rfl ?_
      refine r_lmul F dX7_digest_294 ?_
      refine r_aload_n F dX7_digest_295 rfl ?_
      refine r_get (x := .ref (gB G 67)) (T := TX7) (n := 3) F uw7 rfl rfl tw_277 (Or.inl rfl) dX7_digest_296 (kd_lt (rfl : kd 0 = (6,0,0)) (by decide)) (ce6 rfl) rfl ?_
      refine r_iload_n F dX7_digest_299 rfl ?_
      refine r_zald F dX7_digest_300 rfl (by omega) ?_
      rw [qk j h287]
      refine r_ifeq F dX7_digest_301 (by omega) (fun h301 => ?_) (fun h301 => ?_)
      · refine r_iconst (x := 0) F dX7_digest_308 rfl ?_
        refine r_i2l F dX7_digest_309 rfl ?_
        refine r_ladd F dX7_digest_310 ?_
        refine r_lst1 F dX7_digest_311 rfl rfl ?_
        refine r_iinc3 (y := 1) F dX7_digest_312 rfl rfl rfl rfl ?_
        refine r_goto F dX7_digest_315 ?_
        refine ih (j + 1) v1 _ hi hf (by omega) (by omega) ?_
        rw [fd_s, ← e, ← mx_eq]
        unfold fKa
        first
          | (rw [show (sKp a j).toNat = 1 by omega]; done)
          | (rw [show (sKp a j).toNat = 0 by omega]; done)
          | (rw [show (sKp a j).toNat = 1 by omega]; rfl)
          | (rw [show (sKp a j).toNat = 0 by omega]; rfl)
      · refine r_iconst (x := 1) F dX7_digest_304 rfl ?_
        refine r_goto F dX7_digest_305 ?_
        refine r_i2l F dX7_digest_309 rfl ?_
        refine r_ladd F dX7_digest_310 ?_
        refine r_lst1 F dX7_digest_311 rfl rfl ?_
        refine r_iinc3 (y := 1) F dX7_digest_312 rfl rfl rfl rfl ?_
        refine r_goto F dX7_digest_315 ?_
        refine ih (j + 1) v1 _ hi hf (by omega) (by omega) ?_
        rw [fd_s, ← e, ← mx_eq]
        unfold fKa
        first
          | (rw [show (sKp a j).toNat = 1 by omega]; done)
          | (rw [show (sKp a j).toNat = 0 by omega]; done)
          | (rw [show (sKp a j).toNat = 1 by omega]; rfl)
          | (rw [show (sKp a j).toNat = 0 by omega]; rfl)
set_option maxHeartbeats 4000000 in
theorem d7_in {G : GT} {K : KT} {v : VV} {L : LL} {a : AS} (g : GH G) (F : Fx G K MX7_digest 0 0) (w : WA a) {j : Nat} (hj : j < 2) {hh : Int64} (hk : ∀ (v1 : VV) (x : Int64), IC v1 a → FrC v v1 → x = mx (mx (mx (mx (fd (fPl (sS a) j) 6 hh) (adV (sS a) j).toInt64) (reV (sS a) j 0).toInt64) (bmV (sS a) j 0).toInt64) (wiV (sS a) j).toInt64 → CW G K 6 0 0 (DQ G K v L a) v1 L 174 [some (.ref (gB G 0)), some (.long x), none, some (.int (nI (j + 1))), none, none] []) : ∀ (m i : Nat) (v1 : VV) (x : Int64), IC v1 a → FrC v v1 → 6 < i + m → i ≤ 6 → x = fd (fPl (sS a) j) i hh → CW G K 6 0 0 (DQ G K v L a) v1 L 182 [some (.ref (gB G 0)), some (.long x), none, some (.int (nI j)), some (.int (nI i)), none] [] := by
  intro m
  induction m with
  | zero => intro i v1 x _ _ b1 b2; omega
  | succ m ihm =>
    intro i v1 x hi hf b1 b2 e
    refine r_iload F dX7_digest_182 rfl ?_
    refine r_iconst (x := 5) F dX7_digest_184 rfl ?_
    refine r_icgt F dX7_digest_185 (by omega) (by omega) (fun h185 => ?_) (fun h185 => ?_)
    · rw [show i = 6 by omega] at e
      refine r_ldc2 F dX7_digest_209 tw_539 ?_
      refine r_lload_n F dX7_digest_212 rfl ?_
      refine r_lmul F dX7_digest_213 ?_
      refine r_aload_n F dX7_digest_214 rfl ?_
      refine r_iload_n F dX7_digest_215 rfl ?_
      refine r_callV1j F fMX7_advice tw_681 rfl rfl rfl rfl dX7_digest_216 rfl rfl z0 (m7_advice g hi w (pl := j) (by omega)) ?_
      rintro x2 v2 L2 ⟨y2, rfl, f2, i2⟩
      refine r_i2l F dX7_digest_219 rfl ?_
      refine r_ladd F dX7_digest_220 ?_
      refine r_lst1 F dX7_digest_221 rfl rfl ?_
      refine r_ldc2 F dX7_digest_222 tw_539 ?_
      refine r_lload_n F dX7_digest_225 rfl ?_
      refine r_lmul F dX7_digest_226 ?_
      refine r_aload_n F dX7_digest_227 rfl ?_
      refine r_iload_n F dX7_digest_228 rfl ?_
      refine r_iconst (x := 0) F dX7_digest_229 rfl ?_
      refine r_callV2j F fMX7_refuted tw_690 rfl rfl rfl rfl dX7_digest_230 rfl rfl z0 (m7_refuted g i2 w (pl := j) (b := 0) (by omega) (Nat.zero_le _)) ?_
      rintro x3 v3 L3 ⟨y3, rfl, f3, i3⟩
      refine r_i2l F dX7_digest_233 rfl ?_
      refine r_ladd F dX7_digest_234 ?_
      refine r_lst1 F dX7_digest_235 rfl rfl ?_
      refine r_ldc2 F dX7_digest_236 tw_539 ?_
      refine r_lload_n F dX7_digest_239 rfl ?_
      refine r_lmul F dX7_digest_240 ?_
      refine r_aload_n F dX7_digest_241 rfl ?_
      refine r_iload_n F dX7_digest_242 rfl ?_
      refine r_iconst (x := 0) F dX7_digest_243 rfl ?_
      refine r_callV2j F fMX7_bestMove tw_696 rfl rfl rfl rfl dX7_digest_244 rfl rfl z0 (m7_bestMove g i3 w (pl := j) (b := 0) (by omega) (Nat.zero_le _)) ?_
      rintro x4 v4 L4 ⟨y4, rfl, f4, i4⟩
      refine r_i2l F dX7_digest_247 rfl ?_
      refine r_ladd F dX7_digest_248 ?_
      refine r_lst1 F dX7_digest_249 rfl rfl ?_
      refine r_ldc2 F dX7_digest_250 tw_539 ?_
      refine r_lload_n F dX7_digest_253 rfl ?_
      refine r_lmul F dX7_digest_254 ?_
      refine r_aload_n F dX7_digest_255 rfl ?_
      refine r_iload_n F dX7_digest_256 rfl ?_
      refine r_callV1j F fMX7_winIn tw_700 rfl rfl rfl rfl dX7_digest_257 rfl rfl z0 (m7_winIn g i4 w (pl := j) (by omega)) ?_
      rintro x5 v5 L5 ⟨y5, rfl, f5, i5⟩
      refine r_i2l F dX7_digest_260 rfl ?_
      refine r_ladd F dX7_digest_261 ?_
      refine r_lst1 F dX7_digest_262 rfl rfl ?_
      refine r_iinc3 (y := 1) F dX7_digest_263 rfl rfl rfl rfl ?_
      refine r_goto F dX7_digest_266 ?_
      refine r_dr4 ?_
      exact hk v5 _ i5 ((((hf.trans f2).trans f3).trans f4).trans f5) (by rw [← e, ← mx_eq, ← mx_eq, ← mx_eq, ← mx_eq, y2, y3, y4, y5])
    · refine r_ldc2 F dX7_digest_188 tw_539 ?_
      refine r_lload_n F dX7_digest_191 rfl ?_
      refine r_lmul F dX7_digest_192 ?_
      refine r_aload_n F dX7_digest_193 rfl ?_
      refine r_iload_n F dX7_digest_194 rfl ?_
      refine r_iload F dX7_digest_195 rfl ?_
      refine r_callV2j F fMX7_playerOf tw_666 rfl rfl rfl rfl dX7_digest_197 rfl rfl z0 (m7_playerOf g hi w (pl := j) (i := i) (by omega) (by omega)) ?_
      rintro x2 v2 L2 ⟨y2, rfl, f2, i2⟩
      refine r_i2l F dX7_digest_200 rfl ?_
      refine r_ladd F dX7_digest_201 ?_
      refine r_lst1 F dX7_digest_202 rfl rfl ?_
      refine r_iinc4 (y := 1) F dX7_digest_203 rfl rfl rfl rfl ?_
      refine r_goto F dX7_digest_206 ?_
      exact ihm (i + 1) v2 _ i2 (hf.trans f2) (by omega) (by omega) (by rw [fd_s, ← e, ← mx_eq, y2]; rfl)
set_option maxHeartbeats 4000000 in
theorem d7_lp {G : GT} {K : KT} {v : VV} {L : LL} {a : AS} (g : GH G) (F : Fx G K MX7_digest 0 0) (w : WA a) : ∀ (n j : Nat) (v1 : VV) (x : Int64), IC v1 a → FrC v v1 → 2 < j + n → j ≤ 2 → x = plA (sS a) j (allP (sS a) 8 (dg0 a)) → CW G K 6 0 0 (DQ G K v L a) v1 L 174 [some (.ref (gB G 0)), some (.long x), none, some (.int (nI j)), none, none] [] := by
  have w0 : sS a 0 ≤ 20 := w.1.1
  intro n
  induction n with
  | zero => intro j v1 x _ _ a1 a2; omega
  | succ n ih =>
    intro j v1 x hi hf a1 a2 e
    refine r_iload_n F dX7_digest_174 rfl ?_
    refine r_iconst (x := 2) F dX7_digest_175 rfl ?_
    refine r_icge F dX7_digest_176 (by omega) (by omega) (fun h176 => ?_) (fun h176 => ?_)
    · refine r_ldc2 F dX7_digest_269 tw_539 ?_
      refine r_lload_n F dX7_digest_272 rfl ?_
      refine r_lmul F dX7_digest_273 ?_
      refine r_aload_n F dX7_digest_274 rfl ?_
      refine r_callV0d F fMX7_forcedShare tw_704 rfl rfl rfl rfl dX7_digest_275 rfl rfl z0 (m7_forcedShare g hi w) ?_
      rintro y v2 L2 ⟨y2, rfl, f2, i2⟩
      rw [y2]
      refine r_callS1l F fMX7_bitsOf tw_705 rfl dX7_digest_278 rfl rfl z0 (m7_bitsOf g w0 (shN_le (Nat.le_refl 16))) ?_
      rintro y3 v3 L3 ⟨z3, rfl, rfl⟩
      refine r_ladd F dX7_digest_281 ?_
      refine r_lst1 F dX7_digest_282 rfl rfl ?_
      refine r_iconst (x := 0) F dX7_digest_283 rfl ?_
      refine r_ist3 F dX7_digest_284 rfl rfl ?_
      exact d7_l3 F w 3 0 _ _ i2 (hf.trans f2) (by omega) (by omega) (by rw [fd_0, dg1_eq, e, show j = 2 by omega, mx_eq, z3])
    · refine r_iconst (x := 0) F dX7_digest_179 rfl ?_
      refine r_ist4 F dX7_digest_180 rfl rfl ?_
      exact d7_in g F w h176 (fun v2 x2 i2 f2 e2 => ih (j + 1) v2 x2 i2 f2 (by omega) (by omega) (by rw [e2, plA_s])) 7 0 v1 x hi hf (by omega) (by omega) (by rw [fd_0, e])
set_option maxHeartbeats 4000000 in
theorem d7_i5 {G : GT} {K : KT} {v : VV} {L : LL} {a : AS} (g : GH G) (F : Fx G K MX7_digest 0 0) (w : WA a) {j pl : Nat} (hj : j < 8) (hp : pl < 2) {hh : Int64} (hk : ∀ (v1 : VV) (x : Int64), IC v1 a → FrC v v1 → x = fd (fTh (sS a) j) (4 * (pl + 1)) hh → CW G K 6 0 0 (DQ G K v L a) v1 L 103 [some (.ref (gB G 0)), some (.long x), none, some (.int (nI j)), some (.int (nI (pl + 1))), none] []) : ∀ (q st : Nat) (v1 : VV) (x : Int64), IC v1 a → FrC v v1 → 2 < st + q → st ≤ 2 → x = fd (fTh (sS a) j) (4 * pl + 2 * st) hh → CW G K 6 0 0 (DQ G K v L a) v1 L 112 [some (.ref (gB G 0)), some (.long x), none, some (.int (nI j)), some (.int (nI pl)), some (.int (nI st))] [] := by
  intro q
  induction q with
  | zero => intro st v1 x _ _ c1 c2; omega
  | succ q ihq =>
    intro st v1 x hi hf c1 c2 e
    have t1 : st < 2 → fTh (sS a) j (4 * pl + 2 * st) = (thV (thr (sS a) (sS a 1) pl j st)).toInt64 := fun _ => by
      show (thV (thr (sS a) (sS a 1) ((4 * pl + 2 * st) / 4) j ((4 * pl + 2 * st) / 2 % 2))).toInt64 = _
      rw [show (4 * pl + 2 * st) / 4 = pl by omega, show (4 * pl + 2 * st) / 2 % 2 = st by omega]
    have t2 : st < 2 → fTh (sS a) j (4 * pl + 2 * st + 1) = (thV (thr (sS a) (sS a 1) pl j st)).toInt64 := fun _ => by
      show (thV (thr (sS a) (sS a 1) ((4 * pl + 2 * st + 1) / 4) j ((4 * pl + 2 * st + 1) / 2 % 2))).toInt64 = _
      rw [show (4 * pl + 2 * st + 1) / 4 = pl by omega, show (4 * pl + 2 * st + 1) / 2 % 2 = st by omega]
    refine r_iload F dX7_digest_112 rfl ?_
    refine r_iconst (x := 2) F dX7_digest_114 rfl ?_
    refine r_icge F dX7_digest_115 (by omega) (by omega) (fun h115 => ?_) (fun h115 => ?_)
    · refine r_iinc4 (y := 1) F dX7_digest_160 rfl rfl rfl rfl ?_
      refine r_goto F dX7_digest_163 ?_
      refine r_dr5 ?_
      exact hk v1 x hi hf (by rw [e, show 4 * pl + 2 * st = 4 * (pl + 1) by omega])
    · refine r_ldc2 F dX7_digest_118 tw_539 ?_
      refine r_lload_n F dX7_digest_121 rfl ?_
      refine r_lmul F dX7_digest_122 ?_
      refine r_aload_n F dX7_digest_123 rfl ?_
      refine r_iload F dX7_digest_124 rfl ?_
      refine r_iload_n F dX7_digest_126 rfl ?_
      refine r_iload F dX7_digest_127 rfl ?_
      refine r_iconst (x := 0) F dX7_digest_129 rfl ?_
      refine r_callV4j F fMX7_threshold tw_648 rfl rfl rfl rfl dX7_digest_130 rfl rfl z0 (m7_threshold g hi w (pl := pl) (p := j) (st := st) (i := 0) (by omega) hj (by omega) (by omega)) ?_
      rintro x2 v2 L2 ⟨y2, rfl, f2, i2⟩
      refine r_i2l F dX7_digest_133 rfl ?_
      refine r_ladd F dX7_digest_134 ?_
      refine r_lst1 F dX7_digest_135 rfl rfl ?_
      refine r_ldc2 F dX7_digest_136 tw_539 ?_
      refine r_lload_n F dX7_digest_139 rfl ?_
      refine r_lmul F dX7_digest_140 ?_
      refine r_aload_n F dX7_digest_141 rfl ?_
      refine r_iload F dX7_digest_142 rfl ?_
      refine r_iload_n F dX7_digest_144 rfl ?_
      refine r_iload F dX7_digest_145 rfl ?_
      refine r_iconst (x := 1) F dX7_digest_147 rfl ?_
      refine r_callV4j F fMX7_threshold tw_648 rfl rfl rfl rfl dX7_digest_148 rfl rfl z0 (m7_threshold g i2 w (pl := pl) (p := j) (st := st) (i := 1) (by omega) hj (by omega) (by omega)) ?_
      rintro x3 v3 L3 ⟨y3, rfl, f3, i3⟩
      refine r_i2l F dX7_digest_151 rfl ?_
      refine r_ladd F dX7_digest_152 ?_
      refine r_lst1 F dX7_digest_153 rfl rfl ?_
      refine r_iinc5 (y := 1) F dX7_digest_154 rfl rfl rfl rfl ?_
      refine r_goto F dX7_digest_157 ?_
      exact ihq (st + 1) v3 _ i3 ((hf.trans f2).trans f3) (by omega) (by omega) (by rw [show 4 * pl + 2 * (st + 1) = 4 * pl + 2 * st + 1 + 1 by omega, fd_s, fd_s, ← e, t1 h115, t2 h115, ← mx_eq, ← mx_eq, y2, y3])
set_option maxHeartbeats 4000000 in
theorem d7_i3 {G : GT} {K : KT} {v : VV} {L : LL} {a : AS} (g : GH G) (F : Fx G K MX7_digest 0 0) (w : WA a) {j : Nat} (hj : j < 8) {hh : Int64} (hk : ∀ (v1 : VV) (x : Int64), IC v1 a → FrC v v1 → x = fd (fTh (sS a) j) 8 hh → CW G K 6 0 0 (DQ G K v L a) v1 L 63 [some (.ref (gB G 0)), some (.long x), none, some (.int (nI (j + 1))), none, none] []) : ∀ (m pl : Nat) (v1 : VV) (x : Int64), IC v1 a → FrC v v1 → 2 < pl + m → pl ≤ 2 → x = fd (fTh (sS a) j) (4 * pl) hh → CW G K 6 0 0 (DQ G K v L a) v1 L 103 [some (.ref (gB G 0)), some (.long x), none, some (.int (nI j)), some (.int (nI pl)), none] [] := by
  intro m
  induction m with
  | zero => intro pl v1 x _ _ b1 b2; omega
  | succ m ihm =>
    intro pl v1 x hi hf b1 b2 e
    refine r_iload F dX7_digest_103 rfl ?_
    refine r_iconst (x := 2) F dX7_digest_105 rfl ?_
    refine r_icge F dX7_digest_106 (by omega) (by omega) (fun h106 => ?_) (fun h106 => ?_)
    · refine r_iinc3 (y := 1) F dX7_digest_166 rfl rfl rfl rfl ?_
      refine r_goto F dX7_digest_169 ?_
      refine r_dr4 ?_
      exact hk v1 x hi hf (by rw [e, show 4 * pl = 8 by omega])
    · refine r_iconst (x := 0) F dX7_digest_109 rfl ?_
      refine r_ist5 F dX7_digest_110 rfl rfl ?_
      exact d7_i5 g F w hj h106 (fun v2 x2 i2 f2 e2 => ihm (pl + 1) v2 x2 i2 f2 (by omega) (by omega) e2) 3 0 v1 x hi hf (by omega) (by omega) (by rw [e]; rfl)
set_option maxHeartbeats 4000000 in
theorem d7_i2 {G : GT} {K : KT} {v : VV} {L : LL} {a : AS} (g : GH G) (F : Fx G K MX7_digest 0 0) (w : WA a) {j : Nat} (hj : j < 8) {hh : Int64} (hk : ∀ (v1 : VV) (x : Int64), IC v1 a → FrC v v1 → x = fd (fTh (sS a) j) 8 (fd (fPo (sS a) j) 7 hh) → CW G K 6 0 0 (DQ G K v L a) v1 L 63 [some (.ref (gB G 0)), some (.long x), none, some (.int (nI (j + 1))), none, none] []) : ∀ (m i : Nat) (v1 : VV) (x : Int64), IC v1 a → FrC v v1 → 7 < i + m → i ≤ 7 → x = fd (fPo (sS a) j) i hh → CW G K 6 0 0 (DQ G K v L a) v1 L 72 [some (.ref (gB G 0)), some (.long x), none, some (.int (nI j)), some (.int (nI i)), none] [] := by
  intro m
  induction m with
  | zero => intro i v1 x _ _ b1 b2; omega
  | succ m ihm =>
    intro i v1 x hi hf b1 b2 e
    refine r_iload F dX7_digest_72 rfl ?_
    refine r_bipush (x := 6) F dX7_digest_74 rfl ?_
    refine r_icgt F dX7_digest_76 (by omega) (by omega) (fun h76 => ?_) (fun h76 => ?_)
    · refine r_iconst (x := 0) F dX7_digest_100 rfl ?_
      refine r_ist4 F dX7_digest_101 rfl rfl ?_
      exact d7_i3 g F w hj hk 3 0 v1 x hi hf (by omega) (by omega) (by rw [e, show i = 7 by omega]; rfl)
    · refine r_ldc2 F dX7_digest_79 tw_539 ?_
      refine r_lload_n F dX7_digest_82 rfl ?_
      refine r_lmul F dX7_digest_83 ?_
      refine r_aload_n F dX7_digest_84 rfl ?_
      refine r_iload_n F dX7_digest_85 rfl ?_
      refine r_iload F dX7_digest_86 rfl ?_
      refine r_callV2j F fMX7_positionOf tw_619 rfl rfl rfl rfl dX7_digest_88 rfl rfl z0 (m7_positionOf g hi w (p := j) (i := i) hj (by omega)) ?_
      rintro x2 v2 L2 ⟨y2, rfl, f2, i2⟩
      refine r_i2l F dX7_digest_91 rfl ?_
      refine r_ladd F dX7_digest_92 ?_
      refine r_lst1 F dX7_digest_93 rfl rfl ?_
      refine r_iinc4 (y := 1) F dX7_digest_94 rfl rfl rfl rfl ?_
      refine r_goto F dX7_digest_97 ?_
      exact ihm (i + 1) v2 _ i2 (hf.trans f2) (by omega) (by omega) (by rw [fd_s, ← e, ← mx_eq, y2]; rfl)
set_option maxHeartbeats 4000000 in
theorem d7_lq {G : GT} {K : KT} {v : VV} {L : LL} {a : AS} (g : GH G) (F : Fx G K MX7_digest 0 0) (w : WA a) : ∀ (n j : Nat) (v1 : VV) (x : Int64), IC v1 a → FrC v v1 → 8 < j + n → j ≤ 8 → x = allP (sS a) j (dg0 a) → CW G K 6 0 0 (DQ G K v L a) v1 L 63 [some (.ref (gB G 0)), some (.long x), none, some (.int (nI j)), none, none] [] := by
  intro n
  induction n with
  | zero => intro j v1 x _ _ a1 a2; omega
  | succ n ih =>
    intro j v1 x hi hf a1 a2 e
    refine r_iload_n F dX7_digest_63 rfl ?_
    refine r_bipush (x := 8) F dX7_digest_64 rfl ?_
    refine r_icge F dX7_digest_66 (by omega) (by omega) (fun h66 => ?_) (fun h66 => ?_)
    · refine r_iconst (x := 0) F dX7_digest_172 rfl ?_
      refine r_ist3 F dX7_digest_173 rfl rfl ?_
      exact d7_lp g F w 3 0 v1 x hi hf (by omega) (by omega) (by rw [e, show j = 8 by omega]; rfl)
    · refine r_iconst (x := 0) F dX7_digest_69 rfl ?_
      refine r_ist4 F dX7_digest_70 rfl rfl ?_
      exact d7_i2 g F w h66 (fun v2 x2 i2 f2 e2 => ih (j + 1) v2 x2 i2 f2 (by omega) (by omega) (by rw [e2, allP_s])) 8 0 v1 x hi hf (by omega) (by omega) (by rw [fd_0, e])
set_option maxHeartbeats 4000000 in
theorem d7_lc {G : GT} {K : KT} {v : VV} {L : LL} {a : AS} (g : GH G) (F : Fx G K MX7_digest 0 0) (w : WA a) : ∀ (n j : Nat) (v1 : VV) (x : Int64), IC v1 a → FrC v v1 → 11 < j + n → j ≤ 11 → x = fd (fCa a) j 3433 → CW G K 6 0 0 (DQ G K v L a) v1 L 6 [some (.ref (gB G 0)), some (.long x), none, some (.int (nI j)), none, none] [] := by
  intro n
  induction n with
  | zero => intro j v1 x _ _ a1 a2; omega
  | succ n ih =>
    intro j v1 x hi hf a1 a2 e
    have q0 : v1 1 1 = sS a 0 := hi.1.1
    have q1 : v1 1 2 = sS a 1 := hi.1.2.1
    refine r_iload_n F dX7_digest_6 rfl ?_
    refine r_bipush (x := 10) F dX7_digest_7 rfl ?_
    refine r_icgt F dX7_digest_9 (by omega) (by omega) (fun h9 => ?_) (fun h9 => ?_)
    · refine r_ldc2 F dX7_digest_31 tw_539 ?_
      refine r_lload_n F dX7_digest_34 rfl ?_
      refine r_lmul F dX7_digest_35 ?_
      refine r_aload_n F dX7_digest_36 rfl ?_
      refine r_get (x := .ref (gB G 1)) (T := TX7) (n := 0) F uw7 rfl rfl tw_274 (Or.inl rfl) dX7_digest_37 (kd_lt (rfl : kd 0 = (6,0,0)) (by decide)) (ce6 rfl) rfl ?_
      refine r_getN (T := TX5) (n := 1) F uw5 rfl rfl tw_132 (Or.inl rfl) dX7_digest_40 (kd_lt (rfl : kd 1 = (4,0,0)) (by decide)) (ce4 rfl) rfl ?_
      rw [q0]
      refine r_i2l F dX7_digest_43 rfl ?_
      refine r_ladd F dX7_digest_44 ?_
      refine r_lst1 F dX7_digest_45 rfl rfl ?_
      refine r_ldc2 F dX7_digest_46 tw_539 ?_
      refine r_lload_n F dX7_digest_49 rfl ?_
      refine r_lmul F dX7_digest_50 ?_
      refine r_aload_n F dX7_digest_51 rfl ?_
      refine r_get (x := .ref (gB G 1)) (T := TX7) (n := 0) F uw7 rfl rfl tw_274 (Or.inl rfl) dX7_digest_52 (kd_lt (rfl : kd 0 = (6,0,0)) (by decide)) (ce6 rfl) rfl ?_
      refine r_getN (T := TX5) (n := 2) F uw5 rfl rfl tw_135 (Or.inl rfl) dX7_digest_55 (kd_lt (rfl : kd 1 = (4,0,0)) (by decide)) (ce4 rfl) rfl ?_
      rw [q1]
      refine r_i2l F dX7_digest_58 rfl ?_
      refine r_ladd F dX7_digest_59 ?_
      refine r_lst1 F dX7_digest_60 rfl rfl ?_
      refine r_iconst (x := 0) F dX7_digest_61 rfl ?_
      refine r_ist3 F dX7_digest_62 rfl rfl ?_
      exact d7_lq g F w 9 0 v1 _ hi hf (by omega) (by omega) (by show _ = dg0 a; rw [dg0_eq, e, show j = 11 by omega, mx_eq, mx_eq])
    · refine r_ldc2 F dX7_digest_12 tw_539 ?_
      refine r_lload_n F dX7_digest_15 rfl ?_
      refine r_lmul F dX7_digest_16 ?_
      refine r_aload_n F dX7_digest_17 rfl ?_
      refine r_iload_n F dX7_digest_18 rfl ?_
      refine r_callV1j F fMX7_count tw_540 rfl rfl rfl rfl dX7_digest_19 rfl rfl z0 (m7_count g hi w (i := j) (by omega)) ?_
      rintro x2 v2 L2 ⟨y2, rfl, f2, i2⟩
      refine r_i2l F dX7_digest_22 rfl ?_
      refine r_ladd F dX7_digest_23 ?_
      refine r_lst1 F dX7_digest_24 rfl rfl ?_
      refine r_iinc3 (y := 1) F dX7_digest_25 rfl rfl rfl rfl ?_
      refine r_goto F dX7_digest_28 ?_
      exact ih (j + 1) v2 _ i2 (hf.trans f2) (by omega) (by omega) (by rw [fd_s, ← e, ← mx_eq, y2]; rfl)
set_option maxHeartbeats 4000000 in
theorem m7_digest {G : GT} {v : VV} {L : LL} {a : AS} (g : GH G) (h : IC v a) (w : WA a) : CC G MX7_digest [.ref (gB G 0)] v L (gJ (DGc v L a)) := by
  refine cc_of g [some (.ref (gB G 0)), none, none, none, none, none] rfl rfl rfl rfl (fun K F => ?_)
  refine r_ldc2 F dX7_digest_0 tw_538 ?_
  refine r_lst1 F dX7_digest_3 rfl rfl ?_
  refine r_iconst (x := 0) F dX7_digest_4 rfl ?_
  refine r_ist3 F dX7_digest_5 rfl rfl ?_
  exact d7_lc g F w 12 0 v _ h (FrC.rf v) (by omega) (by omega) rfl
