/-! what a run has told so far: the state, the saved states, the snapshots, the text -/
abbrev AS : Type := (Nat → Nat) × Nat × (Nat → Nat → Nat) × (Nat → Nat → Nat) × (Nat → Bool) × (Nat → Nat) × Nat
abbrev sS (a : AS) : Nat → Nat := a.1
abbrev sN (a : AS) : Nat := a.2.1
abbrev sP (a : AS) : Nat → Nat → Nat := a.2.2.1
abbrev sK (a : AS) : Nat → Nat → Nat := a.2.2.2.1
abbrev sKp (a : AS) : Nat → Bool := a.2.2.2.2.1
abbrev sT (a : AS) : Nat → Nat := a.2.2.2.2.2.1
abbrev sL (a : AS) : Nat := a.2.2.2.2.2.2
def WA (a : AS) : Prop := WS (sS a) ∧ sN a ≤ 6 ∧ (∀ i, i < sN a → WS (sP a i)) ∧ (∀ i, i < 2 → sKp a i = true → WS (sK a i)) ∧ sL a ≤ 60 ∧ ∀ i, i < sL a → 33 ≤ sT a i ∧ sT a i ≤ 126
def Ch (v : VV) (S : Nat → Nat) : Prop := (∃ n, n ≤ 13 ∧ v 75 3 = n ∧ En2 v S n) ∧ ∃ n, n ≤ 13 ∧ v 79 3 = n ∧ En5 v S n
def Ch0 (v : VV) : Prop := v 75 3 = 0 ∧ v 79 3 = 0
theorem Ch0.ch {v : VV} (h : Ch0 v) (S : Nat → Nat) : Ch v S := ⟨⟨0, Nat.zero_le _, h.1, fun t ht => absurd ht (Nat.not_lt_zero t)⟩, ⟨0, Nat.zero_le _, h.2, fun t ht => absurd ht (Nat.not_lt_zero t)⟩⟩
/-- all but the state and what is told of it -/
def IR (v : VV) (a : AS) : Prop := RSv v (sN a) (sP a) ∧ (∀ i, i < 2 → v 67 i = (sKp a i).toNat ∧ (sKp a i = true → RSt (8 + 7 * i) v (sK a i))) ∧ v 68 1 = sL a ∧ ∀ i, i < sL a → v 69 i = sT a i
def IC (v : VV) (a : AS) : Prop := RSt 1 v (sS a) ∧ IR v a ∧ Ch v (sS a)
def FrC (v v' : VV) : Prop := ∀ k, 83 ≤ k → v' k = v k
theorem FrC.rf (v : VV) : FrC v v := fun _ _ => rfl
theorem FrC.trans {a b c : VV} (h : FrC a b) (h2 : FrC b c) : FrC a c := fun k hk => (h2 k hk).trans (h k hk)
theorem FrT.c {v v' : VV} (h : FrT v v') : FrC v v' := fun k hk => h.1 k (by omega) (by omega) (by omega) (by omega) (by omega)
theorem IR.kept {v v' : VV} {a : AS} (h : IR v a) (c : ∀ k, 8 ≤ k → k < 70 → k ≠ 68 → v' k = v k) (c1 : v' 68 1 = v 68 1) : IR v' a := by
  obtain ⟨h1, h2, h3, h4⟩ := h
  refine ⟨h1.kept (fun j a b => c j (by omega) (by omega) (by omega)), fun i hi => ?_, by rw [c1, h3], fun i hi => by rw [c 69 (by decide) (by decide) (by decide), h4 i hi]⟩
  rw [c 67 (by decide) (by decide) (by decide)]
  exact ⟨(h2 i hi).1, fun hk => ((h2 i hi).2 hk).kept (fun j a b => c j (by omega) (by omega) (by omega))⟩
theorem Ch.kept {v v' : VV} {S : Nat → Nat} (h : Ch v S) (c : ∀ k, 75 ≤ k → k < 83 → v' k = v k) : Ch v' S := by
  obtain ⟨⟨n, h1, h2, h3⟩, m, h4, h5, h6⟩ := h
  refine ⟨⟨n, h1, by rw [c 75 (by decide) (by decide), h2], fun t ht pl hp p hq st hs => ?_⟩, m, h4, by rw [c 79 (by decide) (by decide), h5], fun t ht pl hp p hq st hs => ?_⟩
  · rw [c 78 (by decide) (by decide)]; exact h3 t ht pl hp p hq st hs
  · rw [c 82 (by decide) (by decide)]; exact h6 t ht pl hp p hq st hs
theorem IC.kept {v v' : VV} {a : AS} (h : IC v a) (c : ∀ k, k < 83 → v' k = v k) : IC v' a := ⟨h.1.kept (fun j a b => c j (by omega)), h.2.1.kept (fun k a b d => c k (by omega)) (by rw [c 68 (by decide)]), h.2.2.kept (fun k a b => c k b)⟩
/-- the same board and chips: the same is told -/
def sameB (S S' : Nat → Nat) : Prop := S' 0 = S 0 ∧ ∀ j, 12 ≤ j → S' j = S j
theorem ovr_cong {S S' : Nat → Nat} (h : sameB S S') (p : Nat) : ovr S' p = ovr S p := by unfold ovr; rw [h.2 _ (by omega), h.2 _ (by omega)]
theorem won_cong {S S' : Nat → Nat} (h : sameB S S') (pl p : Nat) : won S' pl p = won S pl p := by unfold won; rw [h.2 _ (by omega)]
theorem eaz_cong {f f' S S' : Nat → Nat} (hf : ∀ x, f' x = f x) (h : sameB S S') (p : Nat) : ∀ n, eaz f' S' p n = eaz f S p n
  | 0 => rfl
  | n + 1 => by
    have e : S' (14 + 6 * p + n) = S (14 + 6 * p + n) := h.2 _ (by omega)
    unfold eaz
    rw [eaz_cong hf h p n, e, hf]
theorem haz_cong {f f' S S' : Nat → Nat} (hf : ∀ x, f' x = f x) (h : sameB S S') (p : Nat) : ∀ n, haz f' S' p n = haz f S p n
  | 0 => rfl
  | n + 1 => by
    have e : S' (14 + 6 * p + n) = S (14 + 6 * p + n) := h.2 _ (by omega)
    unfold haz
    rw [haz_cong hf h p n, e, hf]
theorem thr_cong {S S' : Nat → Nat} (h : sameB S S') : ∀ t pl p st, thr S' t pl p st = thr S t pl p st
  | 0, pl, p, st => by
    show (if won S' pl p then 0 else 99) = if won S pl p then 0 else 99
    rw [won_cong h]
  | t + 1, pl, p, st => by
    have e1 : soT S' t pl p = soT S t pl p := by
      funext σ
      unfold soT
      rw [h.2 _ (by omega)]
      exact eaz_cong (fun x => thr_cong h t pl x σ) h p _
    have e2 : eaT S' t pl p = eaT S t pl p := by
      funext σ
      unfold eaT
      rw [h.2 _ (by omega)]
      exact haz_cong (fun x => thr_cong h t pl x σ) h p _
    rw [thr_s, thr_s, won_cong h, ovr_cong h, e1, e2, h.1]
theorem Ch.cong {v : VV} {S S' : Nat → Nat} (hs : sameB S S') (h : Ch v S) : Ch v S' := by
  obtain ⟨⟨n, h1, h2, h3⟩, m, h4, h5, h6⟩ := h
  exact ⟨⟨n, h1, h2, fun t ht pl hp p hq st hs' => by rw [h3 t ht pl hp p hq st hs', thr_cong hs, hs.1]⟩, m, h4, h5, fun t ht pl hp p hq st hs' => by rw [h6 t ht pl hp p hq st hs', thr_cong hs]⟩
/-- saved before the board or the chips change -/
def svA (a : AS) : AS := (sS a, svN (sN a), svP (sN a) (sP a) (sS a), a.2.2.2)
def stA (a : AS) (S : Nat → Nat) : AS := (S, a.2)
theorem WA.sv {a : AS} (w : WA a) : WA (svA a) := by
  obtain ⟨w1, w2, w3, w4⟩ := w
  refine ⟨w1, ?_, fun i hi => ?_, w4⟩
  · show svN (sN a) ≤ 6
    unfold svN; split <;> omega
  · have hi : i < svN (sN a) := hi
    show WS (svP (sN a) (sP a) (sS a) i)
    unfold svN at hi
    unfold svP
    split at hi
    · rename_i h6
      rw [if_pos h6]
      split
      · exact w1
      · exact w3 _ (by omega)
    · rename_i h6
      rw [if_neg h6]
      split
      · exact w1
      · exact w3 _ (by omega)
theorem WA.st {a : AS} {S : Nat → Nat} (w : WA a) (h : WS S) : WA (stA a S) := ⟨h, w.2⟩
theorem IR.st {v : VV} {a : AS} {S : Nat → Nat} (h : IR v a) : IR v (stA a S) := h
set_option maxHeartbeats 4000000 in
theorem m7_forgetForced {G : GT} {v : VV} {L : LL} (g : GH G) : CC G MX7_forgetForced [.ref (gB G 0)] v L (rV (up2 (up2 v 75 3 0) 79 3 0) L) := by
  refine cc_of g [some (.ref (gB G 0))] rfl rfl rfl rfl (fun K F => ?_)
  refine r_aload_n F dX7_forgetForced_0 rfl ?_
  refine r_get (x := .ref (gB G 75)) (T := TX7) (n := 5) F uw7 rfl rfl tw_279 (Or.inl rfl) dX7_forgetForced_1 (kd_lt (rfl : kd 0 = (6,0,0)) (by decide)) (ce6 rfl) rfl ?_
  refine r_callU0v F fMX2_forget tw_327 tw_328 (Or.inl tw_329) (by decide) tw_330 tw_331 rfl rfl rfl rfl rfl dX7_forgetForced_4 rfl rfl z0 (m2_forget2 g) ?_
  refine r_aload_n F dX7_forgetForced_7 rfl ?_
  refine r_get (x := .ref (gB G 79)) (T := TX7) (n := 6) F uw7 rfl rfl tw_280 (Or.inl rfl) dX7_forgetForced_8 (kd_lt (rfl : kd 0 = (6,0,0)) (by decide)) (ce6 rfl) rfl ?_
  refine r_callU0v F fMX2_forget tw_333 tw_334 (Or.inl tw_329) (by decide) tw_335 tw_331 rfl rfl rfl rfl rfl dX7_forgetForced_11 rfl rfl z0 (m2_forget5 g) ?_
  exact v_vret F rfl dX7_forgetForced_14 rfl rfl
/-- all is saved, and nothing is told any more -/
def IS (v v' : VV) (a : AS) : Prop := RSt 1 v' (sS a) ∧ IR v' (svA a) ∧ Ch0 v' ∧ FrC v v' ∧ ∀ k, (k < 22 ∨ (65 ≤ k ∧ k ≠ 75 ∧ k ≠ 79)) → v' k = v k
set_option maxHeartbeats 4000000 in
theorem m7_saveBeforeBoard {G : GT} {v : VV} {L : LL} {a : AS} (g : GH G) (h : IC v a) (w : WA a) : CC G MX7_saveBeforeBoard [.ref (gB G 0)] v L (gV fun v' L' => L' = L ∧ IS v v' a) := by
  refine cc_of g [some (.ref (gB G 0))] rfl rfl rfl rfl (fun K F => ?_)
  refine r_aload_n F dX7_saveBeforeBoard_0 rfl ?_
  refine r_get (x := .ref (gB G 64)) (T := TX7) (n := 1) F uw7 rfl rfl tw_275 (Or.inl rfl) dX7_saveBeforeBoard_1 (kd_lt (rfl : kd 0 = (6,0,0)) (by decide)) (ce6 rfl) rfl ?_
  refine r_aload_n F dX7_saveBeforeBoard_4 rfl ?_
  refine r_get (x := .ref (gB G 1)) (T := TX7) (n := 0) F uw7 rfl rfl tw_274 (Or.inl rfl) dX7_saveBeforeBoard_5 (kd_lt (rfl : kd 0 = (6,0,0)) (by decide)) (ce6 rfl) rfl ?_
  refine r_callN1w F fMX4_push tw_304 rfl rfl rfl rfl dX7_saveBeforeBoard_8 rfl rfl z0 (m4_push g h.1 w.1 h.2.1.1) ?_
  rintro v1 L1 ⟨rfl, f1, f2⟩
  refine r_aload_n F dX7_saveBeforeBoard_11 rfl ?_
  refine r_callV0v F fMX7_forgetForced tw_323 rfl rfl rfl rfl dX7_saveBeforeBoard_12 rfl rfl z0 (m7_forgetForced g) ?_
  refine r_vret F rfl dX7_saveBeforeBoard_15 ⟨rfl, rfl, ?_, ?_, ⟨by rw [up2_k _ (by decide), up2_s], by rw [up2_s]⟩, fun k hk => by rw [up2_k _ (by omega), up2_k _ (by omega), f2 k (by omega)], fun k hk => by rw [up2_k _ (by omega), up2_k _ (by omega), f2 k (by omega)]⟩
  · exact h.1.kept (fun j a b => by rw [up2_k _ (by omega), up2_k _ (by omega), f2 j (by omega)])
  · refine ⟨f1.kept (fun j a b => by rw [up2_k _ (by omega), up2_k _ (by omega)]), fun i hi => ?_, ?_, fun i hi => ?_⟩
    · rw [up2_k _ (by omega), up2_k _ (by omega), f2 67 (by omega)]
      exact ⟨(h.2.1.2.1 i hi).1, fun hk => ((h.2.1.2.1 i hi).2 hk).kept (fun j a b => by rw [up2_k _ (by omega), up2_k _ (by omega), f2 j (by omega)])⟩
    · rw [up2_k _ (by omega), up2_k _ (by omega), f2 68 (by omega)]; exact h.2.1.2.2.1
    · rw [up2_k _ (by omega), up2_k _ (by omega), f2 69 (by omega)]; exact h.2.1.2.2.2 i hi
/-- the state changes at 1 .. 7 alone -/
theorem IS.to {v v' v2 : VV} {a : AS} {S : Nat → Nat} (h : IS v v' a) (hr : RSt 1 v2 S) (c : ∀ k, 8 ≤ k → v2 k = v' k) : FrC v v2 ∧ IC v2 (stA (svA a) S) := by
  obtain ⟨h1, h2, h3, h4, h5⟩ := h
  exact ⟨h4.trans (fun k hk => c k (by omega)), hr, h2.kept (fun k a b d => c k a) (by rw [c 68 (by decide)]), Ch0.ch ⟨by rw [c 75 (by decide), h3.1], by rw [c 79 (by decide), h3.2]⟩ _⟩
theorem RSt.board {v v' : VV} {S S' : Nat → Nat} (h : RSt 1 v S) (c1 : v' 1 = v 1) (c6 : v' 6 = v 6) (c7 : v' 7 = v 7) (hb : RB 2 v' S') (hs : ∀ j, j < 12 → S' j = S j) : RSt 1 v' S' := by
  obtain ⟨a1, a2, a3, a4, a5, a6, a7, a8, a9, a10, a11, a12, a13⟩ := h
  refine ⟨?_, ?_, ?_, ?_, ?_, ?_, ?_, ?_, ?_, ?_, ?_, ?_, hb⟩
  · rw [c1, a1, hs 0 (by decide)]
  · rw [c1, a2, hs 1 (by decide)]
  · rw [c1, a3, hs 4 (by decide)]
  · rw [c1, a4, hs 2 (by decide)]
  · rw [c1, a5, hs 3 (by decide)]
  · rw [c1, a6, hs 5 (by decide)]
  · rw [c1, a7, hs 10 (by decide)]
  · rw [c1, a8, hs 11 (by decide)]
  · rw [c6, a9, hs 6 (by decide)]
  · rw [c6, a10, hs 7 (by decide)]
  · rw [c7, a11, hs 8 (by decide)]
  · rw [c7, a12, hs 9 (by decide)]
theorem WS.board {S S' : Nat → Nat} (h : WS S) (hb : WB S') (hs : ∀ j, j < 12 → S' j = S j) : WS S' := by
  obtain ⟨a1, a2, a3, a4, a5, a6, a7⟩ := h
  exact ⟨by rw [hs 0 (by decide)]; exact a1, by rw [hs 1 (by decide)]; exact a2, by rw [hs 2 (by decide), hs 0 (by decide)]; exact a3, by rw [hs 3 (by decide)]; exact a4, by rw [hs 4 (by decide)]; exact a5, by rw [hs 5 (by decide)]; exact a6, hb⟩
/-- an answer x of the class, with the run at a' behind it -/
def PC (v : VV) (L : LL) (a' : AS) (x : Int32) : Int32 → VV → LL → Prop := fun y v' L' => y = x ∧ L' = L ∧ FrC v v' ∧ IC v' a'
def PX (v : VV) (L : LL) (a : AS) : VV → LL → Prop := fun v' L' => L' = L ∧ FrC v v' ∧ IC v' a
theorem PX.rf {v : VV} {L : LL} {a : AS} (h : IC v a) : PX v L a v L := ⟨rfl, FrC.rf v, h⟩
