def revS (S : Nat → Nat) : Nat → Nat := fun j => if j = 2 then S 0 - S 2 else if j = 3 then 1 - S 3 else if j = 5 then (if S 5 = 0 then 0 else 3 - S 5) else if 12 ≤ j ∧ (j - 12) % 6 = 0 then (if S j = 0 then 0 else 3 - S j) else S j
theorem revS_m (S : Nat → Nat) (p : Nat) : revS S (12 + 6 * p) = if S (12 + 6 * p) = 0 then 0 else 3 - S (12 + 6 * p) := by
  unfold revS
  rw [if_neg (by omega), if_neg (by omega), if_neg (by omega), if_pos (by omega)]
theorem revS_o (S : Nat → Nat) {j : Nat} (h : j ≠ 2) (h2 : j ≠ 3) (h3 : j ≠ 5) (h4 : ¬ (12 ≤ j ∧ (j - 12) % 6 = 0)) : revS S j = S j := by
  unfold revS
  rw [if_neg h, if_neg h2, if_neg h3, if_neg h4]
theorem bq_0 : bq 0 = 4294967295 := rfl
theorem bq_s {x : Nat} (h : x ≠ 0) : bq x = x - 1 := if_neg h
theorem nI_bq0 : nI 4294967295 = -1 := by decide
theorem nI_bq {x : Nat} (h : x ≤ 2) : nI (bq x) = -1 ↔ x = 0 := by
  have : x = 0 ∨ x = 1 ∨ x = 2 := by omega
  rcases this with rfl | rfl | rfl <;> decide
theorem WS.rev {S : Nat → Nat} (w : WS S) : WS (revS S) := by
  obtain ⟨w1, w2, w3, w4, w5, w6, w7⟩ := w
  refine ⟨by rw [revS_o S (by decide) (by decide) (by decide) (by decide)]; exact w1, by rw [revS_o S (by decide) (by decide) (by decide) (by decide)]; exact w2, ?_, ?_, by rw [revS_o S (by decide) (by decide) (by decide) (by decide)]; exact w5, ?_, fun p hp => ?_⟩
  · rw [revS_o S (j := 0) (by decide) (by decide) (by decide) (by decide)]
    show S 0 - S 2 ≤ S 0
    omega
  · show 1 - S 3 ≤ 1
    omega
  · show (if S 5 = 0 then 0 else 3 - S 5) ≤ 2
    split <;> omega
  · obtain ⟨z1, z2, z3⟩ := w7 p hp
    rw [revS_m, revS_o S (j := 13 + 6 * p) (by omega) (by omega) (by omega) (by omega)]
    refine ⟨by split <;> omega, z2, fun i hi => ?_⟩
    rw [revS_o S (by omega) (by omega) (by omega) (by omega)]
    exact z3 i hi
theorem RSt.rev {v : VV} {S : Nat → Nat} (h : RSt 1 v S) (w : WS S) {v' : VV} (c1 : v' 1 1 = S 0) (c2 : v' 1 2 = S 1) (c3 : v' 1 3 = S 4) (c4 : v' 1 4 = S 0 - S 2) (c5 : v' 1 5 = 1 - S 3) (c6 : v' 1 6 = bq (if S 5 = 0 then 0 else 3 - S 5)) (c9 : v' 1 9 = S 10) (c10 : v' 1 10 = S 11) (d3 : ∀ p, p < 8 → v' 3 p = if v 3 p = 0 then 0 else 3 - v 3 p) (d : ∀ k, 4 ≤ k → k < 8 → v' k = v k) : RSt 1 v' (revS S) := by
  obtain ⟨a1, a2, a3, a4, a5, a6, a7, a8, a9, a10, a11, a12, a13⟩ := h
  have o : ∀ j, j ≠ 2 → j ≠ 3 → j ≠ 5 → j < 12 → revS S j = S j := fun j h1 h2 h3 h4 => revS_o S h1 h2 h3 (by omega)
  refine ⟨by rw [c1, o 0 (by decide) (by decide) (by decide) (by decide)], by rw [c2, o 1 (by decide) (by decide) (by decide) (by decide)], by rw [c3, o 4 (by decide) (by decide) (by decide) (by decide)], c4, c5, c6, by rw [c9, o 10 (by decide) (by decide) (by decide) (by decide)], by rw [c10, o 11 (by decide) (by decide) (by decide) (by decide)], ?_, ?_, ?_, ?_, fun p hp => ?_⟩
  · rw [d 6 (by decide) (by decide), a9, o 6 (by decide) (by decide) (by decide) (by decide)]
  · rw [d 6 (by decide) (by decide), a10, o 7 (by decide) (by decide) (by decide) (by decide)]
  · rw [d 7 (by decide) (by decide), a11, o 8 (by decide) (by decide) (by decide) (by decide)]
  · rw [d 7 (by decide) (by decide), a12, o 9 (by decide) (by decide) (by decide) (by decide)]
  · obtain ⟨z1, z2, z3⟩ := a13 p hp
    have hc := (w.b p hp).2.1
    have e3 : v' (1 + 1 + 1) p = if v 3 p = 0 then 0 else 3 - v 3 p := d3 p hp
    have z1' : v 3 p = S (12 + 6 * p) := z1
    rw [e3, z1', revS_m, revS_o S (j := 13 + 6 * p) (by omega) (by omega) (by omega) (by omega), d 4 (by decide) (by decide), d 5 (by decide) (by decide)]
    refine ⟨rfl, z2, fun i hi => ?_⟩
    rw [revS_o S (by omega) (by omega) (by omega) (by omega)]
    exact z3 i hi
theorem xm_k (v : VV) {b i k : Nat} (h : k ≠ b + 1) : xm v b i k = v k := by funext j; simp [xm, h]
set_option maxHeartbeats 8000000 in
theorem m7_reverse {G : GT} {v : VV} {L : LL} {a : AS} (g : GH G) (h : IC v a) (w : WA a) : CC G MX7_reverse [.ref (gB G 0)] v L (gI (PC v L (stA (svA a) (revS (sS a))) (nI (sS a 0 - sS a 2)))) := by
  refine cc_of g [some (.ref (gB G 0))] rfl rfl rfl rfl (fun K F => ?_)
  obtain ⟨w1, w2, w3, w4, w5, w6, w7⟩ := w.1
  refine r_aload_n F dX7_reverse_0 rfl ?_
  refine r_callV0w F fMX7_saveBeforeBoard tw_300 rfl rfl rfl rfl dX7_reverse_1 rfl rfl z0 (m7_saveBeforeBoard g h w) ?_
  rintro v1 L1 ⟨rfl, hs⟩
  have hr := hs.1
  obtain ⟨a1, a2, a3, a4, a5, a6, a7, a8, -⟩ := hs.1
  refine r_aload_n F dX7_reverse_4 rfl ?_
  refine r_get (x := .ref (gB G 1)) (T := TX7) (n := 0) F uw7 rfl rfl tw_274 (Or.inl rfl) dX7_reverse_5 (kd_lt (rfl : kd 0 = (6,0,0)) (by decide)) (ce6 rfl) rfl ?_
  refine r_getN (x := .ref (gB G 2)) (T := TX5) (n := 0) F uw5 rfl rfl tw_129 (Or.inl rfl) dX7_reverse_8 (kd_lt (rfl : kd 1 = (4,0,0)) (by decide)) (ce4 rfl) rfl ?_
  refine r_callN0v F fMX0_exchangeMarks tw_336 rfl rfl rfl rfl dX7_reverse_11 rfl rfl z0 (m0_exchangeMarks g bd2 (fun p hp => by rw [(hs.1.b p hp).1]; exact (w7 p hp).1)) ?_
  obtain ⟨v2, hv2⟩ : ∃ v2, v2 = xm v1 2 8 := ⟨_, rfl⟩
  rw [← hv2]
  have o1 : v2 1 = v1 1 := by rw [hv2]; exact xm_k v1 (by decide)
  have o4 : ∀ k, 4 ≤ k → v2 k = v1 k := fun k hk => by rw [hv2]; exact xm_k v1 (by omega)
  have o3 : ∀ p, p < 8 → v2 3 p = if v1 3 p = 0 then 0 else 3 - v1 3 p := fun p hp => by rw [hv2]; simp [xm, hp]
  have b1 : v2 1 1 = sS a 0 := by rw [o1]; exact a1
  have b4 : v2 1 4 = sS a 2 := by rw [o1]; exact a4
  have b5 : v2 1 5 = sS a 3 := by rw [o1]; exact a5
  have b6 : v2 1 6 = bq (sS a 5) := by rw [o1]; exact a6
  refine r_aload_n F dX7_reverse_14 rfl ?_
  refine r_get (x := .ref (gB G 1)) (T := TX7) (n := 0) F uw7 rfl rfl tw_274 (Or.inl rfl) dX7_reverse_15 (kd_lt (rfl : kd 0 = (6,0,0)) (by decide)) (ce6 rfl) rfl ?_
  refine r_aload_n F dX7_reverse_18 rfl ?_
  refine r_get (x := .ref (gB G 1)) (T := TX7) (n := 0) F uw7 rfl rfl tw_274 (Or.inl rfl) dX7_reverse_19 (kd_lt (rfl : kd 0 = (6,0,0)) (by decide)) (ce6 rfl) rfl ?_
  refine r_getN (T := TX5) (n := 1) F uw5 rfl rfl tw_132 (Or.inl rfl) dX7_reverse_22 (kd_lt (rfl : kd 1 = (4,0,0)) (by decide)) (ce4 rfl) rfl ?_
  refine r_aload_n F dX7_reverse_25 rfl ?_
  refine r_get (x := .ref (gB G 1)) (T := TX7) (n := 0) F uw7 rfl rfl tw_274 (Or.inl rfl) dX7_reverse_26 (kd_lt (rfl : kd 0 = (6,0,0)) (by decide)) (ce6 rfl) rfl ?_
  refine r_getN (T := TX5) (n := 4) F uw5 rfl rfl tw_140 (Or.inl rfl) dX7_reverse_29 (kd_lt (rfl : kd 1 = (4,0,0)) (by decide)) (ce4 rfl) rfl ?_
  rw [b1, b4]
  refine r_isub F dX7_reverse_32 (by omega) ?_
  refine r_putN (T := TX5) (n := 4) (ty0 := tyX5) (ty := .int) F uw5 tyX5_ok nmX5 rfl rfl tw_140 (Or.inl rfl) rfl rfl rfl rfl dX7_reverse_33 (kd_lt (rfl : kd 1 = (4,0,0)) (by decide)) (ce4 rfl) rfl (pe4_4 rfl) up2_ce ?_
  refine r_aload_n F dX7_reverse_36 rfl ?_
  refine r_get (x := .ref (gB G 1)) (T := TX7) (n := 0) F uw7 rfl rfl tw_274 (Or.inl rfl) dX7_reverse_37 (kd_lt (rfl : kd 0 = (6,0,0)) (by decide)) (ce6 rfl) rfl ?_
  refine r_iconst (x := 1) F dX7_reverse_40 rfl ?_
  refine r_aload_n F dX7_reverse_41 rfl ?_
  refine r_get (x := .ref (gB G 1)) (T := TX7) (n := 0) F uw7 rfl rfl tw_274 (Or.inl rfl) dX7_reverse_42 (kd_lt (rfl : kd 0 = (6,0,0)) (by decide)) (ce6 rfl) rfl ?_
  refine r_getN (T := TX5) (n := 5) F uw5 rfl rfl tw_142 (Or.inl rfl) dX7_reverse_45 (kd_lt (rfl : kd 1 = (4,0,0)) (by decide)) (ce4 rfl) rfl ?_
  rw [up2_j (b := 5) _ (by decide), b5]
  refine r_isub F dX7_reverse_48 (by omega) ?_
  refine r_putN (T := TX5) (n := 5) (ty0 := tyX5) (ty := .int) F uw5 tyX5_ok nmX5 rfl rfl tw_142 (Or.inl rfl) rfl rfl rfl rfl dX7_reverse_49 (kd_lt (rfl : kd 1 = (4,0,0)) (by decide)) (ce4 rfl) rfl (pe4_5 rfl) up2_ce ?_
  refine r_aload_n F dX7_reverse_52 rfl ?_
  refine r_get (x := .ref (gB G 1)) (T := TX7) (n := 0) F uw7 rfl rfl tw_274 (Or.inl rfl) dX7_reverse_53 (kd_lt (rfl : kd 0 = (6,0,0)) (by decide)) (ce6 rfl) rfl ?_
  refine r_getN (T := TX5) (n := 6) F uw5 rfl rfl tw_145 (Or.inl rfl) dX7_reverse_56 (kd_lt (rfl : kd 1 = (4,0,0)) (by decide)) (ce4 rfl) rfl ?_
  refine R_iconst (x := -1) F dX7_reverse_59 rfl ?_
  rw [up2_j (b := 6) _ (by decide), up2_j (b := 6) _ (by decide), b6]
  refine R_iceq F dX7_reverse_60 (fun h60 => ?_) (fun h60 => ?_)
  · refine r_aload_n F dX7_reverse_79 rfl ?_
    refine r_get (x := .ref (gB G 1)) (T := TX7) (n := 0) F uw7 rfl rfl tw_274 (Or.inl rfl) dX7_reverse_80 (kd_lt (rfl : kd 0 = (6,0,0)) (by decide)) (ce6 rfl) rfl ?_
    refine r_getN (T := TX5) (n := 4) F uw5 rfl rfl tw_140 (Or.inl rfl) dX7_reverse_83 (kd_lt (rfl : kd 1 = (4,0,0)) (by decide)) (ce4 rfl) rfl ?_
    have n5 : sS a 5 = 0 ∨ sS a 5 = 1 ∨ sS a 5 = 2 := by omega
    refine r_iret F rfl rfl dX7_reverse_86 ⟨_, rfl, by (repeat rw [up2_j (b := 4) _ (by decide)]); rw [up2_s], rfl, hs.to (hr.rev w.1 ?_ ?_ ?_ ?_ ?_ ?_ ?_ ?_ (fun p hp => ?_) (fun k k1 k2 => ?_)) (fun k hk => ?_)⟩
    · simp [up2, b1]
    · simp [up2, o1, a2]
    · simp [up2, o1, a3]
    · simp [up2]
    · simp [up2]
    · first
        | (have z5 := (nI_bq w6).mp h60
           simp [up2, b6, z5])
        | (rcases n5 with z5 | z5 | z5
           · exact absurd z5 ‹_›
           · simp [up2, z5, bq]
           · simp [up2, z5, bq])
    · simp [up2, o1, a7]
    · simp [up2, o1, a8]
    · (repeat rw [up2_k _ (by decide)]); exact o3 p hp
    · (repeat rw [up2_k _ (by omega)]); exact o4 k k1
    · (repeat rw [up2_k _ (by omega)]); exact o4 k (by omega)
  · have n5 : sS a 5 ≠ 0 := fun z => h60 ((nI_bq w6).mpr z)
    have q6 : up2 (up2 v2 1 4 (sS a 0 - sS a 2)) 1 5 (1 - sS a 3) 1 6 = sS a 5 - 1 := by rw [up2_j (b := 6) _ (by decide), up2_j (b := 6) _ (by decide), b6, bq_s n5]
    refine r_aload_n F dX7_reverse_63 rfl ?_
    refine r_get (x := .ref (gB G 1)) (T := TX7) (n := 0) F uw7 rfl rfl tw_274 (Or.inl rfl) dX7_reverse_64 (kd_lt (rfl : kd 0 = (6,0,0)) (by decide)) (ce6 rfl) rfl ?_
    refine r_iconst (x := 1) F dX7_reverse_67 rfl ?_
    refine r_aload_n F dX7_reverse_68 rfl ?_
    refine r_get (x := .ref (gB G 1)) (T := TX7) (n := 0) F uw7 rfl rfl tw_274 (Or.inl rfl) dX7_reverse_69 (kd_lt (rfl : kd 0 = (6,0,0)) (by decide)) (ce6 rfl) rfl ?_
    refine r_getN (T := TX5) (n := 6) F uw5 rfl rfl tw_145 (Or.inl rfl) dX7_reverse_72 (kd_lt (rfl : kd 1 = (4,0,0)) (by decide)) (ce4 rfl) rfl ?_
    rw [q6]
    refine r_isub F dX7_reverse_75 (by omega) ?_
    refine r_putN (T := TX5) (n := 6) (ty0 := tyX5) (ty := .int) F uw5 tyX5_ok nmX5 rfl rfl tw_145 (Or.inl rfl) rfl rfl rfl rfl dX7_reverse_76 (kd_lt (rfl : kd 1 = (4,0,0)) (by decide)) (ce4 rfl) rfl (pe4_6 rfl) up2_ce ?_
    refine r_aload_n F dX7_reverse_79 rfl ?_
    refine r_get (x := .ref (gB G 1)) (T := TX7) (n := 0) F uw7 rfl rfl tw_274 (Or.inl rfl) dX7_reverse_80 (kd_lt (rfl : kd 0 = (6,0,0)) (by decide)) (ce6 rfl) rfl ?_
    refine r_getN (T := TX5) (n := 4) F uw5 rfl rfl tw_140 (Or.inl rfl) dX7_reverse_83 (kd_lt (rfl : kd 1 = (4,0,0)) (by decide)) (ce4 rfl) rfl ?_
    have n5 : sS a 5 = 0 ∨ sS a 5 = 1 ∨ sS a 5 = 2 := by omega
    refine r_iret F rfl rfl dX7_reverse_86 ⟨_, rfl, by (repeat rw [up2_j (b := 4) _ (by decide)]); rw [up2_s], rfl, hs.to (hr.rev w.1 ?_ ?_ ?_ ?_ ?_ ?_ ?_ ?_ (fun p hp => ?_) (fun k k1 k2 => ?_)) (fun k hk => ?_)⟩
    · simp [up2, b1]
    · simp [up2, o1, a2]
    · simp [up2, o1, a3]
    · simp [up2]
    · simp [up2]
    · first
        | (have z5 := (nI_bq w6).mp h60
           simp [up2, b6, z5])
        | (rcases n5 with z5 | z5 | z5
           · exact absurd z5 ‹_›
           · simp [up2, z5, bq]
           · simp [up2, z5, bq])
    · simp [up2, o1, a7]
    · simp [up2, o1, a8]
    · (repeat rw [up2_k _ (by decide)]); exact o3 p hp
    · (repeat rw [up2_k _ (by omega)]); exact o4 k k1
    · (repeat rw [up2_k _ (by omega)]); exact o4 k (by omega)
def setS (S : Nat → Nat) (i x : Nat) : Nat → Nat := if i = 0 then upN (upN S 0 x) 2 (x / 2) else upN S 1 x
theorem RSt.cell {v v' : VV} {S S' : Nat → Nat} (h : RSt 1 v S) (c1 : v' 1 1 = S' 0) (c2 : v' 1 2 = S' 1) (c3 : v' 1 3 = S' 4) (c4 : v' 1 4 = S' 2) (c5 : v' 1 5 = S' 3) (c6 : v' 1 6 = bq (S' 5)) (c9 : v' 1 9 = S' 10) (c10 : v' 1 10 = S' 11) (b6 : v' 6 0 = S' 6) (b61 : v' 6 1 = S' 7) (b7 : v' 7 0 = S' 8) (b71 : v' 7 1 = S' 9) (d : ∀ k, 2 ≤ k → k < 6 → v' k = v k) (o : ∀ j, 12 ≤ j → S' j = S j) : RSt 1 v' S' := by
  refine ⟨c1, c2, c3, c4, c5, c6, c9, c10, b6, b61, b7, b71, fun p hp => ?_⟩
  obtain ⟨z1, z2, z3⟩ := h.b p hp
  rw [d (1 + 1 + 1) (by decide) (by decide), d (1 + 1 + 2) (by decide) (by decide), d (1 + 1 + 3) (by decide) (by decide)]
  refine ⟨by rw [z1, o _ (by omega)], by rw [z2, o _ (by omega)], fun i hi => ?_⟩
  rw [o _ (by omega)] at hi
  rw [z3 i hi, o _ (by omega)]
theorem WB.cell {S S' : Nat → Nat} (w : WB S) (o : ∀ j, 12 ≤ j → S' j = S j) : WB S' := by
  intro p hp
  obtain ⟨z1, z2, z3⟩ := w p hp
  rw [o _ (by omega), o _ (by omega)]
  exact ⟨z1, z2, fun i hi => by rw [o _ (by omega)]; exact z3 i hi⟩
theorem WS.set {S : Nat → Nat} (w : WS S) {i x : Nat} (hx : x ≤ if i = 0 then 20 else 12) : WS (setS S i x) := by
  obtain ⟨w1, w2, w3, w4, w5, w6, w7⟩ := w
  unfold setS
  by_cases hi : i = 0
  · rw [if_pos hi] at hx ⊢
    exact ⟨by simpa [upN] using hx, by simp [upN]; exact w2, by simp [upN]; omega, by simp [upN]; exact w4, by simp [upN]; exact w5, by simp [upN]; exact w6, w7.cell (fun j hj => by rw [upN_n _ _ (by omega), upN_n _ _ (by omega)])⟩
  · rw [if_neg hi] at hx ⊢
    exact ⟨by simp [upN]; exact w1, by simpa [upN] using hx, by simp [upN]; exact w3, by simp [upN]; exact w4, by simp [upN]; exact w5, by simp [upN]; exact w6, w7.cell (fun j hj => upN_n _ _ (by omega))⟩
set_option maxHeartbeats 8000000 in
theorem m7_set {G : GT} {v : VV} {L : LL} {a : AS} (g : GH G) (h : IC v a) (w : WA a) {i x : Nat} (hi : i ≤ 1) (hx : x ≤ if i = 0 then 20 else 12) : CC G MX7_set [.ref (gB G 0), .int (nI i), .int (nI x)] v L (gI (PC v L (stA (svA a) (setS (sS a) i x)) (nI (sS a i)))) := by
  refine cc_of g [some (.ref (gB G 0)), some (.int (nI i)), some (.int (nI x)), none] rfl rfl rfl rfl (fun K F => ?_)
  have hi2 : i = 0 ∨ i = 1 := by omega
  rcases hi2 with rfl | rfl
  · have hx20 : x ≤ 20 := hx
    refine r_iload_n F dX7_set_0 rfl ?_
    refine r_callS1v F fMX7_needSetting tw_760 rfl dX7_set_1 rfl rfl z0 (m7_needSetting g hi) ?_
    refine r_iload_n F dX7_set_4 rfl ?_
    refine r_iload_n F dX7_set_5 rfl ?_
    refine r_ifne F dX7_set_6 (by omega) (fun h6 => ?_) (fun h6 => ?_)
    · exact absurd rfl h6
    · refine r_bipush (x := 20) F dX7_set_9 rfl ?_
      refine r_goto F dX7_set_11 ?_
      refine r_callS2v F fMX7_needUpTo tw_544 rfl dX7_set_16 rfl rfl z0 (m7_needUpTo g hx20 (by decide)) ?_
      refine r_aload_n F dX7_set_19 rfl ?_
      refine r_callV0w F fMX7_saveBeforeBoard tw_300 rfl rfl rfl rfl dX7_set_20 rfl rfl z0 (m7_saveBeforeBoard g h w) ?_
      rintro v1 L1 ⟨rfl, hs⟩
      have hr := hs.1
      obtain ⟨a1, a2, a3, a4, a5, a6, a7, a8, a9, a10, a11, a12, -⟩ := hs.1
      refine r_iload_n F dX7_set_23 rfl ?_
      refine r_ifne F dX7_set_24 (by omega) (fun h24 => ?_) (fun h24 => ?_)
      · exact absurd rfl h24
      · refine r_aload_n F dX7_set_27 rfl ?_
        refine r_get (x := .ref (gB G 1)) (T := TX7) (n := 0) F uw7 rfl rfl tw_274 (Or.inl rfl) dX7_set_28 (kd_lt (rfl : kd 0 = (6,0,0)) (by decide)) (ce6 rfl) rfl ?_
        refine r_getN (T := TX5) (n := 1) F uw5 rfl rfl tw_132 (Or.inl rfl) dX7_set_31 (kd_lt (rfl : kd 1 = (4,0,0)) (by decide)) (ce4 rfl) rfl ?_
        refine r_goto F dX7_set_34 ?_
        refine r_ist3 F dX7_set_44 rfl rfl ?_
        refine r_iload_n F dX7_set_45 rfl ?_
        refine r_ifne F dX7_set_46 (by omega) (fun h46 => ?_) (fun h46 => ?_)
        · exact absurd rfl h46
        · refine r_aload_n F dX7_set_49 rfl ?_
          refine r_get (x := .ref (gB G 1)) (T := TX7) (n := 0) F uw7 rfl rfl tw_274 (Or.inl rfl) dX7_set_50 (kd_lt (rfl : kd 0 = (6,0,0)) (by decide)) (ce6 rfl) rfl ?_
          refine r_iload_n F dX7_set_53 rfl ?_
          refine r_callN1v F fMX5_shareOut tw_764 rfl rfl rfl rfl dX7_set_54 rfl rfl z0 (m5_shareOut g st1 hx20) ?_
          refine r_goto F dX7_set_57 ?_
          refine r_iload_n F dX7_set_68 rfl ?_
          refine r_iret F rfl rfl dX7_set_69 ⟨_, rfl, by rw [a1], rfl, hs.to (hr.cell ?_ ?_ ?_ ?_ ?_ ?_ ?_ ?_ ?_ ?_ ?_ ?_ (fun k k1 k2 => ?_) (fun j hj => ?_)) (fun k hk => ?_)⟩
          · simp [up2, setS, upN]
          · simp [up2, setS, upN, a2]
          · simp [up2, setS, upN, a3]
          · simp [up2, setS, upN]
          · simp [up2, setS, upN, a5]
          · simp [up2, setS, upN, a6]
          · simp [up2, setS, upN, a7]
          · simp [up2, setS, upN, a8]
          · simpa [up2, setS, upN] using a9
          · simpa [up2, setS, upN] using a10
          · simpa [up2, setS, upN] using a11
          · simpa [up2, setS, upN] using a12
          · rw [up2_k _ (by omega), up2_k _ (by omega)]
          · show (if (0 : Nat) = 0 then upN (upN (sS a) 0 x) 2 (x / 2) else upN (sS a) 1 x) j = _
            rw [if_pos rfl, upN_n _ _ (by omega), upN_n _ _ (by omega)]
          · rw [up2_k _ (by omega), up2_k _ (by omega)]
  · have hx12 : x ≤ 12 := hx
    refine r_iload_n F dX7_set_0 rfl ?_
    refine r_callS1v F fMX7_needSetting tw_760 rfl dX7_set_1 rfl rfl z0 (m7_needSetting g hi) ?_
    refine r_iload_n F dX7_set_4 rfl ?_
    refine r_iload_n F dX7_set_5 rfl ?_
    refine r_ifne F dX7_set_6 (by omega) (fun h6 => ?_) (fun h6 => ?_)
    · refine r_bipush (x := 12) F dX7_set_14 rfl ?_
      refine r_callS2v F fMX7_needUpTo tw_544 rfl dX7_set_16 rfl rfl z0 (m7_needUpTo g hx12 (by decide)) ?_
      refine r_aload_n F dX7_set_19 rfl ?_
      refine r_callV0w F fMX7_saveBeforeBoard tw_300 rfl rfl rfl rfl dX7_set_20 rfl rfl z0 (m7_saveBeforeBoard g h w) ?_
      rintro v1 L1 ⟨rfl, hs⟩
      have hr := hs.1
      obtain ⟨a1, a2, a3, a4, a5, a6, a7, a8, a9, a10, a11, a12, -⟩ := hs.1
      refine r_iload_n F dX7_set_23 rfl ?_
      refine r_ifne F dX7_set_24 (by omega) (fun h24 => ?_) (fun h24 => ?_)
      · refine r_aload_n F dX7_set_37 rfl ?_
        refine r_get (x := .ref (gB G 1)) (T := TX7) (n := 0) F uw7 rfl rfl tw_274 (Or.inl rfl) dX7_set_38 (kd_lt (rfl : kd 0 = (6,0,0)) (by decide)) (ce6 rfl) rfl ?_
        refine r_getN (T := TX5) (n := 2) F uw5 rfl rfl tw_135 (Or.inl rfl) dX7_set_41 (kd_lt (rfl : kd 1 = (4,0,0)) (by decide)) (ce4 rfl) rfl ?_
        refine r_ist3 F dX7_set_44 rfl rfl ?_
        refine r_iload_n F dX7_set_45 rfl ?_
        refine r_ifne F dX7_set_46 (by omega) (fun h46 => ?_) (fun h46 => ?_)
        · refine r_aload_n F dX7_set_60 rfl ?_
          refine r_get (x := .ref (gB G 1)) (T := TX7) (n := 0) F uw7 rfl rfl tw_274 (Or.inl rfl) dX7_set_61 (kd_lt (rfl : kd 0 = (6,0,0)) (by decide)) (ce6 rfl) rfl ?_
          refine r_iload_n F dX7_set_64 rfl ?_
          refine r_putN (T := TX5) (n := 2) (ty0 := tyX5) (ty := .int) F uw5 tyX5_ok nmX5 rfl rfl tw_135 (Or.inl rfl) rfl rfl rfl rfl dX7_set_65 (kd_lt (rfl : kd 1 = (4,0,0)) (by decide)) (ce4 rfl) rfl (pe4_2 rfl) up2_ce ?_
          refine r_iload_n F dX7_set_68 rfl ?_
          refine r_iret F rfl rfl dX7_set_69 ⟨_, rfl, by rw [a2], rfl, hs.to (hr.cell ?_ ?_ ?_ ?_ ?_ ?_ ?_ ?_ ?_ ?_ ?_ ?_ (fun k k1 k2 => ?_) (fun j hj => ?_)) (fun k hk => ?_)⟩
          · simp [up2, setS, upN, a1]
          · simp [up2, setS, upN]
          · simp [up2, setS, upN, a3]
          · simp [up2, setS, upN, a4]
          · simp [up2, setS, upN, a5]
          · simp [up2, setS, upN, a6]
          · simp [up2, setS, upN, a7]
          · simp [up2, setS, upN, a8]
          · simpa [up2, setS, upN] using a9
          · simpa [up2, setS, upN] using a10
          · simpa [up2, setS, upN] using a11
          · simpa [up2, setS, upN] using a12
          · rw [up2_k _ (by omega)]
          · show (if (1 : Nat) = 0 then upN (upN (sS a) 0 x) 2 (x / 2) else upN (sS a) 1 x) j = _
            rw [if_neg (by decide), upN_n _ _ (by omega)]
          · rw [up2_k _ (by omega)]
        · exact absurd h46 (by decide)
      · exact absurd h24 (by decide)
    · exact absurd h6 (by decide)
set_option maxHeartbeats 4000000 in
theorem x7_set1 {G : GT} {v : VV} {L : LL} {Φ : VV → LL → Prop} (g : GH G) {x y : Int32} (hx : oor x 1) (h : Φ v L) : CX G MX7_set [.ref (gB G 0), .int x, .int y] v L eIX Φ := by
  refine cx_of g [some (.ref (gB G 0)), some (.int x), some (.int y), none] rfl rfl rfl rfl (fun K F he => ?_)
  refine r_iload_n F dX7_set_0 rfl ?_
  exact r_outS1 F he fMX7_needSetting tw_760 rfl dX7_set_1 rfl rfl (x7_needSetting g hx h)
set_option maxHeartbeats 4000000 in
theorem x7_set2 {G : GT} {v : VV} {L : LL} {Φ : VV → LL → Prop} (g : GH G) {i : Nat} {y : Int32} (hi : i ≤ 1) (hx : oor y (if i = 0 then 20 else 12)) (h : Φ v L) : CX G MX7_set [.ref (gB G 0), .int (nI i), .int y] v L eIA Φ := by
  refine cx_of g [some (.ref (gB G 0)), some (.int (nI i)), some (.int y), none] rfl rfl rfl rfl (fun K F he => ?_)
  refine r_iload_n F dX7_set_0 rfl ?_
  refine r_callS1v F fMX7_needSetting tw_760 rfl dX7_set_1 rfl rfl z16 (m7_needSetting g hi) ?_
  refine r_iload_n F dX7_set_4 rfl ?_
  refine r_iload_n F dX7_set_5 rfl ?_
  refine r_ifne F dX7_set_6 (by omega) (fun h6 => ?_) (fun h6 => ?_)
  · refine r_bipush (x := 12) F dX7_set_14 rfl ?_
    exact r_outS2 F he fMX7_needUpTo tw_544 rfl dX7_set_16 rfl rfl (by first | exact x7_needUpTo g (n := 20) (by rw [if_pos h6] at hx; exact hx) h | exact x7_needUpTo g (n := 12) (by rw [if_neg h6] at hx; exact hx) h)
  · refine r_bipush (x := 20) F dX7_set_9 rfl ?_
    refine r_goto F dX7_set_11 ?_
    exact r_outS2 F he fMX7_needUpTo tw_544 rfl dX7_set_16 rfl rfl (by first | exact x7_needUpTo g (n := 20) (by rw [if_pos h6] at hx; exact hx) h | exact x7_needUpTo g (n := 12) (by rw [if_neg h6] at hx; exact hx) h)
