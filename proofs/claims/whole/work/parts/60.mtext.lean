/-- at the sign behind a part -/
def GO (v : VV) (a : AS) (i : Nat) (σ : AT) : Prop := TP v a i ∧ au (sT a) i = some σ ∧ (aE σ = 3 ∨ aE σ = 4) ∧ (i < sL a → sp σ (sT a i) = spE σ (sT a i)) ∧ (∀ j, j < 48 → v 90 j = aB σ (12 + j)) ∧ v 83 12 = aN σ ∧ (∃ m, v 83 11 = m ∧ MK m (aS σ)) ∧ ∀ q, q < 8 → aS σ q = false → aB σ (13 + 6 * q) = 0
/-- at the start of a part -/
def ST (v : VV) (a : AS) (i : Nat) (σ : AT) : Prop := TP v a i ∧ au (sT a) i = some σ ∧ aE σ = 0 ∧ (∀ j, j < 48 → v 90 j = aB σ (12 + j)) ∧ v 83 12 = aN σ ∧ (∃ m, v 83 11 = m ∧ MK m (aS σ)) ∧ ∀ q, q < 8 → aS σ q = false → aB σ (13 + 6 * q) = 0
def FrP (v v' : VV) : Prop := (∀ k, k ≠ 83 → k ≠ 90 → v' k = v k) ∧ ∀ j, j ≠ 10 → j ≠ 11 → j ≠ 12 → v' 83 j = v 83 j
theorem FrP.rf (v : VV) : FrP v v := ⟨fun _ _ _ => rfl, fun _ _ _ _ => rfl⟩
theorem FrP.trans {a b c : VV} (h : FrP a b) (h2 : FrP b c) : FrP a c := ⟨fun k k1 k2 => (h2.1 k k1 k2).trans (h.1 k k1 k2), fun j j1 j2 j3 => (h2.2 j j1 j2 j3).trans (h.2 j j1 j2 j3)⟩
def PTs (v : VV) (L : LL) (a : AS) (N : Nat) : Bool → VV → LL → Prop := fun b v' L' => L' = L ∧ FrP v v' ∧ (b = true → ∃ i σ, aN σ = N + 1 ∧ GO v' a i σ) ∧ (b = false → v' 83 10 = erN (sT a) (sL a) ∧ ∀ τ, ¬ okL a τ)
theorem spP_no {a : AS} {i : Nat} {σ : AT} (h : rdB a i (aS σ) = false) (hi : i < sL a) : spP σ (sT a i) = none := by
  unfold spP
  refine if_neg (fun z => ?_)
  unfold rdB nxB at h
  rw [decide_eq_true (by omega), Bool.true_and, z.2] at h
  cases h
theorem rdB_y {a : AS} {i : Nat} {f : Nat → Bool} (h : rdB a i f = true) : i < sL a ∧ 48 ≤ sT a i ∧ sT a i < 56 ∧ f (sT a i - 48) = false := by
  unfold rdB at h
  rw [Bool.and_eq_true] at h
  have hn : i < sL a ∧ 48 ≤ sT a i ∧ sT a i ≤ 55 := of_decide_eq_true h.1
  refine ⟨hn.1, hn.2.1, by omega, ?_⟩
  cases hz : f (sT a i - 48) with
  | false => rfl
  | true => rw [hz] at h; cases h.2
set_option maxHeartbeats 16000000 in
theorem m8_partN {G : GT} {v : VV} {L : LL} {a : AS} (g : GH G) (w : WA a) {i : Nat} {σ : AT} (h : ST v a i σ) (hr : rdB a i (aS σ) = false) : CC G MX8_readPart [.ref (gB G 83)] v L (gBl (PTs v L a (aN σ))) := by
  refine cc_of g [some (.ref (gB G 83)), none] rfl rfl rfl rfl (fun K F => ?_)
  obtain ⟨b1, b2, b3, b4, b5, ⟨m, b6, b7⟩, b8⟩ := h
  refine r_aload_n F dX8_readPart_0 rfl ?_
  refine r_aload_n F dX8_readPart_1 rfl ?_
  refine r_get (T := TX8) (n := 11) F uw8 rfl rfl tw_888 (Or.inl rfl) dX8_readPart_2 (kd_lt (rfl : kd 83 = (7,0,0)) (by decide)) (ce7 rfl) rfl ?_
  rw [b6]
  refine r_callV1q F fMX8_readPosition tw_1017 rfl rfl rfl rfl dX8_readPart_5 rfl rfl z0 (m8_readN g w b1 b7 hr) ?_
  refine r_ist1 F dX8_readPart_8 rfl rfl ?_
  refine r_iload_n F dX8_readPart_9 rfl ?_
  refine R_iconst (x := -1) F dX8_readPart_10 rfl ?_
  refine R_icne F dX8_readPart_11 (fun h11 => ?_) (fun h11 => ?_)
  · exact absurd rfl h11
  · refine r_iconst (x := 0) F dX8_readPart_14 rfl ?_
    refine r_iret F rfl (nb01 (by decide)) dX8_readPart_15 ⟨false, rfl, rfl, FrP.rf v, fun z => (by cases z), fun _ => ?_⟩
    rw [b1.2.2.1]
    rcases Nat.lt_or_ge i (sL a) with z | z
    · have es : sp σ (sT a i) = none := by unfold sp; rw [if_pos b3]; exact spP_no hr z
      obtain ⟨y1, y2⟩ := bad1 z b2 es
      exact ⟨y1.symm, y2⟩
    · have ei : i = sL a := Nat.le_antisymm b1.2.2.2 z
      rw [ei] at b2
      obtain ⟨y1, y2⟩ := bad2 b2 (by omega) (by omega)
      exact ⟨by rw [ei, y1], y2⟩
set_option maxHeartbeats 16000000 in
theorem m8_partY {G : GT} {v : VV} {L : LL} {a : AS} (g : GH G) (w : WA a) {i : Nat} {σ : AT} (h : ST v a i σ) (hr : rdB a i (aS σ) = true) : CC G MX8_readPart [.ref (gB G 83)] v L (gBl (PTs v L a (aN σ))) := by
  refine cc_of g [some (.ref (gB G 83)), none] rfl rfl rfl rfl (fun K F => ?_)
  obtain ⟨b1, b2, b3, b4, b5, ⟨m, b6, b7⟩, b8⟩ := h
  obtain ⟨r1, r2, r3, r4⟩ := rdB_y hr
  obtain ⟨p, hp⟩ : ∃ p, p = sT a i - 48 := ⟨_, rfl⟩
  have hp8 : p < 8 := by omega
  rw [← hp] at r4
  have c13 : aB σ (13 + 6 * p) = 0 := b8 p hp8 r4
  have e1 : au (sT a) (i + 1) = some (1, p, aN σ + 1, upB (aS σ) p true, aB σ) := by
    rw [au_s, b2]
    show sp σ (sT a i) = _
    unfold sp
    rw [if_pos b3]
    unfold spP
    rw [if_pos ⟨⟨r2, r3⟩, by rw [← hp]; exact r4⟩, hp]
  obtain ⟨v1, hv1⟩ : ∃ v1, v1 = up2 (up2 (up2 v 83 10 (i + 1)) 83 11 (m ||| 2 ^ p)) 83 12 (aN σ + 1) := ⟨_, rfl⟩
  have t1 : TP v1 a (i + 1) := by rw [hv1]; exact ((b1.go r1).up (by decide) (fun _ => by decide)).up (by decide) (fun _ => by decide)
  have f1 : FrP v v1 := ⟨fun k k1 k2 => by rw [hv1, up2_k _ k1, up2_k _ k1, up2_k _ k1], fun j j1 j2 j3 => by rw [hv1, up2_j _ j3, up2_j _ j2, up2_j _ j1]⟩
  have n1 : v1 83 12 = aN σ + 1 := by rw [hv1, up2_s]
  have s1 : v1 83 11 = (m ||| 2 ^ p) := by rw [hv1, up2_j _ (by decide), up2_s]
  have k1 := b7.or hp8
  have bd1 : ∀ j, j < 48 → v1 90 j = aB σ (12 + j) := fun j hj => by rw [hv1, up2_k _ (by decide), up2_k _ (by decide), up2_k _ (by decide)]; exact b4 j hj
  have z1 : ∀ q, q < 8 → upB (aS σ) p true q = false → aB σ (13 + 6 * q) = 0 := fun q hq hz => by
    unfold upB at hz
    split at hz
    · cases hz
    · exact b8 q hq hz
  have hm8 : m < 256 := b7.1
  cases h58 : nxB a (i + 1) 58 58 with
  | false =>
    refine r_aload_n F dX8_readPart_0 rfl ?_
    refine r_aload_n F dX8_readPart_1 rfl ?_
    refine r_get (T := TX8) (n := 11) F uw8 rfl rfl tw_888 (Or.inl rfl) dX8_readPart_2 (kd_lt (rfl : kd 83 = (7,0,0)) (by decide)) (ce7 rfl) rfl ?_
    rw [b6]
    refine r_callV1i F fMX8_readPosition tw_1017 rfl rfl rfl rfl dX8_readPart_5 rfl rfl z0 (m8_readY g w b1 b7 hr) ?_
    rw [← hp]
    refine r_ist1 F dX8_readPart_8 rfl rfl ?_
    refine r_iload_n F dX8_readPart_9 rfl ?_
    refine R_iconst (x := -1) F dX8_readPart_10 rfl ?_
    refine R_icne F dX8_readPart_11 (fun h11 => ?_) (fun h11 => ?_)
    · refine r_aload_n F dX8_readPart_16 rfl ?_
      refine r_dup F dX8_readPart_17 rfl ?_
      refine r_get (T := TX8) (n := 11) F uw8 rfl rfl tw_888 (Or.inl rfl) dX8_readPart_18 (kd_lt (rfl : kd 83 = (7,0,0)) (by decide)) (ce7 rfl) rfl ?_
      rw [up2_j (b := 11) _ (by decide), b6]
      refine r_iconst (x := 1) F dX8_readPart_21 rfl ?_
      refine r_iload_n F dX8_readPart_22 rfl ?_
      refine R_ishl F dX8_readPart_23 (nI_sh1 (by omega)) ?_
      refine R_ior F dX8_readPart_24 (nI_or _ _) ?_
      refine r_put (T := TX8) (n := 11) (ty0 := tyX8) (ty := .int) F uw8 tyX8_ok nmX8 rfl rfl tw_888 (Or.inl rfl) rfl rfl rfl rfl dX8_readPart_25 (kd_lt (rfl : kd 83 = (7,0,0)) (by decide)) (ce7 rfl) rfl (pe7_11 rfl) up2_ce ?_
      refine r_aload_n F dX8_readPart_28 rfl ?_
      refine r_dup F dX8_readPart_29 rfl ?_
      refine r_get (T := TX8) (n := 12) F uw8 rfl rfl tw_889 (Or.inl rfl) dX8_readPart_30 (kd_lt (rfl : kd 83 = (7,0,0)) (by decide)) (ce7 rfl) rfl ?_
      rw [up2_j (b := 12) _ (by decide), up2_j (b := 12) _ (by decide), b5]
      refine r_iconst (x := 1) F dX8_readPart_33 rfl ?_
      refine r_iadd F dX8_readPart_34 ?_
      refine r_put (T := TX8) (n := 12) (ty0 := tyX8) (ty := .int) F uw8 tyX8_ok nmX8 rfl rfl tw_889 (Or.inl rfl) rfl rfl rfl rfl dX8_readPart_35 (kd_lt (rfl : kd 83 = (7,0,0)) (by decide)) (ce7 rfl) rfl (pe7_12 rfl) up2_ce ?_
      rw [← hv1]
      refine r_aload_n F dX8_readPart_38 rfl ?_
      refine r_bipush (x := 58) F dX8_readPart_39 rfl ?_
      refine r_callV1i F fMX8_takes tw_1025 rfl rfl rfl rfl dX8_readPart_41 rfl rfl z0 (m8_takes g w t1 (c := 58) (by decide)) ?_
      rw [if_neg (by rw [h58]; decide)]
      refine r_Bne F dX8_readPart_44 (fun h44 => ?_) (fun h44 => ?_)
      · exact absurd h44 (by rw [h58]; decide)
      · refine r_iconst (x := 0) F dX8_readPart_47 rfl ?_
        refine r_iret F rfl (nb01 (by decide)) dX8_readPart_48 ⟨false, rfl, rfl, f1, fun z => (by cases z), fun _ => ?_⟩
        rw [t1.2.2.1]
        rcases Nat.lt_or_ge (i + 1) (sL a) with z | z
        · have hne : sT a (i + 1) ≠ 58 := fun e => by
            unfold nxB at h58
            rw [decide_eq_true ⟨z, by omega, by omega⟩] at h58
            cases h58
          have es : sp (1, p, aN σ + 1, upB (aS σ) p true, aB σ) (sT a (i + 1)) = none := by
            unfold sp
            rw [if_neg (show ¬ (1 : Nat) = 0 by decide), if_pos (show (1 : Nat) = 1 from rfl), if_neg hne]
          obtain ⟨y1, y2⟩ := bad1 z e1 es
          exact ⟨y1.symm, y2⟩
        · have ei : i + 1 = sL a := Nat.le_antisymm t1.2.2.2 z
          rw [ei] at e1
          obtain ⟨y1, y2⟩ := bad2 e1 (show (1 : Nat) ≠ 3 by decide) (show (1 : Nat) ≠ 4 by decide)
          exact ⟨by rw [ei, y1], y2⟩
    · exact absurd h11 (nI_m1 (by omega))
  | true =>
    have hn2 : i + 1 < sL a ∧ 58 ≤ sT a (i + 1) ∧ sT a (i + 1) ≤ 58 := of_decide_eq_true h58
    have e2 : au (sT a) (i + 2) = some (2, p, aN σ + 1, upB (aS σ) p true, aB σ) := by
      show au (sT a) (i + 1 + 1) = _
      rw [au_s, e1]
      show sp (1, p, aN σ + 1, upB (aS σ) p true, aB σ) (sT a (i + 1)) = _
      unfold sp
      rw [if_neg (show ¬ (1 : Nat) = 0 by decide), if_pos (show (1 : Nat) = 1 from rfl), if_pos (by omega)]
    obtain ⟨v2, hv2⟩ : ∃ v2, v2 = up2 v1 83 10 (i + 2) := ⟨_, rfl⟩
    have t2 : TP v2 a (i + 2) := by rw [hv2]; exact t1.go hn2.1
    have f2 : FrP v v2 := f1.trans ⟨fun k k1 k2 => by rw [hv2, up2_k _ k1], fun j j1 j2 j3 => by rw [hv2, up2_j _ j1]⟩
    have n2 : v2 83 12 = aN σ + 1 := by rw [hv2, up2_j _ (by decide)]; exact n1
    have s2 : v2 83 11 = (m ||| 2 ^ p) := by rw [hv2, up2_j _ (by decide)]; exact s1
    have bd2 : ∀ j, j < 48 → v2 90 j = aB σ (12 + j) := fun j hj => by rw [hv2, up2_k _ (by decide)]; exact bd1 j hj
    have fin : ∀ x c, (c = 65 ∧ x = 1 ∨ c = 66 ∧ x = 2) → nxB a (i + 2) c c = true → gBl (PTs v L a (aN σ)) (some (.int (nI 1))) (up2 (up2 v2 83 10 (i + 3)) 90 (6 * p) x) L := by
      intro x c hx hc
      have hn3 : i + 2 < sL a ∧ c ≤ sT a (i + 2) ∧ sT a (i + 2) ≤ c := of_decide_eq_true hc
      have e3 : au (sT a) (i + 3) = some (4, p, aN σ + 1, upB (aS σ) p true, upN (aB σ) (12 + 6 * p) x) := by
        show au (sT a) (i + 2 + 1) = _
        rw [au_s, e2]
        show sp (2, p, aN σ + 1, upB (aS σ) p true, aB σ) (sT a (i + 2)) = _
        unfold sp
        rw [if_neg (show ¬ (2 : Nat) = 0 by decide), if_neg (show ¬ (2 : Nat) = 1 by decide), if_pos (show (2 : Nat) = 2 from rfl)]
        refine or_some ?_
        unfold spA
        rcases hx with ⟨hx1, hx2⟩ | ⟨hx1, hx2⟩
        · rw [if_pos (by omega), hx2]
        · rw [if_neg (by omega), if_pos (by omega), hx2]
      refine ⟨true, rfl, rfl, f2.trans ⟨fun k k1 k2 => by rw [up2_k _ k2, up2_k _ k1], fun j j1 j2 j3 => by rw [up2_k _ (by decide), up2_j _ j1]⟩, fun _ => ⟨i + 3, _, rfl, (t2.go hn3.1).up (by decide) (fun z => absurd z (by decide)), e3, Or.inr rfl, fun _ => rfl, fun j hj => ?_, ?_, ⟨_, ?_, k1⟩, fun q hq hz => ?_⟩, fun z => (by cases z)⟩
      · show _ = upN (aB σ) (12 + 6 * p) x (12 + j)
        by_cases e : j = 6 * p
        · rw [e, up2_s, upN_s]
        · rw [up2_j _ e, up2_k _ (by decide), upN_n _ _ (by omega)]; exact bd2 j hj
      · rw [up2_k _ (by decide), up2_j _ (by decide)]; exact n2
      · rw [up2_k _ (by decide), up2_j _ (by decide)]; exact s2
      · show upN (aB σ) (12 + 6 * p) x (13 + 6 * q) = 0
        rw [upN_n _ _ (by omega)]; exact z1 q hq hz
    have h0 : MV v2 v2 a (2, p, aN σ + 1, upB (aS σ) p true, aB σ) (2, p, aN σ + 1, upB (aS σ) p true, aB σ) p 0 (i + 2) (2 ^ p) := by
      refine ⟨t2, e2, rfl, rfl, rfl, rfl, c13, Nat.zero_le _, fun j hj _ => bd2 j hj, (MK.one hp8).cong (fun x hx => ?_), fun _ _ _ => rfl, fun _ _ _ => rfl, fun _ _ => rfl⟩
      show decide (x = p) = (decide (x = p) || hm (aB σ) p (nI x))
      have : hm (aB σ) p (nI x) = false := by unfold hm; rw [c13]; rfl
      rw [this, Bool.or_false]
    refine r_aload_n F dX8_readPart_0 rfl ?_
    refine r_aload_n F dX8_readPart_1 rfl ?_
    refine r_get (T := TX8) (n := 11) F uw8 rfl rfl tw_888 (Or.inl rfl) dX8_readPart_2 (kd_lt (rfl : kd 83 = (7,0,0)) (by decide)) (ce7 rfl) rfl ?_
    rw [b6]
    refine r_callV1i F fMX8_readPosition tw_1017 rfl rfl rfl rfl dX8_readPart_5 rfl rfl z0 (m8_readY g w b1 b7 hr) ?_
    rw [← hp]
    refine r_ist1 F dX8_readPart_8 rfl rfl ?_
    refine r_iload_n F dX8_readPart_9 rfl ?_
    refine R_iconst (x := -1) F dX8_readPart_10 rfl ?_
    refine R_icne F dX8_readPart_11 (fun h11 => ?_) (fun h11 => ?_)
    · refine r_aload_n F dX8_readPart_16 rfl ?_
      refine r_dup F dX8_readPart_17 rfl ?_
      refine r_get (T := TX8) (n := 11) F uw8 rfl rfl tw_888 (Or.inl rfl) dX8_readPart_18 (kd_lt (rfl : kd 83 = (7,0,0)) (by decide)) (ce7 rfl) rfl ?_
      rw [up2_j (b := 11) _ (by decide), b6]
      refine r_iconst (x := 1) F dX8_readPart_21 rfl ?_
      refine r_iload_n F dX8_readPart_22 rfl ?_
      refine R_ishl F dX8_readPart_23 (nI_sh1 (by omega)) ?_
      refine R_ior F dX8_readPart_24 (nI_or _ _) ?_
      refine r_put (T := TX8) (n := 11) (ty0 := tyX8) (ty := .int) F uw8 tyX8_ok nmX8 rfl rfl tw_888 (Or.inl rfl) rfl rfl rfl rfl dX8_readPart_25 (kd_lt (rfl : kd 83 = (7,0,0)) (by decide)) (ce7 rfl) rfl (pe7_11 rfl) up2_ce ?_
      refine r_aload_n F dX8_readPart_28 rfl ?_
      refine r_dup F dX8_readPart_29 rfl ?_
      refine r_get (T := TX8) (n := 12) F uw8 rfl rfl tw_889 (Or.inl rfl) dX8_readPart_30 (kd_lt (rfl : kd 83 = (7,0,0)) (by decide)) (ce7 rfl) rfl ?_
      rw [up2_j (b := 12) _ (by decide), up2_j (b := 12) _ (by decide), b5]
      refine r_iconst (x := 1) F dX8_readPart_33 rfl ?_
      refine r_iadd F dX8_readPart_34 ?_
      refine r_put (T := TX8) (n := 12) (ty0 := tyX8) (ty := .int) F uw8 tyX8_ok nmX8 rfl rfl tw_889 (Or.inl rfl) rfl rfl rfl rfl dX8_readPart_35 (kd_lt (rfl : kd 83 = (7,0,0)) (by decide)) (ce7 rfl) rfl (pe7_12 rfl) up2_ce ?_
      rw [← hv1]
      refine r_aload_n F dX8_readPart_38 rfl ?_
      refine r_bipush (x := 58) F dX8_readPart_39 rfl ?_
      refine r_callV1i F fMX8_takes tw_1025 rfl rfl rfl rfl dX8_readPart_41 rfl rfl z0 (m8_takes g w t1 (c := 58) (by decide)) ?_
      rw [if_pos h58, ← hv2]
      refine r_Bne F dX8_readPart_44 (fun h44 => ?_) (fun h44 => ?_)
      · refine r_aload_n F dX8_readPart_49 rfl ?_
        refine r_bipush (x := 65) F dX8_readPart_50 rfl ?_
        refine r_callV1i F fMX8_takes tw_1025 rfl rfl rfl rfl dX8_readPart_52 rfl rfl z0 (m8_takes g w t2 (c := 65) (by decide)) ?_
        refine r_Beq F dX8_readPart_55 (fun h55 => ?_) (fun h55 => ?_)
        · rw [if_neg (by rw [h55]; decide)]
          refine r_aload_n F dX8_readPart_70 rfl ?_
          refine r_bipush (x := 66) F dX8_readPart_71 rfl ?_
          refine r_callV1i F fMX8_takes tw_1025 rfl rfl rfl rfl dX8_readPart_73 rfl rfl z0 (m8_takes g w t2 (c := 66) (by decide)) ?_
          refine r_Beq F dX8_readPart_76 (fun h76 => ?_) (fun h76 => ?_)
          · rw [if_neg (by rw [h76]; decide)]
            refine r_aload_n F dX8_readPart_91 rfl ?_
            refine r_iload_n F dX8_readPart_92 rfl ?_
            refine r_callV1k F fMX8_readMoves tw_1029 rfl rfl rfl rfl dX8_readPart_93 rfl rfl z0 (m8_readMoves g w hp8 h0 (fun z => by
  unfold spA
  have q1 : sT a (i + 2) ≠ 65 := fun e => by unfold nxB at h55; rw [decide_eq_true ⟨z, by omega, by omega⟩] at h55; cases h55
  have q2 : sT a (i + 2) ≠ 66 := fun e => by unfold nxB at h76; rw [decide_eq_true ⟨z, by omega, by omega⟩] at h76; cases h76
  rw [if_neg q1, if_neg q2])) ?_
            rintro b v3 L3 ⟨rfl, y1, y2, y3, y4⟩
            refine r_iret F rfl nb_t dX8_readPart_96 ⟨b, rfl, rfl, f2.trans ⟨y1, fun j j1 _ _ => y2 j j1⟩, fun hb => ?_, y4⟩
            obtain ⟨i3, σ3, u1, u2, u3, u4, u5, u6, u7, u8⟩ := y3 hb
            refine ⟨i3, σ3, u6, u1, u2, Or.inl u3, fun z => ?_, u5, ?_, ⟨_, ?_, by rw [u7]; exact k1⟩, fun q hq hz => ?_⟩
            · have := u4 z
              unfold sp
              rw [if_neg (by omega), if_neg (by omega), if_neg (by omega), if_pos u3, this]; rfl
            · rw [y2 12 (by decide), n2, u6]
            · rw [y2 11 (by decide)]; exact s2
            · rw [u7] at hz
              by_cases e : q = p
              · subst e
                have hz : upB (aS σ) q true q = false := hz
                unfold upB at hz; rw [if_pos rfl] at hz; cases hz
              · rw [u8 q hq e]; exact z1 q hq hz
          · rw [if_pos h76]
            refine r_aload_n F dX8_readPart_79 rfl ?_
            refine r_get (x := .ref (gB G 90)) (T := TX8) (n := 9) F uw8 rfl rfl tw_886 (Or.inl rfl) dX8_readPart_80 (kd_lt (rfl : kd 83 = (7,0,0)) (by decide)) (ce7 rfl) rfl ?_
            refine r_bipush (x := 6) F dX8_readPart_83 rfl ?_
            refine r_iload_n F dX8_readPart_85 rfl ?_
            refine r_imul F dX8_readPart_86 ?_
            refine r_iconst (x := 2) F dX8_readPart_87 rfl ?_
            refine r_iast F dX8_readPart_88 rfl (by omega) ?_
            refine r_iconst (x := 1) F dX8_readPart_89 rfl ?_
            exact r_iret F rfl (nb01 (by decide)) dX8_readPart_90 (fin 2 66 (Or.inr ⟨rfl, rfl⟩) h76)
        · rw [if_pos h55]
          refine r_aload_n F dX8_readPart_58 rfl ?_
          refine r_get (x := .ref (gB G 90)) (T := TX8) (n := 9) F uw8 rfl rfl tw_886 (Or.inl rfl) dX8_readPart_59 (kd_lt (rfl : kd 83 = (7,0,0)) (by decide)) (ce7 rfl) rfl ?_
          refine r_bipush (x := 6) F dX8_readPart_62 rfl ?_
          refine r_iload_n F dX8_readPart_64 rfl ?_
          refine r_imul F dX8_readPart_65 ?_
          refine r_iconst (x := 1) F dX8_readPart_66 rfl ?_
          refine r_iast F dX8_readPart_67 rfl (by omega) ?_
          refine r_iconst (x := 1) F dX8_readPart_68 rfl ?_
          exact r_iret F rfl (nb01 (by decide)) dX8_readPart_69 (fin 1 65 (Or.inl ⟨rfl, rfl⟩) h55)
      · exact absurd h44 (by rw [h58]; decide)
    · exact absurd h11 (nI_m1 (by omega))
