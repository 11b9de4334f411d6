/-! reading a board as a text, sign by sign: what is expected, the part, the parts, the positions seen, the board (its rows as a state's, from 12 on) -/
abbrev AT : Type := Nat × Nat × Nat × (Nat → Bool) × (Nat → Nat)
def upN (f : Nat → Nat) (k x : Nat) : Nat → Nat := fun j => if j = k then x else f j
def upB (f : Nat → Bool) (k : Nat) (x : Bool) : Nat → Bool := fun j => if j = k then x else f j
theorem upN_s (f : Nat → Nat) (k x : Nat) : upN f k x k = x := if_pos rfl
theorem upN_n (f : Nat → Nat) {k j : Nat} (x : Nat) (h : j ≠ k) : upN f k x j = f j := if_neg h
abbrev aE (σ : AT) : Nat := σ.1
abbrev aP (σ : AT) : Nat := σ.2.1
abbrev aN (σ : AT) : Nat := σ.2.2.1
abbrev aS (σ : AT) : Nat → Bool := σ.2.2.2.1
abbrev aB (σ : AT) : Nat → Nat := σ.2.2.2.2
def dg (c : Nat) : Prop := 48 ≤ c ∧ c < 56
/-- the move c to be added -/
def mvok (σ : AT) (c : Nat) : Prop := (48 ≤ c ∧ c < 56) ∧ c - 48 ≠ aP σ ∧ aB σ (13 + 6 * aP σ) < 4 ∧ hm (aB σ) (aP σ) (nI (c - 48)) = false
def addM (B : Nat → Nat) (p q : Nat) : Nat → Nat := upN (upN B (14 + 6 * p + B (13 + 6 * p)) q) (13 + 6 * p) (B (13 + 6 * p) + 1)
noncomputable def spM (σ : AT) (c : Nat) : Option AT := haveI := Classical.propDecidable (mvok σ c); if mvok σ c then some (3, aP σ, aN σ, aS σ, addM (aB σ) (aP σ) (c - 48)) else none
noncomputable def spE (σ : AT) (c : Nat) : Option AT := if c = 59 ∧ aN σ < 8 then some (0, aP σ, aN σ, aS σ, aB σ) else none
noncomputable def spP (σ : AT) (c : Nat) : Option AT := if (48 ≤ c ∧ c < 56) ∧ aS σ (c - 48) = false then some (1, c - 48, aN σ + 1, upB (aS σ) (c - 48) true, aB σ) else none
noncomputable def spA (σ : AT) (c : Nat) : Option AT := if c = 65 then some (4, aP σ, aN σ, aS σ, upN (aB σ) (12 + 6 * aP σ) 1) else if c = 66 then some (4, aP σ, aN σ, aS σ, upN (aB σ) (12 + 6 * aP σ) 2) else none
noncomputable def sp (σ : AT) (c : Nat) : Option AT :=
  if aE σ = 0 then spP σ c
  else if aE σ = 1 then (if c = 58 then some (2, aP σ, aN σ, aS σ, aB σ) else none)
  else if aE σ = 2 then (spA σ c).or (spM σ c)
  else if aE σ = 3 then (spM σ c).or (spE σ c)
  else spE σ c
/-- the class's text is at σ -/
def RT (v : VV) (σ : AT) : Prop := v 68 6 = aE σ ∧ v 68 4 = aN σ ∧ (aE σ ≠ 0 → v 68 5 = aP σ) ∧ (∀ p, p < 8 → v 74 p = (aS σ p).toNat) ∧ RB 70 v (aB σ)
def WT (σ : AT) : Prop := aE σ ≤ 4 ∧ aN σ ≤ 8 ∧ aP σ < 8 ∧ WB (aB σ)
def FrT (v v' : VV) : Prop := (∀ k, k ≠ 68 → k ≠ 71 → k ≠ 72 → k ≠ 73 → k ≠ 74 → v' k = v k) ∧ v' 68 1 = v 68 1
theorem FrT.rf (v : VV) : FrT v v := ⟨fun _ _ _ _ _ _ => rfl, rfl⟩
theorem FrT.trans {a b c : VV} (h : FrT a b) (h2 : FrT b c) : FrT a c := ⟨fun k k1 k2 k3 k4 k5 => (h2.1 k k1 k2 k3 k4 k5).trans (h.1 k k1 k2 k3 k4 k5), h2.2.trans h.2⟩
def gO (v : VV) (L : LL) (o : Option AT) : Option Value → VV → LL → Prop := gBl fun b v' L' => L' = L ∧ FrT v v' ∧ (∀ σ', o = some σ' → b = true ∧ RT v' σ') ∧ (o = none → b = false ∧ v' = v)
theorem gO_no {v : VV} {L : LL} {o : Option AT} (h : o = none) : gO v L o (some (.int (nI 0))) v L := ⟨false, rfl, rfl, FrT.rf v, fun σ' z => (by rw [h] at z; cases z), fun _ => ⟨rfl, rfl⟩⟩
theorem gO_yes {v v' : VV} {L : LL} {o : Option AT} {σ' : AT} (h : o = some σ') (hF : FrT v v') (hR : RT v' σ') : gO v L o (some (.int (nI 1))) v' L := ⟨true, rfl, rfl, hF, fun σ2 z => (by rw [h] at z; cases z; exact ⟨rfl, hR⟩), fun z => (by rw [h] at z; cases z)⟩
theorem nI_m1 {q : Nat} (h : q < 2147483648) : nI q ≠ -1 := by
  intro e
  have h2 := nI_pos' (n := q) h
  rw [e] at h2
  exact absurd h2 (by decide)
def pB (c : Nat) : Int32 := if 48 ≤ c ∧ c < 56 then nI (c - 48) else -1
set_option maxHeartbeats 4000000 in
theorem m1_positionBy {G : GT} {v : VV} {L : LL} (g : GH G) {c : Nat} (hc : c < 65536) : CC G MX1_positionBy [.int (nI c)] v L (rR (pB c) v L) := by
  refine cc_of g [some (.int (nI c))] rfl rfl rfl rfl (fun K F => ?_)
  refine r_iload_n F dX1_positionBy_0 rfl ?_
  refine r_bipush (x := 48) F dX1_positionBy_1 rfl ?_
  refine r_iclt F dX1_positionBy_3 (by omega) (by omega) (fun h3 => ?_) (fun h3 => ?_)
  · refine R_iconst (x := -1) F dX1_positionBy_19 rfl ?_
    exact r_iret F rfl rfl dX1_positionBy_20 ⟨by unfold pB; first | rw [if_pos (by omega)] | rw [if_neg (by omega)], rfl, rfl⟩
  · refine r_iload_n F dX1_positionBy_6 rfl ?_
    refine r_bipush (x := 56) F dX1_positionBy_7 rfl ?_
    refine r_icge F dX1_positionBy_9 (by omega) (by omega) (fun h9 => ?_) (fun h9 => ?_)
    · refine R_iconst (x := -1) F dX1_positionBy_19 rfl ?_
      exact r_iret F rfl rfl dX1_positionBy_20 ⟨by unfold pB; first | rw [if_pos (by omega)] | rw [if_neg (by omega)], rfl, rfl⟩
    · refine r_iload_n F dX1_positionBy_12 rfl ?_
      refine r_bipush (x := 48) F dX1_positionBy_13 rfl ?_
      refine r_isub F dX1_positionBy_15 (by omega) ?_
      refine r_goto F dX1_positionBy_16 ?_
      exact r_iret F rfl rfl dX1_positionBy_20 ⟨by unfold pB; first | rw [if_pos (by omega)] | rw [if_neg (by omega)], rfl, rfl⟩
set_option maxHeartbeats 4000000 in
theorem m1_takesEnd {G : GT} {v : VV} {L : LL} (g : GH G) {σ : AT} (hr : RT v σ) (w : WT σ) {c : Nat} (hc : c < 65536) : CC G MX1_takesEnd [.ref (gB G 68), .int (nI c)] v L (gO v L (spE σ c)) := by
  refine cc_of g [some (.ref (gB G 68)), some (.int (nI c))] rfl rfl rfl rfl (fun K F => ?_)
  have e4 : v 68 4 = aN σ := hr.2.1
  have w2 : aN σ ≤ 8 := w.2.1
  refine r_iload_n F dX1_takesEnd_0 rfl ?_
  refine r_bipush (x := 59) F dX1_takesEnd_1 rfl ?_
  refine r_icne F dX1_takesEnd_3 (by omega) (by omega) (fun h3 => ?_) (fun h3 => ?_)
  · refine r_iconst (x := 0) F dX1_takesEnd_15 rfl ?_
    exact r_iret F rfl rfl dX1_takesEnd_16 (gO_no (by unfold spE; rw [if_neg (by omega)]))
  · refine r_aload_n F dX1_takesEnd_6 rfl ?_
    refine r_get (T := TX1) (n := 4) F uw1 rfl rfl tw_212 (Or.inl rfl) dX1_takesEnd_7 (kd_lt (rfl : kd 68 = (1,0,0)) (by decide)) (ce1 rfl) rfl ?_
    refine r_bipush (x := 8) F dX1_takesEnd_10 rfl ?_
    refine r_iclt F dX1_takesEnd_12 (by omega) (by omega) (fun h12 => ?_) (fun h12 => ?_)
    · refine r_aload_n F dX1_takesEnd_17 rfl ?_
      refine r_iconst (x := 0) F dX1_takesEnd_18 rfl ?_
      refine r_put (T := TX1) (n := 6) (ty0 := tyX1) (ty := .int) F uw1 tyX1_ok nmX1 rfl rfl tw_215 (Or.inl rfl) rfl rfl rfl rfl dX1_takesEnd_19 (kd_lt (rfl : kd 68 = (1,0,0)) (by decide)) (ce1 rfl) rfl (pe1_6 rfl) up2_ce ?_
      refine r_iconst (x := 1) F dX1_takesEnd_22 rfl ?_
      exact r_iret F rfl rfl dX1_takesEnd_23 (gO_yes (σ' := (0, aP σ, aN σ, aS σ, aB σ)) (by unfold spE; rw [if_pos (by omega)]) ⟨fun k k1 _ _ _ _ => up2_k _ k1, by simp [up2]⟩ ⟨by simp [up2], by simp [up2, e4], fun h => absurd rfl h, fun p hp => by rw [up2_k _ (by decide)]; exact hr.2.2.2.1 p hp, fun p hp => by rw [up2_k _ (by decide), up2_k _ (by decide), up2_k _ (by decide)]; exact hr.2.2.2.2 p hp⟩)
    · refine r_iconst (x := 0) F dX1_takesEnd_15 rfl ?_
      exact r_iret F rfl rfl dX1_takesEnd_16 (gO_no (by unfold spE; rw [if_neg (by omega)]))
set_option maxHeartbeats 4000000 in
theorem m1_takesPosition {G : GT} {v : VV} {L : LL} (g : GH G) {σ : AT} (hr : RT v σ) (w : WT σ) {c : Nat} (hc : c < 65536) : CC G MX1_takesPosition [.ref (gB G 68), .int (pB c)] v L (gO v L (spP σ c)) := by
  refine cc_of g [some (.ref (gB G 68)), some (.int (pB c))] rfl rfl rfl rfl (fun K F => ?_)
  have e4 : v 68 4 = aN σ := hr.2.1
  have w2 : aN σ ≤ 8 := w.2.1
  by_cases hd : 48 ≤ c ∧ c < 56
  · have ep : pB c = nI (c - 48) := if_pos hd
    rw [ep]
    have hs := hr.2.2.2.1 (c - 48) (by omega)
    have hb := Bool.toNat_le (aS σ (c - 48))
    refine r_iload_n F dX1_takesPosition_0 rfl ?_
    refine R_iconst (x := -1) F dX1_takesPosition_1 rfl ?_
    refine R_iceq F dX1_takesPosition_2 (fun h2 => ?_) (fun h2 => ?_)
    · exact absurd h2 (nI_m1 (by omega))
    · refine r_aload_n F dX1_takesPosition_5 rfl ?_
      refine r_get (x := .ref (gB G 74)) (T := TX1) (n := 3) F uw1 rfl rfl tw_211 (Or.inl rfl) dX1_takesPosition_6 (kd_lt (rfl : kd 68 = (1,0,0)) (by decide)) (ce1 rfl) rfl ?_
      refine r_iload_n F dX1_takesPosition_9 rfl ?_
      refine r_zald F dX1_takesPosition_10 rfl (by omega) ?_
      refine r_ifeq F dX1_takesPosition_11 (by omega) (fun h11 => ?_) (fun h11 => ?_)
      · refine r_aload_n F dX1_takesPosition_16 rfl ?_
        refine r_get (x := .ref (gB G 74)) (T := TX1) (n := 3) F uw1 rfl rfl tw_211 (Or.inl rfl) dX1_takesPosition_17 (kd_lt (rfl : kd 68 = (1,0,0)) (by decide)) (ce1 rfl) rfl ?_
        refine r_iload_n F dX1_takesPosition_20 rfl ?_
        refine r_iconst (x := 1) F dX1_takesPosition_21 rfl ?_
        refine r_zast F dX1_takesPosition_22 rfl (by omega) rfl ?_
        refine r_aload_n F dX1_takesPosition_23 rfl ?_
        refine r_iload_n F dX1_takesPosition_24 rfl ?_
        refine r_put (T := TX1) (n := 5) (ty0 := tyX1) (ty := .int) F uw1 tyX1_ok nmX1 rfl rfl tw_214 (Or.inl rfl) rfl rfl rfl rfl dX1_takesPosition_25 (kd_lt (rfl : kd 68 = (1,0,0)) (by decide)) (ce1 rfl) rfl (pe1_5 rfl) up2_ce ?_
        refine r_aload_n F dX1_takesPosition_28 rfl ?_
        refine r_dup F dX1_takesPosition_29 rfl ?_
        refine r_get (T := TX1) (n := 4) F uw1 rfl rfl tw_212 (Or.inl rfl) dX1_takesPosition_30 (kd_lt (rfl : kd 68 = (1,0,0)) (by decide)) (ce1 rfl) rfl ?_
        refine r_iconst (x := 1) F dX1_takesPosition_33 rfl ?_
        refine r_iadd F dX1_takesPosition_34 ?_
        refine r_put (T := TX1) (n := 4) (ty0 := tyX1) (ty := .int) F uw1 tyX1_ok nmX1 rfl rfl tw_212 (Or.inl rfl) rfl rfl rfl rfl dX1_takesPosition_35 (kd_lt (rfl : kd 68 = (1,0,0)) (by decide)) (ce1 rfl) rfl (pe1_4 rfl) up2_ce ?_
        refine r_aload_n F dX1_takesPosition_38 rfl ?_
        refine r_iconst (x := 1) F dX1_takesPosition_39 rfl ?_
        refine r_put (T := TX1) (n := 6) (ty0 := tyX1) (ty := .int) F uw1 tyX1_ok nmX1 rfl rfl tw_215 (Or.inl rfl) rfl rfl rfl rfl dX1_takesPosition_40 (kd_lt (rfl : kd 68 = (1,0,0)) (by decide)) (ce1 rfl) rfl (pe1_6 rfl) up2_ce ?_
        refine r_iconst (x := 1) F dX1_takesPosition_43 rfl ?_
        exact r_iret F rfl rfl dX1_takesPosition_44 (gO_yes (σ' := (1, c - 48, aN σ + 1, upB (aS σ) (c - 48) true, aB σ)) (by unfold spP; rw [if_pos ⟨hd, by cases hz : aS σ (c - 48) with | false => rfl | true => (rw [hz] at hs; rw [hs] at h11; cases h11)⟩]) ⟨fun k k1 k2 k3 k4 k5 => by rw [up2_k _ k1, up2_k _ k1, up2_k _ k1, up2_k _ k5], by simp [up2]⟩ ⟨by simp [up2], by simp [up2, e4], fun _ => by simp [up2], fun p hp => by
          rw [up2_k _ (by decide), up2_k _ (by decide), up2_k _ (by decide)]
          by_cases hz : p = c - 48
          · subst hz
            show _ = (upB (aS σ) (c - 48) true (c - 48)).toNat
            simp [up2, upB]
          · show _ = (upB (aS σ) (c - 48) true p).toNat
            simp only [up2, upB, hz, and_false, if_false]
            exact hr.2.2.2.1 p hp, fun p hp => by
          simp only [up2_k _ (show (71 : Nat) ≠ 68 by decide), up2_k _ (show (72 : Nat) ≠ 68 by decide), up2_k _ (show (73 : Nat) ≠ 68 by decide), up2_k _ (show (71 : Nat) ≠ 74 by decide), up2_k _ (show (72 : Nat) ≠ 74 by decide), up2_k _ (show (73 : Nat) ≠ 74 by decide)]
          exact hr.2.2.2.2 p hp⟩)
      · refine r_iconst (x := 0) F dX1_takesPosition_14 rfl ?_
        exact r_iret F rfl rfl dX1_takesPosition_15 (gO_no (by unfold spP; rw [if_neg (fun z => by rw [z.2] at hs; exact h11 hs)]))
  · have ep : pB c = -1 := if_neg hd
    rw [ep]
    refine r_iload_n F dX1_takesPosition_0 rfl ?_
    refine R_iconst (x := -1) F dX1_takesPosition_1 rfl ?_
    refine R_iceq F dX1_takesPosition_2 (fun h2 => ?_) (fun h2 => ?_)
    · refine r_iconst (x := 0) F dX1_takesPosition_14 rfl ?_
      exact r_iret F rfl rfl dX1_takesPosition_15 (gO_no (by unfold spP; rw [if_neg (fun z => hd z.1)]))
    · exact absurd rfl h2
theorem RB_addM {b : Nat} {v : VV} {B : Nat → Nat} (h : RB b v B) (w : WB B) {p q : Nat} (hp : p < 8) (hc : B (13 + 6 * p) < 4) : RB b (up2 (up2 v (b + 3) (p * 4 + v (b + 2) p) q) (b + 2) p (v (b + 2) p + 1)) (addM B p q) := by
  intro r hr
  have h0 := (h p hp).2.1
  obtain ⟨h1, h2, h3⟩ := h r hr
  have hw := (w r hr).2.1
  by_cases e : r = p
  · subst e
    have em : addM B r q (13 + 6 * r) = B (13 + 6 * r) + 1 := by unfold addM; rw [upN_s]
    refine ⟨?_, ?_, fun i hi => ?_⟩
    · rw [up2_k _ (by omega), up2_k _ (by omega), h1]
      unfold addM
      rw [upN_n _ _ (by omega), upN_n _ _ (by omega)]
    · rw [up2_s, em, h2]
    · rw [em] at hi
      rw [up2_k _ (by omega)]
      unfold addM
      rw [upN_n _ _ (by omega)]
      by_cases ei : i = B (13 + 6 * r)
      · rw [ei, upN_s, h0, up2_s]
      · rw [upN_n _ _ (by omega), up2_j _ (by omega), h3 i (by omega)]
  · have em : addM B p q (13 + 6 * r) = B (13 + 6 * r) := by unfold addM; rw [upN_n _ _ (by omega), upN_n _ _ (by omega)]
    refine ⟨?_, ?_, fun i hi => ?_⟩
    · rw [up2_k _ (by omega), up2_k _ (by omega), h1]
      unfold addM
      rw [upN_n _ _ (by omega), upN_n _ _ (by omega)]
    · rw [em, up2_j _ e, up2_k _ (by omega), h2]
    · rw [em] at hi
      rw [up2_k _ (by omega), up2_j _ (by omega), h3 i hi]
      unfold addM
      rw [upN_n _ _ (by omega), upN_n _ _ (by omega)]
theorem RB_mark {b : Nat} {v : VV} {B : Nat → Nat} (h : RB b v B) (w : WB B) {p x : Nat} (hp : p < 8) : RB b (up2 v (b + 1) p x) (upN B (12 + 6 * p) x) := by
  intro r hr
  obtain ⟨h1, h2, h3⟩ := h r hr
  have hw := (w r hr).2.1
  have em : upN B (12 + 6 * p) x (13 + 6 * r) = B (13 + 6 * r) := upN_n _ _ (by omega)
  refine ⟨?_, ?_, fun i hi => ?_⟩
  · by_cases e : r = p
    · subst e; rw [up2_s, upN_s]
    · rw [up2_j _ e, h1, upN_n _ _ (by omega)]
  · rw [em, up2_k _ (by omega), h2]
  · rw [em] at hi
    rw [up2_k _ (by omega), h3 i hi, upN_n _ _ (by omega)]
theorem WB_addM {B : Nat → Nat} (w : WB B) {p q : Nat} (hp : p < 8) (hq : q < 8) (hc : B (13 + 6 * p) < 4) : WB (addM B p q) := by
  intro r hr
  obtain ⟨h1, h2, h3⟩ := w r hr
  by_cases e : r = p
  · subst e
    have em : addM B r q (13 + 6 * r) = B (13 + 6 * r) + 1 := by unfold addM; rw [upN_s]
    refine ⟨?_, by rw [em]; omega, fun i hi => ?_⟩
    · unfold addM
      rw [upN_n _ _ (by omega), upN_n _ _ (by omega)]; exact h1
    · rw [em] at hi
      unfold addM
      rw [upN_n _ _ (by omega)]
      by_cases ei : i = B (13 + 6 * r)
      · rw [ei, upN_s]; exact hq
      · rw [upN_n _ _ (by omega)]; exact h3 i (by omega)
  · have em : addM B p q (13 + 6 * r) = B (13 + 6 * r) := by unfold addM; rw [upN_n _ _ (by omega), upN_n _ _ (by omega)]
    refine ⟨?_, by rw [em]; exact h2, fun i hi => ?_⟩
    · unfold addM
      rw [upN_n _ _ (by omega), upN_n _ _ (by omega)]; exact h1
    · rw [em] at hi
      unfold addM
      rw [upN_n _ _ (by omega), upN_n _ _ (by omega)]; exact h3 i hi
theorem WB_mark {B : Nat → Nat} (w : WB B) {p x : Nat} (hx : x ≤ 2) : WB (upN B (12 + 6 * p) x) := by
  intro r hr
  obtain ⟨h1, h2, h3⟩ := w r hr
  have em : upN B (12 + 6 * p) x (13 + 6 * r) = B (13 + 6 * r) := upN_n _ _ (by omega)
  refine ⟨?_, by rw [em]; exact h2, fun i hi => ?_⟩
  · by_cases e : r = p
    · subst e; rw [upN_s]; exact hx
    · rw [upN_n _ _ (by omega)]; exact h1
  · rw [em] at hi
    rw [upN_n _ _ (by omega)]; exact h3 i hi
set_option maxHeartbeats 4000000 in
theorem m1_takesMark {G : GT} {v : VV} {L : LL} (g : GH G) {σ : AT} (hr : RT v σ) (w : WT σ) {c : Nat} (hc : c < 65536) (he : aE σ ≠ 0) : CC G MX1_takesMark [.ref (gB G 68), .int (nI c)] v L (gO v L (spA σ c)) := by
  refine cc_of g [some (.ref (gB G 68)), some (.int (nI c))] rfl rfl rfl rfl (fun K F => ?_)
  have e4 : v 68 4 = aN σ := hr.2.1
  have e5 : v 68 5 = aP σ := hr.2.2.1 he
  have w3 : aP σ < 8 := w.2.2.1
  have fin : ∀ x, (c = 65 ∧ x = 1 ∨ c = 66 ∧ x = 2) → gO v L (spA σ c) (some (.int (nI 1))) (up2 (up2 v 71 (aP σ) x) 68 6 4) L := by
    intro x hx
    refine gO_yes (σ' := (4, aP σ, aN σ, aS σ, upN (aB σ) (12 + 6 * aP σ) x)) ?_ ⟨fun k k1 k2 k3 k4 k5 => by rw [up2_k _ k1, up2_k _ k2], by simp [up2]⟩ ⟨by simp [up2], by simp [up2, e4], fun _ => by simp [up2, e5], fun p hp => by rw [up2_k _ (by decide), up2_k _ (by decide)]; exact hr.2.2.2.1 p hp, ?_⟩
    · unfold spA
      rcases hx with ⟨h1, h2⟩ | ⟨h1, h2⟩
      · rw [if_pos h1, h2]
      · rw [if_neg (by omega), if_pos h1, h2]
    · have hm := RB_mark (x := x) hr.2.2.2.2 w.2.2.2 w3
      intro p hp
      rw [up2_k _ (show (70 + 1 : Nat) ≠ 68 by decide), up2_k _ (show (70 + 2 : Nat) ≠ 68 by decide), up2_k _ (show (70 + 3 : Nat) ≠ 68 by decide)]
      exact hm p hp
  refine r_iload_n F dX1_takesMark_0 rfl ?_
  refine r_bipush (x := 65) F dX1_takesMark_1 rfl ?_
  refine r_iceq F dX1_takesMark_3 (by omega) (by omega) (fun h3 => ?_) (fun h3 => ?_)
  · refine r_aload_n F dX1_takesMark_14 rfl ?_
    refine r_get (x := .ref (gB G 70)) (T := TX1) (n := 2) F uw1 rfl rfl tw_209 (Or.inl rfl) dX1_takesMark_15 (kd_lt (rfl : kd 68 = (1,0,0)) (by decide)) (ce1 rfl) rfl ?_
    refine r_getN (x := .ref (gB G 71)) (T := TX0) (n := 0) F uw0 rfl rfl tw_114 (Or.inl rfl) dX1_takesMark_18 (kd_lt (rfl : kd 70 = (0,0,0)) (by decide)) (ce0 rfl) rfl ?_
    refine r_aload_n F dX1_takesMark_21 rfl ?_
    refine r_get (T := TX1) (n := 5) F uw1 rfl rfl tw_214 (Or.inl rfl) dX1_takesMark_22 (kd_lt (rfl : kd 68 = (1,0,0)) (by decide)) (ce1 rfl) rfl ?_
    rw [e5]
    refine r_iload_n F dX1_takesMark_25 rfl ?_
    refine r_bipush (x := 65) F dX1_takesMark_26 rfl ?_
    refine r_icne F dX1_takesMark_28 (by omega) (by omega) (fun h28 => ?_) (fun h28 => ?_)
    · refine r_iconst (x := 2) F dX1_takesMark_35 rfl ?_
      refine r_iast F dX1_takesMark_36 rfl (by omega) ?_
      refine r_aload_n F dX1_takesMark_37 rfl ?_
      refine r_iconst (x := 4) F dX1_takesMark_38 rfl ?_
      refine r_put (T := TX1) (n := 6) (ty0 := tyX1) (ty := .int) F uw1 tyX1_ok nmX1 rfl rfl tw_215 (Or.inl rfl) rfl rfl rfl rfl dX1_takesMark_39 (kd_lt (rfl : kd 68 = (1,0,0)) (by decide)) (ce1 rfl) rfl (pe1_6 rfl) up2_ce ?_
      refine r_iconst (x := 1) F dX1_takesMark_42 rfl ?_
      exact r_iret F rfl rfl dX1_takesMark_43 (fin _ (by omega))
    · refine r_iconst (x := 1) F dX1_takesMark_31 rfl ?_
      refine r_goto F dX1_takesMark_32 ?_
      refine r_iast F dX1_takesMark_36 rfl (by omega) ?_
      refine r_aload_n F dX1_takesMark_37 rfl ?_
      refine r_iconst (x := 4) F dX1_takesMark_38 rfl ?_
      refine r_put (T := TX1) (n := 6) (ty0 := tyX1) (ty := .int) F uw1 tyX1_ok nmX1 rfl rfl tw_215 (Or.inl rfl) rfl rfl rfl rfl dX1_takesMark_39 (kd_lt (rfl : kd 68 = (1,0,0)) (by decide)) (ce1 rfl) rfl (pe1_6 rfl) up2_ce ?_
      refine r_iconst (x := 1) F dX1_takesMark_42 rfl ?_
      exact r_iret F rfl rfl dX1_takesMark_43 (fin _ (by omega))
  · refine r_iload_n F dX1_takesMark_6 rfl ?_
    refine r_bipush (x := 66) F dX1_takesMark_7 rfl ?_
    refine r_iceq F dX1_takesMark_9 (by omega) (by omega) (fun h9 => ?_) (fun h9 => ?_)
    · refine r_aload_n F dX1_takesMark_14 rfl ?_
      refine r_get (x := .ref (gB G 70)) (T := TX1) (n := 2) F uw1 rfl rfl tw_209 (Or.inl rfl) dX1_takesMark_15 (kd_lt (rfl : kd 68 = (1,0,0)) (by decide)) (ce1 rfl) rfl ?_
      refine r_getN (x := .ref (gB G 71)) (T := TX0) (n := 0) F uw0 rfl rfl tw_114 (Or.inl rfl) dX1_takesMark_18 (kd_lt (rfl : kd 70 = (0,0,0)) (by decide)) (ce0 rfl) rfl ?_
      refine r_aload_n F dX1_takesMark_21 rfl ?_
      refine r_get (T := TX1) (n := 5) F uw1 rfl rfl tw_214 (Or.inl rfl) dX1_takesMark_22 (kd_lt (rfl : kd 68 = (1,0,0)) (by decide)) (ce1 rfl) rfl ?_
      rw [e5]
      refine r_iload_n F dX1_takesMark_25 rfl ?_
      refine r_bipush (x := 65) F dX1_takesMark_26 rfl ?_
      refine r_icne F dX1_takesMark_28 (by omega) (by omega) (fun h28 => ?_) (fun h28 => ?_)
      · refine r_iconst (x := 2) F dX1_takesMark_35 rfl ?_
        refine r_iast F dX1_takesMark_36 rfl (by omega) ?_
        refine r_aload_n F dX1_takesMark_37 rfl ?_
        refine r_iconst (x := 4) F dX1_takesMark_38 rfl ?_
        refine r_put (T := TX1) (n := 6) (ty0 := tyX1) (ty := .int) F uw1 tyX1_ok nmX1 rfl rfl tw_215 (Or.inl rfl) rfl rfl rfl rfl dX1_takesMark_39 (kd_lt (rfl : kd 68 = (1,0,0)) (by decide)) (ce1 rfl) rfl (pe1_6 rfl) up2_ce ?_
        refine r_iconst (x := 1) F dX1_takesMark_42 rfl ?_
        exact r_iret F rfl rfl dX1_takesMark_43 (fin _ (by omega))
      · refine r_iconst (x := 1) F dX1_takesMark_31 rfl ?_
        refine r_goto F dX1_takesMark_32 ?_
        refine r_iast F dX1_takesMark_36 rfl (by omega) ?_
        refine r_aload_n F dX1_takesMark_37 rfl ?_
        refine r_iconst (x := 4) F dX1_takesMark_38 rfl ?_
        refine r_put (T := TX1) (n := 6) (ty0 := tyX1) (ty := .int) F uw1 tyX1_ok nmX1 rfl rfl tw_215 (Or.inl rfl) rfl rfl rfl rfl dX1_takesMark_39 (kd_lt (rfl : kd 68 = (1,0,0)) (by decide)) (ce1 rfl) rfl (pe1_6 rfl) up2_ce ?_
        refine r_iconst (x := 1) F dX1_takesMark_42 rfl ?_
        exact r_iret F rfl rfl dX1_takesMark_43 (fin _ (by omega))
    · refine r_iconst (x := 0) F dX1_takesMark_12 rfl ?_
      exact r_iret F rfl rfl dX1_takesMark_13 (gO_no (by unfold spA; rw [if_neg (by omega), if_neg (by omega)]))
set_option maxHeartbeats 4000000 in
theorem m1_takesMove {G : GT} {v : VV} {L : LL} (g : GH G) {σ : AT} (hr : RT v σ) (w : WT σ) {c : Nat} (hc : c < 65536) (he : aE σ ≠ 0) : CC G MX1_takesMove [.ref (gB G 68), .int (pB c)] v L (gO v L (spM σ c)) := by
  refine cc_of g [some (.ref (gB G 68)), some (.int (pB c))] rfl rfl rfl rfl (fun K F => ?_)
  have e4 : v 68 4 = aN σ := hr.2.1
  have e5 : v 68 5 = aP σ := hr.2.2.1 he
  have w3 : aP σ < 8 := w.2.2.1
  have e72 : v 72 (aP σ) = aB σ (13 + 6 * aP σ) := (hr.2.2.2.2 _ w3).2.1
  have wc : aB σ (13 + 6 * aP σ) ≤ 4 := (w.2.2.2 _ w3).2.1
  have hno : ¬ mvok σ c → spM σ c = none := fun h => by unfold spM; exact if_neg h
  have hyes : mvok σ c → spM σ c = some (3, aP σ, aN σ, aS σ, addM (aB σ) (aP σ) (c - 48)) := fun h => by unfold spM; exact if_pos h
  by_cases hd : 48 ≤ c ∧ c < 56
  · have ep : pB c = nI (c - 48) := if_pos hd
    rw [ep]
    refine r_iload_n F dX1_takesMove_0 rfl ?_
    refine R_iconst (x := -1) F dX1_takesMove_1 rfl ?_
    refine R_iceq F dX1_takesMove_2 (fun h2 => ?_) (fun h2 => ?_)
    · exact absurd h2 (nI_m1 (by omega))
    · refine r_iload_n F dX1_takesMove_5 rfl ?_
      refine r_aload_n F dX1_takesMove_6 rfl ?_
      refine r_get (T := TX1) (n := 5) F uw1 rfl rfl tw_214 (Or.inl rfl) dX1_takesMove_7 (kd_lt (rfl : kd 68 = (1,0,0)) (by decide)) (ce1 rfl) rfl ?_
      rw [e5]
      refine r_iceq F dX1_takesMove_10 (by omega) (by omega) (fun h10 => ?_) (fun h10 => ?_)
      · refine r_iconst (x := 0) F dX1_takesMove_44 rfl ?_
        exact r_iret F rfl rfl dX1_takesMove_45 (gO_no (hno (fun z => by obtain ⟨z1, z2, z3, z4⟩ := z; first | omega | (rw [z4] at h41; cases h41))))
      · refine r_aload_n F dX1_takesMove_13 rfl ?_
        refine r_get (x := .ref (gB G 70)) (T := TX1) (n := 2) F uw1 rfl rfl tw_209 (Or.inl rfl) dX1_takesMove_14 (kd_lt (rfl : kd 68 = (1,0,0)) (by decide)) (ce1 rfl) rfl ?_
        refine r_getN (x := .ref (gB G 72)) (T := TX0) (n := 1) F uw0 rfl rfl tw_117 (Or.inl rfl) dX1_takesMove_17 (kd_lt (rfl : kd 70 = (0,0,0)) (by decide)) (ce0 rfl) rfl ?_
        refine r_aload_n F dX1_takesMove_20 rfl ?_
        refine r_get (T := TX1) (n := 5) F uw1 rfl rfl tw_214 (Or.inl rfl) dX1_takesMove_21 (kd_lt (rfl : kd 68 = (1,0,0)) (by decide)) (ce1 rfl) rfl ?_
        rw [e5]
        refine r_iald F dX1_takesMove_24 rfl (by omega) ?_
        refine r_iconst (x := 4) F dX1_takesMove_25 rfl ?_
        refine r_icge F dX1_takesMove_26 (by omega) (by omega) (fun h26 => ?_) (fun h26 => ?_)
        · refine r_iconst (x := 0) F dX1_takesMove_44 rfl ?_
          exact r_iret F rfl rfl dX1_takesMove_45 (gO_no (hno (fun z => by obtain ⟨z1, z2, z3, z4⟩ := z; first | omega | (rw [z4] at h41; cases h41))))
        · refine r_aload_n F dX1_takesMove_29 rfl ?_
          refine r_get (x := .ref (gB G 70)) (T := TX1) (n := 2) F uw1 rfl rfl tw_209 (Or.inl rfl) dX1_takesMove_30 (kd_lt (rfl : kd 68 = (1,0,0)) (by decide)) (ce1 rfl) rfl ?_
          refine r_aload_n F dX1_takesMove_33 rfl ?_
          refine r_get (T := TX1) (n := 5) F uw1 rfl rfl tw_214 (Or.inl rfl) dX1_takesMove_34 (kd_lt (rfl : kd 68 = (1,0,0)) (by decide)) (ce1 rfl) rfl ?_
          refine r_iload_n F dX1_takesMove_37 rfl ?_
          rw [e5]
          refine r_callN2i F fMX0_hasMove tw_414 rfl rfl rfl rfl dX1_takesMove_38 rfl rfl z0 (m0_hasMove g bd70 hr.2.2.2.2 w.2.2.2 w3 (nI (c - 48))) ?_
          refine r_Beq F dX1_takesMove_41 (fun h41 => ?_) (fun h41 => ?_)
          · refine r_aload_n F dX1_takesMove_46 rfl ?_
            refine r_get (x := .ref (gB G 70)) (T := TX1) (n := 2) F uw1 rfl rfl tw_209 (Or.inl rfl) dX1_takesMove_47 (kd_lt (rfl : kd 68 = (1,0,0)) (by decide)) (ce1 rfl) rfl ?_
            refine r_aload_n F dX1_takesMove_50 rfl ?_
            refine r_get (T := TX1) (n := 5) F uw1 rfl rfl tw_214 (Or.inl rfl) dX1_takesMove_51 (kd_lt (rfl : kd 68 = (1,0,0)) (by decide)) (ce1 rfl) rfl ?_
            refine r_iload_n F dX1_takesMove_54 rfl ?_
            rw [e5]
            refine r_callN2v F fMX0_putMove tw_415 rfl rfl rfl rfl dX1_takesMove_55 rfl rfl z0 (m0_putMove g bd70 (p := aP σ) (to := c - 48) w3 (by omega)) ?_
            refine r_aload_n F dX1_takesMove_58 rfl ?_
            refine r_iconst (x := 3) F dX1_takesMove_59 rfl ?_
            refine r_put (T := TX1) (n := 6) (ty0 := tyX1) (ty := .int) F uw1 tyX1_ok nmX1 rfl rfl tw_215 (Or.inl rfl) rfl rfl rfl rfl dX1_takesMove_60 (kd_lt (rfl : kd 68 = (1,0,0)) (by decide)) (ce1 rfl) rfl (pe1_6 rfl) up2_ce ?_
            refine r_iconst (x := 1) F dX1_takesMove_63 rfl ?_
            refine r_iret F rfl rfl dX1_takesMove_64 (gO_yes (hyes ⟨hd, by omega, by omega, h41⟩) ⟨fun k k1 k2 k3 k4 k5 => by rw [up2_k _ k1, up2_k _ k3, up2_k _ k4], by simp [up2]⟩ ⟨by simp [up2], by simp [up2, e4], fun _ => by simp [up2, e5], fun p hp => by rw [up2_k _ (by decide), up2_k _ (by decide), up2_k _ (by decide)]; exact hr.2.2.2.1 p hp, ?_⟩)
            have hm := RB_addM (q := c - 48) hr.2.2.2.2 w.2.2.2 w3 (by omega)
            intro p hp
            rw [up2_k _ (show (70 + 1 : Nat) ≠ 68 by decide), up2_k _ (show (70 + 2 : Nat) ≠ 68 by decide), up2_k _ (show (70 + 3 : Nat) ≠ 68 by decide)]
            exact hm p hp
          · refine r_iconst (x := 0) F dX1_takesMove_44 rfl ?_
            exact r_iret F rfl rfl dX1_takesMove_45 (gO_no (hno (fun z => by obtain ⟨z1, z2, z3, z4⟩ := z; first | omega | (rw [z4] at h41; cases h41))))
  · have ep : pB c = -1 := if_neg hd
    rw [ep]
    refine r_iload_n F dX1_takesMove_0 rfl ?_
    refine R_iconst (x := -1) F dX1_takesMove_1 rfl ?_
    refine R_iceq F dX1_takesMove_2 (fun h2 => ?_) (fun h2 => ?_)
    · refine r_iconst (x := 0) F dX1_takesMove_44 rfl ?_
      exact r_iret F rfl rfl dX1_takesMove_45 (gO_no (hno (fun z => hd z.1)))
    · exact absurd rfl h2
theorem gO_cong {v : VV} {L : LL} {o o' : Option AT} (h : o = o') {r : Option Value} {v' : VV} {L' : LL} (k : gO v L o r v' L') : gO v L o' r v' L' := h ▸ k
/-- what is said of a sign that is taken, or not; the world behind is any if it is not -/
def gT (v : VV) (L : LL) (o : Option AT) : Option Value → VV → LL → Prop := gBl fun b v' L' => L' = L ∧ FrT v v' ∧ (∀ σ', o = some σ' → b = true ∧ RT v' σ') ∧ (o = none → b = false)
theorem gT_of {v v' : VV} {L L' : LL} {o : Option AT} {r : Option Value} (k : gO v L o r v' L') : gT v L o r v' L' := by
  obtain ⟨b, h1, h2, h3, h4, h5⟩ := k
  exact ⟨b, h1, h2, h3, h4, fun z => (h5 z).1⟩
theorem gT_no {v v' : VV} {L : LL} {o : Option AT} (h : o = none) (hF : FrT v v') : gT v L o (some (.int (nI 0))) v' L := ⟨false, rfl, rfl, hF, fun σ' z => (by rw [h] at z; cases z), fun _ => rfl⟩
theorem gT_yes {v v' : VV} {L : LL} {o : Option AT} {σ' : AT} (h : o = some σ') (hF : FrT v v') (hR : RT v' σ') : gT v L o (some (.int (nI 1))) v' L := ⟨true, rfl, rfl, hF, fun σ2 z => (by rw [h] at z; cases z; exact ⟨rfl, hR⟩), fun z => (by rw [h] at z; cases z)⟩
theorem nb_t {b : Bool} : narrow .boolean (.int (nI b.toNat)) = .int (nI b.toNat) := nb01 (Bool.toNat_le b)
theorem or_some {o o' : Option AT} {x : AT} (h : o = some x) : o.or o' = some x := by rw [h]; rfl
theorem or_none {o o' : Option AT} (h : o = none) : o.or o' = o' := by rw [h]; rfl
set_option maxHeartbeats 4000000 in
theorem m1_takes {G : GT} {v : VV} {L : LL} (g : GH G) {σ : AT} (hr : RT v σ) (w : WT σ) {c : Nat} (hc : c < 65536) : CC G MX1_takes [.ref (gB G 68), .int (nI c)] v L (gT v L (sp σ c)) := by
  refine cc_of g [some (.ref (gB G 68)), some (.int (nI c))] rfl rfl rfl rfl (fun K F => ?_)
  have e6 : v 68 6 = aE σ := hr.1
  have w1 : aE σ ≤ 4 := w.1
  have start : ∀ (k : CW G K 2 0 0 (MQ (kb K) (Qn G (gT v L (sp σ c))) (ka K) (ks K) 0 0 (gA G)) v L 4 [some (.ref (gB G 68)), some (.int (nI c))] [.int (nI (aE σ))]), CW G K 2 0 0 (MQ (kb K) (Qn G (gT v L (sp σ c))) (ka K) (ks K) 0 0 (gA G)) v L 0 [some (.ref (gB G 68)), some (.int (nI c))] [] := by
    intro k
    refine r_aload_n F dX1_takes_0 rfl ?_
    refine r_get (T := TX1) (n := 6) F uw1 rfl rfl tw_215 (Or.inl rfl) dX1_takes_1 (kd_lt (rfl : kd 68 = (1,0,0)) (by decide)) (ce1 rfl) rfl ?_
    rw [e6]
    exact k
  have hE : aE σ = 0 ∨ aE σ = 1 ∨ aE σ = 2 ∨ aE σ = 3 ∨ aE σ = 4 := by omega
  refine start ?_
  rcases hE with h0 | h0 | h0 | h0 | h0
  · rw [h0]
    have es : sp σ c = spP σ c := by unfold sp; rw [if_pos h0]
    refine R_tab F dX1_takes_4 (by decide) (by decide) rfl rfl ?_
    refine r_aload_n F dX1_takes_36 rfl ?_
    refine r_iload_n F dX1_takes_37 rfl ?_
    refine r_callS1q F fMX1_positionBy tw_399 rfl dX1_takes_38 rfl rfl z0 (m1_positionBy g hc) ?_
    refine r_callV1k F fMX1_takesPosition tw_402 rfl rfl rfl rfl dX1_takes_41 rfl rfl z0 (m1_takesPosition g hr w hc) ?_
    intro b v1 L1 hb
    exact r_iret F rfl nb_t dX1_takes_44 (es ▸ gT_of ⟨b, rfl, hb⟩)
  · rw [h0]
    have es : sp σ c = if c = 58 then some (2, aP σ, aN σ, aS σ, aB σ) else none := by unfold sp; rw [if_neg (by omega), if_pos h0]
    have hF : FrT v (up2 v 68 6 2) := ⟨fun k k1 k2 k3 k4 k5 => up2_k _ k1, by simp [up2]⟩
    refine R_tab F dX1_takes_4 (by decide) (by decide) rfl rfl ?_
    refine r_aload_n F dX1_takes_45 rfl ?_
    refine r_iconst (x := 2) F dX1_takes_46 rfl ?_
    refine r_put (T := TX1) (n := 6) (ty0 := tyX1) (ty := .int) F uw1 tyX1_ok nmX1 rfl rfl tw_215 (Or.inl rfl) rfl rfl rfl rfl dX1_takes_47 (kd_lt (rfl : kd 68 = (1,0,0)) (by decide)) (ce1 rfl) rfl (pe1_6 rfl) up2_ce ?_
    refine r_iload_n F dX1_takes_50 rfl ?_
    refine r_bipush (x := 58) F dX1_takes_51 rfl ?_
    refine r_icne F dX1_takes_53 (by omega) (by omega) (fun h53 => ?_) (fun h53 => ?_)
    · refine r_iconst (x := 0) F dX1_takes_60 rfl ?_
      first
        | exact r_iret F rfl rfl dX1_takes_61 (gT_no (by rw [es, if_neg (by omega)]) hF)
        | exact r_iret F rfl rfl dX1_takes_61 (gT_yes (σ' := (2, aP σ, aN σ, aS σ, aB σ)) (by rw [es, if_pos (by omega)]) hF ⟨by simp [up2], by simp [up2]; exact hr.2.1, fun _ => by simp [up2]; exact hr.2.2.1 (by omega), fun p hp => by rw [up2_k _ (by decide)]; exact hr.2.2.2.1 p hp, fun p hp => by
            rw [up2_k _ (show (70 + 1 : Nat) ≠ 68 by decide), up2_k _ (show (70 + 2 : Nat) ≠ 68 by decide), up2_k _ (show (70 + 3 : Nat) ≠ 68 by decide)]
            exact hr.2.2.2.2 p hp⟩)
    · refine r_iconst (x := 1) F dX1_takes_56 rfl ?_
      refine r_goto F dX1_takes_57 ?_
      first
        | exact r_iret F rfl rfl dX1_takes_61 (gT_no (by rw [es, if_neg (by omega)]) hF)
        | exact r_iret F rfl rfl dX1_takes_61 (gT_yes (σ' := (2, aP σ, aN σ, aS σ, aB σ)) (by rw [es, if_pos (by omega)]) hF ⟨by simp [up2], by simp [up2]; exact hr.2.1, fun _ => by simp [up2]; exact hr.2.2.1 (by omega), fun p hp => by rw [up2_k _ (by decide)]; exact hr.2.2.2.1 p hp, fun p hp => by
            rw [up2_k _ (show (70 + 1 : Nat) ≠ 68 by decide), up2_k _ (show (70 + 2 : Nat) ≠ 68 by decide), up2_k _ (show (70 + 3 : Nat) ≠ 68 by decide)]
            exact hr.2.2.2.2 p hp⟩)
  · rw [h0]
    have es : sp σ c = (spA σ c).or (spM σ c) := by unfold sp; rw [if_neg (by omega), if_neg (by omega), if_pos h0]
    refine R_tab F dX1_takes_4 (by decide) (by decide) rfl rfl ?_
    cases ho : spA σ c with
    | none =>
      rw [ho, or_none rfl] at es
      refine r_aload_n F dX1_takes_62 rfl ?_
      refine r_iload_n F dX1_takes_63 rfl ?_
      refine r_callV1k F fMX1_takesMark tw_406 rfl rfl rfl rfl dX1_takes_64 rfl rfl z0 (m1_takesMark g hr w hc (by omega)) ?_
      rintro b v1 L1 ⟨rfl, f1, -, f3⟩
      obtain ⟨rfl, rfl⟩ := f3 ho
      refine r_Bne F dX1_takes_67 (fun h67 => ?_) (fun h67 => ?_)
      · exact absurd h67 (by decide)
      · refine r_aload_n F dX1_takes_70 rfl ?_
        refine r_iload_n F dX1_takes_71 rfl ?_
        refine r_callS1q F fMX1_positionBy tw_399 rfl dX1_takes_72 rfl rfl z0 (m1_positionBy g hc) ?_
        refine r_callV1k F fMX1_takesMove tw_410 rfl rfl rfl rfl dX1_takes_75 rfl rfl z0 (m1_takesMove g hr w hc (by omega)) ?_
        rintro b v1 L1 ⟨rfl, f1, f2, f3⟩
        refine r_Beq F dX1_takes_78 (fun h78 => ?_) (fun h78 => ?_)
        · refine r_iconst (x := 0) F dX1_takes_85 rfl ?_
          first
            | exact r_iret F rfl rfl dX1_takes_86 ⟨true, rfl, rfl, f1, fun σ' z => ⟨rfl, (f2 σ' (es ▸ z)).2⟩, fun z => (by have := (f3 (es ▸ z)).1; rw [this] at h78; cases h78)⟩
            | exact r_iret F rfl rfl dX1_takes_86 ⟨false, rfl, rfl, f1, fun σ' z => (by have := (f2 σ' (es ▸ z)).1; rw [this] at h78; cases h78), fun _ => rfl⟩
        · refine r_iconst (x := 1) F dX1_takes_81 rfl ?_
          refine r_goto F dX1_takes_82 ?_
          first
            | exact r_iret F rfl rfl dX1_takes_86 ⟨true, rfl, rfl, f1, fun σ' z => ⟨rfl, (f2 σ' (es ▸ z)).2⟩, fun z => (by have := (f3 (es ▸ z)).1; rw [this] at h78; cases h78)⟩
            | exact r_iret F rfl rfl dX1_takes_86 ⟨false, rfl, rfl, f1, fun σ' z => (by have := (f2 σ' (es ▸ z)).1; rw [this] at h78; cases h78), fun _ => rfl⟩
    | some σ' =>
      rw [ho, or_some rfl] at es
      refine r_aload_n F dX1_takes_62 rfl ?_
      refine r_iload_n F dX1_takes_63 rfl ?_
      refine r_callV1k F fMX1_takesMark tw_406 rfl rfl rfl rfl dX1_takes_64 rfl rfl z0 (m1_takesMark g hr w hc (by omega)) ?_
      rintro b v1 L1 ⟨rfl, f1, f2, -⟩
      obtain ⟨rfl, f4⟩ := f2 σ' ho
      refine r_Bne F dX1_takes_67 (fun h67 => ?_) (fun h67 => ?_)
      · refine r_iconst (x := 1) F dX1_takes_81 rfl ?_
        refine r_goto F dX1_takes_82 ?_
        exact r_iret F rfl rfl dX1_takes_86 (gT_yes es f1 f4)
      · exact absurd h67 (by decide)
  · rw [h0]
    have es : sp σ c = (spM σ c).or (spE σ c) := by unfold sp; rw [if_neg (by omega), if_neg (by omega), if_neg (by omega), if_pos h0]
    refine R_tab F dX1_takes_4 (by decide) (by decide) rfl rfl ?_
    cases ho : spM σ c with
    | none =>
      rw [ho, or_none rfl] at es
      refine r_aload_n F dX1_takes_87 rfl ?_
      refine r_iload_n F dX1_takes_88 rfl ?_
      refine r_callS1q F fMX1_positionBy tw_399 rfl dX1_takes_89 rfl rfl z0 (m1_positionBy g hc) ?_
      refine r_callV1k F fMX1_takesMove tw_410 rfl rfl rfl rfl dX1_takes_92 rfl rfl z0 (m1_takesMove g hr w hc (by omega)) ?_
      rintro b v1 L1 ⟨rfl, f1, -, f3⟩
      obtain ⟨rfl, rfl⟩ := f3 ho
      refine r_Bne F dX1_takes_95 (fun h95 => ?_) (fun h95 => ?_)
      · exact absurd h95 (by decide)
      · refine r_aload_n F dX1_takes_98 rfl ?_
        refine r_iload_n F dX1_takes_99 rfl ?_
        refine r_callV1k F fMX1_takesEnd tw_419 rfl rfl rfl rfl dX1_takes_100 rfl rfl z0 (m1_takesEnd g hr w hc) ?_
        rintro b v1 L1 ⟨rfl, f1, f2, f3⟩
        refine r_Beq F dX1_takes_103 (fun h103 => ?_) (fun h103 => ?_)
        · refine r_iconst (x := 0) F dX1_takes_110 rfl ?_
          first
            | exact r_iret F rfl rfl dX1_takes_111 ⟨true, rfl, rfl, f1, fun σ' z => ⟨rfl, (f2 σ' (es ▸ z)).2⟩, fun z => (by have := (f3 (es ▸ z)).1; rw [this] at h103; cases h103)⟩
            | exact r_iret F rfl rfl dX1_takes_111 ⟨false, rfl, rfl, f1, fun σ' z => (by have := (f2 σ' (es ▸ z)).1; rw [this] at h103; cases h103), fun _ => rfl⟩
        · refine r_iconst (x := 1) F dX1_takes_106 rfl ?_
          refine r_goto F dX1_takes_107 ?_
          first
            | exact r_iret F rfl rfl dX1_takes_111 ⟨true, rfl, rfl, f1, fun σ' z => ⟨rfl, (f2 σ' (es ▸ z)).2⟩, fun z => (by have := (f3 (es ▸ z)).1; rw [this] at h103; cases h103)⟩
            | exact r_iret F rfl rfl dX1_takes_111 ⟨false, rfl, rfl, f1, fun σ' z => (by have := (f2 σ' (es ▸ z)).1; rw [this] at h103; cases h103), fun _ => rfl⟩
    | some σ' =>
      rw [ho, or_some rfl] at es
      refine r_aload_n F dX1_takes_87 rfl ?_
      refine r_iload_n F dX1_takes_88 rfl ?_
      refine r_callS1q F fMX1_positionBy tw_399 rfl dX1_takes_89 rfl rfl z0 (m1_positionBy g hc) ?_
      refine r_callV1k F fMX1_takesMove tw_410 rfl rfl rfl rfl dX1_takes_92 rfl rfl z0 (m1_takesMove g hr w hc (by omega)) ?_
      rintro b v1 L1 ⟨rfl, f1, f2, -⟩
      obtain ⟨rfl, f4⟩ := f2 σ' ho
      refine r_Bne F dX1_takes_95 (fun h95 => ?_) (fun h95 => ?_)
      · refine r_iconst (x := 1) F dX1_takes_106 rfl ?_
        refine r_goto F dX1_takes_107 ?_
        exact r_iret F rfl rfl dX1_takes_111 (gT_yes es f1 f4)
      · exact absurd h95 (by decide)
  · rw [h0]
    have es : sp σ c = spE σ c := by unfold sp; rw [if_neg (by omega), if_neg (by omega), if_neg (by omega), if_neg (by omega)]
    refine R_tabO F dX1_takes_4 (by decide) rfl ?_
    refine r_aload_n F dX1_takes_112 rfl ?_
    refine r_iload_n F dX1_takes_113 rfl ?_
    refine r_callV1k F fMX1_takesEnd tw_419 rfl rfl rfl rfl dX1_takes_114 rfl rfl z0 (m1_takesEnd g hr w hc) ?_
    intro b v1 L1 hb
    exact r_iret F rfl nb_t dX1_takes_117 (es ▸ gT_of ⟨b, rfl, hb⟩)
/-- the text run from the sign i on: where it stands, or the first sign that is not taken -/
noncomputable def au (T : Nat → Nat) : Nat → Option AT
  | 0 => some (0, 0, 0, fun _ => false, fun _ => 0)
  | i + 1 => (au T i).bind fun σ => sp σ (T i)
theorem au_s (T : Nat → Nat) (i : Nat) : au T (i + 1) = (au T i).bind fun σ => sp σ (T i) := rfl
set_option maxHeartbeats 4000000 in
theorem m1_isWhole {G : GT} {v : VV} {L : LL} (g : GH G) {x : Nat} (h6 : v 68 6 = x) (hx : x ≤ 4) : CC G MX1_isWhole [.ref (gB G 68)] v L (rI (b01 (x = 3 ∨ x = 4)) v L) := by
  refine cc_of g [some (.ref (gB G 68))] rfl rfl rfl rfl (fun K F => ?_)
  refine r_aload_n F dX1_isWhole_0 rfl ?_
  refine r_get (T := TX1) (n := 6) F uw1 rfl rfl tw_215 (Or.inl rfl) dX1_isWhole_1 (kd_lt (rfl : kd 68 = (1,0,0)) (by decide)) (ce1 rfl) rfl ?_
  refine r_iconst (x := 3) F dX1_isWhole_4 rfl ?_
  refine r_iceq F dX1_isWhole_5 (by omega) (by omega) (fun h5 => ?_) (fun h5 => ?_)
  · refine r_iconst (x := 1) F dX1_isWhole_16 rfl ?_
    refine r_goto F dX1_isWhole_17 ?_
    first
      | exact b_iret F rfl dX1_isWhole_21 (by decide) (by rw [b01_y (by omega)]) rfl rfl
      | exact b_iret F rfl dX1_isWhole_21 (by decide) (by rw [b01_n (by omega)]) rfl rfl
  · refine r_aload_n F dX1_isWhole_8 rfl ?_
    refine r_get (T := TX1) (n := 6) F uw1 rfl rfl tw_215 (Or.inl rfl) dX1_isWhole_9 (kd_lt (rfl : kd 68 = (1,0,0)) (by decide)) (ce1 rfl) rfl ?_
    refine r_iconst (x := 4) F dX1_isWhole_12 rfl ?_
    refine r_icne F dX1_isWhole_13 (by omega) (by omega) (fun h13 => ?_) (fun h13 => ?_)
    · refine r_iconst (x := 0) F dX1_isWhole_20 rfl ?_
      first
        | exact b_iret F rfl dX1_isWhole_21 (by decide) (by rw [b01_y (by omega)]) rfl rfl
        | exact b_iret F rfl dX1_isWhole_21 (by decide) (by rw [b01_n (by omega)]) rfl rfl
    · refine r_iconst (x := 1) F dX1_isWhole_16 rfl ?_
      refine r_goto F dX1_isWhole_17 ?_
      first
        | exact b_iret F rfl dX1_isWhole_21 (by decide) (by rw [b01_y (by omega)]) rfl rfl
        | exact b_iret F rfl dX1_isWhole_21 (by decide) (by rw [b01_n (by omega)]) rfl rfl
theorem sp_W {σ σ' : AT} {c : Nat} (w : WT σ) (h8 : aE σ = 0 → aN σ < 8) (h : sp σ c = some σ') : WT σ' ∧ (aE σ' = 0 → aN σ' < 8) := by
  obtain ⟨w1, w2, w3, w4⟩ := w
  have hP : spP σ c = some σ' → aN σ < 8 → WT σ' ∧ (aE σ' = 0 → aN σ' < 8) := by
    intro h h8
    unfold spP at h
    split at h
    · cases h
      rename_i hc
      exact ⟨⟨by show 1 ≤ 4; decide, by show aN σ + 1 ≤ 8; omega, by show c - 48 < 8; omega, w4⟩, fun z => absurd z (by show ¬ (1 : Nat) = 0; decide)⟩
    · cases h
  have hM : spM σ c = some σ' → WT σ' ∧ (aE σ' = 0 → aN σ' < 8) := by
    intro h
    unfold spM at h
    split at h
    · cases h
      rename_i hc
      exact ⟨⟨by show 3 ≤ 4; decide, w2, w3, WB_addM w4 w3 (by have := hc.1; omega) hc.2.2.1⟩, fun z => absurd z (by show ¬ (3 : Nat) = 0; decide)⟩
    · cases h
  have hE : spE σ c = some σ' → WT σ' ∧ (aE σ' = 0 → aN σ' < 8) := by
    intro h
    unfold spE at h
    split at h
    · cases h
      rename_i hc
      exact ⟨⟨by show 0 ≤ 4; decide, w2, w3, w4⟩, fun _ => hc.2⟩
    · cases h
  have hA : spA σ c = some σ' → WT σ' ∧ (aE σ' = 0 → aN σ' < 8) := by
    intro h
    unfold spA at h
    split at h
    · cases h
      exact ⟨⟨by show 4 ≤ 4; decide, w2, w3, WB_mark w4 (by decide)⟩, fun z => absurd z (by show ¬ (4 : Nat) = 0; decide)⟩
    · split at h
      · cases h
        exact ⟨⟨by show 4 ≤ 4; decide, w2, w3, WB_mark w4 (by decide)⟩, fun z => absurd z (by show ¬ (4 : Nat) = 0; decide)⟩
      · cases h
  unfold sp at h
  split at h
  · rename_i z; exact hP h (h8 z)
  · split at h
    · split at h
      · cases h
        exact ⟨⟨by show 2 ≤ 4; decide, w2, w3, w4⟩, fun z => absurd z (by show ¬ (2 : Nat) = 0; decide)⟩
      · cases h
    · split at h
      · cases ha : spA σ c with
        | none => rw [or_none ha] at h; exact hM h
        | some y => rw [or_some ha] at h; rw [h] at ha; exact hA ha
      · split at h
        · cases ha : spM σ c with
          | none => rw [or_none ha] at h; exact hE h
          | some y => rw [or_some ha] at h; rw [h] at ha; exact hM ha
        · exact hE h
/-- the place of the first error, the length without one -/
noncomputable def erN (T : Nat → Nat) (n : Nat) : Nat := fsN (fun i => (au T (i + 1)).isNone) n
theorem au_none {T : Nat → Nat} {i : Nat} (h : au T i = none) : ∀ j, i ≤ j → au T j = none := by
  intro j
  induction j with
  | zero => intro z; rw [show i = 0 by omega] at h; exact h
  | succ j ih =>
    intro z
    rcases Nat.lt_or_ge j i with y | y
    · rw [show j + 1 = i by omega]; exact h
    · rw [au_s, ih y]; rfl
theorem er_at {T : Nat → Nat} {n i : Nat} {σ : AT} (hi : i < n) (h : au T i = some σ) (h2 : sp σ (T i) = none) : erN T n = i := by
  refine fsN_eq hi (by rw [au_s, h]; show Option.isNone (sp σ (T i)) = true; rw [h2]; rfl) (fun j hj => ?_)
  cases hz : au T (j + 1) with
  | none => rw [au_none hz i (by omega)] at h; cases h
  | some _ => rfl
theorem er_end {T : Nat → Nat} {n : Nat} {σ : AT} (h : au T n = some σ) : erN T n = n := by
  refine fsN_none (fun j hj => ?_)
  cases hz : au T (j + 1) with
  | none => rw [au_none hz n (by omega)] at h; cases h
  | some _ => rfl
theorem er_lt {T : Nat → Nat} {n : Nat} (h : au T n = none) : erN T n < n := by
  rcases Nat.lt_or_ge (erN T n) n with z | z
  · exact z
  · exfalso
    have : ∀ i, i ≤ n → au T i ≠ none := by
      intro i
      induction i with
      | zero => intro _ y; cases y
      | succ i ih =>
        intro hi y
        have hk := fsN_no (fun i => (au T (i + 1)).isNone) n i (by unfold erN at z; omega)
        rw [y] at hk; cases hk
    exact this n (by omega) h
def ez (v : VV) (i : Nat) : VV := fun k j => if k = 74 ∧ j < i then 0 else v k j
theorem ez_k (v : VV) {k i : Nat} (h : k ≠ 74) : ez v i k = v k := by funext j; simp [ez, h]
theorem ez_up (v : VV) (i : Nat) : up2 (ez v i) 74 i 0 = ez v (i + 1) := by
  funext k j
  by_cases h1 : k = 74
  · subst h1
    by_cases h2 : j = i
    · subst h2; simp [up2, ez]
    · rw [up2_j _ h2]
      have : (j < i + 1) = (j < i) := by rw [eq_iff_iff]; omega
      simp [ez, this]
  · rw [up2_k _ h1, ez_k _ h1, ez_k _ h1]
set_option maxHeartbeats 8000000 in
theorem m1_scan {G : GT} {v : VV} {L : LL} (g : GH G) {T : Nat → Nat} {len : Nat} (hl : len ≤ 60) (h1 : v 68 1 = len) (hT : ∀ i, i < len → v 69 i = T i ∧ T i < 65536) : CC G MX1_scan [.ref (gB G 68)] v L (gI fun x v' L' => L' = L ∧ x = nI (erN T len) ∧ FrT v v' ∧ ∀ σ, au T len = some σ → RT v' σ) := by
  refine cc_of g [some (.ref (gB G 68)), none] rfl rfl rfl rfl (fun K F => ?_)
  have lo : ∀ (n i : Nat) (v' : VV) (σ : AT), len < i + n → i ≤ len → FrT v v' → au T i = some σ → RT v' σ → WT σ → (aE σ = 0 → aN σ < 8) → CW G K 2 0 0 (MQ (kb K) (Qn G (gI fun x v' L' => L' = L ∧ x = nI (erN T len) ∧ FrT v v' ∧ ∀ σ, au T len = some σ → RT v' σ)) (ka K) (ks K) 0 0 (gA G)) v' L 40 [some (.ref (gB G 68)), some (.int (nI i))] [] := by
    intro n
    induction n with
    | zero => intro i v' σ a1 a2; omega
    | succ n ih =>
      intro i v' σ a1 a2 a3 a4 a5 a6 a7
      have e1 : v' 68 1 = len := by rw [a3.2, h1]
      have e2 : v' 69 i = v 69 i := by rw [a3.1 69 (by decide) (by decide) (by decide) (by decide) (by decide)]
      refine r_iload_n F dX1_scan_40 rfl ?_
      refine r_aload_n F dX1_scan_41 rfl ?_
      refine r_get (T := TX1) (n := 1) F uw1 rfl rfl tw_207 (Or.inl rfl) dX1_scan_42 (kd_lt (rfl : kd 68 = (1,0,0)) (by decide)) (ce1 rfl) rfl ?_
      refine r_icge F dX1_scan_45 (by omega) (by omega) (fun h45 => ?_) (fun h45 => ?_)
      · refine r_aload_n F dX1_scan_69 rfl ?_
        refine r_get (T := TX1) (n := 1) F uw1 rfl rfl tw_207 (Or.inl rfl) dX1_scan_70 (kd_lt (rfl : kd 68 = (1,0,0)) (by decide)) (ce1 rfl) rfl ?_
        rw [e1]
        exact r_iret F rfl rfl dX1_scan_73 ⟨_, rfl, rfl, by rw [show i = len by omega] at a4; rw [er_end a4], a3, fun σ' z => by rw [show i = len by omega, z] at a4; cases a4; exact a5⟩
      · refine r_aload_n F dX1_scan_48 rfl ?_
        refine r_aload_n F dX1_scan_49 rfl ?_
        refine r_get (x := .ref (gB G 69)) (T := TX1) (n := 0) F uw1 rfl rfl tw_205 (Or.inl rfl) dX1_scan_50 (kd_lt (rfl : kd 68 = (1,0,0)) (by decide)) (ce1 rfl) rfl ?_
        refine r_iload_n F dX1_scan_53 rfl ?_
        refine r_cald F dX1_scan_54 rfl (by omega) ?_
        rw [e2, (hT i (by omega)).1]
        refine r_callV1k F fMX1_takes tw_395 rfl rfl rfl rfl dX1_scan_55 rfl rfl z0 (m1_takes g a5 a6 (hT i (by omega)).2) ?_
        rintro b v1 L1 ⟨rfl, f1, f2, f3⟩
        refine r_Bne F dX1_scan_58 (fun h58 => ?_) (fun h58 => ?_)
        · refine r_iinc1 (y := 1) F dX1_scan_63 rfl rfl rfl rfl ?_
          refine r_goto F dX1_scan_66 ?_
          cases ho : sp σ (T i) with
          | none => rw [f3 ho] at h58; cases h58
          | some σ' =>
            obtain ⟨w1, w2⟩ := sp_W a6 a7 ho
            exact ih (i + 1) v1 σ' (by omega) (by omega) (a3.trans f1) (by rw [au_s, a4]; exact ho) (f2 σ' ho).2 w1 w2
        · cases ho : sp σ (T i) with
          | some σ' => have := (f2 σ' ho).1; rw [this] at h58; cases h58
          | none =>
            refine r_iload_n F dX1_scan_61 rfl ?_
            refine r_iret F rfl rfl dX1_scan_62 ⟨_, rfl, rfl, by rw [er_at (by omega) a4 ho], a3.trans f1, fun σ' z => ?_⟩
            rw [au_none (i := i + 1) (by rw [au_s, a4]; exact ho) len (by omega)] at z; cases z
  have zero : ∀ (n i : Nat), 8 < i + n → i ≤ 8 → CW G K 2 0 0 (MQ (kb K) (Qn G (gI fun x v' L' => L' = L ∧ x = nI (erN T len) ∧ FrT v v' ∧ ∀ σ, au T len = some σ → RT v' σ)) (ka K) (ks K) 0 0 (gA G)) (ez (em v 70 8) i) L 9 [some (.ref (gB G 68)), some (.int (nI i))] [] := by
    intro n
    induction n with
    | zero => intro i a1 a2; omega
    | succ n ih =>
      intro i a1 a2
      refine r_iload_n F dX1_scan_9 rfl ?_
      refine r_bipush (x := 8) F dX1_scan_10 rfl ?_
      refine r_icge F dX1_scan_12 (by omega) (by omega) (fun h12 => ?_) (fun h12 => ?_)
      · refine r_aload_n F dX1_scan_28 rfl ?_
        refine r_iconst (x := 0) F dX1_scan_29 rfl ?_
        refine r_put (T := TX1) (n := 4) (ty0 := tyX1) (ty := .int) F uw1 tyX1_ok nmX1 rfl rfl tw_212 (Or.inl rfl) rfl rfl rfl rfl dX1_scan_30 (kd_lt (rfl : kd 68 = (1,0,0)) (by decide)) (ce1 rfl) rfl (pe1_4 rfl) up2_ce ?_
        refine r_aload_n F dX1_scan_33 rfl ?_
        refine r_iconst (x := 0) F dX1_scan_34 rfl ?_
        refine r_put (T := TX1) (n := 6) (ty0 := tyX1) (ty := .int) F uw1 tyX1_ok nmX1 rfl rfl tw_215 (Or.inl rfl) rfl rfl rfl rfl dX1_scan_35 (kd_lt (rfl : kd 68 = (1,0,0)) (by decide)) (ce1 rfl) rfl (pe1_6 rfl) up2_ce ?_
        refine r_iconst (x := 0) F dX1_scan_38 rfl ?_
        refine r_ist1 F dX1_scan_39 rfl rfl ?_
        have hi : i = 8 := by omega
        subst hi
        have eo : ∀ k, k ≠ 68 → k ≠ 71 → k ≠ 72 → k ≠ 74 → up2 (up2 (ez (em v 70 8) 8) 68 4 0) 68 6 0 k = v k := fun k k1 k2 k3 k5 => by
          rw [up2_k _ k1, up2_k _ k1, ez_k _ k5]; funext j; simp [em, k2, k3]
        refine lo (len + 1) 0 _ (0, 0, 0, fun _ => false, fun _ => 0) (by omega) (by omega) ⟨fun k k1 k2 k3 k4 k5 => eo k k1 k2 k3 k5, by simp [up2, ez, em]⟩ rfl ⟨by simp [up2], by simp [up2], fun z => absurd rfl z, fun p hp => by simp [up2, ez, hp]; rfl, fun p hp => ⟨by simp [up2, ez, em, hp], by simp [up2, ez, em, hp], fun i hi => absurd hi (Nat.not_lt_zero i)⟩⟩ ⟨by show 0 ≤ 4; decide, by show 0 ≤ 8; decide, by show 0 < 8; decide, fun p hp => ⟨Nat.zero_le _, Nat.zero_le _, fun i hi => absurd hi (Nat.not_lt_zero i)⟩⟩ (fun _ => by show 0 < 8; decide)
      · refine r_aload_n F dX1_scan_15 rfl ?_
        refine r_get (x := .ref (gB G 74)) (T := TX1) (n := 3) F uw1 rfl rfl tw_211 (Or.inl rfl) dX1_scan_16 (kd_lt (rfl : kd 68 = (1,0,0)) (by decide)) (ce1 rfl) rfl ?_
        refine r_iload_n F dX1_scan_19 rfl ?_
        refine r_iconst (x := 0) F dX1_scan_20 rfl ?_
        refine r_zast F dX1_scan_21 rfl (by omega) rfl ?_
        refine r_iinc1 (y := 1) F dX1_scan_22 rfl rfl rfl rfl ?_
        refine r_goto F dX1_scan_25 ?_
        rw [ez_up]; exact ih (i + 1) (by omega) (by omega)
  refine r_aload_n F dX1_scan_0 rfl ?_
  refine r_get (x := .ref (gB G 70)) (T := TX1) (n := 2) F uw1 rfl rfl tw_209 (Or.inl rfl) dX1_scan_1 (kd_lt (rfl : kd 68 = (1,0,0)) (by decide)) (ce1 rfl) rfl ?_
  refine r_callN0v F fMX0_empty tw_391 rfl rfl rfl rfl dX1_scan_4 rfl rfl z0 (m0_empty g bd70) ?_
  refine r_iconst (x := 0) F dX1_scan_7 rfl ?_
  refine r_ist1 F dX1_scan_8 rfl rfl ?_
  have := zero 9 0 (by omega) (by omega)
  rw [show ez (em v 70 8) 0 = em v 70 8 from (by funext k j; simp [ez])] at this
  exact this
