/-! reading a board as a text, sign by sign: what is expected, the part, the parts, the positions seen, the board (its rows as a state's, from 12 on) -/
abbrev AT : Type := Nat × Nat × Nat × (Nat → Bool) × (Nat → Nat)
def upN (f : Nat → Nat) (k x : Nat) : Nat → Nat := fun j => if j = k then x else f j
def upB (f : Nat → Bool) (k : Nat) (x : Bool) : Nat → Bool := fun j => if j = k then x else f j
theorem upN_s (f : Nat → Nat) (k x : Nat) : upN f k x k = x := if_pos rfl
theorem upN_n (f : Nat → Nat) {k j : Nat} (x : Nat) (h : j ≠ k) : upN f k x j = f j := if_neg h
abbrev aE (σ : AT) : Nat := σ.1
abbrev aP (σ : AT) : Nat := σ.2.1
abbrev aN (σ : AT) : Nat := σ.2.2.1
abbrev aS (σ : AT) : Nat → Bool := σ.2.2.2.1
abbrev aB (σ : AT) : Nat → Nat := σ.2.2.2.2
def dg (c : Nat) : Prop := 48 ≤ c ∧ c < 56
/-- the move c to be added -/
def mvok (σ : AT) (c : Nat) : Prop := (48 ≤ c ∧ c < 56) ∧ c - 48 ≠ aP σ ∧ aB σ (13 + 6 * aP σ) < 4 ∧ hm (aB σ) (aP σ) (nI (c - 48)) = false
def addM (B : Nat → Nat) (p q : Nat) : Nat → Nat := upN (upN B (14 + 6 * p + B (13 + 6 * p)) q) (13 + 6 * p) (B (13 + 6 * p) + 1)
noncomputable def spM (σ : AT) (c : Nat) : Option AT := haveI := Classical.propDecidable (mvok σ c); if mvok σ c then some (3, aP σ, aN σ, aS σ, addM (aB σ) (aP σ) (c - 48)) else none
noncomputable def spE (σ : AT) (c : Nat) : Option AT := if c = 59 ∧ aN σ < 8 then some (0, aP σ, aN σ, aS σ, aB σ) else none
noncomputable def spP (σ : AT) (c : Nat) : Option AT := if (48 ≤ c ∧ c < 56) ∧ aS σ (c - 48) = false then some (1, c - 48, aN σ + 1, upB (aS σ) (c - 48) true, aB σ) else none
noncomputable def spA (σ : AT) (c : Nat) : Option AT := if c = 65 then some (4, aP σ, aN σ, aS σ, upN (aB σ) (12 + 6 * aP σ) 1) else if c = 66 then some (4, aP σ, aN σ, aS σ, upN (aB σ) (12 + 6 * aP σ) 2) else none
noncomputable def sp (σ : AT) (c : Nat) : Option AT :=
  if aE σ = 0 then spP σ c
  else if aE σ = 1 then (if c = 58 then some (2, aP σ, aN σ, aS σ, aB σ) else none)
  else if aE σ = 2 then (spA σ c).or (spM σ c)
  else if aE σ = 3 then (spM σ c).or (spE σ c)
  else spE σ c
/-- the class's text is at σ -/
def RT (v : VV) (σ : AT) : Prop := v 68 6 = aE σ ∧ v 68 4 = aN σ ∧ (aE σ ≠ 0 → v 68 5 = aP σ) ∧ (∀ p, p < 8 → v 74 p = (aS σ p).toNat) ∧ RB 70 v (aB σ)
def WT (σ : AT) : Prop := aE σ ≤ 4 ∧ aN σ ≤ 8 ∧ aP σ < 8 ∧ WB (aB σ)
def FrT (v v' : VV) : Prop := (∀ k, k ≠ 68 → k ≠ 71 → k ≠ 72 → k ≠ 73 → k ≠ 74 → v' k = v k) ∧ v' 68 1 = v 68 1
theorem FrT.rf (v : VV) : FrT v v := ⟨fun _ _ _ _ _ _ => rfl, rfl⟩
theorem FrT.trans {a b c : VV} (h : FrT a b) (h2 : FrT b c) : FrT a c := ⟨fun k k1 k2 k3 k4 k5 => (h2.1 k k1 k2 k3 k4 k5).trans (h.1 k k1 k2 k3 k4 k5), h2.2.trans h.2⟩
def gO (v : VV) (L : LL) (o : Option AT) : Option Value → VV → LL → Prop := gBl fun b v' L' => L' = L ∧ FrT v v' ∧ (∀ σ', o = some σ' → b = true ∧ RT v' σ') ∧ (o = none → b = false ∧ v' = v)
theorem gO_no {v : VV} {L : LL} {o : Option AT} (h : o = none) : gO v L o (some (.int (nI 0))) v L := ⟨false, rfl, rfl, FrT.rf v, fun σ' z => (by rw [h] at z; cases z), fun _ => ⟨rfl, rfl⟩⟩
theorem gO_yes {v v' : VV} {L : LL} {o : Option AT} {σ' : AT} (h : o = some σ') (hF : FrT v v') (hR : RT v' σ') : gO v L o (some (.int (nI 1))) v' L := ⟨true, rfl, rfl, hF, fun σ2 z => (by rw [h] at z; cases z; exact ⟨rfl, hR⟩), fun z => (by rw [h] at z; cases z)⟩
theorem nI_m1 {q : Nat} (h : q < 2147483648) : nI q ≠ -1 := by
  intro e
  have h2 := nI_pos' (n := q) h
  rw [e] at h2
  exact absurd h2 (by decide)
def pB (c : Nat) : Int32 := if 48 ≤ c ∧ c < 56 then nI (c - 48) else -1
set_option maxHeartbeats 4000000 in
theorem m1_positionBy {G : GT} {v : VV} {L : LL} (g : GH G) {c : Nat} (hc : c < 65536) : CC G MX1_positionBy [.int (nI c)] v L (rR (pB c) v L) := by
  refine cc_of g [some (.int (nI c))] rfl rfl rfl rfl (fun K F => ?_)
  refine r_iload_n F dX1_positionBy_0 rfl ?_
  refine r_bipush (x := 48) F dX1_positionBy_1 rfl ?_
  refine r_iclt F dX1_positionBy_3 (by omega) (by omega) (fun h3 => ?_) (fun h3 => ?_)
  · refine R_iconst (x := -1) F dX1_positionBy_19 rfl ?_
    exact r_iret F rfl rfl dX1_positionBy_20 ⟨by unfold pB; first | rw [if_pos (by omega)] | rw [if_neg (by omega)], rfl, rfl⟩
  · refine r_iload_n F dX1_positionBy_6 rfl ?_
    refine r_bipush (x := 56) F dX1_positionBy_7 rfl ?_
    refine r_icge F dX1_positionBy_9 (by omega) (by omega) (fun h9 => ?_) (fun h9 => ?_)
    · refine R_iconst (x := -1) F dX1_positionBy_19 rfl ?_
      exact r_iret F rfl rfl dX1_positionBy_20 ⟨by unfold pB; first | rw [if_pos (by omega)] | rw [if_neg (by omega)], rfl, rfl⟩
    · refine r_iload_n F dX1_positionBy_12 rfl ?_
      refine r_bipush (x := 48) F dX1_positionBy_13 rfl ?_
      refine r_isub F dX1_positionBy_15 (by omega) ?_
      refine r_goto F dX1_positionBy_16 ?_
      exact r_iret F rfl rfl dX1_positionBy_20 ⟨by unfold pB; first | rw [if_pos (by omega)] | rw [if_neg (by omega)], rfl, rfl⟩
set_option maxHeartbeats 4000000 in
theorem m1_takesEnd {G : GT} {v : VV} {L : LL} (g : GH G) {σ : AT} (hr : RT v σ) (w : WT σ) {c : Nat} (hc : c < 65536) : CC G MX1_takesEnd [.ref (gB G 68), .int (nI c)] v L (gO v L (spE σ c)) := by
  refine cc_of g [some (.ref (gB G 68)), some (.int (nI c))] rfl rfl rfl rfl (fun K F => ?_)
  have e4 : v 68 4 = aN σ := hr.2.1
  have w2 : aN σ ≤ 8 := w.2.1
  refine r_iload_n F dX1_takesEnd_0 rfl ?_
  refine r_bipush (x := 59) F dX1_takesEnd_1 rfl ?_
  refine r_icne F dX1_takesEnd_3 (by omega) (by omega) (fun h3 => ?_) (fun h3 => ?_)
  · refine r_iconst (x := 0) F dX1_takesEnd_15 rfl ?_
    exact r_iret F rfl rfl dX1_takesEnd_16 (gO_no (by unfold spE; rw [if_neg (by omega)]))
  · refine r_aload_n F dX1_takesEnd_6 rfl ?_
    refine r_get (T := TX1) (n := 4) F uw1 rfl rfl tw_212 (Or.inl rfl) dX1_takesEnd_7 (kd_lt (rfl : kd 68 = (1,0,0)) (by decide)) (ce1 rfl) rfl ?_
    refine r_bipush (x := 8) F dX1_takesEnd_10 rfl ?_
    refine r_iclt F dX1_takesEnd_12 (by omega) (by omega) (fun h12 => ?_) (fun h12 => ?_)
    · refine r_aload_n F dX1_takesEnd_17 rfl ?_
      refine r_iconst (x := 0) F dX1_takesEnd_18 rfl ?_
      refine r_put (T := TX1) (n := 6) (ty0 := tyX1) (ty := .int) F uw1 tyX1_ok nmX1 rfl rfl tw_215 (Or.inl rfl) rfl rfl rfl rfl dX1_takesEnd_19 (kd_lt (rfl : kd 68 = (1,0,0)) (by decide)) (ce1 rfl) rfl (pe1_6 rfl) up2_ce ?_
      refine r_iconst (x := 1) F dX1_takesEnd_22 rfl ?_
      exact r_iret F rfl rfl dX1_takesEnd_23 (gO_yes (σ' := (0, aP σ, aN σ, aS σ, aB σ)) (by unfold spE; rw [if_pos (by omega)]) ⟨fun k k1 _ _ _ _ => up2_k _ k1, by simp [up2]⟩ ⟨by simp [up2], by simp [up2, e4], fun h => absurd rfl h, fun p hp => by rw [up2_k _ (by decide)]; exact hr.2.2.2.1 p hp, fun p hp => by rw [up2_k _ (by decide), up2_k _ (by decide), up2_k _ (by decide)]; exact hr.2.2.2.2 p hp⟩)
    · refine r_iconst (x := 0) F dX1_takesEnd_15 rfl ?_
      exact r_iret F rfl rfl dX1_takesEnd_16 (gO_no (by unfold spE; rw [if_neg (by omega)]))
set_option maxHeartbeats 4000000 in
theorem m1_takesPosition {G : GT} {v : VV} {L : LL} (g : GH G) {σ : AT} (hr : RT v σ) (w : WT σ) {c : Nat} (hc : c < 65536) : CC G MX1_takesPosition [.ref (gB G 68), .int (pB c)] v L (gO v L (spP σ c)) := by
  refine cc_of g [some (.ref (gB G 68)), some (.int (pB c))] rfl rfl rfl rfl (fun K F => ?_)
  have e4 : v 68 4 = aN σ := hr.2.1
  have w2 : aN σ ≤ 8 := w.2.1
  by_cases hd : 48 ≤ c ∧ c < 56
  · have ep : pB c = nI (c - 48) := if_pos hd
    rw [ep]
    have hs := hr.2.2.2.1 (c - 48) (by omega)
    have hb := Bool.toNat_le (aS σ (c - 48))
    refine r_iload_n F dX1_takesPosition_0 rfl ?_
    refine R_iconst (x := -1) F dX1_takesPosition_1 rfl ?_
    refine R_iceq F dX1_takesPosition_2 (fun h2 => ?_) (fun h2 => ?_)
    · exact absurd h2 (nI_m1 (by omega))
    · refine r_aload_n F dX1_takesPosition_5 rfl ?_
      refine r_get (x := .ref (gB G 74)) (T := TX1) (n := 3) F uw1 rfl rfl tw_211 (Or.inl rfl) dX1_takesPosition_6 (kd_lt (rfl : kd 68 = (1,0,0)) (by decide)) (ce1 rfl) rfl ?_
      refine r_iload_n F dX1_takesPosition_9 rfl ?_
      refine r_zald F dX1_takesPosition_10 rfl (by omega) ?_
      refine r_ifeq F dX1_takesPosition_11 (by omega) (fun h11 => ?_) (fun h11 => ?_)
      · refine r_aload_n F dX1_takesPosition_16 rfl ?_
        refine r_get (x := .ref (gB G 74)) (T := TX1) (n := 3) F uw1 rfl rfl tw_211 (Or.inl rfl) dX1_takesPosition_17 (kd_lt (rfl : kd 68 = (1,0,0)) (by decide)) (ce1 rfl) rfl ?_
        refine r_iload_n F dX1_takesPosition_20 rfl ?_
        refine r_iconst (x := 1) F dX1_takesPosition_21 rfl ?_
        refine r_zast F dX1_takesPosition_22 rfl (by omega) rfl ?_
        refine r_aload_n F dX1_takesPosition_23 rfl ?_
        refine r_iload_n F dX1_takesPosition_24 rfl ?_
        refine r_put (T := TX1) (n := 5) (ty0 := tyX1) (ty := .int) F uw1 tyX1_ok nmX1 rfl rfl tw_214 (Or.inl rfl) rfl rfl rfl rfl dX1_takesPosition_25 (kd_lt (rfl : kd 68 = (1,0,0)) (by decide)) (ce1 rfl) rfl (pe1_5 rfl) up2_ce ?_
        refine r_aload_n F dX1_takesPosition_28 rfl ?_
        refine r_dup F dX1_takesPosition_29 rfl ?_
        refine r_get (T := TX1) (n := 4) F uw1 rfl rfl tw_212 (Or.inl rfl) dX1_takesPosition_30 (kd_lt (rfl : kd 68 = (1,0,0)) (by decide)) (ce1 rfl) rfl ?_
        refine r_iconst (x := 1) F dX1_takesPosition_33 rfl ?_
        refine r_iadd F dX1_takesPosition_34 ?_
        refine r_put (T := TX1) (n := 4) (ty0 := tyX1) (ty := .int) F uw1 tyX1_ok nmX1 rfl rfl tw_212 (Or.inl rfl) rfl rfl rfl rfl dX1_takesPosition_35 (kd_lt (rfl : kd 68 = (1,0,0)) (by decide)) (ce1 rfl) rfl (pe1_4 rfl) up2_ce ?_
        refine r_aload_n F dX1_takesPosition_38 rfl ?_
        refine r_iconst (x := 1) F dX1_takesPosition_39 rfl ?_
        refine r_put (T := TX1) (n := 6) (ty0 := tyX1) (ty := .int) F uw1 tyX1_ok nmX1 rfl rfl tw_215 (Or.inl rfl) rfl rfl rfl rfl dX1_takesPosition_40 (kd_lt (rfl : kd 68 = (1,0,0)) (by decide)) (ce1 rfl) rfl (pe1_6 rfl) up2_ce ?_
        refine r_iconst (x := 1) F dX1_takesPosition_43 rfl ?_
        exact r_iret F rfl rfl dX1_takesPosition_44 (gO_yes (σ' := (1, c - 48, aN σ + 1, upB (aS σ) (c - 48) true, aB σ)) (by unfold spP; rw [if_pos ⟨hd, by cases hz : aS σ (c - 48) with | false => rfl | true => (rw [hz] at hs; rw [hs] at h11; cases h11)⟩]) ⟨fun k k1 k2 k3 k4 k5 => by rw [up2_k _ k1, up2_k _ k1, up2_k _ k1, up2_k _ k5], by simp [up2]⟩ ⟨by simp [up2], by simp [up2, e4], fun _ => by simp [up2], fun p hp => by
          rw [up2_k _ (by decide), up2_k _ (by decide), up2_k _ (by decide)]
          by_cases hz : p = c - 48
          · subst hz
            show _ = (upB (aS σ) (c - 48) true (c - 48)).toNat
            simp [up2, upB]
          · show _ = (upB (aS σ) (c - 48) true p).toNat
            simp only [up2, upB, hz, and_false, if_false]
            exact hr.2.2.2.1 p hp, fun p hp => by
          simp only [up2_k _ (show (71 : Nat) ≠ 68 by decide), up2_k _ (show (72 : Nat) ≠ 68 by decide), up2_k _ (show (73 : Nat) ≠ 68 by decide), up2_k _ (show (71 : Nat) ≠ 74 by decide), up2_k _ (show (72 : Nat) ≠ 74 by decide), up2_k _ (show (73 : Nat) ≠ 74 by decide)]
          exact hr.2.2.2.2 p hp⟩)
      · refine r_iconst (x := 0) F dX1_takesPosition_14 rfl ?_
        exact r_iret F rfl rfl dX1_takesPosition_15 (gO_no (by unfold spP; rw [if_neg (fun z => by rw [z.2] at hs; exact h11 hs)]))
  · have ep : pB c = -1 := if_neg hd
    rw [ep]
    refine r_iload_n F dX1_takesPosition_0 rfl ?_
    refine R_iconst (x := -1) F dX1_takesPosition_1 rfl ?_
    refine R_iceq F dX1_takesPosition_2 (fun h2 => ?_) (fun h2 => ?_)
    · refine r_iconst (x := 0) F dX1_takesPosition_14 rfl ?_
      exact r_iret F rfl rfl dX1_takesPosition_15 (gO_no (by unfold spP; rw [if_neg (fun z => hd z.1)]))
    · exact absurd rfl h2
theorem RB_addM {b : Nat} {v : VV} {B : Nat → Nat} (h : RB b v B) (w : WB B) {p q : Nat} (hp : p < 8) (hc : B (13 + 6 * p) < 4) : RB b (up2 (up2 v (b + 3) (p * 4 + v (b + 2) p) q) (b + 2) p (v (b + 2) p + 1)) (addM B p q) := by
  intro r hr
  have h0 := (h p hp).2.1
  obtain ⟨h1, h2, h3⟩ := h r hr
  have hw := (w r hr).2.1
  by_cases e : r = p
  · subst e
    have em : addM B r q (13 + 6 * r) = B (13 + 6 * r) + 1 := by unfold addM; rw [upN_s]
    refine ⟨?_, ?_, fun i hi => ?_⟩
    · rw [up2_k _ (by omega), up2_k _ (by omega), h1]
      unfold addM
      rw [upN_n _ _ (by omega), upN_n _ _ (by omega)]
    · rw [up2_s, em, h2]
    · rw [em] at hi
      rw [up2_k _ (by omega)]
      unfold addM
      rw [upN_n _ _ (by omega)]
      by_cases ei : i = B (13 + 6 * r)
      · rw [ei, upN_s, h0, up2_s]
      · rw [upN_n _ _ (by omega), up2_j _ (by omega), h3 i (by omega)]
  · have em : addM B p q (13 + 6 * r) = B (13 + 6 * r) := by unfold addM; rw [upN_n _ _ (by omega), upN_n _ _ (by omega)]
    refine ⟨?_, ?_, fun i hi => ?_⟩
    · rw [up2_k _ (by omega), up2_k _ (by omega), h1]
      unfold addM
      rw [upN_n _ _ (by omega), upN_n _ _ (by omega)]
    · rw [em, up2_j _ e, up2_k _ (by omega), h2]
    · rw [em] at hi
      rw [up2_k _ (by omega), up2_j _ (by omega), h3 i hi]
      unfold addM
      rw [upN_n _ _ (by omega), upN_n _ _ (by omega)]
theorem RB_mark {b : Nat} {v : VV} {B : Nat → Nat} (h : RB b v B) (w : WB B) {p x : Nat} (hp : p < 8) : RB b (up2 v (b + 1) p x) (upN B (12 + 6 * p) x) := by
  intro r hr
  obtain ⟨h1, h2, h3⟩ := h r hr
  have hw := (w r hr).2.1
  have em : upN B (12 + 6 * p) x (13 + 6 * r) = B (13 + 6 * r) := upN_n _ _ (by omega)
  refine ⟨?_, ?_, fun i hi => ?_⟩
  · by_cases e : r = p
    · subst e; rw [up2_s, upN_s]
    · rw [up2_j _ e, h1, upN_n _ _ (by omega)]
  · rw [em, up2_k _ (by omega), h2]
  · rw [em] at hi
    rw [up2_k _ (by omega), h3 i hi, upN_n _ _ (by omega)]
theorem WB_addM {B : Nat → Nat} (w : WB B) {p q : Nat} (hp : p < 8) (hq : q < 8) (hc : B (13 + 6 * p) < 4) : WB (addM B p q) := by
  intro r hr
  obtain ⟨h1, h2, h3⟩ := w r hr
  by_cases e : r = p
  · subst e
    have em : addM B r q (13 + 6 * r) = B (13 + 6 * r) + 1 := by unfold addM; rw [upN_s]
    refine ⟨?_, by rw [em]; omega, fun i hi => ?_⟩
    · unfold addM
      rw [upN_n _ _ (by omega), upN_n _ _ (by omega)]; exact h1
    · rw [em] at hi
      unfold addM
      rw [upN_n _ _ (by omega)]
      by_cases ei : i = B (13 + 6 * r)
      · rw [ei, upN_s]; exact hq
      · rw [upN_n _ _ (by omega)]; exact h3 i (by omega)
  · have em : addM B p q (13 + 6 * r) = B (13 + 6 * r) := by unfold addM; rw [upN_n _ _ (by omega), upN_n _ _ (by omega)]
    refine ⟨?_, by rw [em]; exact h2, fun i hi => ?_⟩
    · unfold addM
      rw [upN_n _ _ (by omega), upN_n _ _ (by omega)]; exact h1
    · rw [em] at hi
      unfold addM
      rw [upN_n _ _ (by omega), upN_n _ _ (by omega)]; exact h3 i hi
theorem WB_mark {B : Nat → Nat} (w : WB B) {p x : Nat} (hx : x ≤ 2) : WB (upN B (12 + 6 * p) x) := by
  intro r hr
  obtain ⟨h1, h2, h3⟩ := w r hr
  have em : upN B (12 + 6 * p) x (13 + 6 * r) = B (13 + 6 * r) := upN_n _ _ (by omega)
  refine ⟨?_, by rw [em]; exact h2, fun i hi => ?_⟩
  · by_cases e : r = p
    · subst e; rw [upN_s]; exact hx
    · rw [upN_n _ _ (by omega)]; exact h1
  · rw [em] at hi
    rw [upN_n _ _ (by omega)]; exact h3 i hi
set_option maxHeartbeats 4000000 in
theorem m1_takesMark {G : GT} {v : VV} {L : LL} (g : GH G) {σ : AT} (hr : RT v σ) (w : WT σ) {c : Nat} (hc : c < 65536) (he : aE σ ≠ 0) : CC G MX1_takesMark [.ref (gB G 68), .int (nI c)] v L (gO v L (spA σ c)) := by
  refine cc_of g [some (.ref (gB G 68)), some (.int (nI c))] rfl rfl rfl rfl (fun K F => ?_)
  have e4 : v 68 4 = aN σ := hr.2.1
  have e5 : v 68 5 = aP σ := hr.2.2.1 he
  have w3 : aP σ < 8 := w.2.2.1
  refine r_iload_n F dX1_takesMark_0 rfl ?_
  refine r_bipush (x := 65) F dX1_takesMark_1 rfl ?_
  refine r_iceq F dX1_takesMark_3 (by omega) (by omega) (fun h3 => ?_) (fun h3 => ?_)
  · refine r_aload_n F dX1_takesMark_14 rfl ?_
    refine r_get (x := .ref (gB G 70)) (T := TX1) (n := 2) F uw1 rfl rfl tw_209 (Or.inl rfl) dX1_takesMark_15 (kd_lt (rfl : kd 68 = (1,0,0)) (by decide)) (ce1 rfl) rfl ?_
    refine r_getN (x := .ref (gB G 71)) (T := TX0) (n := 0) F uw0 rfl rfl tw_114 (Or.inl rfl) dX1_takesMark_18 (kd_lt (rfl : kd 70 = (0,0,0)) (by decide)) (ce0 rfl) rfl ?_
    refine r_aload_n F dX1_takesMark_21 rfl ?_
    refine r_get (T := TX1) (n := 5) F uw1 rfl rfl tw_214 (Or.inl rfl) dX1_takesMark_22 (kd_lt (rfl : kd 68 = (1,0,0)) (by decide)) (ce1 rfl) rfl ?_
    rw [e5]
    refine r_iload_n F dX1_takesMark_25 rfl ?_
    refine r_bipush (x := 65) F dX1_takesMark_26 rfl ?_
    refine r_icne F dX1_takesMark_28 (by omega) (by omega) (fun h28 => ?_) (fun h28 => ?_)
    · refine r_iconst (x := 2) F dX1_takesMark_35 rfl ?_
      refine r_iast F dX1_takesMark_36 rfl (by omega) ?_
      refine r_aload_n F dX1_takesMark_37 rfl ?_
      refine r_iconst (x := 4) F dX1_takesMark_38 rfl ?_
      refine r_put (T := TX1) (n := 6) (ty0 := tyX1) (ty := .int) F uw1 tyX1_ok nmX1 rfl rfl tw_215 (Or.inl rfl) rfl rfl rfl rfl dX1_takesMark_39 (kd_lt (rfl : kd 68 = (1,0,0)) (by decide)) (ce1 rfl) rfl (pe1_6 rfl) up2_ce ?_
      refine r_iconst (x := 1) F dX1_takesMark_42 rfl ?_
      refine r_iret F rfl rfl dX1_takesMark_43 (gO_yes (σ' := (4, aP σ, aN σ, aS σ, upN (aB σ) (12 + 6 * aP σ) (if c = 65 then 1 else 2))) (by unfold spA; by_cases hz : c = 65; simp [hz]; rw [if_neg hz, if_neg hz, if_pos (by omega)]) ⟨fun k k1 k2 k3 k4 k5 => by rw [up2_k _ k1, up2_k _ k2], by simp [up2]⟩ ⟨by simp [up2], by simp [up2, e4], fun _ => by simp [up2, e5], fun p hp => by rw [up2_k _ (by decide), up2_k _ (by decide)]; exact hr.2.2.2.1 p hp, ?_⟩)
      have hm := RB_mark (x := if c = 65 then 1 else 2) hr.2.2.2.2 w.2.2.2 w3
      first | rw [if_pos (show c = 65 by omega)] at hm ⊢ | rw [if_neg (show ¬ c = 65 by omega)] at hm ⊢
      intro p hp
      rw [up2_k _ (show (70 + 1 : Nat) ≠ 68 by decide), up2_k _ (show (70 + 2 : Nat) ≠ 68 by decide), up2_k _ (show (70 + 3 : Nat) ≠ 68 by decide)]
      exact hm p hp
    · refine r_iconst (x := 1) F dX1_takesMark_31 rfl ?_
      refine r_goto F dX1_takesMark_32 ?_
      refine r_iast F dX1_takesMark_36 rfl (by omega) ?_
      refine r_aload_n F dX1_takesMark_37 rfl ?_
      refine r_iconst (x := 4) F dX1_takesMark_38 rfl ?_
      refine r_put (T := TX1) (n := 6) (ty0 := tyX1) (ty := .int) F uw1 tyX1_ok nmX1 rfl rfl tw_215 (Or.inl rfl) rfl rfl rfl rfl dX1_takesMark_39 (kd_lt (rfl : kd 68 = (1,0,0)) (by decide)) (ce1 rfl) rfl (pe1_6 rfl) up2_ce ?_
      refine r_iconst (x := 1) F dX1_takesMark_42 rfl ?_
      refine r_iret F rfl rfl dX1_takesMark_43 (gO_yes (σ' := (4, aP σ, aN σ, aS σ, upN (aB σ) (12 + 6 * aP σ) (if c = 65 then 1 else 2))) (by unfold spA; by_cases hz : c = 65; simp [hz]; rw [if_neg hz, if_neg hz, if_pos (by omega)]) ⟨fun k k1 k2 k3 k4 k5 => by rw [up2_k _ k1, up2_k _ k2], by simp [up2]⟩ ⟨by simp [up2], by simp [up2, e4], fun _ => by simp [up2, e5], fun p hp => by rw [up2_k _ (by decide), up2_k _ (by decide)]; exact hr.2.2.2.1 p hp, ?_⟩)
      have hm := RB_mark (x := if c = 65 then 1 else 2) hr.2.2.2.2 w.2.2.2 w3
      first | rw [if_pos (show c = 65 by omega)] at hm ⊢ | rw [if_neg (show ¬ c = 65 by omega)] at hm ⊢
      intro p hp
      rw [up2_k _ (show (70 + 1 : Nat) ≠ 68 by decide), up2_k _ (show (70 + 2 : Nat) ≠ 68 by decide), up2_k _ (show (70 + 3 : Nat) ≠ 68 by decide)]
      exact hm p hp
  · refine r_iload_n F dX1_takesMark_6 rfl ?_
    refine r_bipush (x := 66) F dX1_takesMark_7 rfl ?_
    refine r_iceq F dX1_takesMark_9 (by omega) (by omega) (fun h9 => ?_) (fun h9 => ?_)
    · refine r_aload_n F dX1_takesMark_14 rfl ?_
      refine r_get (x := .ref (gB G 70)) (T := TX1) (n := 2) F uw1 rfl rfl tw_209 (Or.inl rfl) dX1_takesMark_15 (kd_lt (rfl : kd 68 = (1,0,0)) (by decide)) (ce1 rfl) rfl ?_
      refine r_getN (x := .ref (gB G 71)) (T := TX0) (n := 0) F uw0 rfl rfl tw_114 (Or.inl rfl) dX1_takesMark_18 (kd_lt (rfl : kd 70 = (0,0,0)) (by decide)) (ce0 rfl) rfl ?_
      refine r_aload_n F dX1_takesMark_21 rfl ?_
      refine r_get (T := TX1) (n := 5) F uw1 rfl rfl tw_214 (Or.inl rfl) dX1_takesMark_22 (kd_lt (rfl : kd 68 = (1,0,0)) (by decide)) (ce1 rfl) rfl ?_
      rw [e5]
      refine r_iload_n F dX1_takesMark_25 rfl ?_
      refine r_bipush (x := 65) F dX1_takesMark_26 rfl ?_
      refine r_icne F dX1_takesMark_28 (by omega) (by omega) (fun h28 => ?_) (fun h28 => ?_)
      · refine r_iconst (x := 2) F dX1_takesMark_35 rfl ?_
        refine r_iast F dX1_takesMark_36 rfl (by omega) ?_
        refine r_aload_n F dX1_takesMark_37 rfl ?_
        refine r_iconst (x := 4) F dX1_takesMark_38 rfl ?_
        refine r_put (T := TX1) (n := 6) (ty0 := tyX1) (ty := .int) F uw1 tyX1_ok nmX1 rfl rfl tw_215 (Or.inl rfl) rfl rfl rfl rfl dX1_takesMark_39 (kd_lt (rfl : kd 68 = (1,0,0)) (by decide)) (ce1 rfl) rfl (pe1_6 rfl) up2_ce ?_
        refine r_iconst (x := 1) F dX1_takesMark_42 rfl ?_
        refine r_iret F rfl rfl dX1_takesMark_43 (gO_yes (σ' := (4, aP σ, aN σ, aS σ, upN (aB σ) (12 + 6 * aP σ) (if c = 65 then 1 else 2))) (by unfold spA; by_cases hz : c = 65; simp [hz]; rw [if_neg hz, if_neg hz, if_pos (by omega)]) ⟨fun k k1 k2 k3 k4 k5 => by rw [up2_k _ k1, up2_k _ k2], by simp [up2]⟩ ⟨by simp [up2], by simp [up2, e4], fun _ => by simp [up2, e5], fun p hp => by rw [up2_k _ (by decide), up2_k _ (by decide)]; exact hr.2.2.2.1 p hp, ?_⟩)
        have hm := RB_mark (x := if c = 65 then 1 else 2) hr.2.2.2.2 w.2.2.2 w3
        first | rw [if_pos (show c = 65 by omega)] at hm ⊢ | rw [if_neg (show ¬ c = 65 by omega)] at hm ⊢
        intro p hp
        rw [up2_k _ (show (70 + 1 : Nat) ≠ 68 by decide), up2_k _ (show (70 + 2 : Nat) ≠ 68 by decide), up2_k _ (show (70 + 3 : Nat) ≠ 68 by decide)]
        exact hm p hp
      · refine r_iconst (x := 1) F dX1_takesMark_31 rfl ?_
        refine r_goto F dX1_takesMark_32 ?_
        refine r_iast F dX1_takesMark_36 rfl (by omega) ?_
        refine r_aload_n F dX1_takesMark_37 rfl ?_
        refine r_iconst (x := 4) F dX1_takesMark_38 rfl ?_
        refine r_put (T := TX1) (n := 6) (ty0 := tyX1) (ty := .int) F uw1 tyX1_ok nmX1 rfl rfl tw_215 (Or.inl rfl) rfl rfl rfl rfl dX1_takesMark_39 (kd_lt (rfl : kd 68 = (1,0,0)) (by decide)) (ce1 rfl) rfl (pe1_6 rfl) up2_ce ?_
        refine r_iconst (x := 1) F dX1_takesMark_42 rfl ?_
        refine r_iret F rfl rfl dX1_takesMark_43 (gO_yes (σ' := (4, aP σ, aN σ, aS σ, upN (aB σ) (12 + 6 * aP σ) (if c = 65 then 1 else 2))) (by unfold spA; by_cases hz : c = 65; simp [hz]; rw [if_neg hz, if_neg hz, if_pos (by omega)]) ⟨fun k k1 k2 k3 k4 k5 => by rw [up2_k _ k1, up2_k _ k2], by simp [up2]⟩ ⟨by simp [up2], by simp [up2, e4], fun _ => by simp [up2, e5], fun p hp => by rw [up2_k _ (by decide), up2_k _ (by decide)]; exact hr.2.2.2.1 p hp, ?_⟩)
        have hm := RB_mark (x := if c = 65 then 1 else 2) hr.2.2.2.2 w.2.2.2 w3
        first | rw [if_pos (show c = 65 by omega)] at hm ⊢ | rw [if_neg (show ¬ c = 65 by omega)] at hm ⊢
        intro p hp
        rw [up2_k _ (show (70 + 1 : Nat) ≠ 68 by decide), up2_k _ (show (70 + 2 : Nat) ≠ 68 by decide), up2_k _ (show (70 + 3 : Nat) ≠ 68 by decide)]
        exact hm p hp
    · refine r_iconst (x := 0) F dX1_takesMark_12 rfl ?_
      exact r_iret F rfl rfl dX1_takesMark_13 (gO_no (by unfold spA; rw [if_neg (by omega), if_neg (by omega)]))
set_option maxHeartbeats 4000000 in
theorem m1_takesMove {G : GT} {v : VV} {L : LL} (g : GH G) {σ : AT} (hr : RT v σ) (w : WT σ) {c : Nat} (hc : c < 65536) (he : aE σ ≠ 0) : CC G MX1_takesMove [.ref (gB G 68), .int (pB c)] v L (gO v L (spM σ c)) := by
  refine cc_of g [some (.ref (gB G 68)), some (.int (pB c))] rfl rfl rfl rfl (fun K F => ?_)
  have e4 : v 68 4 = aN σ := hr.2.1
  have e5 : v 68 5 = aP σ := hr.2.2.1 he
  have w3 : aP σ < 8 := w.2.2.1
  have e72 : v 72 (aP σ) = aB σ (13 + 6 * aP σ) := (hr.2.2.2.2 _ w3).2.1
  have wc : aB σ (13 + 6 * aP σ) ≤ 4 := (w.2.2.2 _ w3).2.1
  have hno : ¬ mvok σ c → spM σ c = none := fun h => by unfold spM; exact if_neg h
  have hyes : mvok σ c → spM σ c = some (3, aP σ, aN σ, aS σ, addM (aB σ) (aP σ) (c - 48)) := fun h => by unfold spM; exact if_pos h
  by_cases hd : 48 ≤ c ∧ c < 56
  · have ep : pB c = nI (c - 48) := if_pos hd
    rw [ep]
    refine r_iload_n F dX1_takesMove_0 rfl ?_
    refine R_iconst (x := -1) F dX1_takesMove_1 rfl ?_
    refine R_iceq F dX1_takesMove_2 (fun h2 => ?_) (fun h2 => ?_)
    · exact absurd h2 (nI_m1 (by omega))
    · refine r_iload_n F dX1_takesMove_5 rfl ?_
      refine r_aload_n F dX1_takesMove_6 rfl ?_
      refine r_get (T := TX1) (n := 5) F uw1 rfl rfl tw_214 (Or.inl rfl) dX1_takesMove_7 (kd_lt (rfl : kd 68 = (1,0,0)) (by decide)) (ce1 rfl) rfl ?_
      rw [e5]
      refine r_iceq F dX1_takesMove_10 (by omega) (by omega) (fun h10 => ?_) (fun h10 => ?_)
      · refine r_iconst (x := 0) F dX1_takesMove_44 rfl ?_
        exact r_iret F rfl rfl dX1_takesMove_45 (gO_no (hno (fun z => by obtain ⟨z1, z2, z3, z4⟩ := z; first | omega | (rw [z4] at h41; cases h41))))
      · refine r_aload_n F dX1_takesMove_13 rfl ?_
        refine r_get (x := .ref (gB G 70)) (T := TX1) (n := 2) F uw1 rfl rfl tw_209 (Or.inl rfl) dX1_takesMove_14 (kd_lt (rfl : kd 68 = (1,0,0)) (by decide)) (ce1 rfl) rfl ?_
        refine r_getN (x := .ref (gB G 72)) (T := TX0) (n := 1) F uw0 rfl rfl tw_117 (Or.inl rfl) dX1_takesMove_17 (kd_lt (rfl : kd 70 = (0,0,0)) (by decide)) (ce0 rfl) rfl ?_
        refine r_aload_n F dX1_takesMove_20 rfl ?_
        refine r_get (T := TX1) (n := 5) F uw1 rfl rfl tw_214 (Or.inl rfl) dX1_takesMove_21 (kd_lt (rfl : kd 68 = (1,0,0)) (by decide)) (ce1 rfl) rfl ?_
        rw [e5]
        refine r_iald F dX1_takesMove_24 rfl (by omega) ?_
        refine r_iconst (x := 4) F dX1_takesMove_25 rfl ?_
        refine r_icge F dX1_takesMove_26 (by omega) (by omega) (fun h26 => ?_) (fun h26 => ?_)
        · refine r_iconst (x := 0) F dX1_takesMove_44 rfl ?_
          exact r_iret F rfl rfl dX1_takesMove_45 (gO_no (hno (fun z => by obtain ⟨z1, z2, z3, z4⟩ := z; first | omega | (rw [z4] at h41; cases h41))))
        · refine r_aload_n F dX1_takesMove_29 rfl ?_
          refine r_get (x := .ref (gB G 70)) (T := TX1) (n := 2) F uw1 rfl rfl tw_209 (Or.inl rfl) dX1_takesMove_30 (kd_lt (rfl : kd 68 = (1,0,0)) (by decide)) (ce1 rfl) rfl ?_
          refine r_aload_n F dX1_takesMove_33 rfl ?_
          refine r_get (T := TX1) (n := 5) F uw1 rfl rfl tw_214 (Or.inl rfl) dX1_takesMove_34 (kd_lt (rfl : kd 68 = (1,0,0)) (by decide)) (ce1 rfl) rfl ?_
          refine r_iload_n F dX1_takesMove_37 rfl ?_
          rw [e5]
          refine r_callN2i F fMX0_hasMove tw_414 rfl rfl rfl rfl dX1_takesMove_38 rfl rfl z0 (m0_hasMove g bd70 hr.2.2.2.2 w.2.2.2 w3 (nI (c - 48))) ?_
          refine r_Beq F dX1_takesMove_41 (fun h41 => ?_) (fun h41 => ?_)
          · refine r_aload_n F dX1_takesMove_46 rfl ?_
            refine r_get (x := .ref (gB G 70)) (T := TX1) (n := 2) F uw1 rfl rfl tw_209 (Or.inl rfl) dX1_takesMove_47 (kd_lt (rfl : kd 68 = (1,0,0)) (by decide)) (ce1 rfl) rfl ?_
            refine r_aload_n F dX1_takesMove_50 rfl ?_
            refine r_get (T := TX1) (n := 5) F uw1 rfl rfl tw_214 (Or.inl rfl) dX1_takesMove_51 (kd_lt (rfl : kd 68 = (1,0,0)) (by decide)) (ce1 rfl) rfl ?_
            refine r_iload_n F dX1_takesMove_54 rfl ?_
            rw [e5]
            refine r_callN2v F fMX0_putMove tw_415 rfl rfl rfl rfl dX1_takesMove_55 rfl rfl z0 (m0_putMove g bd70 (p := aP σ) (to := c - 48) w3 (by omega)) ?_
            refine r_aload_n F dX1_takesMove_58 rfl ?_
            refine r_iconst (x := 3) F dX1_takesMove_59 rfl ?_
            refine r_put (T := TX1) (n := 6) (ty0 := tyX1) (ty := .int) F uw1 tyX1_ok nmX1 rfl rfl tw_215 (Or.inl rfl) rfl rfl rfl rfl dX1_takesMove_60 (kd_lt (rfl : kd 68 = (1,0,0)) (by decide)) (ce1 rfl) rfl (pe1_6 rfl) up2_ce ?_
            refine r_iconst (x := 1) F dX1_takesMove_63 rfl ?_
            refine r_iret F rfl rfl dX1_takesMove_64 (gO_yes (hyes ⟨hd, by omega, by omega, h41⟩) ⟨fun k k1 k2 k3 k4 k5 => by rw [up2_k _ k1, up2_k _ k3, up2_k _ k4], by simp [up2]⟩ ⟨by simp [up2], by simp [up2, e4], fun _ => by simp [up2, e5], fun p hp => by rw [up2_k _ (by decide), up2_k _ (by decide), up2_k _ (by decide)]; exact hr.2.2.2.1 p hp, ?_⟩)
            have hm := RB_addM (q := c - 48) hr.2.2.2.2 w.2.2.2 w3 (by omega)
            intro p hp
            rw [up2_k _ (show (70 + 1 : Nat) ≠ 68 by decide), up2_k _ (show (70 + 2 : Nat) ≠ 68 by decide), up2_k _ (show (70 + 3 : Nat) ≠ 68 by decide)]
            exact hm p hp
          · refine r_iconst (x := 0) F dX1_takesMove_44 rfl ?_
            exact r_iret F rfl rfl dX1_takesMove_45 (gO_no (hno (fun z => by obtain ⟨z1, z2, z3, z4⟩ := z; first | omega | (rw [z4] at h41; cases h41))))
  · have ep : pB c = -1 := if_neg hd
    rw [ep]
    refine r_iload_n F dX1_takesMove_0 rfl ?_
    refine R_iconst (x := -1) F dX1_takesMove_1 rfl ?_
    refine R_iceq F dX1_takesMove_2 (fun h2 => ?_) (fun h2 => ?_)
    · refine r_iconst (x := 0) F dX1_takesMove_44 rfl ?_
      exact r_iret F rfl rfl dX1_takesMove_45 (gO_no (hno (fun z => hd z.1)))
    · exact absurd rfl h2
