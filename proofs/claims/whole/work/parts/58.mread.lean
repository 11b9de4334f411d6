/-! reading the text -/
/-- the text's place i -/
def TP (v : VV) (a : AS) (i : Nat) : Prop := v 83 6 = sL a ∧ (∀ j, j < sL a → v 88 j = sT a j) ∧ v 83 10 = i ∧ i ≤ sL a
theorem TP.up {v : VV} {a : AS} {i : Nat} (h : TP v a i) {k j x : Nat} (hk : k ≠ 88) (hj : k = 83 → j ≠ 6 ∧ j ≠ 10) : TP (up2 v k j x) a i := by
  obtain ⟨t1, t2, t3, t4⟩ := h
  refine ⟨?_, fun j' hj' => by rw [up2_k _ (fun e => hk e.symm)]; exact t2 j' hj', ?_, t4⟩
  · by_cases e : k = 83
    · subst e; rw [up2_j _ (fun e => (hj rfl).1 e.symm)]; exact t1
    · rw [up2_k _ (fun z => e z.symm)]; exact t1
  · by_cases e : k = 83
    · subst e; rw [up2_j _ (fun e => (hj rfl).2 e.symm)]; exact t3
    · rw [up2_k _ (fun z => e z.symm)]; exact t3
theorem TP.go {v : VV} {a : AS} {i : Nat} (h : TP v a i) (hi : i < sL a) : TP (up2 v 83 10 (i + 1)) a (i + 1) := by
  obtain ⟨t1, t2, t3, t4⟩ := h
  exact ⟨by rw [up2_j _ (by decide)]; exact t1, fun j hj => by rw [up2_k _ (by decide)]; exact t2 j hj, up2_s _ _ _ _, hi⟩
/-- the sign at i is from lo to hi -/
def nxB (a : AS) (i lo hi : Nat) : Bool := decide (i < sL a ∧ lo ≤ sT a i ∧ sT a i ≤ hi)
set_option maxHeartbeats 8000000 in
theorem m8_isNext {G : GT} {v : VV} {L : LL} {a : AS} (g : GH G) (w : WA a) {i lo hi : Nat} (h : TP v a i) (hlo : lo < 256) (hhi : hi < 256) : CC G MX8_isNext [.ref (gB G 83), .int (nI lo), .int (nI hi)] v L (rI (nxB a i lo hi).toNat v L) := by
  refine cc_of g [some (.ref (gB G 83)), some (.int (nI lo)), some (.int (nI hi))] rfl rfl rfl rfl (fun K F => ?_)
  obtain ⟨t1, t2, t3, t4⟩ := h
  have wl : sL a ≤ 60 := w.2.2.2.2.1
  have wt := w.2.2.2.2.2
  refine r_aload_n F dX8_isNext_0 rfl ?_
  refine r_get (T := TX8) (n := 10) F uw8 rfl rfl tw_887 (Or.inl rfl) dX8_isNext_1 (kd_lt (rfl : kd 83 = (7,0,0)) (by decide)) (ce7 rfl) rfl ?_
  refine r_aload_n F dX8_isNext_4 rfl ?_
  refine r_get (T := TX8) (n := 6) F uw8 rfl rfl tw_883 (Or.inl rfl) dX8_isNext_5 (kd_lt (rfl : kd 83 = (7,0,0)) (by decide)) (ce7 rfl) rfl ?_
  rw [t1, t3]
  refine r_icge F dX8_isNext_8 (by omega) (by omega) (fun h8 => ?_) (fun h8 => ?_)
  · refine r_iconst (x := 0) F dX8_isNext_32 rfl ?_
    first
      | exact b_iret F rfl dX8_isNext_33 (by decide) (by unfold nxB; rw [decide_eq_false (fun z => by omega)]; rfl) rfl rfl
      | exact b_iret F rfl dX8_isNext_33 (by decide) (by
          have hc : lo ≤ sT a i ∧ sT a i ≤ hi := by
            unfold inn at h25
            rw [Bool.and_eq_true] at h25
            exact ⟨(nI_leI (by omega) (by omega)).mp (of_decide_eq_true h25.1), (nI_leI (by omega) (by omega)).mp (of_decide_eq_true h25.2)⟩
          unfold nxB; rw [decide_eq_true ⟨h8, hc⟩]; rfl) rfl rfl
      | exact b_iret F rfl dX8_isNext_33 (by decide) (by
          have hc : ¬ (lo ≤ sT a i ∧ sT a i ≤ hi) := fun z => by
            rw [inn_y ((nI_leI (by omega) (by omega)).mpr z.1) ((nI_leI (by omega) (by omega)).mpr z.2)] at h25
            cases h25
          unfold nxB; rw [decide_eq_false (fun z => hc z.2)]; rfl) rfl rfl
  · refine r_aload_n F dX8_isNext_11 rfl ?_
    refine r_get (x := .ref (gB G 88)) (T := TX8) (n := 5) F uw8 rfl rfl tw_882 (Or.inl rfl) dX8_isNext_12 (kd_lt (rfl : kd 83 = (7,0,0)) (by decide)) (ce7 rfl) rfl ?_
    refine r_aload_n F dX8_isNext_15 rfl ?_
    refine r_get (T := TX8) (n := 10) F uw8 rfl rfl tw_887 (Or.inl rfl) dX8_isNext_16 (kd_lt (rfl : kd 83 = (7,0,0)) (by decide)) (ce7 rfl) rfl ?_
    rw [t3]
    refine r_iald F dX8_isNext_19 rfl (by omega) ?_
    refine r_iload_n F dX8_isNext_20 rfl ?_
    refine r_iload_n F dX8_isNext_21 rfl ?_
    rw [t2 i h8]
    have w2 := wt i h8
    refine r_callS3i F fMX8_in tw_931 rfl dX8_isNext_22 rfl rfl z0 (m8_in g (nI (sT a i)) (nI lo) (nI hi)) ?_
    refine r_Beq F dX8_isNext_25 (fun h25 => ?_) (fun h25 => ?_)
    · refine r_iconst (x := 0) F dX8_isNext_32 rfl ?_
      first
        | exact b_iret F rfl dX8_isNext_33 (by decide) (by unfold nxB; rw [decide_eq_false (fun z => by omega)]; rfl) rfl rfl
        | exact b_iret F rfl dX8_isNext_33 (by decide) (by
            have hc : lo ≤ sT a i ∧ sT a i ≤ hi := by
              unfold inn at h25
              rw [Bool.and_eq_true] at h25
              exact ⟨(nI_leI (by omega) (by omega)).mp (of_decide_eq_true h25.1), (nI_leI (by omega) (by omega)).mp (of_decide_eq_true h25.2)⟩
            unfold nxB; rw [decide_eq_true ⟨h8, hc⟩]; rfl) rfl rfl
        | exact b_iret F rfl dX8_isNext_33 (by decide) (by
            have hc : ¬ (lo ≤ sT a i ∧ sT a i ≤ hi) := fun z => by
              rw [inn_y ((nI_leI (by omega) (by omega)).mpr z.1) ((nI_leI (by omega) (by omega)).mpr z.2)] at h25
              cases h25
            unfold nxB; rw [decide_eq_false (fun z => hc z.2)]; rfl) rfl rfl
    · refine r_iconst (x := 1) F dX8_isNext_28 rfl ?_
      refine r_goto F dX8_isNext_29 ?_
      first
        | exact b_iret F rfl dX8_isNext_33 (by decide) (by unfold nxB; rw [decide_eq_false (fun z => by omega)]; rfl) rfl rfl
        | exact b_iret F rfl dX8_isNext_33 (by decide) (by
            have hc : lo ≤ sT a i ∧ sT a i ≤ hi := by
              unfold inn at h25
              rw [Bool.and_eq_true] at h25
              exact ⟨(nI_leI (by omega) (by omega)).mp (of_decide_eq_true h25.1), (nI_leI (by omega) (by omega)).mp (of_decide_eq_true h25.2)⟩
            unfold nxB; rw [decide_eq_true ⟨h8, hc⟩]; rfl) rfl rfl
        | exact b_iret F rfl dX8_isNext_33 (by decide) (by
            have hc : ¬ (lo ≤ sT a i ∧ sT a i ≤ hi) := fun z => by
              rw [inn_y ((nI_leI (by omega) (by omega)).mpr z.1) ((nI_leI (by omega) (by omega)).mpr z.2)] at h25
              cases h25
            unfold nxB; rw [decide_eq_false (fun z => hc z.2)]; rfl) rfl rfl
theorem up2_same (v : VV) (k j : Nat) : up2 v k j (v k j) = v := by
  funext x y
  by_cases e : x = k ∧ y = j
  · obtain ⟨rfl, rfl⟩ := e; rw [up2_s]
  · unfold up2; rw [if_neg e]
set_option maxHeartbeats 8000000 in
theorem m8_takes {G : GT} {v : VV} {L : LL} {a : AS} (g : GH G) (w : WA a) {i c : Nat} (h : TP v a i) (hc : c < 256) : CC G MX8_takes [.ref (gB G 83), .int (nI c)] v L (rI (nxB a i c c).toNat (if nxB a i c c = true then up2 v 83 10 (i + 1) else v) L) := by
  refine cc_of g [some (.ref (gB G 83)), some (.int (nI c)), none] rfl rfl rfl rfl (fun K F => ?_)
  have t3 := h.2.2.1
  refine r_aload_n F dX8_takes_0 rfl ?_
  refine r_iload_n F dX8_takes_1 rfl ?_
  refine r_iload_n F dX8_takes_2 rfl ?_
  refine r_callV2i F fMX8_isNext tw_1021 rfl rfl rfl rfl dX8_takes_3 rfl rfl z0 (m8_isNext g w h hc hc) ?_
  refine r_ist2 F dX8_takes_6 rfl rfl ?_
  refine r_aload_n F dX8_takes_7 rfl ?_
  refine r_dup F dX8_takes_8 rfl ?_
  refine r_get (T := TX8) (n := 10) F uw8 rfl rfl tw_887 (Or.inl rfl) dX8_takes_9 (kd_lt (rfl : kd 83 = (7,0,0)) (by decide)) (ce7 rfl) rfl ?_
  refine r_iload_n F dX8_takes_12 rfl ?_
  rw [t3]
  refine r_Beq F dX8_takes_13 (fun h13 => ?_) (fun h13 => ?_)
  · refine r_iconst (x := 0) F dX8_takes_20 rfl ?_
    refine r_iadd F dX8_takes_21 ?_
    refine r_put (T := TX8) (n := 10) (ty0 := tyX8) (ty := .int) F uw8 tyX8_ok nmX8 rfl rfl tw_887 (Or.inl rfl) rfl rfl rfl rfl dX8_takes_22 (kd_lt (rfl : kd 83 = (7,0,0)) (by decide)) (ce7 rfl) rfl (pe7_10 rfl) up2_ce ?_
    refine r_iload_n F dX8_takes_25 rfl ?_
    first
      | exact r_iret F rfl nb_b dX8_takes_26 ⟨rfl, by rw [if_pos h13], rfl⟩
      | exact r_iret F rfl nb_b dX8_takes_26 ⟨rfl, by rw [if_neg (by rw [h13]; decide), Nat.add_zero, ← t3, up2_same], rfl⟩
  · refine r_iconst (x := 1) F dX8_takes_16 rfl ?_
    refine r_goto F dX8_takes_17 ?_
    refine r_iadd F dX8_takes_21 ?_
    refine r_put (T := TX8) (n := 10) (ty0 := tyX8) (ty := .int) F uw8 tyX8_ok nmX8 rfl rfl tw_887 (Or.inl rfl) rfl rfl rfl rfl dX8_takes_22 (kd_lt (rfl : kd 83 = (7,0,0)) (by decide)) (ce7 rfl) rfl (pe7_10 rfl) up2_ce ?_
    refine r_iload_n F dX8_takes_25 rfl ?_
    first
      | exact r_iret F rfl nb_b dX8_takes_26 ⟨rfl, by rw [if_pos h13], rfl⟩
      | exact r_iret F rfl nb_b dX8_takes_26 ⟨rfl, by rw [if_neg (by rw [h13]; decide), Nat.add_zero, ← t3, up2_same], rfl⟩
/-- a mask of positions -/
def MK (m : Nat) (f : Nat → Bool) : Prop := m < 256 ∧ ∀ p, p < 8 → m / 2 ^ p % 2 = (f p).toNat
theorem mk_or8 : ∀ m, m < 256 → ∀ p, p < 8 → (m ||| 2 ^ p) < 256 ∧ ∀ q, q < 8 → (m ||| 2 ^ p) / 2 ^ q % 2 = if q = p then 1 else m / 2 ^ q % 2 := by decide +kernel
theorem MK.or {m : Nat} {f : Nat → Bool} (h : MK m f) {p : Nat} (hp : p < 8) : MK (m ||| 2 ^ p) (upB f p true) := by
  obtain ⟨h1, h2⟩ := mk_or8 m h.1 p hp
  refine ⟨h1, fun q hq => ?_⟩
  rw [h2 q hq]
  unfold upB
  split
  · rfl
  · exact h.2 q hq
theorem MK.one {p : Nat} (hp : p < 8) : MK (2 ^ p) (fun q => decide (q = p)) := by
  have := (show ∀ p, p < 8 → 2 ^ p < 256 ∧ ∀ q, q < 8 → 2 ^ p / 2 ^ q % 2 = (decide (q = p)).toNat by decide +kernel) p hp
  exact this
/-- a digit at i that is not in f -/
def rdB (a : AS) (i : Nat) (f : Nat → Bool) : Bool := nxB a i 48 55 && !f (sT a i - 48)
set_option maxHeartbeats 8000000 in
theorem m8_readY {G : GT} {v : VV} {L : LL} {a : AS} (g : GH G) (w : WA a) {i m : Nat} {f : Nat → Bool} (h : TP v a i) (hm : MK m f) (hr : rdB a i f = true) : CC G MX8_readPosition [.ref (gB G 83), .int (nI m)] v L (rI (sT a i - 48) (up2 v 83 10 (i + 1)) L) := by
  refine cc_of g [some (.ref (gB G 83)), some (.int (nI m)), none] rfl rfl rfl rfl (fun K F => ?_)
  unfold rdB at hr
  rw [Bool.and_eq_true] at hr
  have hn : i < sL a ∧ 48 ≤ sT a i ∧ sT a i ≤ 55 := of_decide_eq_true hr.1
  have hf : f (sT a i - 48) = false := by
    cases hz : f (sT a i - 48) with
    | false => rfl
    | true => rw [hz] at hr; cases hr.2
  have hb := hm.2 (sT a i - 48) (by omega)
  have hm8 := hm.1
  rw [hf] at hb
  have wl : sL a ≤ 60 := w.2.2.2.2.1
  have t2 := h.2.1 i hn.1
  have t3 := h.2.2.1
  refine r_aload_n F dX8_readPosition_0 rfl ?_
  refine r_bipush (x := 48) F dX8_readPosition_1 rfl ?_
  refine r_bipush (x := 55) F dX8_readPosition_3 rfl ?_
  refine r_callV2i F fMX8_isNext tw_1021 rfl rfl rfl rfl dX8_readPosition_5 rfl rfl z0 (m8_isNext g w h (lo := 48) (hi := 55) (by decide) (by decide)) ?_
  refine r_Beq F dX8_readPosition_8 (fun h8 => ?_) (fun h8 => ?_)
  · exact absurd h8 (by rw [hr.1]; decide)
  · refine r_aload_n F dX8_readPosition_11 rfl ?_
    refine r_get (x := .ref (gB G 88)) (T := TX8) (n := 5) F uw8 rfl rfl tw_882 (Or.inl rfl) dX8_readPosition_12 (kd_lt (rfl : kd 83 = (7,0,0)) (by decide)) (ce7 rfl) rfl ?_
    refine r_aload_n F dX8_readPosition_15 rfl ?_
    refine r_get (T := TX8) (n := 10) F uw8 rfl rfl tw_887 (Or.inl rfl) dX8_readPosition_16 (kd_lt (rfl : kd 83 = (7,0,0)) (by decide)) (ce7 rfl) rfl ?_
    rw [t3]
    refine r_iald F dX8_readPosition_19 rfl (by omega) ?_
    rw [t2]
    refine r_bipush (x := 48) F dX8_readPosition_20 rfl ?_
    refine r_isub F dX8_readPosition_22 hn.2.1 ?_
    refine r_goto F dX8_readPosition_23 ?_
    refine r_ist2 F dX8_readPosition_27 rfl rfl ?_
    refine r_iload_n F dX8_readPosition_28 rfl ?_
    refine R_iconst (x := -1) F dX8_readPosition_29 rfl ?_
    refine R_iceq F dX8_readPosition_30 (fun h30 => ?_) (fun h30 => ?_)
    · exact absurd h30 (nI_m1 (by omega))
    · refine r_iload_n F dX8_readPosition_33 rfl ?_
      refine r_iload_n F dX8_readPosition_34 rfl ?_
      refine R_ishr F dX8_readPosition_35 (nI_shr (by omega) (by omega)) ?_
      refine r_iconst (x := 1) F dX8_readPosition_36 rfl ?_
      refine R_iand F dX8_readPosition_37 (nI_one _) ?_
      refine r_iconst (x := 1) F dX8_readPosition_38 rfl ?_
      rw [hb]
      refine r_icne F dX8_readPosition_39 (by omega) (by omega) (fun h39 => ?_) (fun h39 => ?_)
      · refine r_aload_n F dX8_readPosition_44 rfl ?_
        refine r_dup F dX8_readPosition_45 rfl ?_
        refine r_get (T := TX8) (n := 10) F uw8 rfl rfl tw_887 (Or.inl rfl) dX8_readPosition_46 (kd_lt (rfl : kd 83 = (7,0,0)) (by decide)) (ce7 rfl) rfl ?_
        rw [t3]
        refine r_iconst (x := 1) F dX8_readPosition_49 rfl ?_
        refine r_iadd F dX8_readPosition_50 ?_
        refine r_put (T := TX8) (n := 10) (ty0 := tyX8) (ty := .int) F uw8 tyX8_ok nmX8 rfl rfl tw_887 (Or.inl rfl) rfl rfl rfl rfl dX8_readPosition_51 (kd_lt (rfl : kd 83 = (7,0,0)) (by decide)) (ce7 rfl) rfl (pe7_10 rfl) up2_ce ?_
        refine r_iload_n F dX8_readPosition_54 rfl ?_
        exact i_iret F rfl dX8_readPosition_55 rfl rfl rfl
      · exact absurd h39 (by decide)
set_option maxHeartbeats 8000000 in
theorem m8_readN {G : GT} {v : VV} {L : LL} {a : AS} (g : GH G) (w : WA a) {i m : Nat} {f : Nat → Bool} (h : TP v a i) (hm : MK m f) (hr : rdB a i f = false) : CC G MX8_readPosition [.ref (gB G 83), .int (nI m)] v L (rR (-1) v L) := by
  refine cc_of g [some (.ref (gB G 83)), some (.int (nI m)), none] rfl rfl rfl rfl (fun K F => ?_)
  have wl : sL a ≤ 60 := w.2.2.2.2.1
  have t3 := h.2.2.1
  have hm8 := hm.1
  cases hx : nxB a i 48 55 with
  | false =>
    refine r_aload_n F dX8_readPosition_0 rfl ?_
    refine r_bipush (x := 48) F dX8_readPosition_1 rfl ?_
    refine r_bipush (x := 55) F dX8_readPosition_3 rfl ?_
    refine r_callV2i F fMX8_isNext tw_1021 rfl rfl rfl rfl dX8_readPosition_5 rfl rfl z0 (m8_isNext g w h (lo := 48) (hi := 55) (by decide) (by decide)) ?_
    refine r_Beq F dX8_readPosition_8 (fun h8 => ?_) (fun h8 => ?_)
    · refine R_iconst (x := -1) F dX8_readPosition_26 rfl ?_
      refine r_ist2 F dX8_readPosition_27 rfl rfl ?_
      refine r_iload_n F dX8_readPosition_28 rfl ?_
      refine R_iconst (x := -1) F dX8_readPosition_29 rfl ?_
      refine R_iceq F dX8_readPosition_30 (fun h30 => ?_) (fun h30 => ?_)
      · refine R_iconst (x := -1) F dX8_readPosition_42 rfl ?_
        exact r_iret F rfl rfl dX8_readPosition_43 ⟨rfl, rfl, rfl⟩
      · exact absurd rfl h30
    · exact absurd h8 (by rw [hx]; decide)
  | true =>
    have hn : i < sL a ∧ 48 ≤ sT a i ∧ sT a i ≤ 55 := of_decide_eq_true hx
    have hf : f (sT a i - 48) = true := by
      cases hz : f (sT a i - 48) with
      | true => rfl
      | false => unfold rdB at hr; rw [hx, hz] at hr; cases hr
    have hb := hm.2 (sT a i - 48) (by omega)
    rw [hf] at hb
    have t2 := h.2.1 i hn.1
    refine r_aload_n F dX8_readPosition_0 rfl ?_
    refine r_bipush (x := 48) F dX8_readPosition_1 rfl ?_
    refine r_bipush (x := 55) F dX8_readPosition_3 rfl ?_
    refine r_callV2i F fMX8_isNext tw_1021 rfl rfl rfl rfl dX8_readPosition_5 rfl rfl z0 (m8_isNext g w h (lo := 48) (hi := 55) (by decide) (by decide)) ?_
    refine r_Beq F dX8_readPosition_8 (fun h8 => ?_) (fun h8 => ?_)
    · exact absurd h8 (by rw [hx]; decide)
    · refine r_aload_n F dX8_readPosition_11 rfl ?_
      refine r_get (x := .ref (gB G 88)) (T := TX8) (n := 5) F uw8 rfl rfl tw_882 (Or.inl rfl) dX8_readPosition_12 (kd_lt (rfl : kd 83 = (7,0,0)) (by decide)) (ce7 rfl) rfl ?_
      refine r_aload_n F dX8_readPosition_15 rfl ?_
      refine r_get (T := TX8) (n := 10) F uw8 rfl rfl tw_887 (Or.inl rfl) dX8_readPosition_16 (kd_lt (rfl : kd 83 = (7,0,0)) (by decide)) (ce7 rfl) rfl ?_
      rw [t3]
      refine r_iald F dX8_readPosition_19 rfl (by omega) ?_
      rw [t2]
      refine r_bipush (x := 48) F dX8_readPosition_20 rfl ?_
      refine r_isub F dX8_readPosition_22 hn.2.1 ?_
      refine r_goto F dX8_readPosition_23 ?_
      refine r_ist2 F dX8_readPosition_27 rfl rfl ?_
      refine r_iload_n F dX8_readPosition_28 rfl ?_
      refine R_iconst (x := -1) F dX8_readPosition_29 rfl ?_
      refine R_iceq F dX8_readPosition_30 (fun h30 => ?_) (fun h30 => ?_)
      · exact absurd h30 (nI_m1 (by omega))
      · refine r_iload_n F dX8_readPosition_33 rfl ?_
        refine r_iload_n F dX8_readPosition_34 rfl ?_
        refine R_ishr F dX8_readPosition_35 (nI_shr (by omega) (by omega)) ?_
        refine r_iconst (x := 1) F dX8_readPosition_36 rfl ?_
        refine R_iand F dX8_readPosition_37 (nI_one _) ?_
        refine r_iconst (x := 1) F dX8_readPosition_38 rfl ?_
        rw [hb]
        refine r_icne F dX8_readPosition_39 (by omega) (by omega) (fun h39 => ?_) (fun h39 => ?_)
        · exact absurd rfl h39
        · refine R_iconst (x := -1) F dX8_readPosition_42 rfl ?_
          exact r_iret F rfl rfl dX8_readPosition_43 ⟨rfl, rfl, rfl⟩
