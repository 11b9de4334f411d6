set_option maxHeartbeats 8000000 in
theorem m8_positionTold {G : GT} {v : VV} {L : LL} (g : GH G) {S : Nat → Nat} (hr : RM v S) (w : WB S) {p i : Nat} (hp : p < 8) (hi : i ≤ 6) : CC G MX8_positionTold [.ref (gB G 83), .int (nI p), .int (nI i)] v L (rR (posV S p i) v L) := by
  refine cc_of g [some (.ref (gB G 83)), some (.int (nI p)), some (.int (nI i)), none, none] rfl rfl rfl rfl (fun K F => ?_)
  have wc := (w p hp).2.1
  have hq : i = 0 ∨ i = 1 ∨ i = 6 ∨ (2 ≤ i ∧ i ≤ 5) := by omega
  have b0 := hr (12 + 6 * p) (by omega)
  have b1 := hr (13 + 6 * p) (by omega)
  rcases hq with rfl | rfl | rfl | ⟨hi1, hi2⟩
  · skip
    refine r_iload_n F dX8_positionTold_0 rfl ?_
    refine r_iconst (x := 2) F dX8_positionTold_1 rfl ?_
    refine r_icge F dX8_positionTold_2 (by omega) (by omega) (fun h2 => ?_) (fun h2 => ?_)
    · exact absurd h2 (by decide)
    · refine r_aload_n F dX8_positionTold_5 rfl ?_
      refine r_iload_n F dX8_positionTold_6 rfl ?_
      refine r_iload_n F dX8_positionTold_7 rfl ?_
      refine r_callV2i F fMX8_of tw_938 rfl rfl rfl rfl dX8_positionTold_8 rfl rfl z0 (m8_mark0 g hr hp) ?_
      exact r_iret F rfl rfl dX8_positionTold_11 ⟨rfl, rfl, rfl⟩
  · skip
    refine r_iload_n F dX8_positionTold_0 rfl ?_
    refine r_iconst (x := 2) F dX8_positionTold_1 rfl ?_
    refine r_icge F dX8_positionTold_2 (by omega) (by omega) (fun h2 => ?_) (fun h2 => ?_)
    · exact absurd h2 (by decide)
    · refine r_aload_n F dX8_positionTold_5 rfl ?_
      refine r_iload_n F dX8_positionTold_6 rfl ?_
      refine r_iload_n F dX8_positionTold_7 rfl ?_
      refine r_callV2i F fMX8_of tw_938 rfl rfl rfl rfl dX8_positionTold_8 rfl rfl z0 (m8_many g hr hp) ?_
      exact r_iret F rfl rfl dX8_positionTold_11 ⟨rfl, rfl, rfl⟩
  · have loop : ∀ (n j : Nat), 8 < j + n → j ≤ 8 → CW G K 5 0 0 (MQ (kb K) (Qn G (rR (posV S p 6) v L)) (ka K) (ks K) 0 0 (gA G)) v L 46 [some (.ref (gB G 83)), some (.int (nI p)), some (.int (nI 6)), some (.int (nI (cntB (fun r => hm S r (nI p)) j))), some (.int (nI j))] [] := by
      intro n
      induction n with
      | zero => intro j a1 a2; omega
      | succ n ih =>
        intro j a1 a2
        have ec : cntB (fun r => hm S r (nI p)) (j + 1) = cntB (fun r => hm S r (nI p)) j + (hm S j (nI p)).toNat := rfl
        refine r_iload F dX8_positionTold_46 rfl ?_
        refine r_bipush (x := 8) F dX8_positionTold_48 rfl ?_
        refine r_icge F dX8_positionTold_50 (by omega) (by omega) (fun h50 => ?_) (fun h50 => ?_)
        · refine r_iload_n F dX8_positionTold_77 rfl ?_
          exact r_iret F rfl rfl dX8_positionTold_78 ⟨by rw [show j = 8 by omega]; rfl, rfl, rfl⟩
        · refine r_iload_n F dX8_positionTold_53 rfl ?_
          refine r_aload_n F dX8_positionTold_54 rfl ?_
          refine r_iload F dX8_positionTold_55 rfl ?_
          refine r_iload_n F dX8_positionTold_57 rfl ?_
          refine r_callV2i F fMX8_hasMove tw_934 rfl rfl rfl rfl dX8_positionTold_58 rfl rfl z0 (m8_hasMove g hr w h50 (nI p)) ?_
          refine r_Beq F dX8_positionTold_61 (fun h61 => ?_) (fun h61 => ?_)
          · refine r_iconst (x := 0) F dX8_positionTold_68 rfl ?_
            refine r_iadd F dX8_positionTold_69 ?_
            refine r_ist3 F dX8_positionTold_70 rfl rfl ?_
            refine r_iinc4 (y := 1) F dX8_positionTold_71 rfl rfl rfl rfl ?_
            refine r_goto F dX8_positionTold_74 ?_
            have := ih (j + 1) (by omega) (by omega)
            rw [ec, h61] at this
            exact this
          · refine r_iconst (x := 1) F dX8_positionTold_64 rfl ?_
            refine r_goto F dX8_positionTold_65 ?_
            refine r_iadd F dX8_positionTold_69 ?_
            refine r_ist3 F dX8_positionTold_70 rfl rfl ?_
            refine r_iinc4 (y := 1) F dX8_positionTold_71 rfl rfl rfl rfl ?_
            refine r_goto F dX8_positionTold_74 ?_
            have := ih (j + 1) (by omega) (by omega)
            rw [ec, h61] at this
            exact this
    refine r_iload_n F dX8_positionTold_0 rfl ?_
    refine r_iconst (x := 2) F dX8_positionTold_1 rfl ?_
    refine r_icge F dX8_positionTold_2 (by omega) (by omega) (fun h2 => ?_) (fun h2 => ?_)
    · refine r_iload_n F dX8_positionTold_12 rfl ?_
      refine r_bipush (x := 6) F dX8_positionTold_13 rfl ?_
      refine r_icge F dX8_positionTold_15 (by omega) (by omega) (fun h15 => ?_) (fun h15 => ?_)
      · refine r_iconst (x := 0) F dX8_positionTold_41 rfl ?_
        refine r_ist3 F dX8_positionTold_42 rfl rfl ?_
        refine r_iconst (x := 0) F dX8_positionTold_43 rfl ?_
        refine r_ist4 F dX8_positionTold_44 rfl rfl ?_
        exact loop 9 0 (by omega) (by omega)
      · exact absurd h15 (by decide)
    · exact absurd h2 (by decide)
  · have eo : 12 + 6 * p + i = 14 + 6 * p + (i - 2) := by omega
    have bo := hr (12 + 6 * p + i) (by omega)
    refine r_iload_n F dX8_positionTold_0 rfl ?_
    refine r_iconst (x := 2) F dX8_positionTold_1 rfl ?_
    refine r_icge F dX8_positionTold_2 (by omega) (by omega) (fun h2 => ?_) (fun h2 => ?_)
    · refine r_iload_n F dX8_positionTold_12 rfl ?_
      refine r_bipush (x := 6) F dX8_positionTold_13 rfl ?_
      refine r_icge F dX8_positionTold_15 (by omega) (by omega) (fun h15 => ?_) (fun h15 => ?_)
      · omega
      · refine r_iload_n F dX8_positionTold_18 rfl ?_
        refine r_iconst (x := 2) F dX8_positionTold_19 rfl ?_
        refine r_isub F dX8_positionTold_20 (by omega) ?_
        refine r_aload_n F dX8_positionTold_21 rfl ?_
        refine r_iload_n F dX8_positionTold_22 rfl ?_
        refine r_iconst (x := 1) F dX8_positionTold_23 rfl ?_
        refine r_callV2i F fMX8_of tw_938 rfl rfl rfl rfl dX8_positionTold_24 rfl rfl z0 (m8_many g hr hp) ?_
        refine r_icge F dX8_positionTold_27 (by omega) (by omega) (fun h27 => ?_) (fun h27 => ?_)
        · refine R_iconst (x := -1) F dX8_positionTold_39 rfl ?_
          refine r_iret F rfl rfl dX8_positionTold_40 ⟨?_, rfl, rfl⟩
          unfold posV mvA
          rw [if_neg (by omega), if_neg (by omega), if_neg (by omega)]
          first
            | (rw [if_pos (by omega), bo, eo]; done)
            | (rw [if_neg (by omega)]; done)
        · refine r_aload_n F dX8_positionTold_30 rfl ?_
          refine r_iload_n F dX8_positionTold_31 rfl ?_
          refine r_iload_n F dX8_positionTold_32 rfl ?_
          refine r_callV2i F fMX8_of tw_938 rfl rfl rfl rfl dX8_positionTold_33 rfl rfl z0 (m8_of g (p := p) (w := i) (by omega)) ?_
          refine r_goto F dX8_positionTold_36 ?_
          refine r_iret F rfl rfl dX8_positionTold_40 ⟨?_, rfl, rfl⟩
          unfold posV mvA
          rw [if_neg (by omega), if_neg (by omega), if_neg (by omega)]
          first
            | (rw [if_pos (by omega), bo, eo]; done)
            | (rw [if_neg (by omega)]; done)
    · omega
set_option maxHeartbeats 8000000 in
theorem m8_canForce {G : GT} {v : VV} {L : LL} (g : GH G) {S : Nat → Nat} (w : WS S) {pl p b st t : Nat} (hpl : pl < 2) (hp : p < 8) (hb : b ≤ 20) (hst : st < 2) (ht : t < 13) (hL : HL v S t) : CC G MX8_canForce [.ref (gB G 83), .int (nI pl), .int (nI p), .int (nI b), .int (nI st), .int (nI t)] v L (rI (decide (thr S t pl p st ≤ b)).toNat v L) := by
  refine cc_of g [some (.ref (gB G 83)), some (.int (nI pl)), some (.int (nI p)), some (.int (nI b)), some (.int (nI st)), some (.int (nI t))] rfl rfl rfl rfl (fun K F => ?_)
  have ok := thr_ok w.1 t pl p st
  unfold okT at ok
  refine r_iload_n F dX8_canForce_0 rfl ?_
  refine r_aload_n F dX8_canForce_1 rfl ?_
  refine r_iload F dX8_canForce_2 rfl ?_
  refine r_iload_n F dX8_canForce_4 rfl ?_
  refine r_iload_n F dX8_canForce_5 rfl ?_
  refine r_iload F dX8_canForce_6 rfl ?_
  refine r_callV4i F fMX8_leastAt tw_1089 rfl rfl rfl rfl dX8_canForce_8 rfl rfl z0 (m8_leastAt g ht hpl hp hst) ?_
  rw [hL pl hpl p hp st hst]
  refine r_iclt F dX8_canForce_11 (by omega) (by omega) (fun h11 => ?_) (fun h11 => ?_)
  · refine r_iconst (x := 0) F dX8_canForce_18 rfl ?_
    first
      | exact b_iret F rfl dX8_canForce_19 (by decide) (by rw [decide_eq_true (by omega)]; rfl) rfl rfl
      | exact b_iret F rfl dX8_canForce_19 (by decide) (by rw [decide_eq_false (by omega)]; rfl) rfl rfl
  · refine r_iconst (x := 1) F dX8_canForce_14 rfl ?_
    refine r_goto F dX8_canForce_15 ?_
    first
      | exact b_iret F rfl dX8_canForce_19 (by decide) (by rw [decide_eq_true (by omega)]; rfl) rfl rfl
      | exact b_iret F rfl dX8_canForce_19 (by decide) (by rw [decide_eq_false (by omega)]; rfl) rfl rfl
set_option maxHeartbeats 8000000 in
theorem m8_positionsW {G : GT} {v : VV} {L : LL} (g : GH G) {S : Nat → Nat} (hr : RM v S) (w : WS S) {pl : Nat} (hpl : pl < 2) : CC G MX8_positions [.ref (gB G 83), .int (nI pl), .int (nI 1)] v L (rI (cntB (fun p => won S pl p) 8) v L) := by
  refine cc_of g [some (.ref (gB G 83)), some (.int (nI pl)), some (.int (nI 1)), none, none, none] rfl rfl rfl rfl (fun K F => ?_)
  have loop : ∀ (n j : Nat), 8 < j + n → j ≤ 8 → CW G K 6 0 0 (MQ (kb K) (Qn G (rI (cntB (fun p => won S pl p) 8) v L)) (ka K) (ks K) 0 0 (gA G)) v L 5 [some (.ref (gB G 83)), some (.int (nI pl)), some (.int (nI 1)), some (.int (nI (cntB (fun p => won S pl p) j))), some (.int (nI j)), none] [] := by
    intro n
    induction n with
    | zero => intro j a1 a2; omega
    | succ n ih =>
      intro j a1 a2
      have ec : cntB (fun p => won S pl p) (j + 1) = cntB (fun p => won S pl p) j + (won S pl j).toNat := rfl
      refine r_iload F dX8_positions_5 rfl ?_
      refine r_bipush (x := 8) F dX8_positions_7 rfl ?_
      refine r_icge F dX8_positions_9 (by omega) (by omega) (fun h9 => ?_) (fun h9 => ?_)
      · refine r_iload_n F dX8_positions_71 rfl ?_
        exact i_iret F rfl dX8_positions_72 (by rw [show j = 8 by omega]) rfl rfl
      · refine r_iload_n F dX8_positions_12 rfl ?_
        refine r_ifeq F dX8_positions_13 (by omega) (fun h13 => ?_) (fun h13 => ?_)
        · exact absurd h13 (by decide)
        · refine r_aload_n F dX8_positions_16 rfl ?_
          refine r_iload_n F dX8_positions_17 rfl ?_
          refine r_iload F dX8_positions_18 rfl ?_
          refine r_callV2i F fMX8_isWonFor tw_1069 rfl rfl rfl rfl dX8_positions_20 rfl rfl z0 (m8_isWonFor g hr w.b h9 hpl) ?_
          refine r_goto F dX8_positions_23 ?_
          refine r_ist5 F dX8_positions_50 rfl rfl ?_
          refine r_iload_n F dX8_positions_52 rfl ?_
          refine r_iload F dX8_positions_53 rfl ?_
          refine r_Beq F dX8_positions_55 (fun h55 => ?_) (fun h55 => ?_)
          · refine r_iconst (x := 0) F dX8_positions_62 rfl ?_
            refine r_iadd F dX8_positions_63 ?_
            refine r_ist3 F dX8_positions_64 rfl rfl ?_
            refine r_iinc4 (y := 1) F dX8_positions_65 rfl rfl rfl rfl ?_
            refine r_goto F dX8_positions_68 ?_
            refine r_dr5 ?_
            have := ih (j + 1) (by omega) (by omega)
            rw [ec, h55] at this
            exact this
          · refine r_iconst (x := 1) F dX8_positions_58 rfl ?_
            refine r_goto F dX8_positions_59 ?_
            refine r_iadd F dX8_positions_63 ?_
            refine r_ist3 F dX8_positions_64 rfl rfl ?_
            refine r_iinc4 (y := 1) F dX8_positions_65 rfl rfl rfl rfl ?_
            refine r_goto F dX8_positions_68 ?_
            refine r_dr5 ?_
            have := ih (j + 1) (by omega) (by omega)
            rw [ec, h55] at this
            exact this
  refine r_iconst (x := 0) F dX8_positions_0 rfl ?_
  refine r_ist3 F dX8_positions_1 rfl rfl ?_
  refine r_iconst (x := 0) F dX8_positions_2 rfl ?_
  refine r_ist4 F dX8_positions_3 rfl rfl ?_
  exact loop 9 0 (by omega) (by omega)
set_option maxHeartbeats 8000000 in
theorem m8_positionsF {G : GT} {v : VV} {L : LL} (g : GH G) {S : Nat → Nat} (hr : RM v S) (w : WS S) {pl : Nat} (hpl : pl < 2) (hL : HL v S (S 1)) : CC G MX8_positions [.ref (gB G 83), .int (nI pl), .int (nI 0)] v L (rI (cntB (fun p => decide (thr S (S 1) pl p (S 3) ≤ bud S pl)) 8) v L) := by
  refine cc_of g [some (.ref (gB G 83)), some (.int (nI pl)), some (.int (nI 0)), none, none, none] rfl rfl rfl rfl (fun K F => ?_)
  have w0 : S 0 ≤ 20 := w.1
  have w1 : S 1 ≤ 12 := w.2.1
  have w3 : S 3 ≤ 1 := w.2.2.2.1
  have wb := bud_le w pl
  have q1 := hr 1 (by decide)
  have q3 := hr 3 (by decide)
  have loop : ∀ (n j : Nat), 8 < j + n → j ≤ 8 → CW G K 6 0 0 (MQ (kb K) (Qn G (rI (cntB (fun p => decide (thr S (S 1) pl p (S 3) ≤ bud S pl)) 8) v L)) (ka K) (ks K) 0 0 (gA G)) v L 5 [some (.ref (gB G 83)), some (.int (nI pl)), some (.int (nI 0)), some (.int (nI (cntB (fun p => decide (thr S (S 1) pl p (S 3) ≤ bud S pl)) j))), some (.int (nI j)), none] [] := by
    intro n
    induction n with
    | zero => intro j a1 a2; omega
    | succ n ih =>
      intro j a1 a2
      have ec : cntB (fun p => decide (thr S (S 1) pl p (S 3) ≤ bud S pl)) (j + 1) = cntB (fun p => decide (thr S (S 1) pl p (S 3) ≤ bud S pl)) j + (decide (thr S (S 1) pl j (S 3) ≤ bud S pl)).toNat := rfl
      refine r_iload F dX8_positions_5 rfl ?_
      refine r_bipush (x := 8) F dX8_positions_7 rfl ?_
      refine r_icge F dX8_positions_9 (by omega) (by omega) (fun h9 => ?_) (fun h9 => ?_)
      · refine r_iload_n F dX8_positions_71 rfl ?_
        exact i_iret F rfl dX8_positions_72 (by rw [show j = 8 by omega]) rfl rfl
      · refine r_iload_n F dX8_positions_12 rfl ?_
        refine r_ifeq F dX8_positions_13 (by omega) (fun h13 => ?_) (fun h13 => ?_)
        · refine r_aload_n F dX8_positions_26 rfl ?_
          refine r_iload_n F dX8_positions_27 rfl ?_
          refine r_iload F dX8_positions_28 rfl ?_
          refine r_aload_n F dX8_positions_30 rfl ?_
          refine r_iload_n F dX8_positions_31 rfl ?_
          refine r_callV1i F fMX8_budgetOf tw_989 rfl rfl rfl rfl dX8_positions_32 rfl rfl z0 (m8_budgetOf g hr w hpl) ?_
          refine r_aload_n F dX8_positions_35 rfl ?_
          refine r_get (x := .ref (gB G 84)) (T := TX8) (n := 0) F uw8 rfl rfl tw_877 (Or.inl rfl) dX8_positions_36 (kd_lt (rfl : kd 83 = (7,0,0)) (by decide)) (ce7 rfl) rfl ?_
          refine r_iconst (x := 3) F dX8_positions_39 rfl ?_
          refine r_iald F dX8_positions_40 rfl (by omega) ?_
          refine r_aload_n F dX8_positions_41 rfl ?_
          refine r_get (x := .ref (gB G 84)) (T := TX8) (n := 0) F uw8 rfl rfl tw_877 (Or.inl rfl) dX8_positions_42 (kd_lt (rfl : kd 83 = (7,0,0)) (by decide)) (ce7 rfl) rfl ?_
          refine r_iconst (x := 1) F dX8_positions_45 rfl ?_
          refine r_iald F dX8_positions_46 rfl (by omega) ?_
          rw [q3, q1]
          refine r_callV5i F fMX8_canForce tw_1105 rfl rfl rfl rfl dX8_positions_47 rfl rfl z0 (m8_canForce g w hpl h9 (by omega) (by omega) (by omega) hL) ?_
          refine r_ist5 F dX8_positions_50 rfl rfl ?_
          refine r_iload_n F dX8_positions_52 rfl ?_
          refine r_iload F dX8_positions_53 rfl ?_
          refine r_Beq F dX8_positions_55 (fun h55 => ?_) (fun h55 => ?_)
          · refine r_iconst (x := 0) F dX8_positions_62 rfl ?_
            refine r_iadd F dX8_positions_63 ?_
            refine r_ist3 F dX8_positions_64 rfl rfl ?_
            refine r_iinc4 (y := 1) F dX8_positions_65 rfl rfl rfl rfl ?_
            refine r_goto F dX8_positions_68 ?_
            refine r_dr5 ?_
            have := ih (j + 1) (by omega) (by omega)
            rw [ec, h55] at this
            exact this
          · refine r_iconst (x := 1) F dX8_positions_58 rfl ?_
            refine r_goto F dX8_positions_59 ?_
            refine r_iadd F dX8_positions_63 ?_
            refine r_ist3 F dX8_positions_64 rfl rfl ?_
            refine r_iinc4 (y := 1) F dX8_positions_65 rfl rfl rfl rfl ?_
            refine r_goto F dX8_positions_68 ?_
            refine r_dr5 ?_
            have := ih (j + 1) (by omega) (by omega)
            rw [ec, h55] at this
            exact this
        · exact absurd rfl h13
  refine r_iconst (x := 0) F dX8_positions_0 rfl ?_
  refine r_ist3 F dX8_positions_1 rfl rfl ?_
  refine r_iconst (x := 0) F dX8_positions_2 rfl ?_
  refine r_ist4 F dX8_positions_3 rfl rfl ?_
  exact loop 9 0 (by omega) (by omega)
set_option maxHeartbeats 8000000 in
theorem m8_playerTold {G : GT} {v : VV} {L : LL} (g : GH G) {S : Nat → Nat} (hr : RM v S) (w : WS S) {pl i : Nat} (hpl : pl ≤ 1) (hi : i ≤ 5) (hL : HL v S (S 1)) : CC G MX8_playerTold [.ref (gB G 83), .int (nI pl), .int (nI i)] v L (rR (plV S pl i) v L) := by
  refine cc_of g [some (.ref (gB G 83)), some (.int (nI pl)), some (.int (nI i))] rfl rfl rfl rfl (fun K F => ?_)
  have w3 : S 3 ≤ 1 := w.2.2.2.1
  have q3 := hr 3 (by decide)
  have q6 := hr (6 + pl) (by omega)
  have q8 := hr (8 + pl) (by omega)
  have hq : i = 0 ∨ i = 1 ∨ i = 2 ∨ i = 3 ∨ i = 4 ∨ i = 5 := by omega
  refine r_iload_n F dX8_playerTold_0 rfl ?_
  rcases hq with rfl | rfl | rfl | rfl | rfl | rfl
  · refine R_tab F dX8_playerTold_1 (by decide) (by decide) rfl rfl ?_
    refine r_aload_n F dX8_playerTold_32 rfl ?_
    refine r_iload_n F dX8_playerTold_33 rfl ?_
    refine r_callV1i F fMX8_budgetOf tw_989 rfl rfl rfl rfl dX8_playerTold_34 rfl rfl z0 (m8_budgetOf g hr w (by omega)) ?_
    exact r_iret F rfl rfl dX8_playerTold_37 ⟨rfl, rfl, rfl⟩
  · refine R_tab F dX8_playerTold_1 (by decide) (by decide) rfl rfl ?_
    refine r_aload_n F dX8_playerTold_38 rfl ?_
    refine r_get (x := .ref (gB G 84)) (T := TX8) (n := 0) F uw8 rfl rfl tw_877 (Or.inl rfl) dX8_playerTold_39 (kd_lt (rfl : kd 83 = (7,0,0)) (by decide)) (ce7 rfl) rfl ?_
    refine r_iconst (x := 3) F dX8_playerTold_42 rfl ?_
    refine r_iald F dX8_playerTold_43 rfl (by omega) ?_
    rw [q3]
    refine r_iload_n F dX8_playerTold_44 rfl ?_
    refine r_icne F dX8_playerTold_45 (by omega) (by omega) (fun h45 => ?_) (fun h45 => ?_)
    · refine r_iconst (x := 0) F dX8_playerTold_52 rfl ?_
      first
        | exact r_iret F rfl rfl dX8_playerTold_53 ⟨congrArg (fun z => some (Value.int z)) (show _ = nI (b01 (S 3 = pl)) by rw [b01_y h45]), rfl, rfl⟩
        | exact r_iret F rfl rfl dX8_playerTold_53 ⟨congrArg (fun z => some (Value.int z)) (show _ = nI (b01 (S 3 = pl)) by rw [b01_n h45]), rfl, rfl⟩
    · refine r_iconst (x := 1) F dX8_playerTold_48 rfl ?_
      refine r_goto F dX8_playerTold_49 ?_
      first
        | exact r_iret F rfl rfl dX8_playerTold_53 ⟨congrArg (fun z => some (Value.int z)) (show _ = nI (b01 (S 3 = pl)) by rw [b01_y h45]), rfl, rfl⟩
        | exact r_iret F rfl rfl dX8_playerTold_53 ⟨congrArg (fun z => some (Value.int z)) (show _ = nI (b01 (S 3 = pl)) by rw [b01_n h45]), rfl, rfl⟩
  · refine R_tab F dX8_playerTold_1 (by decide) (by decide) rfl rfl ?_
    refine r_aload_n F dX8_playerTold_54 rfl ?_
    refine r_get (x := .ref (gB G 84)) (T := TX8) (n := 0) F uw8 rfl rfl tw_877 (Or.inl rfl) dX8_playerTold_55 (kd_lt (rfl : kd 83 = (7,0,0)) (by decide)) (ce7 rfl) rfl ?_
    refine r_bipush (x := 6) F dX8_playerTold_58 rfl ?_
    refine r_iload_n F dX8_playerTold_60 rfl ?_
    refine r_iadd F dX8_playerTold_61 ?_
    refine r_iald F dX8_playerTold_62 rfl (by omega) ?_
    exact r_iret F rfl rfl dX8_playerTold_63 ⟨by rw [q6]; rfl, rfl, rfl⟩
  · refine R_tab F dX8_playerTold_1 (by decide) (by decide) rfl rfl ?_
    refine r_aload_n F dX8_playerTold_64 rfl ?_
    refine r_get (x := .ref (gB G 84)) (T := TX8) (n := 0) F uw8 rfl rfl tw_877 (Or.inl rfl) dX8_playerTold_65 (kd_lt (rfl : kd 83 = (7,0,0)) (by decide)) (ce7 rfl) rfl ?_
    refine r_bipush (x := 8) F dX8_playerTold_68 rfl ?_
    refine r_iload_n F dX8_playerTold_70 rfl ?_
    refine r_iadd F dX8_playerTold_71 ?_
    refine r_iald F dX8_playerTold_72 rfl (by omega) ?_
    exact r_iret F rfl rfl dX8_playerTold_73 ⟨by rw [q8]; rfl, rfl, rfl⟩
  · refine R_tabO F dX8_playerTold_1 (by decide) rfl ?_
    refine r_aload_n F dX8_playerTold_74 rfl ?_
    refine r_iload_n F dX8_playerTold_75 rfl ?_
    refine r_iload_n F dX8_playerTold_76 rfl ?_
    refine r_iconst (x := 4) F dX8_playerTold_77 rfl ?_
    refine r_icne F dX8_playerTold_78 (by omega) (by omega) (fun h78 => ?_) (fun h78 => ?_)
    · exact absurd rfl h78
    · refine r_iconst (x := 1) F dX8_playerTold_81 rfl ?_
      refine r_goto F dX8_playerTold_82 ?_
      refine r_callV2i F fMX8_positions tw_1101 rfl rfl rfl rfl dX8_playerTold_86 rfl rfl z0 (m8_positionsW g hr w (by omega)) ?_
      exact r_iret F rfl rfl dX8_playerTold_89 ⟨rfl, rfl, rfl⟩
  · refine R_tabO F dX8_playerTold_1 (by decide) rfl ?_
    refine r_aload_n F dX8_playerTold_74 rfl ?_
    refine r_iload_n F dX8_playerTold_75 rfl ?_
    refine r_iload_n F dX8_playerTold_76 rfl ?_
    refine r_iconst (x := 4) F dX8_playerTold_77 rfl ?_
    refine r_icne F dX8_playerTold_78 (by omega) (by omega) (fun h78 => ?_) (fun h78 => ?_)
    · refine r_iconst (x := 0) F dX8_playerTold_85 rfl ?_
      refine r_callV2i F fMX8_positions tw_1101 rfl rfl rfl rfl dX8_playerTold_86 rfl rfl z0 (m8_positionsF g hr w (by omega) hL) ?_
      exact r_iret F rfl rfl dX8_playerTold_89 ⟨rfl, rfl, rfl⟩
    · exact absurd h78 (by decide)
set_option maxHeartbeats 8000000 in
theorem m8_allMoves {G : GT} {v : VV} {L : LL} (g : GH G) {S : Nat → Nat} (hr : RM v S) : CC G MX8_allMoves [.ref (gB G 83)] v L (rI (smN (fun p => S (13 + 6 * p)) 8) v L) := by
  refine cc_of g [some (.ref (gB G 83)), none, none] rfl rfl rfl rfl (fun K F => ?_)
  have loop : ∀ (n j : Nat), 8 < j + n → j ≤ 8 → CW G K 3 0 0 (MQ (kb K) (Qn G (rI (smN (fun p => S (13 + 6 * p)) 8) v L)) (ka K) (ks K) 0 0 (gA G)) v L 4 [some (.ref (gB G 83)), some (.int (nI (smN (fun p => S (13 + 6 * p)) j))), some (.int (nI j))] [] := by
    intro n
    induction n with
    | zero => intro j a1 a2; omega
    | succ n ih =>
      intro j a1 a2
      refine r_iload_n F dX8_allMoves_4 rfl ?_
      refine r_bipush (x := 8) F dX8_allMoves_5 rfl ?_
      refine r_icge F dX8_allMoves_7 (by omega) (by omega) (fun h7 => ?_) (fun h7 => ?_)
      · refine r_iload_n F dX8_allMoves_25 rfl ?_
        exact i_iret F rfl dX8_allMoves_26 (by rw [show j = 8 by omega]) rfl rfl
      · refine r_iload_n F dX8_allMoves_10 rfl ?_
        refine r_aload_n F dX8_allMoves_11 rfl ?_
        refine r_iload_n F dX8_allMoves_12 rfl ?_
        refine r_iconst (x := 1) F dX8_allMoves_13 rfl ?_
        refine r_callV2i F fMX8_of tw_938 rfl rfl rfl rfl dX8_allMoves_14 rfl rfl z0 (m8_many g hr h7) ?_
        refine r_iadd F dX8_allMoves_17 ?_
        refine r_ist1 F dX8_allMoves_18 rfl rfl ?_
        refine r_iinc2 (y := 1) F dX8_allMoves_19 rfl rfl rfl rfl ?_
        refine r_goto F dX8_allMoves_22 ?_
        exact ih (j + 1) (by omega) (by omega)
  refine r_iconst (x := 0) F dX8_allMoves_0 rfl ?_
  refine r_ist1 F dX8_allMoves_1 rfl rfl ?_
  refine r_iconst (x := 0) F dX8_allMoves_2 rfl ?_
  refine r_ist2 F dX8_allMoves_3 rfl rfl ?_
  exact loop 9 0 (by omega) (by omega)
theorem nI_bq_sub {x : Nat} (h : x ≤ 2) : nI x - 1 = nI (bq x) := by
  have : x = 0 ∨ x = 1 ∨ x = 2 := by omega
  rcases this with rfl | rfl | rfl <;> decide
set_option maxHeartbeats 8000000 in
theorem m8_countTold {G : GT} {v : VV} {L : LL} {a : AS} (g : GH G) (h : IM v a) (w : WA a) {i : Nat} (hi : i ≤ 10) : CC G MX8_countTold [.ref (gB G 83), .int (nI i)] v L (rR (cnV a i) v L) := by
  refine cc_of g [some (.ref (gB G 83)), some (.int (nI i))] rfl rfl rfl rfl (fun K F => ?_)
  have w4 : sS a 4 < 8 := w.1.2.2.2.2.1
  have w5 : sS a 5 ≤ 2 := w.1.2.2.2.2.2.1
  have hr := h.1
  have q0 := hr 0 (by decide)
  have q3 := hr 3 (by decide)
  have q4 := hr 4 (by decide)
  have q5 := hr 5 (by decide)
  have q6 := hr 6 (by decide)
  have q7 := hr 7 (by decide)
  have q10 := hr 10 (by decide)
  have q11 := hr 11 (by decide)
  have q2 := h.2.1
  have hq : i = 0 ∨ i = 1 ∨ i = 2 ∨ i = 3 ∨ i = 4 ∨ i = 5 ∨ i = 6 ∨ i = 7 ∨ i = 8 ∨ i = 9 ∨ i = 10 := by omega
  refine r_iload_n F dX8_countTold_0 rfl ?_
  rcases hq with rfl | rfl | rfl | rfl | rfl | rfl | rfl | rfl | rfl | rfl | rfl
  · refine R_tab F dX8_countTold_1 (by decide) (by decide) rfl rfl ?_
    refine r_aload_n F dX8_countTold_56 rfl ?_
    refine r_get (x := .ref (gB G 84)) (T := TX8) (n := 0) F uw8 rfl rfl tw_877 (Or.inl rfl) dX8_countTold_57 (kd_lt (rfl : kd 83 = (7,0,0)) (by decide)) (ce7 rfl) rfl ?_
    refine r_iconst (x := 4) F dX8_countTold_60 rfl ?_
    refine r_iald F dX8_countTold_61 rfl (by omega) ?_
    exact r_iret F rfl rfl dX8_countTold_62 ⟨by rw [q4]; rfl, rfl, rfl⟩
  · refine R_tab F dX8_countTold_1 (by decide) (by decide) rfl rfl ?_
    refine r_aload_n F dX8_countTold_63 rfl ?_
    refine r_aload_n F dX8_countTold_64 rfl ?_
    refine r_get (x := .ref (gB G 84)) (T := TX8) (n := 0) F uw8 rfl rfl tw_877 (Or.inl rfl) dX8_countTold_65 (kd_lt (rfl : kd 83 = (7,0,0)) (by decide)) (ce7 rfl) rfl ?_
    refine r_iconst (x := 4) F dX8_countTold_68 rfl ?_
    refine r_iald F dX8_countTold_69 rfl (by omega) ?_
    rw [q4]
    refine r_callV1i F fMX8_isOver tw_977 rfl rfl rfl rfl dX8_countTold_70 rfl rfl z0 (m8_isOver g hr w.1.b w4) ?_
    refine r_Beq F dX8_countTold_73 (fun h73 => ?_) (fun h73 => ?_)
    · refine r_iconst (x := 0) F dX8_countTold_80 rfl ?_
      exact r_iret F rfl rfl dX8_countTold_81 ⟨congrArg (fun z => some (Value.int z)) (show _ = nI (ovr (sS a) (sS a 4)).toNat by rw [h73]; rfl), rfl, rfl⟩
    · refine r_iconst (x := 1) F dX8_countTold_76 rfl ?_
      refine r_goto F dX8_countTold_77 ?_
      exact r_iret F rfl rfl dX8_countTold_81 ⟨congrArg (fun z => some (Value.int z)) (show _ = nI (ovr (sS a) (sS a 4)).toNat by rw [h73]; rfl), rfl, rfl⟩
  · refine R_tab F dX8_countTold_1 (by decide) (by decide) rfl rfl ?_
    refine r_aload_n F dX8_countTold_82 rfl ?_
    refine r_aload_n F dX8_countTold_83 rfl ?_
    refine r_get (x := .ref (gB G 84)) (T := TX8) (n := 0) F uw8 rfl rfl tw_877 (Or.inl rfl) dX8_countTold_84 (kd_lt (rfl : kd 83 = (7,0,0)) (by decide)) (ce7 rfl) rfl ?_
    refine r_iconst (x := 4) F dX8_countTold_87 rfl ?_
    refine r_iald F dX8_countTold_88 rfl (by omega) ?_
    refine r_iconst (x := 0) F dX8_countTold_89 rfl ?_
    rw [q4]
    refine r_callV2i F fMX8_of tw_938 rfl rfl rfl rfl dX8_countTold_90 rfl rfl z0 (m8_mark0 g hr w4) ?_
    refine r_iconst (x := 1) F dX8_countTold_93 rfl ?_
    refine R_isub F dX8_countTold_94 rfl ?_
    exact r_iret F rfl rfl dX8_countTold_95 ⟨rfl, rfl, rfl⟩
  · refine R_tab F dX8_countTold_1 (by decide) (by decide) rfl rfl ?_
    refine r_aload_n F dX8_countTold_96 rfl ?_
    refine r_get (x := .ref (gB G 84)) (T := TX8) (n := 0) F uw8 rfl rfl tw_877 (Or.inl rfl) dX8_countTold_97 (kd_lt (rfl : kd 83 = (7,0,0)) (by decide)) (ce7 rfl) rfl ?_
    refine r_iconst (x := 5) F dX8_countTold_100 rfl ?_
    refine r_iald F dX8_countTold_101 rfl (by omega) ?_
    refine r_iconst (x := 1) F dX8_countTold_102 rfl ?_
    rw [q5]
    refine R_isub F dX8_countTold_103 (nI_bq_sub w5) ?_
    exact r_iret F rfl rfl dX8_countTold_104 ⟨rfl, rfl, rfl⟩
  · refine R_tab F dX8_countTold_1 (by decide) (by decide) rfl rfl ?_
    refine r_aload_n F dX8_countTold_105 rfl ?_
    refine r_get (x := .ref (gB G 84)) (T := TX8) (n := 0) F uw8 rfl rfl tw_877 (Or.inl rfl) dX8_countTold_106 (kd_lt (rfl : kd 83 = (7,0,0)) (by decide)) (ce7 rfl) rfl ?_
    refine r_iconst (x := 3) F dX8_countTold_109 rfl ?_
    refine r_iald F dX8_countTold_110 rfl (by omega) ?_
    exact r_iret F rfl rfl dX8_countTold_111 ⟨by rw [q3]; rfl, rfl, rfl⟩
  · refine R_tab F dX8_countTold_1 (by decide) (by decide) rfl rfl ?_
    refine r_aload_n F dX8_countTold_112 rfl ?_
    refine r_get (x := .ref (gB G 84)) (T := TX8) (n := 0) F uw8 rfl rfl tw_877 (Or.inl rfl) dX8_countTold_113 (kd_lt (rfl : kd 83 = (7,0,0)) (by decide)) (ce7 rfl) rfl ?_
    refine r_iconst (x := 0) F dX8_countTold_116 rfl ?_
    refine r_iald F dX8_countTold_117 rfl (by omega) ?_
    exact r_iret F rfl rfl dX8_countTold_118 ⟨by rw [q0]; rfl, rfl, rfl⟩
  · refine R_tab F dX8_countTold_1 (by decide) (by decide) rfl rfl ?_
    refine r_aload_n F dX8_countTold_119 rfl ?_
    refine r_get (x := .ref (gB G 84)) (T := TX8) (n := 0) F uw8 rfl rfl tw_877 (Or.inl rfl) dX8_countTold_120 (kd_lt (rfl : kd 83 = (7,0,0)) (by decide)) (ce7 rfl) rfl ?_
    refine r_bipush (x := 6) F dX8_countTold_123 rfl ?_
    refine r_iald F dX8_countTold_125 rfl (by omega) ?_
    refine r_aload_n F dX8_countTold_126 rfl ?_
    refine r_get (x := .ref (gB G 84)) (T := TX8) (n := 0) F uw8 rfl rfl tw_877 (Or.inl rfl) dX8_countTold_127 (kd_lt (rfl : kd 83 = (7,0,0)) (by decide)) (ce7 rfl) rfl ?_
    refine r_bipush (x := 7) F dX8_countTold_130 rfl ?_
    refine r_iald F dX8_countTold_132 rfl (by omega) ?_
    refine r_iadd F dX8_countTold_133 ?_
    exact r_iret F rfl rfl dX8_countTold_134 ⟨by rw [q6, q7]; rfl, rfl, rfl⟩
  · refine R_tab F dX8_countTold_1 (by decide) (by decide) rfl rfl ?_
    refine r_aload_n F dX8_countTold_135 rfl ?_
    refine r_get (x := .ref (gB G 84)) (T := TX8) (n := 0) F uw8 rfl rfl tw_877 (Or.inl rfl) dX8_countTold_136 (kd_lt (rfl : kd 83 = (7,0,0)) (by decide)) (ce7 rfl) rfl ?_
    refine r_bipush (x := 10) F dX8_countTold_139 rfl ?_
    refine r_iald F dX8_countTold_141 rfl (by omega) ?_
    exact r_iret F rfl rfl dX8_countTold_142 ⟨by rw [q10]; rfl, rfl, rfl⟩
  · refine R_tab F dX8_countTold_1 (by decide) (by decide) rfl rfl ?_
    refine r_aload_n F dX8_countTold_143 rfl ?_
    refine r_get (x := .ref (gB G 84)) (T := TX8) (n := 0) F uw8 rfl rfl tw_877 (Or.inl rfl) dX8_countTold_144 (kd_lt (rfl : kd 83 = (7,0,0)) (by decide)) (ce7 rfl) rfl ?_
    refine r_bipush (x := 11) F dX8_countTold_147 rfl ?_
    refine r_iald F dX8_countTold_149 rfl (by omega) ?_
    exact r_iret F rfl rfl dX8_countTold_150 ⟨by rw [q11]; rfl, rfl, rfl⟩
  · refine R_tab F dX8_countTold_1 (by decide) (by decide) rfl rfl ?_
    refine r_aload_n F dX8_countTold_151 rfl ?_
    refine r_callV0i F fMX8_allMoves tw_1117 rfl rfl rfl rfl dX8_countTold_152 rfl rfl z0 (m8_allMoves g hr) ?_
    exact r_iret F rfl rfl dX8_countTold_155 ⟨rfl, rfl, rfl⟩
  · refine R_tabO F dX8_countTold_1 (by decide) rfl ?_
    refine r_aload_n F dX8_countTold_156 rfl ?_
    refine r_get (T := TX8) (n := 2) F uw8 rfl rfl tw_879 (Or.inl rfl) dX8_countTold_157 (kd_lt (rfl : kd 83 = (7,0,0)) (by decide)) (ce7 rfl) rfl ?_
    exact r_iret F rfl rfl dX8_countTold_160 ⟨by rw [q2]; rfl, rfl, rfl⟩
set_option maxHeartbeats 8000000 in
theorem m8_thresholdTold {G : GT} {v : VV} {L : LL} (g : GH G) {S : Nat → Nat} (hr : RM v S) (w : WS S) {pl p st : Nat} (hpl : pl < 2) (hp : p < 8) (hst : st < 2) (hL : HL v S (S 1)) : CC G MX8_thresholdTold [.ref (gB G 83), .int (nI pl), .int (nI p), .int (nI st)] v L (rR (thV (thr S (S 1) pl p st)) v L) := by
  refine cc_of g [some (.ref (gB G 83)), some (.int (nI pl)), some (.int (nI p)), some (.int (nI st)), none] rfl rfl rfl rfl (fun K F => ?_)
  have w1 : S 1 ≤ 12 := w.2.1
  have q1 := hr 1 (by decide)
  have ok := thr_ok w.1 (S 1) pl p st
  unfold okT at ok
  refine r_aload_n F dX8_thresholdTold_0 rfl ?_
  refine r_aload_n F dX8_thresholdTold_1 rfl ?_
  refine r_get (x := .ref (gB G 84)) (T := TX8) (n := 0) F uw8 rfl rfl tw_877 (Or.inl rfl) dX8_thresholdTold_2 (kd_lt (rfl : kd 83 = (7,0,0)) (by decide)) (ce7 rfl) rfl ?_
  refine r_iconst (x := 1) F dX8_thresholdTold_5 rfl ?_
  refine r_iald F dX8_thresholdTold_6 rfl (by omega) ?_
  refine r_iload_n F dX8_thresholdTold_7 rfl ?_
  refine r_iload_n F dX8_thresholdTold_8 rfl ?_
  refine r_iload_n F dX8_thresholdTold_9 rfl ?_
  rw [q1]
  refine r_callV4i F fMX8_leastAt tw_1089 rfl rfl rfl rfl dX8_thresholdTold_10 rfl rfl z0 (m8_leastAt g (t := S 1) (by omega) hpl hp hst) ?_
  rw [hL pl hpl p hp st hst]
  refine r_ist4 F dX8_thresholdTold_13 rfl rfl ?_
  refine r_iload F dX8_thresholdTold_15 rfl ?_
  refine r_bipush (x := 99) F dX8_thresholdTold_17 rfl ?_
  refine r_icne F dX8_thresholdTold_19 (by omega) (by omega) (fun h19 => ?_) (fun h19 => ?_)
  · refine r_iload F dX8_thresholdTold_26 rfl ?_
    first
      | exact r_iret F rfl rfl dX8_thresholdTold_28 ⟨by unfold thV; rw [if_pos (by omega)], rfl, rfl⟩
      | exact r_iret F rfl rfl dX8_thresholdTold_28 ⟨by unfold thV; rw [if_neg (by omega)], rfl, rfl⟩
  · refine R_iconst (x := -1) F dX8_thresholdTold_22 rfl ?_
    refine r_goto F dX8_thresholdTold_23 ?_
    first
      | exact r_iret F rfl rfl dX8_thresholdTold_28 ⟨by unfold thV; rw [if_pos (by omega)], rfl, rfl⟩
      | exact r_iret F rfl rfl dX8_thresholdTold_28 ⟨by unfold thV; rw [if_neg (by omega)], rfl, rfl⟩
set_option maxHeartbeats 8000000 in
theorem m8_adviceTold {G : GT} {v : VV} {L : LL} (g : GH G) {S : Nat → Nat} (hr : RM v S) (w : WS S) {pl : Nat} (hpl : pl < 2) (hL : ∀ t, t < 13 → HL v S t) : CC G MX8_adviceTold [.ref (gB G 83), .int (nI pl)] v L (rR (adV S pl) v L) := by
  refine cc_of g [some (.ref (gB G 83)), some (.int (nI pl))] rfl rfl rfl rfl (fun K F => ?_)
  have w1 : S 1 ≤ 12 := w.2.1
  have w3 : S 3 ≤ 1 := w.2.2.2.1
  have w4 : S 4 < 8 := w.2.2.2.2.1
  have q1 := hr 1 (by decide)
  have q3 := hr 3 (by decide)
  have q4 := hr 4 (by decide)
  refine r_aload_n F dX8_adviceTold_0 rfl ?_
  refine r_aload_n F dX8_adviceTold_1 rfl ?_
  refine r_get (x := .ref (gB G 84)) (T := TX8) (n := 0) F uw8 rfl rfl tw_877 (Or.inl rfl) dX8_adviceTold_2 (kd_lt (rfl : kd 83 = (7,0,0)) (by decide)) (ce7 rfl) rfl ?_
  refine r_iconst (x := 4) F dX8_adviceTold_5 rfl ?_
  refine r_iald F dX8_adviceTold_6 rfl (by omega) ?_
  rw [q4]
  refine r_callV1i F fMX8_isOver tw_977 rfl rfl rfl rfl dX8_adviceTold_7 rfl rfl z0 (m8_isOver g hr w.b w4) ?_
  refine r_Bne F dX8_adviceTold_10 (fun h10 => ?_) (fun h10 => ?_)
  · refine R_iconst (x := -1) F dX8_adviceTold_22 rfl ?_
    refine r_goto F dX8_adviceTold_23 ?_
    first
      | exact r_iret F rfl rfl dX8_adviceTold_56 ⟨by unfold adV; rw [if_pos (Or.inl h10)], rfl, rfl⟩
      | exact r_iret F rfl rfl dX8_adviceTold_56 ⟨by unfold adV; rw [if_pos (Or.inr h19)], rfl, rfl⟩
      | exact r_iret F rfl rfl dX8_adviceTold_56 ⟨by unfold adV; rw [if_neg (fun z => z.elim (fun z => by rw [z] at h10; cases h10) h19)], rfl, rfl⟩
  · refine r_aload_n F dX8_adviceTold_13 rfl ?_
    refine r_get (x := .ref (gB G 84)) (T := TX8) (n := 0) F uw8 rfl rfl tw_877 (Or.inl rfl) dX8_adviceTold_14 (kd_lt (rfl : kd 83 = (7,0,0)) (by decide)) (ce7 rfl) rfl ?_
    refine r_iconst (x := 1) F dX8_adviceTold_17 rfl ?_
    refine r_iald F dX8_adviceTold_18 rfl (by omega) ?_
    rw [q1]
    refine r_ifne F dX8_adviceTold_19 (by omega) (fun h19 => ?_) (fun h19 => ?_)
    · refine r_aload_n F dX8_adviceTold_26 rfl ?_
      refine r_aload_n F dX8_adviceTold_27 rfl ?_
      refine r_get (x := .ref (gB G 84)) (T := TX8) (n := 0) F uw8 rfl rfl tw_877 (Or.inl rfl) dX8_adviceTold_28 (kd_lt (rfl : kd 83 = (7,0,0)) (by decide)) (ce7 rfl) rfl ?_
      refine r_iconst (x := 1) F dX8_adviceTold_31 rfl ?_
      refine r_iald F dX8_adviceTold_32 rfl (by omega) ?_
      refine r_iconst (x := 1) F dX8_adviceTold_33 rfl ?_
      rw [q1]
      refine r_isub F dX8_adviceTold_34 (by omega) ?_
      refine r_iload_n F dX8_adviceTold_35 rfl ?_
      refine r_aload_n F dX8_adviceTold_36 rfl ?_
      refine r_get (x := .ref (gB G 84)) (T := TX8) (n := 0) F uw8 rfl rfl tw_877 (Or.inl rfl) dX8_adviceTold_37 (kd_lt (rfl : kd 83 = (7,0,0)) (by decide)) (ce7 rfl) rfl ?_
      refine r_iconst (x := 4) F dX8_adviceTold_40 rfl ?_
      refine r_iald F dX8_adviceTold_41 rfl (by omega) ?_
      refine r_aload_n F dX8_adviceTold_42 rfl ?_
      refine r_get (x := .ref (gB G 84)) (T := TX8) (n := 0) F uw8 rfl rfl tw_877 (Or.inl rfl) dX8_adviceTold_43 (kd_lt (rfl : kd 83 = (7,0,0)) (by decide)) (ce7 rfl) rfl ?_
      refine r_iconst (x := 3) F dX8_adviceTold_46 rfl ?_
      refine r_iald F dX8_adviceTold_47 rfl (by omega) ?_
      rw [q4, q3]
      refine r_aload_n F dX8_adviceTold_48 rfl ?_
      refine r_iload_n F dX8_adviceTold_49 rfl ?_
      refine r_callV1i F fMX8_budgetOf tw_989 rfl rfl rfl rfl dX8_adviceTold_50 rfl rfl z0 (m8_budgetOf g hr w hpl) ?_
      refine r_callV5q F fMX8_leastBid tw_1073 rfl rfl rfl rfl dX8_adviceTold_53 rfl rfl z0 (m8_leastBid g hr w (t := S 1 - 1) (by omega) hpl w4 (by omega) (bud_le w pl) (hL _ (by omega))) ?_
      first
        | exact r_iret F rfl rfl dX8_adviceTold_56 ⟨by unfold adV; rw [if_pos (Or.inl h10)], rfl, rfl⟩
        | exact r_iret F rfl rfl dX8_adviceTold_56 ⟨by unfold adV; rw [if_pos (Or.inr h19)], rfl, rfl⟩
        | exact r_iret F rfl rfl dX8_adviceTold_56 ⟨by unfold adV; rw [if_neg (fun z => z.elim (fun z => by rw [z] at h10; cases h10) h19)], rfl, rfl⟩
    · refine R_iconst (x := -1) F dX8_adviceTold_22 rfl ?_
      refine r_goto F dX8_adviceTold_23 ?_
      first
        | exact r_iret F rfl rfl dX8_adviceTold_56 ⟨by unfold adV; rw [if_pos (Or.inl h10)], rfl, rfl⟩
        | exact r_iret F rfl rfl dX8_adviceTold_56 ⟨by unfold adV; rw [if_pos (Or.inr h19)], rfl, rfl⟩
        | exact r_iret F rfl rfl dX8_adviceTold_56 ⟨by unfold adV; rw [if_neg (fun z => z.elim (fun z => by rw [z] at h10; cases h10) h19)], rfl, rfl⟩
set_option maxHeartbeats 8000000 in
theorem m8_refutedTold {G : GT} {v : VV} {L : LL} (g : GH G) {S : Nat → Nat} (hr : RM v S) (w : WS S) {pl b : Nat} (hpl : pl < 2) (hb : b ≤ bud S pl) (hL : ∀ t, t < 13 → HL v S t) : CC G MX8_refutedTold [.ref (gB G 83), .int (nI pl), .int (nI b)] v L (rR (reV S pl b) v L) := by
  refine cc_of g [some (.ref (gB G 83)), some (.int (nI pl)), some (.int (nI b)), none] rfl rfl rfl rfl (fun K F => ?_)
  have w0 : S 0 ≤ 20 := w.1
  have w1 : S 1 ≤ 12 := w.2.1
  have w2 : S 2 ≤ S 0 := w.2.2.1
  have w3 : S 3 ≤ 1 := w.2.2.2.1
  have w4 : S 4 < 8 := w.2.2.2.2.1
  have wb := bud_le w pl
  have q1 := hr 1 (by decide)
  have q3 := hr 3 (by decide)
  have q4 := hr 4 (by decide)
  have eb : bud S (1 - pl) = S 0 - bud S pl := by
    have : pl = 0 ∨ pl = 1 := by omega
    rcases this with rfl | rfl
    · rfl
    · show S 2 = S 0 - (S 0 - S 2)
      omega
  obtain ⟨f, hf⟩ : ∃ f : Nat → Bool, f = fun o => !isE (soT S (S 1 - 1) pl (S 4)) (eaT S (S 1 - 1) pl (S 4)) pl (S 3) (bud S pl) b o := ⟨_, rfl⟩
  have loop : ¬ won S pl (S 4) = true → ¬ (ovr S (S 4) = true ∨ S 1 = 0) → ∀ (n j : Nat), S 0 - bud S pl + 1 < j + n → j ≤ S 0 - bud S pl + 1 → (∀ i, i < j → f i = false) → CW G K 4 0 0 (MQ (kb K) (Qn G (rR (reV S pl b) v L)) (ka K) (ks K) 0 0 (gA G)) v L 42 [some (.ref (gB G 83)), some (.int (nI pl)), some (.int (nI b)), some (.int (nI j))] [] := by
    intro n1 n2 n
    induction n with
    | zero => intro j a1 a2; omega
    | succ n ih =>
      intro j a1 a2 a3
      refine r_iload_n F dX8_refutedTold_42 rfl ?_
      refine r_aload_n F dX8_refutedTold_43 rfl ?_
      refine r_iconst (x := 1) F dX8_refutedTold_44 rfl ?_
      refine r_iload_n F dX8_refutedTold_45 rfl ?_
      refine r_isub F dX8_refutedTold_46 (by omega) ?_
      refine r_callV1i F fMX8_budgetOf tw_989 rfl rfl rfl rfl dX8_refutedTold_47 rfl rfl z0 (m8_budgetOf g hr w (pl := 1 - pl) (by omega)) ?_
      rw [eb]
      refine r_icgt F dX8_refutedTold_50 (by omega) (by omega) (fun h50 => ?_) (fun h50 => ?_)
      · refine R_iconst (x := -1) F dX8_refutedTold_96 rfl ?_
        first
          | (have he : fsN f (S 0 - bud S pl + 1) = j := fsN_eq (by omega) (by rw [hf]; show (!isE _ _ _ _ _ _ _) = true; rw [h85]; rfl) a3
             exact r_iret F rfl rfl dX8_refutedTold_97 ⟨by unfold reV refu orM; rw [if_neg n1, if_neg n2, ← hf, he, if_pos (by omega)], rfl, rfl⟩)
          | (have he : fsN f (S 0 - bud S pl + 1) = S 0 - bud S pl + 1 := fsN_none (fun i hi => a3 i (by omega))
             exact r_iret F rfl rfl dX8_refutedTold_97 ⟨by unfold reV refu orM; rw [if_neg n1, if_neg n2, ← hf, he, if_neg (by omega)], rfl, rfl⟩)
      · refine r_aload_n F dX8_refutedTold_53 rfl ?_
        refine r_aload_n F dX8_refutedTold_54 rfl ?_
        refine r_get (x := .ref (gB G 84)) (T := TX8) (n := 0) F uw8 rfl rfl tw_877 (Or.inl rfl) dX8_refutedTold_55 (kd_lt (rfl : kd 83 = (7,0,0)) (by decide)) (ce7 rfl) rfl ?_
        refine r_iconst (x := 1) F dX8_refutedTold_58 rfl ?_
        refine r_iald F dX8_refutedTold_59 rfl (by omega) ?_
        refine r_iconst (x := 1) F dX8_refutedTold_60 rfl ?_
        rw [q1]
        refine r_isub F dX8_refutedTold_61 (by omega) ?_
        refine r_iload_n F dX8_refutedTold_62 rfl ?_
        refine r_aload_n F dX8_refutedTold_63 rfl ?_
        refine r_get (x := .ref (gB G 84)) (T := TX8) (n := 0) F uw8 rfl rfl tw_877 (Or.inl rfl) dX8_refutedTold_64 (kd_lt (rfl : kd 83 = (7,0,0)) (by decide)) (ce7 rfl) rfl ?_
        refine r_iconst (x := 4) F dX8_refutedTold_67 rfl ?_
        refine r_iald F dX8_refutedTold_68 rfl (by omega) ?_
        refine r_aload_n F dX8_refutedTold_69 rfl ?_
        refine r_get (x := .ref (gB G 84)) (T := TX8) (n := 0) F uw8 rfl rfl tw_877 (Or.inl rfl) dX8_refutedTold_70 (kd_lt (rfl : kd 83 = (7,0,0)) (by decide)) (ce7 rfl) rfl ?_
        refine r_iconst (x := 3) F dX8_refutedTold_73 rfl ?_
        refine r_iald F dX8_refutedTold_74 rfl (by omega) ?_
        rw [q4, q3]
        refine r_aload_n F dX8_refutedTold_75 rfl ?_
        refine r_iload_n F dX8_refutedTold_76 rfl ?_
        refine r_callV1i F fMX8_budgetOf tw_989 rfl rfl rfl rfl dX8_refutedTold_77 rfl rfl z0 (m8_budgetOf g hr w hpl) ?_
        refine r_iload_n F dX8_refutedTold_80 rfl ?_
        refine r_iload_n F dX8_refutedTold_81 rfl ?_
        refine r_callV7i F fMX8_isEnough tw_1081 rfl rfl rfl rfl dX8_refutedTold_82 rfl rfl z0 (m8_isEnough g hr w (t := S 1 - 1) (by omega) hpl w4 (by omega) (by omega) hb (o := j) (by omega) (hL _ (by omega))) ?_
        refine r_Bne F dX8_refutedTold_85 (fun h85 => ?_) (fun h85 => ?_)
        · refine r_iinc3 (y := 1) F dX8_refutedTold_90 rfl rfl rfl rfl ?_
          refine r_goto F dX8_refutedTold_93 ?_
          refine ih (j + 1) (by omega) (by omega) (fun i hi => ?_)
          rcases Nat.lt_or_ge i j with z | z
          · exact a3 i z
          · rw [show i = j by omega, hf]
            show (!isE _ _ _ _ _ _ _) = false
            rw [h85]; rfl
        · refine r_iload_n F dX8_refutedTold_88 rfl ?_
          first
            | (have he : fsN f (S 0 - bud S pl + 1) = j := fsN_eq (by omega) (by rw [hf]; show (!isE _ _ _ _ _ _ _) = true; rw [h85]; rfl) a3
               exact r_iret F rfl rfl dX8_refutedTold_89 ⟨by unfold reV refu orM; rw [if_neg n1, if_neg n2, ← hf, he, if_pos (by omega)], rfl, rfl⟩)
            | (have he : fsN f (S 0 - bud S pl + 1) = S 0 - bud S pl + 1 := fsN_none (fun i hi => a3 i (by omega))
               exact r_iret F rfl rfl dX8_refutedTold_89 ⟨by unfold reV refu orM; rw [if_neg n1, if_neg n2, ← hf, he, if_neg (by omega)], rfl, rfl⟩)
  refine r_aload_n F dX8_refutedTold_0 rfl ?_
  refine r_iload_n F dX8_refutedTold_1 rfl ?_
  refine r_aload_n F dX8_refutedTold_2 rfl ?_
  refine r_get (x := .ref (gB G 84)) (T := TX8) (n := 0) F uw8 rfl rfl tw_877 (Or.inl rfl) dX8_refutedTold_3 (kd_lt (rfl : kd 83 = (7,0,0)) (by decide)) (ce7 rfl) rfl ?_
  refine r_iconst (x := 4) F dX8_refutedTold_6 rfl ?_
  refine r_iald F dX8_refutedTold_7 rfl (by omega) ?_
  rw [q4]
  refine r_callV2i F fMX8_isWonFor tw_1069 rfl rfl rfl rfl dX8_refutedTold_8 rfl rfl z0 (m8_isWonFor g hr w.b w4 hpl) ?_
  refine r_Beq F dX8_refutedTold_11 (fun h11 => ?_) (fun h11 => ?_)
  · refine r_aload_n F dX8_refutedTold_16 rfl ?_
    refine r_aload_n F dX8_refutedTold_17 rfl ?_
    refine r_get (x := .ref (gB G 84)) (T := TX8) (n := 0) F uw8 rfl rfl tw_877 (Or.inl rfl) dX8_refutedTold_18 (kd_lt (rfl : kd 83 = (7,0,0)) (by decide)) (ce7 rfl) rfl ?_
    refine r_iconst (x := 4) F dX8_refutedTold_21 rfl ?_
    refine r_iald F dX8_refutedTold_22 rfl (by omega) ?_
    rw [q4]
    refine r_callV1i F fMX8_isOver tw_977 rfl rfl rfl rfl dX8_refutedTold_23 rfl rfl z0 (m8_isOver g hr w.b w4) ?_
    refine r_Bne F dX8_refutedTold_26 (fun h26 => ?_) (fun h26 => ?_)
    · refine r_iconst (x := 0) F dX8_refutedTold_38 rfl ?_
      first
        | exact r_iret F rfl rfl dX8_refutedTold_39 ⟨by unfold reV; rw [if_neg (by rw [h11]; decide), if_pos (Or.inl h26)], rfl, rfl⟩
        | exact r_iret F rfl rfl dX8_refutedTold_39 ⟨by unfold reV; rw [if_neg (by rw [h11]; decide), if_pos (Or.inr h35)], rfl, rfl⟩
    · refine r_aload_n F dX8_refutedTold_29 rfl ?_
      refine r_get (x := .ref (gB G 84)) (T := TX8) (n := 0) F uw8 rfl rfl tw_877 (Or.inl rfl) dX8_refutedTold_30 (kd_lt (rfl : kd 83 = (7,0,0)) (by decide)) (ce7 rfl) rfl ?_
      refine r_iconst (x := 1) F dX8_refutedTold_33 rfl ?_
      refine r_iald F dX8_refutedTold_34 rfl (by omega) ?_
      rw [q1]
      refine r_ifne F dX8_refutedTold_35 (by omega) (fun h35 => ?_) (fun h35 => ?_)
      · refine r_iconst (x := 0) F dX8_refutedTold_40 rfl ?_
        refine r_ist3 F dX8_refutedTold_41 rfl rfl ?_
        exact loop (by rw [h11]; decide) (fun z => z.elim (fun z => by rw [z] at h26; cases h26) h35) (S 0 - bud S pl + 2) 0 (by omega) (by omega) (fun i hi => absurd hi (Nat.not_lt_zero i))
      · refine r_iconst (x := 0) F dX8_refutedTold_38 rfl ?_
        first
          | exact r_iret F rfl rfl dX8_refutedTold_39 ⟨by unfold reV; rw [if_neg (by rw [h11]; decide), if_pos (Or.inl h26)], rfl, rfl⟩
          | exact r_iret F rfl rfl dX8_refutedTold_39 ⟨by unfold reV; rw [if_neg (by rw [h11]; decide), if_pos (Or.inr h35)], rfl, rfl⟩
  · refine R_iconst (x := -1) F dX8_refutedTold_14 rfl ?_
    exact r_iret F rfl rfl dX8_refutedTold_15 ⟨by unfold reV; rw [if_pos h11], rfl, rfl⟩
set_option maxHeartbeats 8000000 in
theorem m8_bestMoveTold {G : GT} {v : VV} {L : LL} (g : GH G) {S : Nat → Nat} (hr : RM v S) (w : WS S) {pl b : Nat} (hpl : pl < 2) (hb : b ≤ bud S pl) (hL : ∀ t, t < 13 → HL v S t) : CC G MX8_bestMoveTold [.ref (gB G 83), .int (nI pl), .int (nI b)] v L (rR (bmV S pl b) v L) := by
  refine cc_of g [some (.ref (gB G 83)), some (.int (nI pl)), some (.int (nI b)), none, none] rfl rfl rfl rfl (fun K F => ?_)
  have w0 : S 0 ≤ 20 := w.1
  have w1 : S 1 ≤ 12 := w.2.1
  have w3 : S 3 ≤ 1 := w.2.2.2.1
  have w4 : S 4 < 8 := w.2.2.2.2.1
  have wb := bud_le w pl
  have wc := (w.b _ w4).2.1
  have q1 := hr 1 (by decide)
  have q3 := hr 3 (by decide)
  have q4 := hr 4 (by decide)
  obtain ⟨f, hf⟩ : ∃ f : Nat → Bool, f = fun i => decide (thr S (S 1 - 1) pl (S (14 + 6 * S 4 + i)) (S 3) ≤ bud S pl - b) := ⟨_, rfl⟩
  have loop : ¬ (ovr S (S 4) = true ∨ S 1 = 0) → ∀ (n j : Nat), S (13 + 6 * S 4) < j + n → j ≤ S (13 + 6 * S 4) → (∀ i, i < j → f i = false) → CW G K 5 0 0 (MQ (kb K) (Qn G (rR (bmV S pl b) v L)) (ka K) (ks K) 0 0 (gA G)) v L 26 [some (.ref (gB G 83)), some (.int (nI pl)), some (.int (nI b)), some (.int (nI j)), none] [] := by
    intro n2 n
    induction n with
    | zero => intro j a1 a2; omega
    | succ n ih =>
      intro j a1 a2 a3
      have hq : j < S (13 + 6 * S 4) → S (14 + 6 * S 4 + j) < 8 := fun z => (w.b _ w4).2.2 j z
      refine r_iload_n F dX8_bestMoveTold_26 rfl ?_
      refine r_aload_n F dX8_bestMoveTold_27 rfl ?_
      refine r_aload_n F dX8_bestMoveTold_28 rfl ?_
      refine r_get (x := .ref (gB G 84)) (T := TX8) (n := 0) F uw8 rfl rfl tw_877 (Or.inl rfl) dX8_bestMoveTold_29 (kd_lt (rfl : kd 83 = (7,0,0)) (by decide)) (ce7 rfl) rfl ?_
      refine r_iconst (x := 4) F dX8_bestMoveTold_32 rfl ?_
      refine r_iald F dX8_bestMoveTold_33 rfl (by omega) ?_
      refine r_iconst (x := 1) F dX8_bestMoveTold_34 rfl ?_
      rw [q4]
      refine r_callV2i F fMX8_of tw_938 rfl rfl rfl rfl dX8_bestMoveTold_35 rfl rfl z0 (m8_many g hr w4) ?_
      refine r_icge F dX8_bestMoveTold_38 (by omega) (by omega) (fun h38 => ?_) (fun h38 => ?_)
      · refine R_iconst (x := -1) F dX8_bestMoveTold_96 rfl ?_
        first
          | (have he : fsN f (S (13 + 6 * S 4)) = j := fsN_eq h38 (by rw [hf]; exact h84) a3
             exact r_iret F rfl rfl dX8_bestMoveTold_97 ⟨by unfold bmV; rw [if_neg n2, ← hf, he, if_pos h38], rfl, rfl⟩)
          | (have he : fsN f (S (13 + 6 * S 4)) = S (13 + 6 * S 4) := fsN_none (fun i hi => a3 i (by omega))
             exact r_iret F rfl rfl dX8_bestMoveTold_97 ⟨by unfold bmV; rw [if_neg n2, ← hf, he, if_neg (Nat.lt_irrefl _)], rfl, rfl⟩)
      · refine r_aload_n F dX8_bestMoveTold_41 rfl ?_
        refine r_aload_n F dX8_bestMoveTold_42 rfl ?_
        refine r_get (x := .ref (gB G 84)) (T := TX8) (n := 0) F uw8 rfl rfl tw_877 (Or.inl rfl) dX8_bestMoveTold_43 (kd_lt (rfl : kd 83 = (7,0,0)) (by decide)) (ce7 rfl) rfl ?_
        refine r_iconst (x := 4) F dX8_bestMoveTold_46 rfl ?_
        refine r_iald F dX8_bestMoveTold_47 rfl (by omega) ?_
        refine r_iconst (x := 2) F dX8_bestMoveTold_48 rfl ?_
        refine r_iload_n F dX8_bestMoveTold_49 rfl ?_
        refine r_iadd F dX8_bestMoveTold_50 ?_
        rw [q4]
        refine r_callV2i F fMX8_of tw_938 rfl rfl rfl rfl dX8_bestMoveTold_51 rfl rfl z0 (m8_move0 g hr w4 (i := j) (by omega)) ?_
        refine r_ist4 F dX8_bestMoveTold_54 rfl rfl ?_
        refine r_aload_n F dX8_bestMoveTold_56 rfl ?_
        refine r_iload_n F dX8_bestMoveTold_57 rfl ?_
        refine r_iload F dX8_bestMoveTold_58 rfl ?_
        refine r_aload_n F dX8_bestMoveTold_60 rfl ?_
        refine r_iload_n F dX8_bestMoveTold_61 rfl ?_
        refine r_callV1i F fMX8_budgetOf tw_989 rfl rfl rfl rfl dX8_bestMoveTold_62 rfl rfl z0 (m8_budgetOf g hr w hpl) ?_
        refine r_iload_n F dX8_bestMoveTold_65 rfl ?_
        refine r_isub F dX8_bestMoveTold_66 (by omega) ?_
        refine r_aload_n F dX8_bestMoveTold_67 rfl ?_
        refine r_get (x := .ref (gB G 84)) (T := TX8) (n := 0) F uw8 rfl rfl tw_877 (Or.inl rfl) dX8_bestMoveTold_68 (kd_lt (rfl : kd 83 = (7,0,0)) (by decide)) (ce7 rfl) rfl ?_
        refine r_iconst (x := 3) F dX8_bestMoveTold_71 rfl ?_
        refine r_iald F dX8_bestMoveTold_72 rfl (by omega) ?_
        refine r_aload_n F dX8_bestMoveTold_73 rfl ?_
        refine r_get (x := .ref (gB G 84)) (T := TX8) (n := 0) F uw8 rfl rfl tw_877 (Or.inl rfl) dX8_bestMoveTold_74 (kd_lt (rfl : kd 83 = (7,0,0)) (by decide)) (ce7 rfl) rfl ?_
        refine r_iconst (x := 1) F dX8_bestMoveTold_77 rfl ?_
        refine r_iald F dX8_bestMoveTold_78 rfl (by omega) ?_
        refine r_iconst (x := 1) F dX8_bestMoveTold_79 rfl ?_
        rw [q3, q1]
        refine r_isub F dX8_bestMoveTold_80 (by omega) ?_
        refine r_callV5i F fMX8_canForce tw_1105 rfl rfl rfl rfl dX8_bestMoveTold_81 rfl rfl z0 (m8_canForce g w (t := S 1 - 1) hpl (hq h38) (by omega) (by omega) (by omega) (hL _ (by omega))) ?_
        refine r_Beq F dX8_bestMoveTold_84 (fun h84 => ?_) (fun h84 => ?_)
        · refine r_iinc3 (y := 1) F dX8_bestMoveTold_90 rfl rfl rfl rfl ?_
          refine r_goto F dX8_bestMoveTold_93 ?_
          refine r_dr4 ?_
          refine ih (j + 1) (by omega) (by omega) (fun i hi => ?_)
          rcases Nat.lt_or_ge i j with z | z
          · exact a3 i z
          · rw [show i = j by omega, hf]; exact h84
        · refine r_iload F dX8_bestMoveTold_87 rfl ?_
          first
            | (have he : fsN f (S (13 + 6 * S 4)) = j := fsN_eq h38 (by rw [hf]; exact h84) a3
               exact r_iret F rfl rfl dX8_bestMoveTold_89 ⟨by unfold bmV; rw [if_neg n2, ← hf, he, if_pos h38], rfl, rfl⟩)
            | (have he : fsN f (S (13 + 6 * S 4)) = S (13 + 6 * S 4) := fsN_none (fun i hi => a3 i (by omega))
               exact r_iret F rfl rfl dX8_bestMoveTold_89 ⟨by unfold bmV; rw [if_neg n2, ← hf, he, if_neg (Nat.lt_irrefl _)], rfl, rfl⟩)
  refine r_aload_n F dX8_bestMoveTold_0 rfl ?_
  refine r_aload_n F dX8_bestMoveTold_1 rfl ?_
  refine r_get (x := .ref (gB G 84)) (T := TX8) (n := 0) F uw8 rfl rfl tw_877 (Or.inl rfl) dX8_bestMoveTold_2 (kd_lt (rfl : kd 83 = (7,0,0)) (by decide)) (ce7 rfl) rfl ?_
  refine r_iconst (x := 4) F dX8_bestMoveTold_5 rfl ?_
  refine r_iald F dX8_bestMoveTold_6 rfl (by omega) ?_
  rw [q4]
  refine r_callV1i F fMX8_isOver tw_977 rfl rfl rfl rfl dX8_bestMoveTold_7 rfl rfl z0 (m8_isOver g hr w.b w4) ?_
  refine r_Bne F dX8_bestMoveTold_10 (fun h10 => ?_) (fun h10 => ?_)
  · refine R_iconst (x := -1) F dX8_bestMoveTold_22 rfl ?_
    first
      | exact r_iret F rfl rfl dX8_bestMoveTold_23 ⟨by unfold bmV; rw [if_pos (Or.inl h10)], rfl, rfl⟩
      | exact r_iret F rfl rfl dX8_bestMoveTold_23 ⟨by unfold bmV; rw [if_pos (Or.inr h19)], rfl, rfl⟩
  · refine r_aload_n F dX8_bestMoveTold_13 rfl ?_
    refine r_get (x := .ref (gB G 84)) (T := TX8) (n := 0) F uw8 rfl rfl tw_877 (Or.inl rfl) dX8_bestMoveTold_14 (kd_lt (rfl : kd 83 = (7,0,0)) (by decide)) (ce7 rfl) rfl ?_
    refine r_iconst (x := 1) F dX8_bestMoveTold_17 rfl ?_
    refine r_iald F dX8_bestMoveTold_18 rfl (by omega) ?_
    rw [q1]
    refine r_ifne F dX8_bestMoveTold_19 (by omega) (fun h19 => ?_) (fun h19 => ?_)
    · refine r_iconst (x := 0) F dX8_bestMoveTold_24 rfl ?_
      refine r_ist3 F dX8_bestMoveTold_25 rfl rfl ?_
      exact loop (fun z => z.elim (fun z => by rw [z] at h10; cases h10) h19) (S (13 + 6 * S 4) + 1) 0 (by omega) (by omega) (fun i hi => absurd hi (Nat.not_lt_zero i))
    · refine R_iconst (x := -1) F dX8_bestMoveTold_22 rfl ?_
      first
        | exact r_iret F rfl rfl dX8_bestMoveTold_23 ⟨by unfold bmV; rw [if_pos (Or.inl h10)], rfl, rfl⟩
        | exact r_iret F rfl rfl dX8_bestMoveTold_23 ⟨by unfold bmV; rw [if_pos (Or.inr h19)], rfl, rfl⟩
set_option maxHeartbeats 8000000 in
theorem m8_winInTold {G : GT} {v : VV} {L : LL} (g : GH G) {S : Nat → Nat} (hr : RM v S) (w : WS S) {pl : Nat} (hpl : pl < 2) (hL : ∀ t, t < 13 → HL v S t) : CC G MX8_winInTold [.ref (gB G 83), .int (nI pl)] v L (rR (wiV S pl) v L) := by
  refine cc_of g [some (.ref (gB G 83)), some (.int (nI pl)), none] rfl rfl rfl rfl (fun K F => ?_)
  have w0 : S 0 ≤ 20 := w.1
  have w3 : S 3 ≤ 1 := w.2.2.2.1
  have w4 : S 4 < 8 := w.2.2.2.2.1
  have wb := bud_le w pl
  have q3 := hr 3 (by decide)
  have q4 := hr 4 (by decide)
  obtain ⟨f, hf⟩ : ∃ f : Nat → Bool, f = fun t => decide (thr S t pl (S 4) (S 3) ≤ bud S pl) := ⟨_, rfl⟩
  have loop : ∀ (n j : Nat), 13 < j + n → j ≤ 13 → (∀ i, i < j → f i = false) → CW G K 3 0 0 (MQ (kb K) (Qn G (rR (wiV S pl) v L)) (ka K) (ks K) 0 0 (gA G)) v L 2 [some (.ref (gB G 83)), some (.int (nI pl)), some (.int (nI j))] [] := by
    intro n
    induction n with
    | zero => intro j a1 a2; omega
    | succ n ih =>
      intro j a1 a2 a3
      refine r_iload_n F dX8_winInTold_2 rfl ?_
      refine r_bipush (x := 12) F dX8_winInTold_3 rfl ?_
      refine r_icgt F dX8_winInTold_5 (by omega) (by omega) (fun h5 => ?_) (fun h5 => ?_)
      · refine R_iconst (x := -1) F dX8_winInTold_42 rfl ?_
        first
          | (have he : fsN f 13 = j := fsN_eq (by omega) (by rw [hf]; exact h31) a3
             exact r_iret F rfl rfl dX8_winInTold_43 ⟨by unfold wiV orM; rw [← hf, he, if_pos (by omega)], rfl, rfl⟩)
          | (have he : fsN f 13 = 13 := fsN_none (fun i hi => a3 i (by omega))
             exact r_iret F rfl rfl dX8_winInTold_43 ⟨by unfold wiV orM; rw [← hf, he, if_neg (by decide)], rfl, rfl⟩)
      · refine r_aload_n F dX8_winInTold_8 rfl ?_
        refine r_iload_n F dX8_winInTold_9 rfl ?_
        refine r_aload_n F dX8_winInTold_10 rfl ?_
        refine r_get (x := .ref (gB G 84)) (T := TX8) (n := 0) F uw8 rfl rfl tw_877 (Or.inl rfl) dX8_winInTold_11 (kd_lt (rfl : kd 83 = (7,0,0)) (by decide)) (ce7 rfl) rfl ?_
        refine r_iconst (x := 4) F dX8_winInTold_14 rfl ?_
        refine r_iald F dX8_winInTold_15 rfl (by omega) ?_
        refine r_aload_n F dX8_winInTold_16 rfl ?_
        refine r_iload_n F dX8_winInTold_17 rfl ?_
        refine r_callV1i F fMX8_budgetOf tw_989 rfl rfl rfl rfl dX8_winInTold_18 rfl rfl z0 (m8_budgetOf g hr w hpl) ?_
        refine r_aload_n F dX8_winInTold_21 rfl ?_
        refine r_get (x := .ref (gB G 84)) (T := TX8) (n := 0) F uw8 rfl rfl tw_877 (Or.inl rfl) dX8_winInTold_22 (kd_lt (rfl : kd 83 = (7,0,0)) (by decide)) (ce7 rfl) rfl ?_
        refine r_iconst (x := 3) F dX8_winInTold_25 rfl ?_
        refine r_iald F dX8_winInTold_26 rfl (by omega) ?_
        refine r_iload_n F dX8_winInTold_27 rfl ?_
        rw [q4, q3]
        refine r_callV5i F fMX8_canForce tw_1105 rfl rfl rfl rfl dX8_winInTold_28 rfl rfl z0 (m8_canForce g w (t := j) hpl w4 (by omega) (by omega) (by omega) (hL _ (by omega))) ?_
        refine r_Beq F dX8_winInTold_31 (fun h31 => ?_) (fun h31 => ?_)
        · refine r_iinc2 (y := 1) F dX8_winInTold_36 rfl rfl rfl rfl ?_
          refine r_goto F dX8_winInTold_39 ?_
          refine ih (j + 1) (by omega) (by omega) (fun i hi => ?_)
          rcases Nat.lt_or_ge i j with z | z
          · exact a3 i z
          · rw [show i = j by omega, hf]; exact h31
        · refine r_iload_n F dX8_winInTold_34 rfl ?_
          first
            | (have he : fsN f 13 = j := fsN_eq (by omega) (by rw [hf]; exact h31) a3
               exact r_iret F rfl rfl dX8_winInTold_35 ⟨by unfold wiV orM; rw [← hf, he, if_pos (by omega)], rfl, rfl⟩)
            | (have he : fsN f 13 = 13 := fsN_none (fun i hi => a3 i (by omega))
               exact r_iret F rfl rfl dX8_winInTold_35 ⟨by unfold wiV orM; rw [← hf, he, if_neg (by decide)], rfl, rfl⟩)
  refine r_iconst (x := 0) F dX8_winInTold_0 rfl ?_
  refine r_ist2 F dX8_winInTold_1 rfl rfl ?_
  exact loop 14 0 (by omega) (by omega) (fun i hi => absurd hi (Nat.not_lt_zero i))
set_option maxHeartbeats 8000000 in
theorem m8_shareTold {G : GT} {v : VV} {L : LL} (g : GH G) {S : Nat → Nat} (hr : RM v S) (w : WS S) (hL : ∀ t, t < 13 → HL v S t) : CC G MX8_shareTold [.ref (gB G 83)] v L (gDd fun y v' L' => y = shV (shN S 16) (S 0) ∧ v' = v ∧ L' = L) := by
  refine cc_of g [some (.ref (gB G 83)), none, none, none] rfl rfl rfl rfl (fun K F => ?_)
  have w0 : S 0 ≤ 20 := w.1
  have w1 : S 1 ≤ 12 := w.2.1
  have q0 := hr 0 (by decide)
  have q1 := hr 1 (by decide)
  have loop : ∀ (n j : Nat), 16 < j + n → j ≤ 16 → CW G K 4 0 0 (MQ (kb K) (Qn G (gDd fun y v' L' => y = shV (shN S 16) (S 0) ∧ v' = v ∧ L' = L)) (ka K) (ks K) 0 0 (gA G)) v L 4 [some (.ref (gB G 83)), some (.int (nI (shN S j))), some (.int (nI j)), none] [] := by
    intro n
    induction n with
    | zero => intro j a1 a2; omega
    | succ n ih =>
      intro j a1 a2
      have es : shN S (j + 1) = shN S j + pcN (thr S (S 1) 0 (j / 2) (j % 2)) (S 0) := rfl
      have tc := thr_c S (S 1) 0 (j / 2) (j % 2)
      refine r_iload_n F dX8_shareTold_4 rfl ?_
      refine r_bipush (x := 16) F dX8_shareTold_5 rfl ?_
      refine r_icge F dX8_shareTold_7 (by omega) (by omega) (fun h7 => ?_) (fun h7 => ?_)
      · refine r_iload_n F dX8_shareTold_57 rfl ?_
        refine r_i2d F dX8_shareTold_58 ?_
        refine r_bipush (x := 16) F dX8_shareTold_59 rfl ?_
        refine r_aload_n F dX8_shareTold_61 rfl ?_
        refine r_get (x := .ref (gB G 84)) (T := TX8) (n := 0) F uw8 rfl rfl tw_877 (Or.inl rfl) dX8_shareTold_62 (kd_lt (rfl : kd 83 = (7,0,0)) (by decide)) (ce7 rfl) rfl ?_
        refine r_iconst (x := 0) F dX8_shareTold_65 rfl ?_
        refine r_iald F dX8_shareTold_66 rfl (by omega) ?_
        rw [q0]
        refine r_iconst (x := 1) F dX8_shareTold_67 rfl ?_
        refine r_iadd F dX8_shareTold_68 ?_
        refine r_imul F dX8_shareTold_69 ?_
        refine r_i2d F dX8_shareTold_70 ?_
        refine r_ddiv F dX8_shareTold_71 (by rw [show j = 16 by omega]; exact sh_n64 w0 (shN_le (Nat.le_refl 16))) ?_
        exact r_dret F rfl dX8_shareTold_72 ⟨_, rfl, by rw [show j = 16 by omega]; rfl, rfl, rfl⟩
      · refine r_aload_n F dX8_shareTold_10 rfl ?_
        refine r_aload_n F dX8_shareTold_11 rfl ?_
        refine r_get (x := .ref (gB G 84)) (T := TX8) (n := 0) F uw8 rfl rfl tw_877 (Or.inl rfl) dX8_shareTold_12 (kd_lt (rfl : kd 83 = (7,0,0)) (by decide)) (ce7 rfl) rfl ?_
        refine r_iconst (x := 1) F dX8_shareTold_15 rfl ?_
        refine r_iald F dX8_shareTold_16 rfl (by omega) ?_
        refine r_iconst (x := 0) F dX8_shareTold_17 rfl ?_
        refine r_iload_n F dX8_shareTold_18 rfl ?_
        refine r_iconst (x := 2) F dX8_shareTold_19 rfl ?_
        refine r_idiv F dX8_shareTold_20 (by omega) (by omega) (by omega) ?_
        refine r_iload_n F dX8_shareTold_21 rfl ?_
        refine r_iconst (x := 2) F dX8_shareTold_22 rfl ?_
        refine r_irem F dX8_shareTold_23 (by omega) (by omega) (by omega) ?_
        rw [q1]
        refine r_callV4i F fMX8_leastAt tw_1089 rfl rfl rfl rfl dX8_shareTold_24 rfl rfl z0 (m8_leastAt g (t := S 1) (pl := 0) (by omega) (by decide) (by omega) (by omega)) ?_
        rw [hL (S 1) (by omega) 0 (by decide) (j / 2) (by omega) (j % 2) (by omega)]
        refine r_ist3 F dX8_shareTold_27 rfl rfl ?_
        refine r_iload_n F dX8_shareTold_28 rfl ?_
        refine r_iload_n F dX8_shareTold_29 rfl ?_
        refine r_bipush (x := 99) F dX8_shareTold_30 rfl ?_
        refine r_icne F dX8_shareTold_32 (by omega) (by omega) (fun h32 => ?_) (fun h32 => ?_)
        · refine r_aload_n F dX8_shareTold_39 rfl ?_
          refine r_get (x := .ref (gB G 84)) (T := TX8) (n := 0) F uw8 rfl rfl tw_877 (Or.inl rfl) dX8_shareTold_40 (kd_lt (rfl : kd 83 = (7,0,0)) (by decide)) (ce7 rfl) rfl ?_
          refine r_iconst (x := 0) F dX8_shareTold_43 rfl ?_
          refine r_iald F dX8_shareTold_44 rfl (by omega) ?_
          rw [q0]
          refine r_iconst (x := 1) F dX8_shareTold_45 rfl ?_
          refine r_iadd F dX8_shareTold_46 ?_
          refine r_iload_n F dX8_shareTold_47 rfl ?_
          refine r_isub F dX8_shareTold_48 (by omega) ?_
          refine r_iadd F dX8_shareTold_49 ?_
          refine r_ist1 F dX8_shareTold_50 rfl rfl ?_
          refine r_iinc2 (y := 1) F dX8_shareTold_51 rfl rfl rfl rfl ?_
          refine r_goto F dX8_shareTold_54 ?_
          refine r_dr3 ?_
          have := ih (j + 1) (by omega) (by omega)
          rw [es] at this
          unfold pcN at this
          first
            | (rw [if_neg (by omega)] at this; exact this)
            | (rw [if_pos (by omega)] at this; exact this)
        · refine r_iconst (x := 0) F dX8_shareTold_35 rfl ?_
          refine r_goto F dX8_shareTold_36 ?_
          refine r_iadd F dX8_shareTold_49 ?_
          refine r_ist1 F dX8_shareTold_50 rfl rfl ?_
          refine r_iinc2 (y := 1) F dX8_shareTold_51 rfl rfl rfl rfl ?_
          refine r_goto F dX8_shareTold_54 ?_
          refine r_dr3 ?_
          have := ih (j + 1) (by omega) (by omega)
          rw [es] at this
          unfold pcN at this
          first
            | (rw [if_neg (by omega)] at this; exact this)
            | (rw [if_pos (by omega)] at this; exact this)
  refine r_iconst (x := 0) F dX8_shareTold_0 rfl ?_
  refine r_ist1 F dX8_shareTold_1 rfl rfl ?_
  refine r_iconst (x := 0) F dX8_shareTold_2 rfl ?_
  refine r_ist2 F dX8_shareTold_3 rfl rfl ?_
  exact loop 17 0 (by omega) (by omega)
