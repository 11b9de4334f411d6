set_option maxHeartbeats 4000000 in
theorem m0_hasMove {G : GT} {v : VV} {L : LL} (g : GH G) {b : Nat} (hb : isBd b) {S : Nat → Nat} (hr : RB b v S) (w : WB S) {p : Nat} (hp : p < 8) (to : Int32) : CC G MX0_hasMove [.ref (gB G b), .int (nI p), .int to] v L (rI (hm S p to).toNat v L) := by
  refine cc_of g [some (.ref (gB G b)), some (.int (nI p)), some (.int to), none] rfl rfl rfl rfl (fun K F => ?_)
  obtain ⟨e1, e2, e3, e4⟩ := hr.at w hp
  have loop : ∀ (n i : Nat), S (13 + 6 * p) < i + n → i ≤ S (13 + 6 * p) → (∀ j, j < i → nI (S (14 + 6 * p + j)) ≠ to) → CW G K 4 0 0 (MQ (kb K) (Qn G (rI (hm S p to).toNat v L)) (ka K) (ks K) 0 0 (gA G)) v L 2 [some (.ref (gB G b)), some (.int (nI p)), some (.int to), some (.int (nI i))] [] := by
    intro n
    induction n with
    | zero => intro i h1 h2; omega
    | succ n ih =>
      intro i h1 h2 h3
      refine r_iload_n F dX0_hasMove_2 rfl ?_
      refine r_aload_n F dX0_hasMove_3 rfl ?_
      refine r_get (x := .ref (gB G (b + 2))) (T := TX0) (n := 1) F uw0 rfl rfl tw_115 (Or.inl rfl) dX0_hasMove_4 (kd_lt hb.1 (by decide)) (ce0 hb.1) rfl ?_
      refine r_iload_n F dX0_hasMove_7 rfl ?_
      refine r_iald F dX0_hasMove_8 hb.2.2.1 (by omega) ?_
      refine r_icge F dX0_hasMove_9 (by omega) (by omega) (fun h9 => ?_) (fun h9 => ?_)
      · refine r_iconst (x := 0) F dX0_hasMove_34 rfl ?_
        exact b_iret F rfl dX0_hasMove_35 (by decide) (by rw [hm, anyB_no (fun j hj => by have := h3 j (by omega); simp [this])]; rfl) rfl rfl
      · refine r_aload_n F dX0_hasMove_12 rfl ?_
        refine r_get (x := .ref (gB G (b + 3))) (T := TX0) (n := 2) F uw0 rfl rfl tw_119 (Or.inl rfl) dX0_hasMove_13 (kd_lt hb.1 (by decide)) (ce0 hb.1) rfl ?_
        refine r_iload_n F dX0_hasMove_16 rfl ?_
        refine r_iconst (x := 4) F dX0_hasMove_17 rfl ?_
        refine r_imul F dX0_hasMove_18 ?_
        refine r_iload_n F dX0_hasMove_19 rfl ?_
        refine r_iadd F dX0_hasMove_20 ?_
        refine r_iald F dX0_hasMove_21 hb.2.2.2 (by omega) ?_
        refine r_iload_n F dX0_hasMove_22 rfl ?_
        refine R_icne F dX0_hasMove_23 (fun h23 => ?_) (fun h23 => ?_)
        · refine r_iinc3 (y := 1) F dX0_hasMove_28 rfl rfl rfl rfl ?_
          refine r_goto F dX0_hasMove_31 ?_
          exact ih (i + 1) (by omega) (by omega) (fun j hj => by rcases Nat.lt_or_ge j i with z | z; exact h3 j z; rw [show j = i by omega, ← (hr p hp).2.2 i (by omega)]; exact h23)
        · refine r_iconst (x := 1) F dX0_hasMove_26 rfl ?_
          exact b_iret F rfl dX0_hasMove_27 (by decide) (by rw [hm, anyB_yes (i := i) (by omega) (by rw [← (hr p hp).2.2 i (by omega), h23]; simp)]; rfl) rfl rfl
  refine r_iconst (x := 0) F dX0_hasMove_0 rfl ?_
  refine r_ist3 F dX0_hasMove_1 rfl rfl ?_
  exact loop (S (13 + 6 * p) + 1) 0 (by omega) (Nat.zero_le _) (fun j hj => absurd hj (Nat.not_lt_zero j))
set_option maxHeartbeats 4000000 in
theorem m0_moveAt {G : GT} {v : VV} {L : LL} (g : GH G) {b : Nat} (hb : isBd b) {S : Nat → Nat} (hr : RB b v S) (w : WB S) {p i : Nat} (hp : p < 8) (hi : i < 4) : CC G MX0_moveAt [.ref (gB G b), .int (nI p), .int (nI i)] v L (rR (mvA S p i) v L) := by
  refine cc_of g [some (.ref (gB G b)), some (.int (nI p)), some (.int (nI i))] rfl rfl rfl rfl (fun K F => ?_)
  obtain ⟨e1, e2, e3, e4⟩ := hr.at w hp
  refine r_iload_n F dX0_moveAt_0 rfl ?_
  refine r_aload_n F dX0_moveAt_1 rfl ?_
  refine r_get (x := .ref (gB G (b + 2))) (T := TX0) (n := 1) F uw0 rfl rfl tw_115 (Or.inl rfl) dX0_moveAt_2 (kd_lt hb.1 (by decide)) (ce0 hb.1) rfl ?_
  refine r_iload_n F dX0_moveAt_5 rfl ?_
  refine r_iald F dX0_moveAt_6 hb.2.2.1 (by omega) ?_
  refine r_icge F dX0_moveAt_7 (by omega) (by omega) (fun h7 => ?_) (fun h7 => ?_)
  · refine R_iconst (x := -1) F dX0_moveAt_23 rfl ?_
    exact r_iret F rfl rfl dX0_moveAt_24 ⟨by first | (rw [mvA, if_pos (by omega), (hr p hp).2.2 i (by omega)]) | (rw [mvA, if_neg (by omega)]), rfl, rfl⟩
  · refine r_aload_n F dX0_moveAt_10 rfl ?_
    refine r_get (x := .ref (gB G (b + 3))) (T := TX0) (n := 2) F uw0 rfl rfl tw_119 (Or.inl rfl) dX0_moveAt_11 (kd_lt hb.1 (by decide)) (ce0 hb.1) rfl ?_
    refine r_iload_n F dX0_moveAt_14 rfl ?_
    refine r_iconst (x := 4) F dX0_moveAt_15 rfl ?_
    refine r_imul F dX0_moveAt_16 ?_
    refine r_iload_n F dX0_moveAt_17 rfl ?_
    refine r_iadd F dX0_moveAt_18 ?_
    refine r_iald F dX0_moveAt_19 hb.2.2.2 (by omega) ?_
    refine r_goto F dX0_moveAt_20 ?_
    exact r_iret F rfl rfl dX0_moveAt_24 ⟨by first | (rw [mvA, if_pos (by omega), (hr p hp).2.2 i (by omega)]) | (rw [mvA, if_neg (by omega)]), rfl, rfl⟩
set_option maxHeartbeats 4000000 in
theorem m0_putMove {G : GT} {v : VV} {L : LL} (g : GH G) {b : Nat} (hb : isBd b) {p to : Nat} (hp : p < 8) (hc : v (b + 2) p < 4) : CC G MX0_putMove [.ref (gB G b), .int (nI p), .int (nI to)] v L (rV (up2 (up2 v (b + 3) (p * 4 + v (b + 2) p) to) (b + 2) p (v (b + 2) p + 1)) L) := by
  refine cc_of g [some (.ref (gB G b)), some (.int (nI p)), some (.int (nI to))] rfl rfl rfl rfl (fun K F => ?_)
  refine r_aload_n F dX0_putMove_0 rfl ?_
  refine r_get (x := .ref (gB G (b + 3))) (T := TX0) (n := 2) F uw0 rfl rfl tw_119 (Or.inl rfl) dX0_putMove_1 (kd_lt hb.1 (by decide)) (ce0 hb.1) rfl ?_
  refine r_iload_n F dX0_putMove_4 rfl ?_
  refine r_iconst (x := 4) F dX0_putMove_5 rfl ?_
  refine r_imul F dX0_putMove_6 ?_
  refine r_aload_n F dX0_putMove_7 rfl ?_
  refine r_get (x := .ref (gB G (b + 2))) (T := TX0) (n := 1) F uw0 rfl rfl tw_115 (Or.inl rfl) dX0_putMove_8 (kd_lt hb.1 (by decide)) (ce0 hb.1) rfl ?_
  refine r_iload_n F dX0_putMove_11 rfl ?_
  refine r_iald F dX0_putMove_12 hb.2.2.1 (by omega) ?_
  refine r_iadd F dX0_putMove_13 ?_
  refine r_iload_n F dX0_putMove_14 rfl ?_
  refine r_iast F dX0_putMove_15 hb.2.2.2 (by omega) ?_
  refine r_aload_n F dX0_putMove_16 rfl ?_
  refine r_get (x := .ref (gB G (b + 2))) (T := TX0) (n := 1) F uw0 rfl rfl tw_115 (Or.inl rfl) dX0_putMove_17 (kd_lt hb.1 (by decide)) (ce0 hb.1) rfl ?_
  refine r_iload_n F dX0_putMove_20 rfl ?_
  refine r_dup2 F dX0_putMove_21 rfl rfl ?_
  refine r_iald F dX0_putMove_22 hb.2.2.1 (by omega) ?_
  refine r_iconst (x := 1) F dX0_putMove_23 rfl ?_
  refine r_iadd F dX0_putMove_24 ?_
  refine r_iast F dX0_putMove_25 hb.2.2.1 (by omega) ?_
  exact v_vret F rfl dX0_putMove_26 (by rw [up2_k v (a := b + 2) (k := b + 3) (by omega)]) rfl
set_option maxHeartbeats 4000000 in
theorem m0_isEnd {G : GT} {v : VV} {L : LL} (g : GH G) {b : Nat} (hb : isBd b) {S : Nat → Nat} (hr : RB b v S) (w : WB S) {p : Nat} (hp : p < 8) : CC G MX0_isEnd [.ref (gB G b), .int (nI p)] v L (rI (ovr S p).toNat v L) := by
  refine cc_of g [some (.ref (gB G b)), some (.int (nI p))] rfl rfl rfl rfl (fun K F => ?_)
  obtain ⟨e1, e2, e3, e4⟩ := hr.at w hp
  refine r_aload_n F dX0_isEnd_0 rfl ?_
  refine r_get (x := .ref (gB G (b + 1))) (T := TX0) (n := 0) F uw0 rfl rfl tw_112 (Or.inl rfl) dX0_isEnd_1 (kd_lt hb.1 (by decide)) (ce0 hb.1) rfl ?_
  refine r_iload_n F dX0_isEnd_4 rfl ?_
  refine r_iald F dX0_isEnd_5 hb.2.1 (by omega) ?_
  refine r_ifne F dX0_isEnd_6 (by omega) (fun h6 => ?_) (fun h6 => ?_)
  · refine r_iconst (x := 1) F dX0_isEnd_18 rfl ?_
    refine r_goto F dX0_isEnd_19 ?_
    exact b_iret F rfl dX0_isEnd_23 (by decide) (by rw [e1] at *; rw [e2] at *; simp_all [ovr]) rfl rfl
  · refine r_aload_n F dX0_isEnd_9 rfl ?_
    refine r_get (x := .ref (gB G (b + 2))) (T := TX0) (n := 1) F uw0 rfl rfl tw_115 (Or.inl rfl) dX0_isEnd_10 (kd_lt hb.1 (by decide)) (ce0 hb.1) rfl ?_
    refine r_iload_n F dX0_isEnd_13 rfl ?_
    refine r_iald F dX0_isEnd_14 hb.2.2.1 (by omega) ?_
    refine r_ifne F dX0_isEnd_15 (by omega) (fun h15 => ?_) (fun h15 => ?_)
    · refine r_iconst (x := 0) F dX0_isEnd_22 rfl ?_
      exact b_iret F rfl dX0_isEnd_23 (by decide) (by rw [e1] at *; rw [e2] at *; simp_all [ovr]) rfl rfl
    · refine r_iconst (x := 1) F dX0_isEnd_18 rfl ?_
      refine r_goto F dX0_isEnd_19 ?_
      exact b_iret F rfl dX0_isEnd_23 (by decide) (by rw [e1] at *; rw [e2] at *; simp_all [ovr]) rfl rfl
set_option maxHeartbeats 4000000 in
theorem m0_isWonFor {G : GT} {v : VV} {L : LL} (g : GH G) {b : Nat} (hb : isBd b) {S : Nat → Nat} (hr : RB b v S) (w : WB S) {pl p : Nat} (hp : p < 8) (hq : pl < 2) : CC G MX0_isWonFor [.ref (gB G b), .int (nI pl), .int (nI p)] v L (rI (won S pl p).toNat v L) := by
  refine cc_of g [some (.ref (gB G b)), some (.int (nI pl)), some (.int (nI p))] rfl rfl rfl rfl (fun K F => ?_)
  obtain ⟨e1, e2, e3, e4⟩ := hr.at w hp
  refine r_aload_n F dX0_isWonFor_0 rfl ?_
  refine r_get (x := .ref (gB G (b + 1))) (T := TX0) (n := 0) F uw0 rfl rfl tw_112 (Or.inl rfl) dX0_isWonFor_1 (kd_lt hb.1 (by decide)) (ce0 hb.1) rfl ?_
  refine r_iload_n F dX0_isWonFor_4 rfl ?_
  refine r_iald F dX0_isWonFor_5 hb.2.1 (by omega) ?_
  refine r_iload_n F dX0_isWonFor_6 rfl ?_
  refine r_iconst (x := 1) F dX0_isWonFor_7 rfl ?_
  refine r_iadd F dX0_isWonFor_8 ?_
  refine r_icne F dX0_isWonFor_9 (by omega) (by omega) (fun h9 => ?_) (fun h9 => ?_)
  · refine r_iconst (x := 0) F dX0_isWonFor_16 rfl ?_
    exact b_iret F rfl dX0_isWonFor_17 (by decide) (by rw [won, ← e1]; simp_all) rfl rfl
  · refine r_iconst (x := 1) F dX0_isWonFor_12 rfl ?_
    refine r_goto F dX0_isWonFor_13 ?_
    exact b_iret F rfl dX0_isWonFor_17 (by decide) (by rw [won, ← e1]; simp_all) rfl rfl
set_option maxHeartbeats 4000000 in
theorem m0_movesTo {G : GT} {v : VV} {L : LL} (g : GH G) {b : Nat} (hb : isBd b) {S : Nat → Nat} (hr : RB b v S) (w : WB S) (to : Int32) : CC G MX0_movesTo [.ref (gB G b), .int to] v L (rI (cntB (fun p => hm S p to) 8) v L) := by
  refine cc_of g [some (.ref (gB G b)), some (.int to), none, none] rfl rfl rfl rfl (fun K F => ?_)
  have loop : ∀ (n i : Nat), 8 < i + n → i ≤ 8 → CW G K 4 0 0 (MQ (kb K) (Qn G (rI (cntB (fun p => hm S p to) 8) v L)) (ka K) (ks K) 0 0 (gA G)) v L 4 [some (.ref (gB G b)), some (.int to), some (.int (nI (cntB (fun p => hm S p to) i))), some (.int (nI i))] [] := by
    intro n
    induction n with
    | zero => intro i h1 h2; omega
    | succ n ih =>
      intro i h1 h2
      refine r_iload_n F dX0_movesTo_4 rfl ?_
      refine r_bipush (x := 8) F dX0_movesTo_5 rfl ?_
      refine r_icge F dX0_movesTo_7 (by omega) (by omega) (fun h7 => ?_) (fun h7 => ?_)
      · refine r_iload_n F dX0_movesTo_28 rfl ?_
        exact i_iret F rfl dX0_movesTo_29 (by rw [show i = 8 by omega]) rfl rfl
      · refine r_aload_n F dX0_movesTo_10 rfl ?_
        refine r_iload_n F dX0_movesTo_11 rfl ?_
        refine r_iload_n F dX0_movesTo_12 rfl ?_
        refine r_callV2i F fMX0_hasMove tw_646 rfl hb.1 rfl rfl dX0_movesTo_13 rfl rfl z0 (m0_hasMove g hb hr w (p := i) (by omega) to) ?_
        refine r_ifeq F dX0_movesTo_16 (Nat.lt_of_le_of_lt (Bool.toNat_le _) (by decide)) (fun h16 => ?_) (fun h16 => ?_)
        · refine r_iinc3 (y := 1) F dX0_movesTo_22 rfl rfl rfl rfl ?_
          refine r_goto F dX0_movesTo_25 ?_
          have e : cntB (fun p => hm S p to) (i + 1) = cntB (fun p => hm S p to) i + (hm S i to).toNat := rfl
          have := ih (i + 1) (by omega) (by omega)
          first | (rw [e, h16] at this; exact this) | (rw [e, show (hm S i to).toNat = 1 from (by have := Bool.toNat_le (hm S i to); omega)] at this; exact this)
        · refine r_iinc2 (y := 1) F dX0_movesTo_19 rfl rfl rfl rfl ?_
          refine r_iinc3 (y := 1) F dX0_movesTo_22 rfl rfl rfl rfl ?_
          refine r_goto F dX0_movesTo_25 ?_
          have e : cntB (fun p => hm S p to) (i + 1) = cntB (fun p => hm S p to) i + (hm S i to).toNat := rfl
          have := ih (i + 1) (by omega) (by omega)
          first | (rw [e, h16] at this; exact this) | (rw [e, show (hm S i to).toNat = 1 from (by have := Bool.toNat_le (hm S i to); omega)] at this; exact this)
  refine r_iconst (x := 0) F dX0_movesTo_0 rfl ?_
  refine r_ist2 F dX0_movesTo_1 rfl rfl ?_
  refine r_iconst (x := 0) F dX0_movesTo_2 rfl ?_
  refine r_ist3 F dX0_movesTo_3 rfl rfl ?_
  exact loop 9 0 (by omega) (by omega)
set_option maxHeartbeats 4000000 in
theorem m0_allMoves {G : GT} {v : VV} {L : LL} (g : GH G) {b : Nat} (hb : isBd b) {S : Nat → Nat} (hr : RB b v S) (w : WB S) : CC G MX0_allMoves [.ref (gB G b)] v L (rI (smN (fun p => S (13 + 6 * p)) 8) v L) := by
  refine cc_of g [some (.ref (gB G b)), none, none] rfl rfl rfl rfl (fun K F => ?_)
  have loop : ∀ (n i : Nat), 8 < i + n → i ≤ 8 → CW G K 3 0 0 (MQ (kb K) (Qn G (rI (smN (fun p => S (13 + 6 * p)) 8) v L)) (ka K) (ks K) 0 0 (gA G)) v L 4 [some (.ref (gB G b)), some (.int (nI (smN (fun p => S (13 + 6 * p)) i))), some (.int (nI i))] [] := by
    intro n
    induction n with
    | zero => intro i h1 h2; omega
    | succ n ih =>
      intro i h1 h2
      refine r_iload_n F dX0_allMoves_4 rfl ?_
      refine r_bipush (x := 8) F dX0_allMoves_5 rfl ?_
      refine r_icge F dX0_allMoves_7 (by omega) (by omega) (fun h7 => ?_) (fun h7 => ?_)
      · refine r_iload_n F dX0_allMoves_25 rfl ?_
        exact i_iret F rfl dX0_allMoves_26 (by rw [show i = 8 by omega]) rfl rfl
      · refine r_iload_n F dX0_allMoves_10 rfl ?_
        refine r_aload_n F dX0_allMoves_11 rfl ?_
        refine r_get (x := .ref (gB G (b + 2))) (T := TX0) (n := 1) F uw0 rfl rfl tw_115 (Or.inl rfl) dX0_allMoves_12 (kd_lt hb.1 (by decide)) (ce0 hb.1) rfl ?_
        refine r_iload_n F dX0_allMoves_15 rfl ?_
        refine r_iald F dX0_allMoves_16 hb.2.2.1 (by omega) ?_
        refine r_iadd F dX0_allMoves_17 ?_
        refine r_ist1 F dX0_allMoves_18 rfl rfl ?_
        refine r_iinc2 (y := 1) F dX0_allMoves_19 rfl rfl rfl rfl ?_
        refine r_goto F dX0_allMoves_22 ?_
        rw [(hr i (by omega)).2.1]
        exact ih (i + 1) (by omega) (by omega)
  refine r_iconst (x := 0) F dX0_allMoves_0 rfl ?_
  refine r_ist1 F dX0_allMoves_1 rfl rfl ?_
  refine r_iconst (x := 0) F dX0_allMoves_2 rfl ?_
  refine r_ist2 F dX0_allMoves_3 rfl rfl ?_
  exact loop 9 0 (by omega) (by omega)
set_option maxHeartbeats 4000000 in
theorem m0_wonFor {G : GT} {v : VV} {L : LL} (g : GH G) {b : Nat} (hb : isBd b) {S : Nat → Nat} (hr : RB b v S) (w : WB S) {pl : Nat} (hq : pl < 2) : CC G MX0_wonFor [.ref (gB G b), .int (nI pl)] v L (rI (cntB (fun p => won S pl p) 8) v L) := by
  refine cc_of g [some (.ref (gB G b)), some (.int (nI pl)), none, none] rfl rfl rfl rfl (fun K F => ?_)
  have loop : ∀ (n i : Nat), 8 < i + n → i ≤ 8 → CW G K 4 0 0 (MQ (kb K) (Qn G (rI (cntB (fun p => won S pl p) 8) v L)) (ka K) (ks K) 0 0 (gA G)) v L 4 [some (.ref (gB G b)), some (.int (nI pl)), some (.int (nI (cntB (fun p => won S pl p) i))), some (.int (nI i))] [] := by
    intro n
    induction n with
    | zero => intro i h1 h2; omega
    | succ n ih =>
      intro i h1 h2
      refine r_iload_n F dX0_wonFor_4 rfl ?_
      refine r_bipush (x := 8) F dX0_wonFor_5 rfl ?_
      refine r_icge F dX0_wonFor_7 (by omega) (by omega) (fun h7 => ?_) (fun h7 => ?_)
      · refine r_iload_n F dX0_wonFor_28 rfl ?_
        exact i_iret F rfl dX0_wonFor_29 (by rw [show i = 8 by omega]) rfl rfl
      · refine r_aload_n F dX0_wonFor_10 rfl ?_
        refine r_iload_n F dX0_wonFor_11 rfl ?_
        refine r_iload_n F dX0_wonFor_12 rfl ?_
        refine r_callV2i F fMX0_isWonFor tw_674 rfl hb.1 rfl rfl dX0_wonFor_13 rfl rfl z0 (m0_isWonFor g hb hr w (p := i) (by omega) hq) ?_
        refine r_ifeq F dX0_wonFor_16 (Nat.lt_of_le_of_lt (Bool.toNat_le _) (by decide)) (fun h16 => ?_) (fun h16 => ?_)
        · refine r_iinc3 (y := 1) F dX0_wonFor_22 rfl rfl rfl rfl ?_
          refine r_goto F dX0_wonFor_25 ?_
          have e : cntB (fun p => won S pl p) (i + 1) = cntB (fun p => won S pl p) i + (won S pl i).toNat := rfl
          have := ih (i + 1) (by omega) (by omega)
          first | (rw [e, h16] at this; exact this) | (rw [e, show (won S pl i).toNat = 1 from (by have := Bool.toNat_le (won S pl i); omega)] at this; exact this)
        · refine r_iinc2 (y := 1) F dX0_wonFor_19 rfl rfl rfl rfl ?_
          refine r_iinc3 (y := 1) F dX0_wonFor_22 rfl rfl rfl rfl ?_
          refine r_goto F dX0_wonFor_25 ?_
          have e : cntB (fun p => won S pl p) (i + 1) = cntB (fun p => won S pl p) i + (won S pl i).toNat := rfl
          have := ih (i + 1) (by omega) (by omega)
          first | (rw [e, h16] at this; exact this) | (rw [e, show (won S pl i).toNat = 1 from (by have := Bool.toNat_le (won S pl i); omega)] at this; exact this)
  refine r_iconst (x := 0) F dX0_wonFor_0 rfl ?_
  refine r_ist2 F dX0_wonFor_1 rfl rfl ?_
  refine r_iconst (x := 0) F dX0_wonFor_2 rfl ?_
  refine r_ist3 F dX0_wonFor_3 rfl rfl ?_
  exact loop 9 0 (by omega) (by omega)
def cpB (v : VV) (a b : Nat) : VV := cp2 (cp2 (cp2 v (a + 1) (b + 1) 8) (a + 2) (b + 2) 8) (a + 3) (b + 3) 32
set_option maxHeartbeats 4000000 in
theorem m0_copyBoard {G : GT} {v : VV} {L : LL} (g : GH G) {a b : Nat} (ha : isBd a) (hb : isBd b) : CC G MX0_copyBoard [.ref (gB G b), .ref (gB G a)] v L (rV (cpB v a b) L) := by
  refine cc_of g [some (.ref (gB G b)), some (.ref (gB G a))] rfl rfl rfl rfl (fun K F => ?_)
  refine r_aload_n F dX0_copyBoard_0 rfl ?_
  refine r_get (x := .ref (gB G (a + 1))) (T := TX0) (n := 0) F uw0 rfl rfl tw_112 (Or.inl rfl) dX0_copyBoard_1 (kd_lt ha.1 (by decide)) (ce0 ha.1) rfl ?_
  refine r_iconst (x := 0) F dX0_copyBoard_4 rfl ?_
  refine r_aload_n F dX0_copyBoard_5 rfl ?_
  refine r_get (x := .ref (gB G (b + 1))) (T := TX0) (n := 0) F uw0 rfl rfl tw_112 (Or.inl rfl) dX0_copyBoard_6 (kd_lt hb.1 (by decide)) (ce0 hb.1) rfl ?_
  refine r_iconst (x := 0) F dX0_copyBoard_9 rfl ?_
  refine r_bipush (x := 8) F dX0_copyBoard_10 rfl ?_
  refine r_copy F tw_316 rfl ha.2.1 hb.2.1 (by decide) (by decide) dX0_copyBoard_12 ?_
  refine r_aload_n F dX0_copyBoard_15 rfl ?_
  refine r_get (x := .ref (gB G (a + 2))) (T := TX0) (n := 1) F uw0 rfl rfl tw_115 (Or.inl rfl) dX0_copyBoard_16 (kd_lt ha.1 (by decide)) (ce0 ha.1) rfl ?_
  refine r_iconst (x := 0) F dX0_copyBoard_19 rfl ?_
  refine r_aload_n F dX0_copyBoard_20 rfl ?_
  refine r_get (x := .ref (gB G (b + 2))) (T := TX0) (n := 1) F uw0 rfl rfl tw_115 (Or.inl rfl) dX0_copyBoard_21 (kd_lt hb.1 (by decide)) (ce0 hb.1) rfl ?_
  refine r_iconst (x := 0) F dX0_copyBoard_24 rfl ?_
  refine r_bipush (x := 8) F dX0_copyBoard_25 rfl ?_
  refine r_copy F tw_316 rfl ha.2.2.1 hb.2.2.1 (by decide) (by decide) dX0_copyBoard_27 ?_
  refine r_aload_n F dX0_copyBoard_30 rfl ?_
  refine r_get (x := .ref (gB G (a + 3))) (T := TX0) (n := 2) F uw0 rfl rfl tw_119 (Or.inl rfl) dX0_copyBoard_31 (kd_lt ha.1 (by decide)) (ce0 ha.1) rfl ?_
  refine r_iconst (x := 0) F dX0_copyBoard_34 rfl ?_
  refine r_aload_n F dX0_copyBoard_35 rfl ?_
  refine r_get (x := .ref (gB G (b + 3))) (T := TX0) (n := 2) F uw0 rfl rfl tw_119 (Or.inl rfl) dX0_copyBoard_36 (kd_lt hb.1 (by decide)) (ce0 hb.1) rfl ?_
  refine r_iconst (x := 0) F dX0_copyBoard_39 rfl ?_
  refine r_bipush (x := 32) F dX0_copyBoard_40 rfl ?_
  refine r_copy F tw_316 rfl ha.2.2.2 hb.2.2.2 (by decide) (by decide) dX0_copyBoard_42 ?_
  exact v_vret F rfl dX0_copyBoard_45 rfl rfl
def xm (v : VV) (b i : Nat) : VV := fun k j => if k = b + 1 ∧ j < i then (if v k j = 0 then 0 else 3 - v k j) else v k j
theorem xm_0 (v : VV) (b : Nat) : xm v b 0 = v := by funext k j; simp [xm]
set_option maxHeartbeats 4000000 in
theorem m0_exchangeMarks {G : GT} {v : VV} {L : LL} (g : GH G) {b : Nat} (hb : isBd b) (hm : ∀ p, p < 8 → v (b + 1) p ≤ 2) : CC G MX0_exchangeMarks [.ref (gB G b)] v L (rV (xm v b 8) L) := by
  refine cc_of g [some (.ref (gB G b)), none] rfl rfl rfl rfl (fun K F => ?_)
  have loop : ∀ (n i : Nat), 8 < i + n → i ≤ 8 → CW G K 2 0 0 (MQ (kb K) (Qn G (rV (xm v b 8) L)) (ka K) (ks K) 0 0 (gA G)) (xm v b i) L 2 [some (.ref (gB G b)), some (.int (nI i))] [] := by
    intro n
    induction n with
    | zero => intro i h1 h2; omega
    | succ n ih =>
      intro i h1 h2
      have ex : xm v b i (b + 1) i = v (b + 1) i := by simp [xm]
      have hx : i < 8 → v (b + 1) i ≤ 2 := fun h => hm i h
      refine r_iload_n F dX0_exchangeMarks_2 rfl ?_
      refine r_bipush (x := 8) F dX0_exchangeMarks_3 rfl ?_
      refine r_icge F dX0_exchangeMarks_5 (by omega) (by omega) (fun h5 => ?_) (fun h5 => ?_)
      · exact v_vret F rfl dX0_exchangeMarks_37 (by rw [show i = 8 by omega]) rfl
      · refine r_aload_n F dX0_exchangeMarks_8 rfl ?_
        refine r_get (x := .ref (gB G (b + 1))) (T := TX0) (n := 0) F uw0 rfl rfl tw_112 (Or.inl rfl) dX0_exchangeMarks_9 (kd_lt hb.1 (by decide)) (ce0 hb.1) rfl ?_
        refine r_iload_n F dX0_exchangeMarks_12 rfl ?_
        refine r_iald F dX0_exchangeMarks_13 hb.2.1 (by omega) ?_
        refine r_ifeq F dX0_exchangeMarks_14 (by omega) (fun h14 => ?_) (fun h14 => ?_)
        · refine r_iinc1 (y := 1) F dX0_exchangeMarks_31 rfl rfl rfl rfl ?_
          refine r_goto F dX0_exchangeMarks_34 ?_
          first
            | (have e : up2 (xm v b i) (b + 1) i (3 - xm v b i (b + 1) i) = xm v b (i + 1) := by
                have h9 : v (b + 1) i ≠ 0 := by omega
                funext k j
                by_cases hk : k = b + 1
                · subst hk
                  by_cases hj : j = i
                  · subst hj; simp [up2, xm, h9]
                  · simp only [up2, xm, hj, and_false, if_false, true_and, show (j < i + 1 ↔ j < i) by omega]
                · simp [up2, xm, hk]
               rw [e]
               exact ih (i + 1) (by omega) (by omega))
            | (have e : xm v b i = xm v b (i + 1) := by
                have h9 : v (b + 1) i = 0 := by omega
                funext k j
                by_cases hk : k = b + 1
                · subst hk
                  by_cases hj : j = i
                  · subst hj; simp [xm, h9]
                  · simp only [xm, true_and, show (j < i + 1 ↔ j < i) by omega]
                · simp [xm, hk]
               rw [e]
               exact ih (i + 1) (by omega) (by omega))
        · refine r_aload_n F dX0_exchangeMarks_17 rfl ?_
          refine r_get (x := .ref (gB G (b + 1))) (T := TX0) (n := 0) F uw0 rfl rfl tw_112 (Or.inl rfl) dX0_exchangeMarks_18 (kd_lt hb.1 (by decide)) (ce0 hb.1) rfl ?_
          refine r_iload_n F dX0_exchangeMarks_21 rfl ?_
          refine r_iconst (x := 3) F dX0_exchangeMarks_22 rfl ?_
          refine r_aload_n F dX0_exchangeMarks_23 rfl ?_
          refine r_get (x := .ref (gB G (b + 1))) (T := TX0) (n := 0) F uw0 rfl rfl tw_112 (Or.inl rfl) dX0_exchangeMarks_24 (kd_lt hb.1 (by decide)) (ce0 hb.1) rfl ?_
          refine r_iload_n F dX0_exchangeMarks_27 rfl ?_
          refine r_iald F dX0_exchangeMarks_28 hb.2.1 (by omega) ?_
          refine r_isub F dX0_exchangeMarks_29 (by omega) ?_
          refine r_iast F dX0_exchangeMarks_30 hb.2.1 (by omega) ?_
          refine r_iinc1 (y := 1) F dX0_exchangeMarks_31 rfl rfl rfl rfl ?_
          refine r_goto F dX0_exchangeMarks_34 ?_
          first
            | (have e : up2 (xm v b i) (b + 1) i (3 - xm v b i (b + 1) i) = xm v b (i + 1) := by
                have h9 : v (b + 1) i ≠ 0 := by omega
                funext k j
                by_cases hk : k = b + 1
                · subst hk
                  by_cases hj : j = i
                  · subst hj; simp [up2, xm, h9]
                  · simp only [up2, xm, hj, and_false, if_false, true_and, show (j < i + 1 ↔ j < i) by omega]
                · simp [up2, xm, hk]
               rw [e]
               exact ih (i + 1) (by omega) (by omega))
            | (have e : xm v b i = xm v b (i + 1) := by
                have h9 : v (b + 1) i = 0 := by omega
                funext k j
                by_cases hk : k = b + 1
                · subst hk
                  by_cases hj : j = i
                  · subst hj; simp [xm, h9]
                  · simp only [xm, true_and, show (j < i + 1 ↔ j < i) by omega]
                · simp [xm, hk]
               rw [e]
               exact ih (i + 1) (by omega) (by omega))
  refine r_iconst (x := 0) F dX0_exchangeMarks_0 rfl ?_
  refine r_ist1 F dX0_exchangeMarks_1 rfl rfl ?_
  have := loop 9 0 (by omega) (by omega)
  rw [xm_0] at this
  exact this
def em (v : VV) (b i : Nat) : VV := fun k j => if (k = b + 1 ∨ k = b + 2) ∧ j < i then 0 else v k j
theorem em_0 (v : VV) (b : Nat) : em v b 0 = v := by funext k j; simp [em]
set_option maxHeartbeats 4000000 in
theorem m0_empty {G : GT} {v : VV} {L : LL} (g : GH G) {b : Nat} (hb : isBd b) : CC G MX0_empty [.ref (gB G b)] v L (rV (em v b 8) L) := by
  refine cc_of g [some (.ref (gB G b)), none] rfl rfl rfl rfl (fun K F => ?_)
  have loop : ∀ (n i : Nat), 8 < i + n → i ≤ 8 → CW G K 2 0 0 (MQ (kb K) (Qn G (rV (em v b 8) L)) (ka K) (ks K) 0 0 (gA G)) (em v b i) L 2 [some (.ref (gB G b)), some (.int (nI i))] [] := by
    intro n
    induction n with
    | zero => intro i h1 h2; omega
    | succ n ih =>
      intro i h1 h2
      refine r_iload_n F dX0_empty_2 rfl ?_
      refine r_bipush (x := 8) F dX0_empty_3 rfl ?_
      refine r_icge F dX0_empty_5 (by omega) (by omega) (fun h5 => ?_) (fun h5 => ?_)
      · exact v_vret F rfl dX0_empty_28 (by rw [show i = 8 by omega]) rfl
      · refine r_aload_n F dX0_empty_8 rfl ?_
        refine r_get (x := .ref (gB G (b + 1))) (T := TX0) (n := 0) F uw0 rfl rfl tw_112 (Or.inl rfl) dX0_empty_9 (kd_lt hb.1 (by decide)) (ce0 hb.1) rfl ?_
        refine r_iload_n F dX0_empty_12 rfl ?_
        refine r_iconst (x := 0) F dX0_empty_13 rfl ?_
        refine r_iast F dX0_empty_14 hb.2.1 (by omega) ?_
        refine r_aload_n F dX0_empty_15 rfl ?_
        refine r_get (x := .ref (gB G (b + 2))) (T := TX0) (n := 1) F uw0 rfl rfl tw_115 (Or.inl rfl) dX0_empty_16 (kd_lt hb.1 (by decide)) (ce0 hb.1) rfl ?_
        refine r_iload_n F dX0_empty_19 rfl ?_
        refine r_iconst (x := 0) F dX0_empty_20 rfl ?_
        refine r_iast F dX0_empty_21 hb.2.2.1 (by omega) ?_
        refine r_iinc1 (y := 1) F dX0_empty_22 rfl rfl rfl rfl ?_
        refine r_goto F dX0_empty_25 ?_
        have e : up2 (up2 (em v b i) (b + 1) i 0) (b + 2) i 0 = em v b (i + 1) := by
          funext k j
          by_cases h1 : k = b + 1
          · subst h1
            by_cases hj : j = i
            · subst hj; simp [up2, em]
            · simp [up2, em, hj, show (j < i + 1 ↔ j < i) by omega]
          · by_cases h2 : k = b + 2
            · subst h2
              by_cases hj : j = i
              · subst hj; simp [up2, em]
              · simp [up2, em, hj, show (j < i + 1 ↔ j < i) by omega]
            · simp [up2, em, h1, h2]
        rw [e]
        exact ih (i + 1) (by omega) (by omega)
  refine r_iconst (x := 0) F dX0_empty_0 rfl ?_
  refine r_ist1 F dX0_empty_1 rfl rfl ?_
  have := loop 9 0 (by omega) (by omega)
  rw [em_0] at this
  exact this
