/-- who bought the turn: -1 or a player, out of 0 or a player and 1 -/
def bq (x : Nat) : Nat := if x = 0 then 4294967295 else x - 1
/-- the state at k is S -/
def RSt (k : Nat) (v : VV) (S : Nat → Nat) : Prop := v k 1 = S 0 ∧ v k 2 = S 1 ∧ v k 3 = S 4 ∧ v k 4 = S 2 ∧ v k 5 = S 3 ∧ v k 6 = bq (S 5) ∧ v k 9 = S 10 ∧ v k 10 = S 11 ∧ v (k + 5) 0 = S 6 ∧ v (k + 5) 1 = S 7 ∧ v (k + 6) 0 = S 8 ∧ v (k + 6) 1 = S 9 ∧ RB (k + 1) v S
/-- S is a state as it may be -/
def WS (S : Nat → Nat) : Prop := S 0 ≤ 20 ∧ S 1 ≤ 12 ∧ S 2 ≤ S 0 ∧ S 3 ≤ 1 ∧ S 4 < 8 ∧ S 5 ≤ 2 ∧ WB S
theorem WS.b {S : Nat → Nat} (h : WS S) : WB S := h.2.2.2.2.2.2
theorem RSt.b {k : Nat} {v : VV} {S : Nat → Nat} (h : RSt k v S) : RB (k + 1) v S := h.2.2.2.2.2.2.2.2.2.2.2.2
/-- v' has at b what v has at a -/
def cpS (v v' : VV) (a b : Nat) : Prop := (∀ k, (k < b ∨ b + 7 ≤ k) → v' k = v k) ∧ v' b 1 = v a 1 ∧ v' b 2 = v a 2 ∧ v' b 3 = v a 3 ∧ v' b 4 = v a 4 ∧ v' b 5 = v a 5 ∧ v' b 6 = v a 6 ∧ v' b 9 = v a 9 ∧ v' b 10 = v a 10 ∧ (∀ j, j < 8 → v' (b + 2) j = v (a + 2) j) ∧ (∀ j, j < 8 → v' (b + 3) j = v (a + 3) j) ∧ (∀ j, j < 32 → v' (b + 4) j = v (a + 4) j) ∧ (∀ j, j < 2 → v' (b + 5) j = v (a + 5) j) ∧ (∀ j, j < 2 → v' (b + 6) j = v (a + 6) j)
theorem RB.cong {b b' : Nat} {v v' : VV} {S : Nat → Nat} (w : WB S) (h : RB b v S) (h1 : ∀ j, j < 8 → v' (b' + 1) j = v (b + 1) j) (h2 : ∀ j, j < 8 → v' (b' + 2) j = v (b + 2) j) (h3 : ∀ j, j < 32 → v' (b' + 3) j = v (b + 3) j) : RB b' v' S := by
  intro p hp
  obtain ⟨a1, a2, a3⟩ := h p hp
  have hc := (w p hp).2.1
  exact ⟨by rw [h1 p hp, a1], by rw [h2 p hp, a2], fun i hi => by rw [h3 _ (by omega), a3 i hi]⟩
theorem RSt.copied {v v' : VV} {a b : Nat} {S : Nat → Nat} (w : WB S) (h : RSt a v S) (c : cpS v v' a b) : RSt b v' S := by
  obtain ⟨a1, a2, a3, a4, a5, a6, a7, a8, a9, a10, a11, a12, a13⟩ := h
  obtain ⟨c0, c1, c2, c3, c4, c5, c6, c7, c8, c9, c10, c11, c12, c13⟩ := c
  exact ⟨by rw [c1, a1], by rw [c2, a2], by rw [c3, a3], by rw [c4, a4], by rw [c5, a5], by rw [c6, a6], by rw [c7, a7], by rw [c8, a8], by rw [c12 0 (by decide), a9], by rw [c12 1 (by decide), a10], by rw [c13 0 (by decide), a11], by rw [c13 1 (by decide), a12], a13.cong w c9 c10 c11⟩
theorem RSt.kept {v v' : VV} {k : Nat} {S : Nat → Nat} (h : RSt k v S) (c : ∀ j, k ≤ j → j < k + 7 → v' j = v j) : RSt k v' S := by
  obtain ⟨a1, a2, a3, a4, a5, a6, a7, a8, a9, a10, a11, a12, a13⟩ := h
  have e0 := c k (by omega) (by omega)
  have e5 := c (k + 5) (by omega) (by omega)
  have e6 := c (k + 6) (by omega) (by omega)
  refine ⟨by rw [e0, a1], by rw [e0, a2], by rw [e0, a3], by rw [e0, a4], by rw [e0, a5], by rw [e0, a6], by rw [e0, a7], by rw [e0, a8], by rw [e5, a9], by rw [e5, a10], by rw [e6, a11], by rw [e6, a12], fun p hp => ?_⟩
  rw [c (k + 1 + 1) (by omega) (by omega), c (k + 1 + 2) (by omega) (by omega), c (k + 1 + 3) (by omega) (by omega)]
  exact a13 p hp
set_option maxHeartbeats 4000000 in
theorem m5_copyFrom {G : GT} {v : VV} {L : LL} (g : GH G) {a b : Nat} (ha : isSt a) (hb : isSt b) (hab : a + 7 ≤ b ∨ b + 7 ≤ a) : CC G MX5_copyFrom [.ref (gB G b), .ref (gB G a)] v L (gV fun v' L' => cpS v v' a b ∧ L' = L) := by
  refine cc_of g [some (.ref (gB G b)), some (.ref (gB G a))] rfl rfl rfl rfl (fun K F => ?_)
  refine r_aload_n F dX5_copyFrom_0 rfl ?_
  refine r_get (x := .ref (gB G (b + 1))) (T := TX5) (n := 0) F uw5 rfl rfl tw_128 (Or.inl rfl) dX5_copyFrom_1 (kd_lt hb.1 (by decide)) (ce4 hb.1) rfl ?_
  refine r_aload_n F dX5_copyFrom_4 rfl ?_
  refine r_get (x := .ref (gB G (a + 1))) (T := TX5) (n := 0) F uw5 rfl rfl tw_128 (Or.inl rfl) dX5_copyFrom_5 (kd_lt ha.1 (by decide)) (ce4 ha.1) rfl ?_
  refine r_callN1v F fMX0_copyBoard tw_312 rfl hb.2.1 rfl rfl dX5_copyFrom_8 rfl rfl z0 (m0_copyBoard g ha.bd hb.bd) ?_
  refine r_aload_n F dX5_copyFrom_11 rfl ?_
  refine r_aload_n F dX5_copyFrom_12 rfl ?_
  refine r_get (T := TX5) (n := 1) F uw5 rfl rfl tw_131 (Or.inl rfl) dX5_copyFrom_13 (kd_lt ha.1 (by decide)) (ce4 ha.1) rfl ?_
  refine r_put (T := TX5) (n := 1) (ty0 := tyX5) (ty := .int) F uw5 tyX5_ok nmX5 rfl rfl tw_131 (Or.inl rfl) rfl rfl rfl rfl dX5_copyFrom_16 (kd_lt hb.1 (by decide)) (ce4 hb.1) rfl (pe4_1 hb.1) up2_ce ?_
  refine r_aload_n F dX5_copyFrom_19 rfl ?_
  refine r_aload_n F dX5_copyFrom_20 rfl ?_
  refine r_get (T := TX5) (n := 2) F uw5 rfl rfl tw_134 (Or.inl rfl) dX5_copyFrom_21 (kd_lt ha.1 (by decide)) (ce4 ha.1) rfl ?_
  refine r_put (T := TX5) (n := 2) (ty0 := tyX5) (ty := .int) F uw5 tyX5_ok nmX5 rfl rfl tw_134 (Or.inl rfl) rfl rfl rfl rfl dX5_copyFrom_24 (kd_lt hb.1 (by decide)) (ce4 hb.1) rfl (pe4_2 hb.1) up2_ce ?_
  refine r_aload_n F dX5_copyFrom_27 rfl ?_
  refine r_aload_n F dX5_copyFrom_28 rfl ?_
  refine r_get (T := TX5) (n := 3) F uw5 rfl rfl tw_137 (Or.inl rfl) dX5_copyFrom_29 (kd_lt ha.1 (by decide)) (ce4 ha.1) rfl ?_
  refine r_put (T := TX5) (n := 3) (ty0 := tyX5) (ty := .int) F uw5 tyX5_ok nmX5 rfl rfl tw_137 (Or.inl rfl) rfl rfl rfl rfl dX5_copyFrom_32 (kd_lt hb.1 (by decide)) (ce4 hb.1) rfl (pe4_3 hb.1) up2_ce ?_
  refine r_aload_n F dX5_copyFrom_35 rfl ?_
  refine r_aload_n F dX5_copyFrom_36 rfl ?_
  refine r_get (T := TX5) (n := 4) F uw5 rfl rfl tw_139 (Or.inl rfl) dX5_copyFrom_37 (kd_lt ha.1 (by decide)) (ce4 ha.1) rfl ?_
  refine r_put (T := TX5) (n := 4) (ty0 := tyX5) (ty := .int) F uw5 tyX5_ok nmX5 rfl rfl tw_139 (Or.inl rfl) rfl rfl rfl rfl dX5_copyFrom_40 (kd_lt hb.1 (by decide)) (ce4 hb.1) rfl (pe4_4 hb.1) up2_ce ?_
  refine r_aload_n F dX5_copyFrom_43 rfl ?_
  refine r_aload_n F dX5_copyFrom_44 rfl ?_
  refine r_get (T := TX5) (n := 5) F uw5 rfl rfl tw_141 (Or.inl rfl) dX5_copyFrom_45 (kd_lt ha.1 (by decide)) (ce4 ha.1) rfl ?_
  refine r_put (T := TX5) (n := 5) (ty0 := tyX5) (ty := .int) F uw5 tyX5_ok nmX5 rfl rfl tw_141 (Or.inl rfl) rfl rfl rfl rfl dX5_copyFrom_48 (kd_lt hb.1 (by decide)) (ce4 hb.1) rfl (pe4_5 hb.1) up2_ce ?_
  refine r_aload_n F dX5_copyFrom_51 rfl ?_
  refine r_aload_n F dX5_copyFrom_52 rfl ?_
  refine r_get (T := TX5) (n := 6) F uw5 rfl rfl tw_144 (Or.inl rfl) dX5_copyFrom_53 (kd_lt ha.1 (by decide)) (ce4 ha.1) rfl ?_
  refine r_put (T := TX5) (n := 6) (ty0 := tyX5) (ty := .int) F uw5 tyX5_ok nmX5 rfl rfl tw_144 (Or.inl rfl) rfl rfl rfl rfl dX5_copyFrom_56 (kd_lt hb.1 (by decide)) (ce4 hb.1) rfl (pe4_6 hb.1) up2_ce ?_
  refine r_aload_n F dX5_copyFrom_59 rfl ?_
  refine r_get (x := .ref (gB G (a + 5))) (T := TX5) (n := 7) F uw5 rfl rfl tw_146 (Or.inl rfl) dX5_copyFrom_60 (kd_lt ha.1 (by decide)) (ce4 ha.1) rfl ?_
  refine r_iconst (x := 0) F dX5_copyFrom_63 rfl ?_
  refine r_aload_n F dX5_copyFrom_64 rfl ?_
  refine r_get (x := .ref (gB G (b + 5))) (T := TX5) (n := 7) F uw5 rfl rfl tw_146 (Or.inl rfl) dX5_copyFrom_65 (kd_lt hb.1 (by decide)) (ce4 hb.1) rfl ?_
  refine r_iconst (x := 0) F dX5_copyFrom_68 rfl ?_
  refine r_iconst (x := 2) F dX5_copyFrom_69 rfl ?_
  refine r_copy F tw_319 rfl ha.2.2.2.2.2.1 hb.2.2.2.2.2.1 (by decide) (by decide) dX5_copyFrom_70 ?_
  refine r_aload_n F dX5_copyFrom_73 rfl ?_
  refine r_get (x := .ref (gB G (a + 6))) (T := TX5) (n := 8) F uw5 rfl rfl tw_148 (Or.inl rfl) dX5_copyFrom_74 (kd_lt ha.1 (by decide)) (ce4 ha.1) rfl ?_
  refine r_iconst (x := 0) F dX5_copyFrom_77 rfl ?_
  refine r_aload_n F dX5_copyFrom_78 rfl ?_
  refine r_get (x := .ref (gB G (b + 6))) (T := TX5) (n := 8) F uw5 rfl rfl tw_148 (Or.inl rfl) dX5_copyFrom_79 (kd_lt hb.1 (by decide)) (ce4 hb.1) rfl ?_
  refine r_iconst (x := 0) F dX5_copyFrom_82 rfl ?_
  refine r_iconst (x := 2) F dX5_copyFrom_83 rfl ?_
  refine r_copy F tw_319 rfl ha.2.2.2.2.2.2 hb.2.2.2.2.2.2 (by decide) (by decide) dX5_copyFrom_84 ?_
  refine r_aload_n F dX5_copyFrom_87 rfl ?_
  refine r_aload_n F dX5_copyFrom_88 rfl ?_
  refine r_get (T := TX5) (n := 9) F uw5 rfl rfl tw_150 (Or.inl rfl) dX5_copyFrom_89 (kd_lt ha.1 (by decide)) (ce4 ha.1) rfl ?_
  refine r_put (T := TX5) (n := 9) (ty0 := tyX5) (ty := .int) F uw5 tyX5_ok nmX5 rfl rfl tw_150 (Or.inl rfl) rfl rfl rfl rfl dX5_copyFrom_92 (kd_lt hb.1 (by decide)) (ce4 hb.1) rfl (pe4_9 hb.1) up2_ce ?_
  refine r_aload_n F dX5_copyFrom_95 rfl ?_
  refine r_aload_n F dX5_copyFrom_96 rfl ?_
  refine r_get (T := TX5) (n := 10) F uw5 rfl rfl tw_152 (Or.inl rfl) dX5_copyFrom_97 (kd_lt ha.1 (by decide)) (ce4 ha.1) rfl ?_
  refine r_put (T := TX5) (n := 10) (ty0 := tyX5) (ty := .int) F uw5 tyX5_ok nmX5 rfl rfl tw_152 (Or.inl rfl) rfl rfl rfl rfl dX5_copyFrom_100 (kd_lt hb.1 (by decide)) (ce4 hb.1) rfl (pe4_10 hb.1) up2_ce ?_
  refine r_vret F rfl dX5_copyFrom_103 ⟨rfl, ?_, rfl⟩
  have q1 : a ≠ b := by omega
  unfold cpS
  refine ⟨fun k hk => ?_, ?_, ?_, ?_, ?_, ?_, ?_, ?_, ?_, ?_, ?_, ?_, ?_, ?_⟩
  · funext j
    simp only [up2, cp2, cpB]
    repeat rw [if_neg (by omega)]
  all_goals (try intro j hj); simp only [up2, cp2, cpB, and_self, if_true, true_and]
  all_goals repeat (first | rw [if_neg (by omega)] | rw [if_pos (by omega)])
set_option maxHeartbeats 4000000 in
theorem m5_isOver {G : GT} {v : VV} {L : LL} (g : GH G) {k : Nat} (hk : isSt k) {S : Nat → Nat} (hr : RSt k v S) (w : WS S) : CC G MX5_isOver [.ref (gB G k)] v L (rI (ovr S (S 4)).toNat v L) := by
  refine cc_of g [some (.ref (gB G k))] rfl rfl rfl rfl (fun K F => ?_)
  have e3 : v k 3 = S 4 := hr.2.2.1
  have w4 : S 4 < 8 := w.2.2.2.2.1
  refine r_aload_n F dX5_isOver_0 rfl ?_
  refine r_get (x := .ref (gB G (k + 1))) (T := TX5) (n := 0) F uw5 rfl rfl tw_128 (Or.inl rfl) dX5_isOver_1 (kd_lt hk.1 (by decide)) (ce4 hk.1) rfl ?_
  refine r_aload_n F dX5_isOver_4 rfl ?_
  refine r_get (T := TX5) (n := 3) F uw5 rfl rfl tw_137 (Or.inl rfl) dX5_isOver_5 (kd_lt hk.1 (by decide)) (ce4 hk.1) rfl ?_
  rw [e3]
  refine r_callN1i F fMX0_isEnd tw_352 rfl hk.2.1 rfl rfl dX5_isOver_8 rfl rfl z0 (m0_isEnd g hk.bd hr.b w.b w4) ?_
  exact b_iret F rfl dX5_isOver_11 (Bool.toNat_le _) rfl rfl rfl
def bud (S : Nat → Nat) (pl : Nat) : Nat := if pl = 0 then S 2 else S 0 - S 2
set_option maxHeartbeats 4000000 in
theorem m5_budgetOf {G : GT} {v : VV} {L : LL} (g : GH G) {k : Nat} (hk : isSt k) {S : Nat → Nat} (hr : RSt k v S) (w : WS S) {pl : Nat} (hp : pl < 2) : CC G MX5_budgetOf [.ref (gB G k), .int (nI pl)] v L (rI (bud S pl) v L) := by
  refine cc_of g [some (.ref (gB G k)), some (.int (nI pl))] rfl rfl rfl rfl (fun K F => ?_)
  have e1 : v k 1 = S 0 := hr.1
  have e4 : v k 4 = S 2 := hr.2.2.2.1
  have w2 : S 2 ≤ S 0 := w.2.2.1
  refine r_iload_n F dX5_budgetOf_0 rfl ?_
  refine r_ifne F dX5_budgetOf_1 (by omega) (fun h1 => ?_) (fun h1 => ?_)
  · refine r_aload_n F dX5_budgetOf_11 rfl ?_
    refine r_get (T := TX5) (n := 1) F uw5 rfl rfl tw_131 (Or.inl rfl) dX5_budgetOf_12 (kd_lt hk.1 (by decide)) (ce4 hk.1) rfl ?_
    refine r_aload_n F dX5_budgetOf_15 rfl ?_
    refine r_get (T := TX5) (n := 4) F uw5 rfl rfl tw_139 (Or.inl rfl) dX5_budgetOf_16 (kd_lt hk.1 (by decide)) (ce4 hk.1) rfl ?_
    refine r_isub F dX5_budgetOf_19 (by omega) ?_
    exact i_iret F rfl dX5_budgetOf_20 (by unfold bud; first | (rw [if_pos (by omega), e4]) | (rw [if_neg (by omega), e1, e4])) rfl rfl
  · refine r_aload_n F dX5_budgetOf_4 rfl ?_
    refine r_get (T := TX5) (n := 4) F uw5 rfl rfl tw_139 (Or.inl rfl) dX5_budgetOf_5 (kd_lt hk.1 (by decide)) (ce4 hk.1) rfl ?_
    refine r_goto F dX5_budgetOf_8 ?_
    exact i_iret F rfl dX5_budgetOf_20 (by unfold bud; first | (rw [if_pos (by omega), e4]) | (rw [if_neg (by omega), e1, e4])) rfl rfl
set_option maxHeartbeats 4000000 in
theorem m5_shareOut {G : GT} {v : VV} {L : LL} (g : GH G) {k : Nat} (hk : isSt k) {n : Nat} (hn : n ≤ 20) : CC G MX5_shareOut [.ref (gB G k), .int (nI n)] v L (rV (up2 (up2 v k 1 n) k 4 (n / 2)) L) := by
  refine cc_of g [some (.ref (gB G k)), some (.int (nI n))] rfl rfl rfl rfl (fun K F => ?_)
  refine r_aload_n F dX5_shareOut_0 rfl ?_
  refine r_iload_n F dX5_shareOut_1 rfl ?_
  refine r_put (T := TX5) (n := 1) (ty0 := tyX5) (ty := .int) F uw5 tyX5_ok nmX5 rfl rfl tw_131 (Or.inl rfl) rfl rfl rfl rfl dX5_shareOut_2 (kd_lt hk.1 (by decide)) (ce4 hk.1) rfl (pe4_1 hk.1) up2_ce ?_
  refine r_aload_n F dX5_shareOut_5 rfl ?_
  refine r_iload_n F dX5_shareOut_6 rfl ?_
  refine r_iconst (x := 2) F dX5_shareOut_7 rfl ?_
  refine r_idiv F dX5_shareOut_8 (by omega) (by omega) (by omega) ?_
  refine r_put (T := TX5) (n := 4) (ty0 := tyX5) (ty := .int) F uw5 tyX5_ok nmX5 rfl rfl tw_139 (Or.inl rfl) rfl rfl rfl rfl dX5_shareOut_9 (kd_lt hk.1 (by decide)) (ce4 hk.1) rfl (pe4_4 hk.1) up2_ce ?_
  exact v_vret F rfl dX5_shareOut_12 rfl rfl
theorem nI_addneg {a b : Nat} (h : b ≤ a) : nI a + -nI b = nI (a - b) := by rw [← pk_sub h, Int32.sub_eq_add_neg]
def byT (v : VV) (k pl pr : Nat) : VV := up2 (up2 (up2 (up2 v k 4 (if pl = 0 then v k 4 - pr else v k 4 + pr)) (k + 5) pl (v (k + 5) pl + 1)) (k + 6) pl (v (k + 6) pl + pr)) k 6 pl
set_option maxHeartbeats 4000000 in
theorem m5_buyTurn {G : GT} {v : VV} {L : LL} (g : GH G) {k : Nat} (hk : isSt k) {pl pr : Nat} (hp : pl < 2) (hb : pl = 0 → pr ≤ v k 4) : CC G MX5_buyTurn [.ref (gB G k), .int (nI pl), .int (nI pr)] v L (rV (byT v k pl pr) L) := by
  refine cc_of g [some (.ref (gB G k)), some (.int (nI pl)), some (.int (nI pr))] rfl rfl rfl rfl (fun K F => ?_)
  refine r_aload_n F dX5_buyTurn_0 rfl ?_
  refine r_dup F dX5_buyTurn_1 rfl ?_
  refine r_get (T := TX5) (n := 4) F uw5 rfl rfl tw_139 (Or.inl rfl) dX5_buyTurn_2 (kd_lt hk.1 (by decide)) (ce4 hk.1) rfl ?_
  refine r_iload_n F dX5_buyTurn_5 rfl ?_
  refine r_ifne F dX5_buyTurn_6 (by omega) (fun h6 => ?_) (fun h6 => ?_)
  · refine r_iload_n F dX5_buyTurn_14 rfl ?_
    refine r_iadd F dX5_buyTurn_15 ?_
    refine r_put (T := TX5) (n := 4) (ty0 := tyX5) (ty := .int) F uw5 tyX5_ok nmX5 rfl rfl tw_139 (Or.inl rfl) rfl rfl rfl rfl dX5_buyTurn_16 (kd_lt hk.1 (by decide)) (ce4 hk.1) rfl (pe4_4 hk.1) up2_ce ?_
    refine r_aload_n F dX5_buyTurn_19 rfl ?_
    refine r_get (x := .ref (gB G (k + 5))) (T := TX5) (n := 7) F uw5 rfl rfl tw_146 (Or.inl rfl) dX5_buyTurn_20 (kd_lt hk.1 (by decide)) (ce4 hk.1) rfl ?_
    refine r_iload_n F dX5_buyTurn_23 rfl ?_
    refine r_dup2 F dX5_buyTurn_24 rfl rfl ?_
    refine r_iald F dX5_buyTurn_25 hk.2.2.2.2.2.1 (by omega) ?_
    refine r_iconst (x := 1) F dX5_buyTurn_26 rfl ?_
    refine r_iadd F dX5_buyTurn_27 ?_
    refine r_iast F dX5_buyTurn_28 hk.2.2.2.2.2.1 (by omega) ?_
    refine r_aload_n F dX5_buyTurn_29 rfl ?_
    refine r_get (x := .ref (gB G (k + 6))) (T := TX5) (n := 8) F uw5 rfl rfl tw_148 (Or.inl rfl) dX5_buyTurn_30 (kd_lt hk.1 (by decide)) (ce4 hk.1) rfl ?_
    refine r_iload_n F dX5_buyTurn_33 rfl ?_
    refine r_dup2 F dX5_buyTurn_34 rfl rfl ?_
    refine r_iald F dX5_buyTurn_35 hk.2.2.2.2.2.2 (by omega) ?_
    refine r_iload_n F dX5_buyTurn_36 rfl ?_
    refine r_iadd F dX5_buyTurn_37 ?_
    refine r_iast F dX5_buyTurn_38 hk.2.2.2.2.2.2 (by omega) ?_
    refine r_aload_n F dX5_buyTurn_39 rfl ?_
    refine r_iload_n F dX5_buyTurn_40 rfl ?_
    refine r_put (T := TX5) (n := 6) (ty0 := tyX5) (ty := .int) F uw5 tyX5_ok nmX5 rfl rfl tw_144 (Or.inl rfl) rfl rfl rfl rfl dX5_buyTurn_41 (kd_lt hk.1 (by decide)) (ce4 hk.1) rfl (pe4_6 hk.1) up2_ce ?_
    exact v_vret F rfl dX5_buyTurn_44 (by
      unfold byT
      first | rw [if_pos h6] | rw [if_neg h6]
      congr 1
      rw [up2_k _ (a := k + 6) (k := k + 5) (by omega), up2_k _ (a := k + 6) (k := k) (by omega), up2_k _ (a := k + 5) (k := k) (by omega)]) rfl
  · refine r_iload_n F dX5_buyTurn_9 rfl ?_
    refine R_ineg F dX5_buyTurn_10 rfl ?_
    refine r_goto F dX5_buyTurn_11 ?_
    refine R_iadd F dX5_buyTurn_15 (nI_addneg (hb h6)) ?_
    refine r_put (T := TX5) (n := 4) (ty0 := tyX5) (ty := .int) F uw5 tyX5_ok nmX5 rfl rfl tw_139 (Or.inl rfl) rfl rfl rfl rfl dX5_buyTurn_16 (kd_lt hk.1 (by decide)) (ce4 hk.1) rfl (pe4_4 hk.1) up2_ce ?_
    refine r_aload_n F dX5_buyTurn_19 rfl ?_
    refine r_get (x := .ref (gB G (k + 5))) (T := TX5) (n := 7) F uw5 rfl rfl tw_146 (Or.inl rfl) dX5_buyTurn_20 (kd_lt hk.1 (by decide)) (ce4 hk.1) rfl ?_
    refine r_iload_n F dX5_buyTurn_23 rfl ?_
    refine r_dup2 F dX5_buyTurn_24 rfl rfl ?_
    refine r_iald F dX5_buyTurn_25 hk.2.2.2.2.2.1 (by omega) ?_
    refine r_iconst (x := 1) F dX5_buyTurn_26 rfl ?_
    refine r_iadd F dX5_buyTurn_27 ?_
    refine r_iast F dX5_buyTurn_28 hk.2.2.2.2.2.1 (by omega) ?_
    refine r_aload_n F dX5_buyTurn_29 rfl ?_
    refine r_get (x := .ref (gB G (k + 6))) (T := TX5) (n := 8) F uw5 rfl rfl tw_148 (Or.inl rfl) dX5_buyTurn_30 (kd_lt hk.1 (by decide)) (ce4 hk.1) rfl ?_
    refine r_iload_n F dX5_buyTurn_33 rfl ?_
    refine r_dup2 F dX5_buyTurn_34 rfl rfl ?_
    refine r_iald F dX5_buyTurn_35 hk.2.2.2.2.2.2 (by omega) ?_
    refine r_iload_n F dX5_buyTurn_36 rfl ?_
    refine r_iadd F dX5_buyTurn_37 ?_
    refine r_iast F dX5_buyTurn_38 hk.2.2.2.2.2.2 (by omega) ?_
    refine r_aload_n F dX5_buyTurn_39 rfl ?_
    refine r_iload_n F dX5_buyTurn_40 rfl ?_
    refine r_put (T := TX5) (n := 6) (ty0 := tyX5) (ty := .int) F uw5 tyX5_ok nmX5 rfl rfl tw_144 (Or.inl rfl) rfl rfl rfl rfl dX5_buyTurn_41 (kd_lt hk.1 (by decide)) (ce4 hk.1) rfl (pe4_6 hk.1) up2_ce ?_
    exact v_vret F rfl dX5_buyTurn_44 (by
      unfold byT
      first | rw [if_pos h6] | rw [if_neg h6]
      congr 1
      rw [up2_k _ (a := k + 6) (k := k + 5) (by omega), up2_k _ (a := k + 6) (k := k) (by omega), up2_k _ (a := k + 5) (k := k) (by omega)]) rfl
