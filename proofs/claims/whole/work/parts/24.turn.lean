set_option maxHeartbeats 4000000 in
theorem m3_leastWinningBid {G : GT} {v : VV} {L : LL} (g : GH G) {so ea : Nat → Nat} {c pl st b : Nat} (hB : Bh v so ea c) (hc : c ≤ 20) (hp : pl < 2) (hs : st < 2) (hb : b ≤ c) : CC G MX3_leastWinningBid [.ref (gB G 75), .int (nI c), .int (nI pl), .int (nI b), .int (nI st)] v L (rR (orM (lbid so ea c pl st b) b) v L) := by
  refine cc_of g [some (.ref (gB G 75)), some (.int (nI c)), some (.int (nI pl)), some (.int (nI b)), some (.int (nI st)), none] rfl rfl rfl rfl (fun K F => ?_)
  have loop : ∀ (n i : Nat), b + 1 < i + n → i ≤ b + 1 → (∀ o, o < i → winB so ea c pl st b o = false) → CW G K 6 0 0 (MQ (kb K) (Qn G (rR (orM (lbid so ea c pl st b) b) v L)) (ka K) (ks K) 0 0 (gA G)) v L 3 [some (.ref (gB G 75)), some (.int (nI c)), some (.int (nI pl)), some (.int (nI b)), some (.int (nI st)), some (.int (nI i))] [] := by
    intro n
    induction n with
    | zero => intro i h1 h2; omega
    | succ n ih =>
      intro i h1 h2 h3
      refine r_iload F dX3_leastWinningBid_3 rfl ?_
      refine r_iload_n F dX3_leastWinningBid_5 rfl ?_
      refine r_icgt F dX3_leastWinningBid_6 (by omega) (by omega) (fun h6 => ?_) (fun h6 => ?_)
      · refine R_iconst (x := -1) F dX3_leastWinningBid_33 rfl ?_
        exact r_iret F rfl rfl dX3_leastWinningBid_34 ⟨by
          have e : lbid so ea c pl st b = b + 1 := fsN_none (fun j hj => h3 j (by omega))
          unfold orM
          rw [e, if_neg (by omega)], rfl, rfl⟩
      · refine r_aload_n F dX3_leastWinningBid_9 rfl ?_
        refine r_iload_n F dX3_leastWinningBid_10 rfl ?_
        refine r_iload_n F dX3_leastWinningBid_11 rfl ?_
        refine r_iload_n F dX3_leastWinningBid_12 rfl ?_
        refine r_iload F dX3_leastWinningBid_13 rfl ?_
        refine r_iload F dX3_leastWinningBid_15 rfl ?_
        refine r_callV5q F fMX3_leastRefutation tw_509 rfl rfl rfl rfl dX3_leastWinningBid_17 rfl rfl z0 (m3_leastRefutation g hB hc hp hs hb (bid := i) (by omega)) ?_
        refine R_iconst (x := -1) F dX3_leastWinningBid_20 rfl ?_
        refine R_icne F dX3_leastWinningBid_21 (fun h21 => ?_) (fun h21 => ?_)
        · refine r_iinc5 (y := 1) F dX3_leastWinningBid_27 rfl rfl rfl rfl ?_
          refine r_goto F dX3_leastWinningBid_30 ?_
          exact ih (i + 1) (by omega) (by omega) (fun o ho => by
            rcases Nat.lt_or_ge o i with z | z
            · exact h3 o z
            · rw [show o = i by omega]
              refine Bool.eq_false_iff.mpr (fun z => h21 ((orM_eq (by omega)).mpr ((refu_win hb).mp z))))
        · refine r_iload F dX3_leastWinningBid_24 rfl ?_
          exact r_iret F rfl rfl dX3_leastWinningBid_26 ⟨by
            have h9 := (orM_eq (by omega)).mp h21
            have hw := (refu_win hb).mpr h9
            have e : lbid so ea c pl st b = i := fsN_eq (by omega) hw h3
            unfold orM
            rw [e, if_pos (by omega)], rfl, rfl⟩
  refine r_iconst (x := 0) F dX3_leastWinningBid_0 rfl ?_
  refine r_ist5 F dX3_leastWinningBid_1 rfl rfl ?_
  exact loop (b + 2) 0 (by omega) (by omega) (fun o ho => absurd ho (Nat.not_lt_zero o))
theorem pmk_end {so ea : Nat → Nat} {c pl st : Nat} (hc : c ≤ 20) : pmk (fsN (fun b => decide (lbid so ea c pl st b ≤ b)) (c + 1)) (c + 1) = mk (lbud so ea c pl st) c := by
  have hl := fsN_le (fun b => decide (lbid so ea c pl st b ≤ b)) (c + 1)
  unfold pmk mk lbud
  split
  · rw [if_neg (by omega : ¬ fsN (fun b => decide (lbid so ea c pl st b ≤ b)) (c + 1) ≤ c), if_neg (by omega)]
  · rw [if_pos (by omega : fsN (fun b => decide (lbid so ea c pl st b ≤ b)) (c + 1) ≤ c), if_pos (by omega)]
set_option maxHeartbeats 4000000 in
theorem m3_tellTurn {G : GT} {v : VV} {L : LL} (g : GH G) {so ea : Nat → Nat} {c pl st : Nat} (hB : Bh v so ea c) (hc : c ≤ 20) (hp : pl < 2) (hs : st < 2) : CC G MX3_tellTurn [.ref (gB G 75), .int (nI c), .int (nI pl), .int (nI st)] v L (rI (mk (lbud so ea c pl st) c) v L) := by
  refine cc_of g [some (.ref (gB G 75)), some (.int (nI c)), some (.int (nI pl)), some (.int (nI st)), none, none] rfl rfl rfl rfl (fun K F => ?_)
  obtain ⟨r, hr⟩ : ∃ r, r = fsN (fun b => decide (lbid so ea c pl st b ≤ b)) (c + 1) := ⟨_, rfl⟩
  have key : ∀ b, b ≤ c → (lbid so ea c pl st b ≤ b ↔ r ≤ b) := by
    intro b hb
    constructor
    · intro h
      rcases Nat.lt_or_ge b r with z | z
      · rw [hr] at z
        have := fsN_no (fun b => decide (lbid so ea c pl st b ≤ b)) (c + 1) b z
        simp at this
        omega
      · exact z
    · intro h
      have h1 := fsN_yes (fun b => decide (lbid so ea c pl st b ≤ b)) (c + 1) (by omega)
      rw [← hr] at h1
      exact lbid_mono h hb (by simpa using h1)
  have loop : ∀ (n i : Nat), c + 1 < i + n → i ≤ c + 1 → CW G K 6 0 0 (MQ (kb K) (Qn G (rI (mk (lbud so ea c pl st) c) v L)) (ka K) (ks K) 0 0 (gA G)) v L 6 [some (.ref (gB G 75)), some (.int (nI c)), some (.int (nI pl)), some (.int (nI st)), some (.int (nI (pmk r i))), some (.int (nI i))] [] := by
    intro n
    induction n with
    | zero => intro i h1 h2; omega
    | succ n ih =>
      intro i h1 h2
      refine r_iload F dX3_tellTurn_6 rfl ?_
      refine r_iload_n F dX3_tellTurn_8 rfl ?_
      refine r_icgt F dX3_tellTurn_9 (by omega) (by omega) (fun h9 => ?_) (fun h9 => ?_)
      · refine r_iload F dX3_tellTurn_40 rfl ?_
        exact i_iret F rfl dX3_tellTurn_42 (by rw [show i = c + 1 by omega, hr, pmk_end hc]) rfl rfl
      · refine r_aload_n F dX3_tellTurn_12 rfl ?_
        refine r_iload_n F dX3_tellTurn_13 rfl ?_
        refine r_iload_n F dX3_tellTurn_14 rfl ?_
        refine r_iload F dX3_tellTurn_15 rfl ?_
        refine r_iload_n F dX3_tellTurn_17 rfl ?_
        refine r_callV4q F fMX3_leastWinningBid tw_505 rfl rfl rfl rfl dX3_tellTurn_18 rfl rfl z0 (m3_leastWinningBid g hB hc hp hs (b := i) (by omega)) ?_
        refine R_iconst (x := -1) F dX3_tellTurn_21 rfl ?_
        refine R_iceq F dX3_tellTurn_22 (fun h22 => ?_) (fun h22 => ?_)
        · refine r_iinc5 (y := 1) F dX3_tellTurn_34 rfl rfl rfl rfl ?_
          refine r_goto F dX3_tellTurn_37 ?_
          first
            | (have h9 := (orM_eq (by omega)).mp h22
               rw [pmk_no (r := r) (i := i) (by have := key i (by omega); omega)]
               exact ih (i + 1) (by omega) (by omega))
            | (have h9 : ¬ i < lbid so ea c pl st i := fun z => h22 ((orM_eq (by omega)).mpr z)
               rw [pmk_yes (r := r) (i := i) (by omega) (by have := key i (by omega); omega)]
               exact ih (i + 1) (by omega) (by omega))
        · refine r_iload F dX3_tellTurn_25 rfl ?_
          refine r_iconst (x := 1) F dX3_tellTurn_27 rfl ?_
          refine r_iload F dX3_tellTurn_28 rfl ?_
          refine R_ishl F dX3_tellTurn_30 (nI_sh1 (by omega)) ?_
          refine R_ior F dX3_tellTurn_31 (nI_or _ _) ?_
          refine r_ist4 F dX3_tellTurn_32 rfl rfl ?_
          refine r_iinc5 (y := 1) F dX3_tellTurn_34 rfl rfl rfl rfl ?_
          refine r_goto F dX3_tellTurn_37 ?_
          first
            | (have h9 := (orM_eq (by omega)).mp h22
               rw [pmk_no (r := r) (i := i) (by have := key i (by omega); omega)]
               exact ih (i + 1) (by omega) (by omega))
            | (have h9 : ¬ i < lbid so ea c pl st i := fun z => h22 ((orM_eq (by omega)).mpr z)
               rw [pmk_yes (r := r) (i := i) (by omega) (by have := key i (by omega); omega)]
               exact ih (i + 1) (by omega) (by omega))
  refine r_iconst (x := 0) F dX3_tellTurn_0 rfl ?_
  refine r_ist4 F dX3_tellTurn_1 rfl rfl ?_
  refine r_iconst (x := 0) F dX3_tellTurn_3 rfl ?_
  refine r_ist5 F dX3_tellTurn_4 rfl rfl ?_
  have := loop (c + 2) 0 (by omega) (by omega)
  rw [show pmk r 0 = 0 by unfold pmk; rw [if_pos (Nat.zero_le _)]] at this
  exact this
def Bt (v : VV) (so ea : Nat → Nat) : Prop := ∀ σ, σ < 2 → v 80 σ = tq (so σ) ∧ v 81 σ = tq (ea σ)
set_option maxHeartbeats 8000000 in
theorem m6_reachedBy {G : GT} {v : VV} {L : LL} (g : GH G) {so ea : Nat → Nat} {c pl st b bid : Nat} (hB : Bt v so ea) (hc : c ≤ 20) (hp : pl < 2) (hs : st < 2) (hb : b ≤ c) (hd : bid ≤ b) : CC G MX6_reachedBy [.ref (gB G 79), .int (nI bid), .int (nI b), .int (nI (c - b)), .int (nI pl), .int (nI st)] v L (rI (winB so ea c pl st b bid).toNat v L) := by
  refine cc_of g [some (.ref (gB G 79)), some (.int (nI bid)), some (.int (nI b)), some (.int (nI (c - b))), some (.int (nI pl)), some (.int (nI st)), none] rfl rfl rfl rfl (fun K F => ?_)
  have l1 := tq_lt (so st)
  have l2 := tq_lt (ea st)
  have l3 := tq_lt (so (1 - st))
  have l4 := tq_lt (ea (1 - st))
  have q1 : tq (so st) ≤ b - bid ↔ so st ≤ b - bid := tq_le (by omega)
  have q3 : tq (so (1 - st)) ≤ b - bid ↔ so (1 - st) ≤ b - bid := tq_le (by omega)
  have K83 : (bid = 0 ∨ so st ≤ b - bid) → (c - b < bid ∨ isE so ea pl st b bid bid = true) → CW G K 7 0 0 (MQ (kb K) (Qn G (rI (winB so ea c pl st b bid).toNat v L)) (ka K) (ks K) 0 0 (gA G)) v L 83 [some (.ref (gB G 79)), some (.int (nI bid)), some (.int (nI b)), some (.int (nI (c - b))), some (.int (nI pl)), some (.int (nI st)), none] [] := by
    intro h1 h2
    have a1 : (decide (bid = 0) || isE so ea pl st b bid 0) = true := by
      rcases h1 with h1 | h1
      · simp [h1]
      · by_cases hz : bid = 0
        · simp [hz]
        · unfold isE; rw [if_pos (by omega)]; simp; omega
    have a2 : (decide (c - b < bid) || isE so ea pl st b bid bid) = true := by
      rcases h2 with h2 | h2
      · simp [h2]
      · simp [h2]
    have ew : winB so ea c pl st b bid = (decide (c - b ≤ bid) || isE so ea pl st b bid (bid + 1)) := by unfold winB; rw [a1, a2]; rfl
    have q2 : bid < c - b → (tq (ea st) ≤ b + bid + 1 ↔ ea st ≤ b + bid + 1) := fun h => tq_le (by omega)
    refine r_iload_n F dX6_reachedBy_83 rfl ?_
    refine r_iload_n F dX6_reachedBy_84 rfl ?_
    refine r_icge F dX6_reachedBy_85 (by omega) (by omega) (fun h85 => ?_) (fun h85 => ?_)
    · refine r_iconst (x := 1) F dX6_reachedBy_103 rfl ?_
      refine r_goto F dX6_reachedBy_104 ?_
      exact b_iret F rfl dX6_reachedBy_108 (by decide) (by
        rw [ew]
        by_cases hz : c - b ≤ bid
        · first | (simp [hz]; done) | omega
        · have q2 := q2 (by omega)
          unfold isE
          rw [if_neg (by omega), if_pos (by omega)]
          first | (have h9 : ¬ ea st ≤ b + (bid + 1) := by omega
                   simp [hz, h9]; done) | (have h9 : ea st ≤ b + (bid + 1) := by omega
                                           simp [hz, h9]; done)) rfl rfl
    · refine r_iload_n F dX6_reachedBy_88 rfl ?_
      refine r_iload_n F dX6_reachedBy_89 rfl ?_
      refine r_iadd F dX6_reachedBy_90 ?_
      refine r_iconst (x := 1) F dX6_reachedBy_91 rfl ?_
      refine r_iadd F dX6_reachedBy_92 ?_
      refine r_aload_n F dX6_reachedBy_93 rfl ?_
      refine r_get (x := .ref (gB G 81)) (T := TX6) (n := 1) F uw6 rfl rfl tw_248 (Or.inr tw_249) dX6_reachedBy_94 (kd_lt (rfl : kd 79 = (5,0,0)) (by decide)) (ce5 rfl) rfl ?_
      refine r_iload F dX6_reachedBy_97 rfl ?_
      refine r_iald F dX6_reachedBy_99 rfl (by omega) ?_
      rw [(hB st hs).2]
      refine r_iclt F dX6_reachedBy_100 (by omega) (by omega) (fun h100 => ?_) (fun h100 => ?_)
      · refine r_iconst (x := 0) F dX6_reachedBy_107 rfl ?_
        exact b_iret F rfl dX6_reachedBy_108 (by decide) (by
          rw [ew]
          by_cases hz : c - b ≤ bid
          · first | (simp [hz]; done) | omega
          · have q2 := q2 (by omega)
            unfold isE
            rw [if_neg (by omega), if_pos (by omega)]
            first | (have h9 : ¬ ea st ≤ b + (bid + 1) := by omega
                     simp [hz, h9]; done) | (have h9 : ea st ≤ b + (bid + 1) := by omega
                                             simp [hz, h9]; done)) rfl rfl
      · refine r_iconst (x := 1) F dX6_reachedBy_103 rfl ?_
        refine r_goto F dX6_reachedBy_104 ?_
        exact b_iret F rfl dX6_reachedBy_108 (by decide) (by
          rw [ew]
          by_cases hz : c - b ≤ bid
          · first | (simp [hz]; done) | omega
          · have q2 := q2 (by omega)
            unfold isE
            rw [if_neg (by omega), if_pos (by omega)]
            first | (have h9 : ¬ ea st ≤ b + (bid + 1) := by omega
                     simp [hz, h9]; done) | (have h9 : ea st ≤ b + (bid + 1) := by omega
                                             simp [hz, h9]; done)) rfl rfl
  have K19 : (bid = 0 ∨ so st ≤ b - bid) → CW G K 7 0 0 (MQ (kb K) (Qn G (rI (winB so ea c pl st b bid).toNat v L)) (ka K) (ks K) 0 0 (gA G)) v L 19 [some (.ref (gB G 79)), some (.int (nI bid)), some (.int (nI b)), some (.int (nI (c - b))), some (.int (nI pl)), some (.int (nI st)), none] [] := by
    intro h1
    have q4 : bid ≤ c - b → (tq (ea (1 - st)) ≤ b + bid ↔ ea (1 - st) ≤ b + bid) := fun h => tq_le (by omega)
    have eE : isE so ea pl st b bid bid = if st = pl then decide (so (1 - st) ≤ b - bid) else decide (ea (1 - st) ≤ b + bid) := by
      unfold isE
      rw [if_neg (by omega), if_neg (by omega)]
      by_cases hz : st = pl
      · rw [if_pos hz, if_pos hz, hz]
      · rw [if_neg hz, if_neg hz, show pl = 1 - st by omega]
    refine r_iload_n F dX6_reachedBy_19 rfl ?_
    refine r_iload_n F dX6_reachedBy_20 rfl ?_
    refine r_icgt F dX6_reachedBy_21 (by omega) (by omega) (fun h21 => ?_) (fun h21 => ?_)
    · first
        | exact K83 h1 (Or.inl (by omega))
        | exact r_dr6 (K83 h1 (Or.inr (by rw [eE]; first | (rw [if_pos (by omega)]; simp; omega) | (rw [if_neg (by omega)]; have q4 := q4 (by omega); simp; omega))))
    · refine r_iload F dX6_reachedBy_24 rfl ?_
      refine r_iload F dX6_reachedBy_26 rfl ?_
      refine r_icne F dX6_reachedBy_28 (by omega) (by omega) (fun h28 => ?_) (fun h28 => ?_)
      · refine r_iload_n F dX6_reachedBy_54 rfl ?_
        refine r_iload_n F dX6_reachedBy_55 rfl ?_
        refine r_iadd F dX6_reachedBy_56 ?_
        refine r_aload_n F dX6_reachedBy_57 rfl ?_
        refine r_get (x := .ref (gB G 81)) (T := TX6) (n := 1) F uw6 rfl rfl tw_248 (Or.inr tw_249) dX6_reachedBy_58 (kd_lt (rfl : kd 79 = (5,0,0)) (by decide)) (ce5 rfl) rfl ?_
        refine r_iconst (x := 1) F dX6_reachedBy_61 rfl ?_
        refine r_iload F dX6_reachedBy_62 rfl ?_
        refine r_isub F dX6_reachedBy_64 (by omega) ?_
        refine r_iald F dX6_reachedBy_65 rfl (by omega) ?_
        rw [(hB (1 - st) (by omega)).2]
        refine r_iclt F dX6_reachedBy_66 (by omega) (by omega) (fun h66 => ?_) (fun h66 => ?_)
        · refine r_iconst (x := 0) F dX6_reachedBy_73 rfl ?_
          refine r_ist6 F dX6_reachedBy_74 rfl rfl ?_
          refine r_iload F dX6_reachedBy_76 rfl ?_
          refine r_ifne F dX6_reachedBy_78 (by omega) (fun h78 => ?_) (fun h78 => ?_)
          · first
              | exact K83 h1 (Or.inl (by omega))
              | exact r_dr6 (K83 h1 (Or.inr (by rw [eE]; first | (rw [if_pos (by omega)]; simp; omega) | (rw [if_neg (by omega)]; have q4 := q4 (by omega); simp; omega))))
          · refine r_iconst (x := 0) F dX6_reachedBy_81 rfl ?_
            first
              | exact absurd rfl h78
              | exact absurd h78 (by decide)
              | exact b_iret F rfl dX6_reachedBy_82 (by decide) (by
                  have e0 : isE so ea pl st b bid bid = false := by rw [eE]; first | (rw [if_pos (by omega)]; simp; omega) | (rw [if_neg (by omega)]; have q4 := q4 (by omega); simp; omega)
                  have : winB so ea c pl st b bid = false := by
                    unfold winB
                    rw [e0]
                    simp
                    omega
                  rw [this]; rfl) rfl rfl
        · refine r_iconst (x := 1) F dX6_reachedBy_69 rfl ?_
          refine r_goto F dX6_reachedBy_70 ?_
          refine r_ist6 F dX6_reachedBy_74 rfl rfl ?_
          refine r_iload F dX6_reachedBy_76 rfl ?_
          refine r_ifne F dX6_reachedBy_78 (by omega) (fun h78 => ?_) (fun h78 => ?_)
          · first
              | exact K83 h1 (Or.inl (by omega))
              | exact r_dr6 (K83 h1 (Or.inr (by rw [eE]; first | (rw [if_pos (by omega)]; simp; omega) | (rw [if_neg (by omega)]; have q4 := q4 (by omega); simp; omega))))
          · refine r_iconst (x := 0) F dX6_reachedBy_81 rfl ?_
            first
              | exact absurd rfl h78
              | exact absurd h78 (by decide)
              | exact b_iret F rfl dX6_reachedBy_82 (by decide) (by
                  have e0 : isE so ea pl st b bid bid = false := by rw [eE]; first | (rw [if_pos (by omega)]; simp; omega) | (rw [if_neg (by omega)]; have q4 := q4 (by omega); simp; omega)
                  have : winB so ea c pl st b bid = false := by
                    unfold winB
                    rw [e0]
                    simp
                    omega
                  rw [this]; rfl) rfl rfl
      · refine r_iload_n F dX6_reachedBy_31 rfl ?_
        refine r_iload_n F dX6_reachedBy_32 rfl ?_
        refine r_isub F dX6_reachedBy_33 (by omega) ?_
        refine r_aload_n F dX6_reachedBy_34 rfl ?_
        refine r_get (x := .ref (gB G 80)) (T := TX6) (n := 0) F uw6 rfl rfl tw_243 (Or.inr tw_244) dX6_reachedBy_35 (kd_lt (rfl : kd 79 = (5,0,0)) (by decide)) (ce5 rfl) rfl ?_
        refine r_iconst (x := 1) F dX6_reachedBy_38 rfl ?_
        refine r_iload F dX6_reachedBy_39 rfl ?_
        refine r_isub F dX6_reachedBy_41 (by omega) ?_
        refine r_iald F dX6_reachedBy_42 rfl (by omega) ?_
        rw [(hB (1 - st) (by omega)).1]
        refine r_iclt F dX6_reachedBy_43 (by omega) (by omega) (fun h43 => ?_) (fun h43 => ?_)
        · refine r_iconst (x := 0) F dX6_reachedBy_50 rfl ?_
          refine r_goto F dX6_reachedBy_51 ?_
          refine r_ist6 F dX6_reachedBy_74 rfl rfl ?_
          refine r_iload F dX6_reachedBy_76 rfl ?_
          refine r_ifne F dX6_reachedBy_78 (by omega) (fun h78 => ?_) (fun h78 => ?_)
          · first
              | exact K83 h1 (Or.inl (by omega))
              | exact r_dr6 (K83 h1 (Or.inr (by rw [eE]; first | (rw [if_pos (by omega)]; simp; omega) | (rw [if_neg (by omega)]; have q4 := q4 (by omega); simp; omega))))
          · refine r_iconst (x := 0) F dX6_reachedBy_81 rfl ?_
            first
              | exact absurd rfl h78
              | exact absurd h78 (by decide)
              | exact b_iret F rfl dX6_reachedBy_82 (by decide) (by
                  have e0 : isE so ea pl st b bid bid = false := by rw [eE]; first | (rw [if_pos (by omega)]; simp; omega) | (rw [if_neg (by omega)]; have q4 := q4 (by omega); simp; omega)
                  have : winB so ea c pl st b bid = false := by
                    unfold winB
                    rw [e0]
                    simp
                    omega
                  rw [this]; rfl) rfl rfl
        · refine r_iconst (x := 1) F dX6_reachedBy_46 rfl ?_
          refine r_goto F dX6_reachedBy_47 ?_
          refine r_ist6 F dX6_reachedBy_74 rfl rfl ?_
          refine r_iload F dX6_reachedBy_76 rfl ?_
          refine r_ifne F dX6_reachedBy_78 (by omega) (fun h78 => ?_) (fun h78 => ?_)
          · first
              | exact K83 h1 (Or.inl (by omega))
              | exact r_dr6 (K83 h1 (Or.inr (by rw [eE]; first | (rw [if_pos (by omega)]; simp; omega) | (rw [if_neg (by omega)]; have q4 := q4 (by omega); simp; omega))))
          · refine r_iconst (x := 0) F dX6_reachedBy_81 rfl ?_
            first
              | exact absurd rfl h78
              | exact absurd h78 (by decide)
              | exact b_iret F rfl dX6_reachedBy_82 (by decide) (by
                  have e0 : isE so ea pl st b bid bid = false := by rw [eE]; first | (rw [if_pos (by omega)]; simp; omega) | (rw [if_neg (by omega)]; have q4 := q4 (by omega); simp; omega)
                  have : winB so ea c pl st b bid = false := by
                    unfold winB
                    rw [e0]
                    simp
                    omega
                  rw [this]; rfl) rfl rfl
  refine r_iload_n F dX6_reachedBy_0 rfl ?_
  refine r_ifle F dX6_reachedBy_1 (by omega) (fun h1 => ?_) (fun h1 => ?_)
  · exact K19 (by omega)
  · refine r_iload_n F dX6_reachedBy_4 rfl ?_
    refine r_iload_n F dX6_reachedBy_5 rfl ?_
    refine r_isub F dX6_reachedBy_6 (by omega) ?_
    refine r_aload_n F dX6_reachedBy_7 rfl ?_
    refine r_get (x := .ref (gB G 80)) (T := TX6) (n := 0) F uw6 rfl rfl tw_243 (Or.inr tw_244) dX6_reachedBy_8 (kd_lt (rfl : kd 79 = (5,0,0)) (by decide)) (ce5 rfl) rfl ?_
    refine r_iload F dX6_reachedBy_11 rfl ?_
    refine r_iald F dX6_reachedBy_13 rfl (by omega) ?_
    rw [(hB st hs).1]
    refine r_icge F dX6_reachedBy_14 (by omega) (by omega) (fun h14 => ?_) (fun h14 => ?_)
    · exact K19 (by omega)
    · refine r_iconst (x := 0) F dX6_reachedBy_17 rfl ?_
      exact b_iret F rfl dX6_reachedBy_18 (by decide) (by
        have : winB so ea c pl st b bid = false := by
          unfold winB isE
          rw [if_pos (by omega)]
          simp
          omega
        rw [this]; rfl) rfl rfl
set_option maxHeartbeats 4000000 in
theorem m6_tellTurn {G : GT} {v : VV} {L : LL} (g : GH G) {so ea : Nat → Nat} {c pl st : Nat} (hB : Bt v so ea) (hc : c ≤ 20) (hp : pl < 2) (hs : st < 2) : CC G MX6_tellTurn [.ref (gB G 79), .int (nI c), .int (nI pl), .int (nI st)] v L (rI (tq (lbud so ea c pl st)) v L) := by
  refine cc_of g [some (.ref (gB G 79)), some (.int (nI c)), some (.int (nI pl)), some (.int (nI st)), none, none] rfl rfl rfl rfl (fun K F => ?_)
  have loop : ∀ (n i : Nat), c + 1 < i + n → i ≤ c + 1 → (∀ b, b < i → b < lbid so ea c pl st b) → CW G K 6 0 0 (MQ (kb K) (Qn G (rI (tq (lbud so ea c pl st)) v L)) (ka K) (ks K) 0 0 (gA G)) v L 3 [some (.ref (gB G 79)), some (.int (nI c)), some (.int (nI pl)), some (.int (nI st)), some (.int (nI i)), none] [] := by
    intro n
    induction n with
    | zero => intro i h1 h2; omega
    | succ n ih =>
      intro i h1 h2 h3
      have inner : i ≤ c → ∀ (m j : Nat), i + 1 < j + m → j ≤ i + 1 → (∀ o, o < j → winB so ea c pl st i o = false) → CW G K 6 0 0 (MQ (kb K) (Qn G (rI (tq (lbud so ea c pl st)) v L)) (ka K) (ks K) 0 0 (gA G)) v L 12 [some (.ref (gB G 79)), some (.int (nI c)), some (.int (nI pl)), some (.int (nI st)), some (.int (nI i)), some (.int (nI j))] [] := by
        intro hi m
        induction m with
        | zero => intro j h4 h5; omega
        | succ m ihm =>
          intro j h4 h5 h6
          refine r_iload F dX6_tellTurn_12 rfl ?_
          refine r_iload F dX6_tellTurn_14 rfl ?_
          refine r_icgt F dX6_tellTurn_16 (by omega) (by omega) (fun h16 => ?_) (fun h16 => ?_)
          · refine r_iinc4 (y := 1) F dX6_tellTurn_45 rfl rfl rfl rfl ?_
            refine r_goto F dX6_tellTurn_48 ?_
            refine r_dr5 ?_
            exact ih (i + 1) (by omega) (by omega) (fun b hb => by
              rcases Nat.lt_or_ge b i with z | z
              · exact h3 b z
              · rw [show b = i by omega]
                have : lbid so ea c pl st i = i + 1 := fsN_none (fun o ho => h6 o (by omega))
                omega)
          · refine r_aload_n F dX6_tellTurn_19 rfl ?_
            refine r_iload F dX6_tellTurn_20 rfl ?_
            refine r_iload F dX6_tellTurn_22 rfl ?_
            refine r_iload_n F dX6_tellTurn_24 rfl ?_
            refine r_iload F dX6_tellTurn_25 rfl ?_
            refine r_isub F dX6_tellTurn_27 (by omega) ?_
            refine r_iload_n F dX6_tellTurn_28 rfl ?_
            refine r_iload_n F dX6_tellTurn_29 rfl ?_
            refine r_callV5i F fMX6_reachedBy tw_519 rfl rfl rfl rfl dX6_tellTurn_30 rfl rfl z0 (m6_reachedBy g hB hc hp hs hi (bid := j) (by omega)) ?_
            refine r_Beq F dX6_tellTurn_33 (fun h33 => ?_) (fun h33 => ?_)
            · refine r_iinc5 (y := 1) F dX6_tellTurn_39 rfl rfl rfl rfl ?_
              refine r_goto F dX6_tellTurn_42 ?_
              exact ihm (j + 1) (by omega) (by omega) (fun o ho => by rcases Nat.lt_or_ge o j with z | z; exact h6 o z; rw [show o = j by omega]; exact h33)
            · refine r_iload F dX6_tellTurn_36 rfl ?_
              exact i_iret F rfl dX6_tellTurn_38 (by
                have e1 : lbid so ea c pl st i = j := fsN_eq (by omega) h33 h6
                have e2 : fsN (fun b => decide (lbid so ea c pl st b ≤ b)) (c + 1) = i := fsN_eq (by omega) (by simp; omega) (fun k hk => by have := h3 k hk; simp; omega)
                unfold lbud tq
                rw [e2, if_pos hi, if_pos (by omega)]) rfl rfl
      refine r_iload F dX6_tellTurn_3 rfl ?_
      refine r_iload_n F dX6_tellTurn_5 rfl ?_
      refine r_icgt F dX6_tellTurn_6 (by omega) (by omega) (fun h6 => ?_) (fun h6 => ?_)
      · refine r_bipush (x := 21) F dX6_tellTurn_51 rfl ?_
        exact i_iret F rfl dX6_tellTurn_53 (by
          have e2 : fsN (fun b => decide (lbid so ea c pl st b ≤ b)) (c + 1) = c + 1 := fsN_none (fun k hk => by have := h3 k (by omega); simp; omega)
          have e3 : lbud so ea c pl st = 99 := by unfold lbud; rw [e2, if_neg (by omega)]
          rw [e3]; rfl) rfl rfl
      · refine r_iconst (x := 0) F dX6_tellTurn_9 rfl ?_
        refine r_ist5 F dX6_tellTurn_10 rfl rfl ?_
        exact inner (by omega) (i + 2) 0 (by omega) (by omega) (fun o ho => absurd ho (Nat.not_lt_zero o))
  refine r_iconst (x := 0) F dX6_tellTurn_0 rfl ?_
  refine r_ist4 F dX6_tellTurn_1 rfl rfl ?_
  exact loop (c + 2) 0 (by omega) (by omega) (fun o ho => absurd ho (Nat.not_lt_zero o))
