set_option maxHeartbeats 4000000 in
theorem m7_holds {G : GT} {v : VV} {L : LL} (g : GH G) {x c y : Nat} (hc : c ≤ 20) (hy : y ≤ c) : CC G MX7_holds [.int (nI (mk x c)), .int (nI y)] v L (rI (b01 (x ≤ y)) v L) := by
  refine cc_of g [some (.int (nI (mk x c))), some (.int (nI y))] rfl rfl rfl rfl (fun K F => ?_)
  have e := mk_bit (x := x) hc (y := y) (by omega)
  have l := mk_lt (x := x) hc
  refine r_iload_n F dX7_holds_0 rfl ?_
  refine r_iload_n F dX7_holds_1 rfl ?_
  refine R_ishr F dX7_holds_2 (nI_shr (by omega) (by omega)) ?_
  refine r_iconst (x := 1) F dX7_holds_3 rfl ?_
  refine R_iand F dX7_holds_4 (nI_one _) ?_
  refine r_iconst (x := 1) F dX7_holds_5 rfl ?_
  rw [e]
  refine r_icne F dX7_holds_6 (by omega) (by omega) (fun h6 => ?_) (fun h6 => ?_)
  · refine r_iconst (x := 0) F dX7_holds_13 rfl ?_
    exact b_iret F rfl dX7_holds_14 (by decide) (by unfold b01; split at h6 <;> split <;> omega) rfl rfl
  · refine r_iconst (x := 1) F dX7_holds_9 rfl ?_
    refine r_goto F dX7_holds_10 ?_
    exact b_iret F rfl dX7_holds_14 (by decide) (by unfold b01; split at h6 <;> split <;> omega) rfl rfl
theorem m3_everything {G : GT} {v : VV} {L : LL} (g : GH G) {c : Nat} (hc : c ≤ 20) : CC G MX3_everything [.ref (gB G 75), .int (nI c)] v L (rI (mk 0 c) v L) := by
  refine cc_of g [some (.ref (gB G 75)), some (.int (nI c))] rfl rfl rfl rfl (fun K F => ?_)
  refine r_iconst (x := 1) F dX3_everything_0 rfl ?_
  refine r_iload_n F dX3_everything_1 rfl ?_
  refine r_iconst (x := 1) F dX3_everything_2 rfl ?_
  refine r_iadd F dX3_everything_3 ?_
  refine R_ishl F dX3_everything_4 (nI_sh1 (by omega)) ?_
  refine r_iconst (x := 1) F dX3_everything_5 rfl ?_
  refine r_isub F dX3_everything_6 Nat.one_le_two_pow ?_
  exact i_iret F rfl dX3_everything_7 (by unfold mk; rw [if_pos (Nat.zero_le _)]) rfl rfl
theorem m3_nothing {G : GT} {v : VV} {L : LL} (g : GH G) {c : Nat} (hc : c ≤ 20) : CC G MX3_nothing [.ref (gB G 75)] v L (rI (mk 99 c) v L) := by
  refine cc_of g [some (.ref (gB G 75))] rfl rfl rfl rfl (fun K F => ?_)
  refine r_iconst (x := 0) F dX3_nothing_0 rfl ?_
  exact i_iret F rfl dX3_nothing_1 (by unfold mk; rw [if_neg (by omega)]) rfl rfl
theorem m3_either {G : GT} {v : VV} {L : LL} (g : GH G) {c x y : Nat} (hc : c ≤ 20) : CC G MX3_either [.ref (gB G 75), .int (nI (mk x c)), .int (nI (mk y c))] v L (rI (mk (if y < x then y else x) c) v L) := by
  refine cc_of g [some (.ref (gB G 75)), some (.int (nI (mk x c))), some (.int (nI (mk y c)))] rfl rfl rfl rfl (fun K F => ?_)
  refine r_iload_n F dX3_either_0 rfl ?_
  refine r_iload_n F dX3_either_1 rfl ?_
  refine R_ior F dX3_either_2 (nI_or _ _) ?_
  exact i_iret F rfl dX3_either_3 (mk_or hc) rfl rfl
theorem m3_both {G : GT} {v : VV} {L : LL} (g : GH G) {c x y : Nat} (hc : c ≤ 20) : CC G MX3_both [.ref (gB G 75), .int (nI (mk x c)), .int (nI (mk y c))] v L (rI (mk (if x < y then y else x) c) v L) := by
  refine cc_of g [some (.ref (gB G 75)), some (.int (nI (mk x c))), some (.int (nI (mk y c)))] rfl rfl rfl rfl (fun K F => ?_)
  refine r_iload_n F dX3_both_0 rfl ?_
  refine r_iload_n F dX3_both_1 rfl ?_
  refine R_iand F dX3_both_2 (nI_and _ _) ?_
  exact i_iret F rfl dX3_both_3 (mk_and hc) rfl rfl
theorem m6_everything {G : GT} {v : VV} {L : LL} (g : GH G) {c : Nat} : CC G MX6_everything [.ref (gB G 79), .int (nI c)] v L (rI (tq 0) v L) := by
  refine cc_of g [some (.ref (gB G 79)), some (.int (nI c))] rfl rfl rfl rfl (fun K F => ?_)
  refine r_iconst (x := 0) F dX6_everything_0 rfl ?_
  exact i_iret F rfl dX6_everything_1 rfl rfl rfl
theorem m6_nothing {G : GT} {v : VV} {L : LL} (g : GH G) : CC G MX6_nothing [.ref (gB G 79)] v L (rI (tq 99) v L) := by
  refine cc_of g [some (.ref (gB G 79))] rfl rfl rfl rfl (fun K F => ?_)
  refine r_bipush (x := 21) F dX6_nothing_0 rfl ?_
  exact i_iret F rfl dX6_nothing_2 rfl rfl rfl
theorem m6_either {G : GT} {v : VV} {L : LL} (g : GH G) {x y : Nat} : CC G MX6_either [.ref (gB G 79), .int (nI (tq x)), .int (nI (tq y))] v L (rI (tq (if y < x then y else x)) v L) := by
  refine cc_of g [some (.ref (gB G 79)), some (.int (nI (tq x))), some (.int (nI (tq y)))] rfl rfl rfl rfl (fun K F => ?_)
  have h1 := tq_lt x
  have h2 := tq_lt y
  refine r_iload_n F dX6_either_0 rfl ?_
  refine r_iload_n F dX6_either_1 rfl ?_
  refine r_min F tw_488 rfl z0 (by omega) (by omega) dX6_either_2 ?_
  exact i_iret F rfl dX6_either_5 (tq_min x y).symm rfl rfl
theorem m6_both {G : GT} {v : VV} {L : LL} (g : GH G) {x y : Nat} : CC G MX6_both [.ref (gB G 79), .int (nI (tq x)), .int (nI (tq y))] v L (rI (tq (if x < y then y else x)) v L) := by
  refine cc_of g [some (.ref (gB G 79)), some (.int (nI (tq x))), some (.int (nI (tq y)))] rfl rfl rfl rfl (fun K F => ?_)
  have h1 := tq_lt x
  have h2 := tq_lt y
  refine r_iload_n F dX6_both_0 rfl ?_
  refine r_iload_n F dX6_both_1 rfl ?_
  refine r_max F tw_498 rfl z0 (by omega) (by omega) dX6_both_2 ?_
  exact i_iret F rfl dX6_both_5 (tq_max x y).symm rfl rfl
/-- the least bid by which a bid is refuted, one above the rest if there is none -/
def refu (so ea : Nat → Nat) (c pl st b bid : Nat) : Nat := fsN (fun o => !isE so ea pl st b bid o) (c - b + 1)
/-- a number to m, or -1 -/
def orM (x m : Nat) : Int32 := if x ≤ m then nI x else -1
theorem orM_eq {x m : Nat} (hm : m < 2147483648) : orM x m = -1 ↔ m < x := by
  unfold orM
  split
  · constructor
    · intro h
      have h2 := nI_pos' (n := x) (by omega)
      rw [h] at h2
      exact absurd h2 (by decide)
    · intro h; omega
  · constructor
    · intro _; omega
    · intro _; rfl
theorem refu_win {so ea : Nat → Nat} {c pl st b bid : Nat} (hb : b ≤ c) : winB so ea c pl st b bid = true ↔ c - b < refu so ea c pl st b bid := by
  rw [win_all hb]
  constructor
  · intro h
    unfold refu
    rw [fsN_none (fun j hj => by rw [h j (by omega)]; rfl)]
    omega
  · intro h o ho
    have := fsN_no (fun o => !isE so ea pl st b bid o) (c - b + 1) o (by unfold refu at h; omega)
    simpa using this
/-- rows 1 and 2 of entries hold what is behind -/
def Bh (v : VV) (so ea : Nat → Nat) (c : Nat) : Prop := ∀ σ, σ < 2 → v 76 σ = mk (so σ) c ∧ v 77 σ = mk (ea σ) c
set_option maxHeartbeats 4000000 in
theorem m3_leastRefutation {G : GT} {v : VV} {L : LL} (g : GH G) {so ea : Nat → Nat} {c pl st b bid : Nat} (hB : Bh v so ea c) (hc : c ≤ 20) (hp : pl < 2) (hs : st < 2) (hb : b ≤ c) (hd : bid ≤ b) : CC G MX3_leastRefutation [.ref (gB G 75), .int (nI c), .int (nI pl), .int (nI b), .int (nI st), .int (nI bid)] v L (rR (orM (refu so ea c pl st b bid) (c - b)) v L) := by
  refine cc_of g [some (.ref (gB G 75)), some (.int (nI c)), some (.int (nI pl)), some (.int (nI b)), some (.int (nI st)), some (.int (nI bid)), none, none] rfl rfl rfl rfl (fun K F => ?_)
  have hit : ∀ k, k ≤ c - b → isE so ea pl st b bid k = false → (∀ j, j < k → isE so ea pl st b bid j = true) → orM (refu so ea c pl st b bid) (c - b) = nI k := by
    intro k hk h1 h2
    have e : refu so ea c pl st b bid = k := fsN_eq (by omega) (by rw [h1]; rfl) (fun j hj => by rw [h2 j hj]; rfl)
    unfold orM
    rw [e, if_pos hk]
  have loop : ∀ (n i : Nat), c + 1 < i + n → bid < i → i ≤ c + 1 → (∀ o, o < i → o ≤ c - b → isE so ea pl st b bid o = true) → CW G K 8 0 0 (MQ (kb K) (Qn G (rR (orM (refu so ea c pl st b bid) (c - b)) v L)) (ka K) (ks K) 0 0 (gA G)) v L 93 [some (.ref (gB G 75)), some (.int (nI c)), some (.int (nI pl)), some (.int (nI b)), some (.int (nI st)), some (.int (nI bid)), some (.int (nI (c - b))), some (.int (nI i))] [] := by
    intro n
    induction n with
    | zero => intro i h1 h2 h4; omega
    | succ n ih =>
      intro i h1 h2 h4 h3
      refine r_iload F dX3_leastRefutation_93 rfl ?_
      refine r_iload F dX3_leastRefutation_95 rfl ?_
      refine r_icgt F dX3_leastRefutation_97 (by omega) (by omega) (fun h97 => ?_) (fun h97 => ?_)
      · refine R_iconst (x := -1) F dX3_leastRefutation_126 rfl ?_
        exact r_iret F rfl rfl dX3_leastRefutation_127 ⟨by unfold orM refu; rw [fsN_none (fun j hj => by rw [h3 j (by omega) (by omega)]; rfl), if_neg (by omega)], rfl, rfl⟩
      · refine r_aload_n F dX3_leastRefutation_100 rfl ?_
        refine r_get (x := .ref (gB G 77)) (T := TX3) (n := 1) F uw3 rfl rfl tw_250 (Or.inr tw_251) dX3_leastRefutation_101 (kd_lt (rfl : kd 75 = (2,0,0)) (by decide)) (ce2 rfl) rfl ?_
        refine r_iload F dX3_leastRefutation_104 rfl ?_
        refine r_iald F dX3_leastRefutation_106 rfl (by omega) ?_
        refine r_iload_n F dX3_leastRefutation_107 rfl ?_
        refine r_iload F dX3_leastRefutation_108 rfl ?_
        refine r_iadd F dX3_leastRefutation_110 ?_
        rw [(hB st hs).2]
        refine r_callT2i F fMX7_holds tw_513 rfl dX3_leastRefutation_111 rfl rfl z0 (m7_holds g (x := ea st) (c := c) (y := b + i) hc (by omega)) ?_
        refine r_bne F dX3_leastRefutation_114 (fun h114 => ?_) (fun h114 => ?_)
        · refine r_iinc7 (y := 1) F dX3_leastRefutation_120 rfl rfl rfl rfl ?_
          refine r_goto F dX3_leastRefutation_123 ?_
          exact ih (i + 1) (by omega) (by omega) (by omega) (fun o ho h9 => by rcases Nat.lt_or_ge o i with z | z; exact h3 o z h9; unfold isE; rw [show o = i by omega, if_neg (by omega), if_pos (by omega)]; simp; omega)
        · refine r_iload F dX3_leastRefutation_117 rfl ?_
          exact r_iret F rfl rfl dX3_leastRefutation_119 ⟨by rw [hit i (by omega) (by unfold isE; rw [if_neg (by omega), if_pos (by omega)]; simp; omega) (fun j hj => h3 j hj (by omega))], rfl, rfl⟩
  have K87 : (∀ o, o ≤ bid → o ≤ c - b → isE so ea pl st b bid o = true) → CW G K 8 0 0 (MQ (kb K) (Qn G (rR (orM (refu so ea c pl st b bid) (c - b)) v L)) (ka K) (ks K) 0 0 (gA G)) v L 87 [some (.ref (gB G 75)), some (.int (nI c)), some (.int (nI pl)), some (.int (nI b)), some (.int (nI st)), some (.int (nI bid)), some (.int (nI (c - b))), none] [] := by
    intro h3
    refine r_iload F dX3_leastRefutation_87 rfl ?_
    refine r_iconst (x := 1) F dX3_leastRefutation_89 rfl ?_
    refine r_iadd F dX3_leastRefutation_90 ?_
    refine r_ist7 F dX3_leastRefutation_91 rfl rfl ?_
    exact loop (c + 3) (bid + 1) (by omega) (by omega) (by omega) (fun o ho h9 => h3 o (by omega) h9)
  have K29 : (∀ o, o < bid → isE so ea pl st b bid o = true) → CW G K 8 0 0 (MQ (kb K) (Qn G (rR (orM (refu so ea c pl st b bid) (c - b)) v L)) (ka K) (ks K) 0 0 (gA G)) v L 29 [some (.ref (gB G 75)), some (.int (nI c)), some (.int (nI pl)), some (.int (nI b)), some (.int (nI st)), some (.int (nI bid)), some (.int (nI (c - b))), none] [] := by
    intro h3
    refine r_iload F dX3_leastRefutation_29 rfl ?_
    refine r_iload F dX3_leastRefutation_31 rfl ?_
    refine r_icgt F dX3_leastRefutation_33 (by omega) (by omega) (fun h33 => ?_) (fun h33 => ?_)
    · first
        | exact K87 (fun o ho h9 => h3 o (by omega))
        | (refine r_dr7 ?_
           refine K87 (fun o ho h9 => ?_)
           rcases Nat.lt_or_ge o bid with z | z
           · exact h3 o z
           · rw [show o = bid by omega]
             unfold isE
             rw [if_neg (by omega), if_neg (by omega)]
             first | (rw [if_pos (by omega)]; simp; rw [show 1 - pl = 1 - st by omega]; omega) | (rw [if_neg (by omega)]; simp; rw [show pl = 1 - st by omega]; omega))
    · refine r_iload F dX3_leastRefutation_36 rfl ?_
      refine r_iload_n F dX3_leastRefutation_38 rfl ?_
      refine r_icne F dX3_leastRefutation_39 (by omega) (by omega) (fun h39 => ?_) (fun h39 => ?_)
      · refine r_aload_n F dX3_leastRefutation_61 rfl ?_
        refine r_get (x := .ref (gB G 77)) (T := TX3) (n := 1) F uw3 rfl rfl tw_250 (Or.inr tw_251) dX3_leastRefutation_62 (kd_lt (rfl : kd 75 = (2,0,0)) (by decide)) (ce2 rfl) rfl ?_
        refine r_iconst (x := 1) F dX3_leastRefutation_65 rfl ?_
        refine r_iload F dX3_leastRefutation_66 rfl ?_
        refine r_isub F dX3_leastRefutation_68 (by omega) ?_
        refine r_iald F dX3_leastRefutation_69 rfl (by omega) ?_
        refine r_iload_n F dX3_leastRefutation_70 rfl ?_
        refine r_iload F dX3_leastRefutation_71 rfl ?_
        refine r_iadd F dX3_leastRefutation_73 ?_
        rw [(hB (1 - st) (by omega)).2]
        refine r_callT2i F fMX7_holds tw_513 rfl dX3_leastRefutation_74 rfl rfl z0 (m7_holds g (x := ea (1 - st)) (c := c) (y := b + bid) hc (by omega)) ?_
        refine r_ist7 F dX3_leastRefutation_77 rfl rfl ?_
        refine r_iload F dX3_leastRefutation_79 rfl ?_
        refine r_bne F dX3_leastRefutation_81 (fun h81 => ?_) (fun h81 => ?_)
        · first
            | exact K87 (fun o ho h9 => h3 o (by omega))
            | (refine r_dr7 ?_
               refine K87 (fun o ho h9 => ?_)
               rcases Nat.lt_or_ge o bid with z | z
               · exact h3 o z
               · rw [show o = bid by omega]
                 unfold isE
                 rw [if_neg (by omega), if_neg (by omega)]
                 first | (rw [if_pos (by omega)]; simp; rw [show 1 - pl = 1 - st by omega]; omega) | (rw [if_neg (by omega)]; simp; rw [show pl = 1 - st by omega]; omega))
        · refine r_iload F dX3_leastRefutation_84 rfl ?_
          exact r_iret F rfl rfl dX3_leastRefutation_86 ⟨by rw [hit bid (by omega) (by unfold isE; rw [if_neg (by omega), if_neg (by omega)]; first | (rw [if_pos (by omega)]; simp; rw [show 1 - pl = 1 - st by omega]; omega) | (rw [if_neg (by omega)]; simp; rw [show pl = 1 - st by omega]; omega)) h3], rfl, rfl⟩
      · refine r_aload_n F dX3_leastRefutation_42 rfl ?_
        refine r_get (x := .ref (gB G 76)) (T := TX3) (n := 0) F uw3 rfl rfl tw_245 (Or.inr tw_246) dX3_leastRefutation_43 (kd_lt (rfl : kd 75 = (2,0,0)) (by decide)) (ce2 rfl) rfl ?_
        refine r_iconst (x := 1) F dX3_leastRefutation_46 rfl ?_
        refine r_iload F dX3_leastRefutation_47 rfl ?_
        refine r_isub F dX3_leastRefutation_49 (by omega) ?_
        refine r_iald F dX3_leastRefutation_50 rfl (by omega) ?_
        refine r_iload_n F dX3_leastRefutation_51 rfl ?_
        refine r_iload F dX3_leastRefutation_52 rfl ?_
        refine r_isub F dX3_leastRefutation_54 (by omega) ?_
        rw [(hB (1 - st) (by omega)).1]
        refine r_callT2i F fMX7_holds tw_513 rfl dX3_leastRefutation_55 rfl rfl z0 (m7_holds g (x := so (1 - st)) (c := c) (y := b - bid) hc (by omega)) ?_
        refine r_goto F dX3_leastRefutation_58 ?_
        refine r_ist7 F dX3_leastRefutation_77 rfl rfl ?_
        refine r_iload F dX3_leastRefutation_79 rfl ?_
        refine r_bne F dX3_leastRefutation_81 (fun h81 => ?_) (fun h81 => ?_)
        · first
            | exact K87 (fun o ho h9 => h3 o (by omega))
            | (refine r_dr7 ?_
               refine K87 (fun o ho h9 => ?_)
               rcases Nat.lt_or_ge o bid with z | z
               · exact h3 o z
               · rw [show o = bid by omega]
                 unfold isE
                 rw [if_neg (by omega), if_neg (by omega)]
                 first | (rw [if_pos (by omega)]; simp; rw [show 1 - pl = 1 - st by omega]; omega) | (rw [if_neg (by omega)]; simp; rw [show pl = 1 - st by omega]; omega))
        · refine r_iload F dX3_leastRefutation_84 rfl ?_
          exact r_iret F rfl rfl dX3_leastRefutation_86 ⟨by rw [hit bid (by omega) (by unfold isE; rw [if_neg (by omega), if_neg (by omega)]; first | (rw [if_pos (by omega)]; simp; rw [show 1 - pl = 1 - st by omega]; omega) | (rw [if_neg (by omega)]; simp; rw [show pl = 1 - st by omega]; omega)) h3], rfl, rfl⟩
  refine r_iload_n F dX3_leastRefutation_0 rfl ?_
  refine r_iload_n F dX3_leastRefutation_1 rfl ?_
  refine r_isub F dX3_leastRefutation_2 (by omega) ?_
  refine r_ist6 F dX3_leastRefutation_3 rfl rfl ?_
  refine r_iload F dX3_leastRefutation_5 rfl ?_
  refine r_ifle F dX3_leastRefutation_7 (by omega) (fun h7 => ?_) (fun h7 => ?_)
  · exact K29 (fun o ho => by unfold isE; rw [if_pos ho]; simp; omega)
  · refine r_aload_n F dX3_leastRefutation_10 rfl ?_
    refine r_get (x := .ref (gB G 76)) (T := TX3) (n := 0) F uw3 rfl rfl tw_245 (Or.inr tw_246) dX3_leastRefutation_11 (kd_lt (rfl : kd 75 = (2,0,0)) (by decide)) (ce2 rfl) rfl ?_
    refine r_iload F dX3_leastRefutation_14 rfl ?_
    refine r_iald F dX3_leastRefutation_16 rfl (by omega) ?_
    refine r_iload_n F dX3_leastRefutation_17 rfl ?_
    refine r_iload F dX3_leastRefutation_18 rfl ?_
    refine r_isub F dX3_leastRefutation_20 (by omega) ?_
    rw [(hB st hs).1]
    refine r_callT2i F fMX7_holds tw_513 rfl dX3_leastRefutation_21 rfl rfl z0 (m7_holds g (x := so st) (c := c) (y := b - bid) hc (by omega)) ?_
    refine r_bne F dX3_leastRefutation_24 (fun h24 => ?_) (fun h24 => ?_)
    · exact K29 (fun o ho => by unfold isE; rw [if_pos ho]; simp; omega)
    · refine r_iconst (x := 0) F dX3_leastRefutation_27 rfl ?_
      exact r_iret F rfl rfl dX3_leastRefutation_28 ⟨by rw [hit 0 (by omega) (by unfold isE; rw [if_pos (by omega)]; simp; omega) (fun j hj => absurd hj (Nat.not_lt_zero j))], rfl, rfl⟩
