theorem RSt.tie {v : VV} {S : Nat → Nat} (h : RSt 1 v S) {b o : Nat} (hb : b = o) : RSt 1 (up2 (up2 v 1 9 (v 1 9 + 1)) 1 5 (1 - v 1 5)) (bidT S b o) := by
  have h0 := h
  obtain ⟨a1, a2, a3, a4, a5, a6, a7, a8, a9, a10, a11, a12, -⟩ := h
  have e : bidT S b o = upN (upN S 10 (S 10 + 1)) 3 (1 - S 3) := if_pos hb
  rw [e]
  refine h0.cell ?_ ?_ ?_ ?_ ?_ ?_ ?_ ?_ ?_ ?_ ?_ ?_ (fun k k1 k2 => by rw [up2_k _ (by omega), up2_k _ (by omega)]) (fun j hj => by rw [upN_n _ _ (by omega), upN_n _ _ (by omega)])
  · simpa [up2, upN] using a1
  · simpa [up2, upN] using a2
  · simpa [up2, upN] using a3
  · simpa [up2, upN] using a4
  · simp [up2, upN, a5]
  · simpa [up2, upN] using a6
  · simp [up2, upN, a7]
  · simpa [up2, upN] using a8
  · simpa [up2, upN] using a9
  · simpa [up2, upN] using a10
  · simpa [up2, upN] using a11
  · simpa [up2, upN] using a12
theorem RSt.buy {v : VV} {S : Nat → Nat} (h : RSt 1 v S) {pl : Nat} (hp : pl < 2) (pr : Nat) : RSt 1 (byT v 1 pl pr) (buyS S pl pr) := by
  have h0 := h
  obtain ⟨a1, a2, a3, a4, a5, a6, a7, a8, a9, a10, a11, a12, -⟩ := h
  have q : pl = 0 ∨ pl = 1 := by omega
  refine h0.cell ?_ ?_ ?_ ?_ ?_ ?_ ?_ ?_ ?_ ?_ ?_ ?_ (fun k k1 k2 => by unfold byT; rw [up2_k _ (by omega), up2_k _ (by omega), up2_k _ (by omega), up2_k _ (by omega)]) (fun j hj => buyS_hi S hp pr hj)
  · rcases q with rfl | rfl <;> simpa [byT, up2, buyS, upN] using a1
  · rcases q with rfl | rfl <;> simpa [byT, up2, buyS, upN] using a2
  · rcases q with rfl | rfl <;> simpa [byT, up2, buyS, upN] using a3
  · rcases q with rfl | rfl <;> simp [byT, up2, buyS, upN, a4]
  · rcases q with rfl | rfl <;> simpa [byT, up2, buyS, upN] using a5
  · rcases q with rfl | rfl <;> simp [byT, up2, buyS, upN, bq]
  · rcases q with rfl | rfl <;> simpa [byT, up2, buyS, upN] using a7
  · rcases q with rfl | rfl <;> simpa [byT, up2, buyS, upN] using a8
  · rcases q with rfl | rfl <;> simpa [byT, up2, buyS, upN] using a9
  · rcases q with rfl | rfl <;> simpa [byT, up2, buyS, upN] using a10
  · rcases q with rfl | rfl <;> simpa [byT, up2, buyS, upN] using a11
  · rcases q with rfl | rfl <;> simpa [byT, up2, buyS, upN] using a12
set_option maxHeartbeats 8000000 in
theorem m7_bidY {G : GT} {v : VV} {L : LL} {a : AS} (g : GH G) (h : IC v a) (w : WA a) {b o : Nat} (hb : b ≤ bud (sS a) 0) (ho : o ≤ bud (sS a) 1) (hn : rbN (sS a) (nI b) (nI o) = 0) : CC G MX7_bid [.ref (gB G 0), .int (nI b), .int (nI o)] v L (gI (PC v L (stA (svA a) (bidS (sS a) b o)) (nI (10 + buyer (sS a) b o)))) := by
  refine cc_of g [some (.ref (gB G 0)), some (.int (nI b)), some (.int (nI o)), none, none] rfl rfl rfl rfl (fun K F => ?_)
  have w0 : sS a 0 ≤ 20 := w.1.1
  have w2 : sS a 2 ≤ sS a 0 := w.1.2.2.1
  have w3 : sS a 3 ≤ 1 := w.1.2.2.2.1
  have hb' : b ≤ sS a 2 := hb
  have ho' : o ≤ sS a 0 - sS a 2 := ho
  obtain ⟨p1, p2⟩ := buyer_pay w.1 hb ho
  have fin : ∀ (v1 v2 : VV) (y z : Nat), IP v v1 a → RSt 1 v2 (bidT (sS a) b o) → (∀ k, 8 ≤ k → v2 k = v1 k) → y = buyer (sS a) b o → CW G K 5 0 0 (MQ (kb K) (Qn G (gI (PC v L (stA (svA a) (bidS (sS a) b o)) (nI (10 + buyer (sS a) b o))))) (ka K) (ks K) 0 0 (gA G)) v2 L 98 [some (.ref (gB G 0)), some (.int (nI b)), some (.int (nI o)), some (.int (nI z)), some (.int (nI y))] [] := by
    intro v1 v2 y z hi hr hk hy
    have hr4 : v2 1 4 = sS a 2 := by rw [hr.2.2.2.1, bidT_lo _ _ _ (by decide) (by decide)]
    have hy2 : y < 2 := by rw [hy]; exact buyer_lt w.1 b o
    refine r_aload_n F dX7_bid_98 rfl ?_
    refine r_get (x := .ref (gB G 1)) (T := TX7) (n := 0) F uw7 rfl rfl tw_274 (Or.inl rfl) dX7_bid_99 (kd_lt (rfl : kd 0 = (6,0,0)) (by decide)) (ce6 rfl) rfl ?_
    refine r_iload F dX7_bid_102 rfl ?_
    refine r_iload_n F dX7_bid_104 rfl ?_
    refine r_iload_n F dX7_bid_105 rfl ?_
    refine r_max F tw_360 rfl z0 (by omega) (by omega) dX7_bid_106 ?_
    refine r_callN2v F fMX5_buyTurn tw_363 rfl rfl rfl rfl dX7_bid_109 rfl rfl z0 (m5_buyTurn g st1 hy2 (fun z => by rw [hr4]; exact p1 (by rw [← hy]; exact z))) ?_
    refine r_bipush (x := 10) F dX7_bid_112 rfl ?_
    refine r_iload F dX7_bid_114 rfl ?_
    refine r_iadd F dX7_bid_116 ?_
    refine r_iret F rfl rfl dX7_bid_117 ⟨_, rfl, by rw [hy], rfl, hi.to (by rw [hy]; exact hr.buy (buyer_lt w.1 b o) _) (fun k hk2 => ?_) (bidS_b w.1 b o)⟩
    rw [← hk k hk2]
    unfold byT
    rw [up2_k _ (by omega), up2_k _ (by omega), up2_k _ (by omega), up2_k _ (by omega)]
  refine r_aload_n F dX7_bid_0 rfl ?_
  refine r_get (x := .ref (gB G 64)) (T := TX7) (n := 1) F uw7 rfl rfl tw_275 (Or.inl rfl) dX7_bid_1 (kd_lt (rfl : kd 0 = (6,0,0)) (by decide)) (ce6 rfl) rfl ?_
  refine r_aload_n F dX7_bid_4 rfl ?_
  refine r_get (x := .ref (gB G 1)) (T := TX7) (n := 0) F uw7 rfl rfl tw_274 (Or.inl rfl) dX7_bid_5 (kd_lt (rfl : kd 0 = (6,0,0)) (by decide)) (ce6 rfl) rfl ?_
  refine r_callN1w F fMX4_push tw_304 rfl rfl rfl rfl dX7_bid_8 rfl rfl z0 (m4_push g h.1 w.1 h.2.1.1) ?_
  rintro v1 L1 ⟨rfl, f1, f2⟩
  have hi := ip_of h f1 f2
  have a5 : v1 1 5 = sS a 3 := hi.1.2.2.2.2.1
  refine r_aload_n F dX7_bid_11 rfl ?_
  refine r_iload_n F dX7_bid_12 rfl ?_
  refine r_iload_n F dX7_bid_13 rfl ?_
  refine r_callV2i F fMX7_reasonAgainstBids tw_344 rfl rfl rfl rfl dX7_bid_14 rfl rfl z0 (m7_reasonAgainstBids g hi.1 w.1 (nI b) (nI o)) ?_
  refine r_ist3 F dX7_bid_17 rfl rfl ?_
  refine r_iload_n F dX7_bid_18 rfl ?_
  refine r_ifeq F dX7_bid_19 (by rw [hn]; decide) (fun h19 => ?_) (fun h19 => ?_)
  · refine r_iload_n F dX7_bid_37 rfl ?_
    refine r_iload_n F dX7_bid_38 rfl ?_
    refine r_icne F dX7_bid_39 (by omega) (by omega) (fun h39 => ?_) (fun h39 => ?_)
    · refine r_iload_n F dX7_bid_52 rfl ?_
      refine r_iload_n F dX7_bid_53 rfl ?_
      refine r_icle F dX7_bid_54 (by omega) (by omega) (fun h54 => ?_) (fun h54 => ?_)
      · refine r_iconst (x := 1) F dX7_bid_61 rfl ?_
        refine r_ist4 F dX7_bid_62 rfl rfl ?_
        refine r_iload_n F dX7_bid_64 rfl ?_
        refine r_iload_n F dX7_bid_65 rfl ?_
        refine r_icne F dX7_bid_66 (by omega) (by omega) (fun h66 => ?_) (fun h66 => ?_)
        · first
            | exact fin v1 _ _ _ hi (by rw [← a5]; exact hi.1.tie (by omega)) (fun k hk => by rw [up2_k _ (by omega), up2_k _ (by omega)]) (by unfold buyer; first | (rw [if_pos (by omega)]; done) | (rw [if_pos (by omega), a5]; done) | (rw [if_neg (by omega), if_pos (by omega)]; done) | (rw [if_neg (by omega), if_neg (by omega)]; done))
            | exact fin v1 _ _ _ hi (by rw [show bidT (sS a) b o = sS a from if_neg (by omega)]; exact hi.1) (fun k hk => rfl) (by unfold buyer; first | (rw [if_pos (by omega)]; done) | (rw [if_pos (by omega), a5]; done) | (rw [if_neg (by omega), if_pos (by omega)]; done) | (rw [if_neg (by omega), if_neg (by omega)]; done))
            | (exfalso; omega)
        · refine r_aload_n F dX7_bid_69 rfl ?_
          refine r_get (x := .ref (gB G 1)) (T := TX7) (n := 0) F uw7 rfl rfl tw_274 (Or.inl rfl) dX7_bid_70 (kd_lt (rfl : kd 0 = (6,0,0)) (by decide)) (ce6 rfl) rfl ?_
          refine r_dup F dX7_bid_73 rfl ?_
          refine r_getN (T := TX5) (n := 9) F uw5 rfl rfl tw_151 (Or.inl rfl) dX7_bid_74 (kd_lt (rfl : kd 1 = (4,0,0)) (by decide)) (ce4 rfl) rfl ?_
          refine r_iconst (x := 1) F dX7_bid_77 rfl ?_
          refine r_iadd F dX7_bid_78 ?_
          refine r_putN (T := TX5) (n := 9) (ty0 := tyX5) (ty := .int) F uw5 tyX5_ok nmX5 rfl rfl tw_151 (Or.inl rfl) rfl rfl rfl rfl dX7_bid_79 (kd_lt (rfl : kd 1 = (4,0,0)) (by decide)) (ce4 rfl) rfl (pe4_9 rfl) up2_ce ?_
          refine r_aload_n F dX7_bid_82 rfl ?_
          refine r_get (x := .ref (gB G 1)) (T := TX7) (n := 0) F uw7 rfl rfl tw_274 (Or.inl rfl) dX7_bid_83 (kd_lt (rfl : kd 0 = (6,0,0)) (by decide)) (ce6 rfl) rfl ?_
          refine r_iconst (x := 1) F dX7_bid_86 rfl ?_
          refine r_aload_n F dX7_bid_87 rfl ?_
          refine r_get (x := .ref (gB G 1)) (T := TX7) (n := 0) F uw7 rfl rfl tw_274 (Or.inl rfl) dX7_bid_88 (kd_lt (rfl : kd 0 = (6,0,0)) (by decide)) (ce6 rfl) rfl ?_
          refine r_getN (T := TX5) (n := 5) F uw5 rfl rfl tw_142 (Or.inl rfl) dX7_bid_91 (kd_lt (rfl : kd 1 = (4,0,0)) (by decide)) (ce4 rfl) rfl ?_
          rw [up2_j (b := 5) _ (by decide), a5]
          refine r_isub F dX7_bid_94 (by omega) ?_
          refine r_putN (T := TX5) (n := 5) (ty0 := tyX5) (ty := .int) F uw5 tyX5_ok nmX5 rfl rfl tw_142 (Or.inl rfl) rfl rfl rfl rfl dX7_bid_95 (kd_lt (rfl : kd 1 = (4,0,0)) (by decide)) (ce4 rfl) rfl (pe4_5 rfl) up2_ce ?_
          first
            | exact fin v1 _ _ _ hi (by rw [← a5]; exact hi.1.tie (by omega)) (fun k hk => by rw [up2_k _ (by omega), up2_k _ (by omega)]) (by unfold buyer; first | (rw [if_pos (by omega)]; done) | (rw [if_pos (by omega), a5]; done) | (rw [if_neg (by omega), if_pos (by omega)]; done) | (rw [if_neg (by omega), if_neg (by omega)]; done))
            | exact fin v1 _ _ _ hi (by rw [show bidT (sS a) b o = sS a from if_neg (by omega)]; exact hi.1) (fun k hk => rfl) (by unfold buyer; first | (rw [if_pos (by omega)]; done) | (rw [if_pos (by omega), a5]; done) | (rw [if_neg (by omega), if_pos (by omega)]; done) | (rw [if_neg (by omega), if_neg (by omega)]; done))
            | (exfalso; omega)
      · refine r_iconst (x := 0) F dX7_bid_57 rfl ?_
        refine r_goto F dX7_bid_58 ?_
        refine r_ist4 F dX7_bid_62 rfl rfl ?_
        refine r_iload_n F dX7_bid_64 rfl ?_
        refine r_iload_n F dX7_bid_65 rfl ?_
        refine r_icne F dX7_bid_66 (by omega) (by omega) (fun h66 => ?_) (fun h66 => ?_)
        · first
            | exact fin v1 _ _ _ hi (by rw [← a5]; exact hi.1.tie (by omega)) (fun k hk => by rw [up2_k _ (by omega), up2_k _ (by omega)]) (by unfold buyer; first | (rw [if_pos (by omega)]; done) | (rw [if_pos (by omega), a5]; done) | (rw [if_neg (by omega), if_pos (by omega)]; done) | (rw [if_neg (by omega), if_neg (by omega)]; done))
            | exact fin v1 _ _ _ hi (by rw [show bidT (sS a) b o = sS a from if_neg (by omega)]; exact hi.1) (fun k hk => rfl) (by unfold buyer; first | (rw [if_pos (by omega)]; done) | (rw [if_pos (by omega), a5]; done) | (rw [if_neg (by omega), if_pos (by omega)]; done) | (rw [if_neg (by omega), if_neg (by omega)]; done))
            | (exfalso; omega)
        · refine r_aload_n F dX7_bid_69 rfl ?_
          refine r_get (x := .ref (gB G 1)) (T := TX7) (n := 0) F uw7 rfl rfl tw_274 (Or.inl rfl) dX7_bid_70 (kd_lt (rfl : kd 0 = (6,0,0)) (by decide)) (ce6 rfl) rfl ?_
          refine r_dup F dX7_bid_73 rfl ?_
          refine r_getN (T := TX5) (n := 9) F uw5 rfl rfl tw_151 (Or.inl rfl) dX7_bid_74 (kd_lt (rfl : kd 1 = (4,0,0)) (by decide)) (ce4 rfl) rfl ?_
          refine r_iconst (x := 1) F dX7_bid_77 rfl ?_
          refine r_iadd F dX7_bid_78 ?_
          refine r_putN (T := TX5) (n := 9) (ty0 := tyX5) (ty := .int) F uw5 tyX5_ok nmX5 rfl rfl tw_151 (Or.inl rfl) rfl rfl rfl rfl dX7_bid_79 (kd_lt (rfl : kd 1 = (4,0,0)) (by decide)) (ce4 rfl) rfl (pe4_9 rfl) up2_ce ?_
          refine r_aload_n F dX7_bid_82 rfl ?_
          refine r_get (x := .ref (gB G 1)) (T := TX7) (n := 0) F uw7 rfl rfl tw_274 (Or.inl rfl) dX7_bid_83 (kd_lt (rfl : kd 0 = (6,0,0)) (by decide)) (ce6 rfl) rfl ?_
          refine r_iconst (x := 1) F dX7_bid_86 rfl ?_
          refine r_aload_n F dX7_bid_87 rfl ?_
          refine r_get (x := .ref (gB G 1)) (T := TX7) (n := 0) F uw7 rfl rfl tw_274 (Or.inl rfl) dX7_bid_88 (kd_lt (rfl : kd 0 = (6,0,0)) (by decide)) (ce6 rfl) rfl ?_
          refine r_getN (T := TX5) (n := 5) F uw5 rfl rfl tw_142 (Or.inl rfl) dX7_bid_91 (kd_lt (rfl : kd 1 = (4,0,0)) (by decide)) (ce4 rfl) rfl ?_
          rw [up2_j (b := 5) _ (by decide), a5]
          refine r_isub F dX7_bid_94 (by omega) ?_
          refine r_putN (T := TX5) (n := 5) (ty0 := tyX5) (ty := .int) F uw5 tyX5_ok nmX5 rfl rfl tw_142 (Or.inl rfl) rfl rfl rfl rfl dX7_bid_95 (kd_lt (rfl : kd 1 = (4,0,0)) (by decide)) (ce4 rfl) rfl (pe4_5 rfl) up2_ce ?_
          first
            | exact fin v1 _ _ _ hi (by rw [← a5]; exact hi.1.tie (by omega)) (fun k hk => by rw [up2_k _ (by omega), up2_k _ (by omega)]) (by unfold buyer; first | (rw [if_pos (by omega)]; done) | (rw [if_pos (by omega), a5]; done) | (rw [if_neg (by omega), if_pos (by omega)]; done) | (rw [if_neg (by omega), if_neg (by omega)]; done))
            | exact fin v1 _ _ _ hi (by rw [show bidT (sS a) b o = sS a from if_neg (by omega)]; exact hi.1) (fun k hk => rfl) (by unfold buyer; first | (rw [if_pos (by omega)]; done) | (rw [if_pos (by omega), a5]; done) | (rw [if_neg (by omega), if_pos (by omega)]; done) | (rw [if_neg (by omega), if_neg (by omega)]; done))
            | (exfalso; omega)
    · refine r_aload_n F dX7_bid_42 rfl ?_
      refine r_get (x := .ref (gB G 1)) (T := TX7) (n := 0) F uw7 rfl rfl tw_274 (Or.inl rfl) dX7_bid_43 (kd_lt (rfl : kd 0 = (6,0,0)) (by decide)) (ce6 rfl) rfl ?_
      refine r_getN (T := TX5) (n := 5) F uw5 rfl rfl tw_142 (Or.inl rfl) dX7_bid_46 (kd_lt (rfl : kd 1 = (4,0,0)) (by decide)) (ce4 rfl) rfl ?_
      refine r_goto F dX7_bid_49 ?_
      refine r_ist4 F dX7_bid_62 rfl rfl ?_
      refine r_iload_n F dX7_bid_64 rfl ?_
      refine r_iload_n F dX7_bid_65 rfl ?_
      refine r_icne F dX7_bid_66 (by omega) (by omega) (fun h66 => ?_) (fun h66 => ?_)
      · first
          | exact fin v1 _ _ _ hi (by rw [← a5]; exact hi.1.tie (by omega)) (fun k hk => by rw [up2_k _ (by omega), up2_k _ (by omega)]) (by unfold buyer; first | (rw [if_pos (by omega)]; done) | (rw [if_pos (by omega), a5]; done) | (rw [if_neg (by omega), if_pos (by omega)]; done) | (rw [if_neg (by omega), if_neg (by omega)]; done))
          | exact fin v1 _ _ _ hi (by rw [show bidT (sS a) b o = sS a from if_neg (by omega)]; exact hi.1) (fun k hk => rfl) (by unfold buyer; first | (rw [if_pos (by omega)]; done) | (rw [if_pos (by omega), a5]; done) | (rw [if_neg (by omega), if_pos (by omega)]; done) | (rw [if_neg (by omega), if_neg (by omega)]; done))
          | (exfalso; omega)
      · refine r_aload_n F dX7_bid_69 rfl ?_
        refine r_get (x := .ref (gB G 1)) (T := TX7) (n := 0) F uw7 rfl rfl tw_274 (Or.inl rfl) dX7_bid_70 (kd_lt (rfl : kd 0 = (6,0,0)) (by decide)) (ce6 rfl) rfl ?_
        refine r_dup F dX7_bid_73 rfl ?_
        refine r_getN (T := TX5) (n := 9) F uw5 rfl rfl tw_151 (Or.inl rfl) dX7_bid_74 (kd_lt (rfl : kd 1 = (4,0,0)) (by decide)) (ce4 rfl) rfl ?_
        refine r_iconst (x := 1) F dX7_bid_77 rfl ?_
        refine r_iadd F dX7_bid_78 ?_
        refine r_putN (T := TX5) (n := 9) (ty0 := tyX5) (ty := .int) F uw5 tyX5_ok nmX5 rfl rfl tw_151 (Or.inl rfl) rfl rfl rfl rfl dX7_bid_79 (kd_lt (rfl : kd 1 = (4,0,0)) (by decide)) (ce4 rfl) rfl (pe4_9 rfl) up2_ce ?_
        refine r_aload_n F dX7_bid_82 rfl ?_
        refine r_get (x := .ref (gB G 1)) (T := TX7) (n := 0) F uw7 rfl rfl tw_274 (Or.inl rfl) dX7_bid_83 (kd_lt (rfl : kd 0 = (6,0,0)) (by decide)) (ce6 rfl) rfl ?_
        refine r_iconst (x := 1) F dX7_bid_86 rfl ?_
        refine r_aload_n F dX7_bid_87 rfl ?_
        refine r_get (x := .ref (gB G 1)) (T := TX7) (n := 0) F uw7 rfl rfl tw_274 (Or.inl rfl) dX7_bid_88 (kd_lt (rfl : kd 0 = (6,0,0)) (by decide)) (ce6 rfl) rfl ?_
        refine r_getN (T := TX5) (n := 5) F uw5 rfl rfl tw_142 (Or.inl rfl) dX7_bid_91 (kd_lt (rfl : kd 1 = (4,0,0)) (by decide)) (ce4 rfl) rfl ?_
        rw [up2_j (b := 5) _ (by decide), a5]
        refine r_isub F dX7_bid_94 (by omega) ?_
        refine r_putN (T := TX5) (n := 5) (ty0 := tyX5) (ty := .int) F uw5 tyX5_ok nmX5 rfl rfl tw_142 (Or.inl rfl) rfl rfl rfl rfl dX7_bid_95 (kd_lt (rfl : kd 1 = (4,0,0)) (by decide)) (ce4 rfl) rfl (pe4_5 rfl) up2_ce ?_
        first
          | exact fin v1 _ _ _ hi (by rw [← a5]; exact hi.1.tie (by omega)) (fun k hk => by rw [up2_k _ (by omega), up2_k _ (by omega)]) (by unfold buyer; first | (rw [if_pos (by omega)]; done) | (rw [if_pos (by omega), a5]; done) | (rw [if_neg (by omega), if_pos (by omega)]; done) | (rw [if_neg (by omega), if_neg (by omega)]; done))
          | exact fin v1 _ _ _ hi (by rw [show bidT (sS a) b o = sS a from if_neg (by omega)]; exact hi.1) (fun k hk => rfl) (by unfold buyer; first | (rw [if_pos (by omega)]; done) | (rw [if_pos (by omega), a5]; done) | (rw [if_neg (by omega), if_pos (by omega)]; done) | (rw [if_neg (by omega), if_neg (by omega)]; done))
          | (exfalso; omega)
  · exact absurd hn h19
theorem rb_acc {S : Nat → Nat} (w : WS S) {x y : Int32} (h : rbN S x y = 0) : ∃ b o, b ≤ bud S 0 ∧ o ≤ bud S 1 ∧ x = nI b ∧ y = nI o := by
  have w0 := w.1
  have w2 := w.2.2.1
  have b0 : bud S 0 ≤ 20 := by show S 2 ≤ 20; omega
  have b1 : bud S 1 ≤ 20 := by show S 0 - S 2 ≤ 20; omega
  unfold rbN at h
  split at h
  · cases h
  split at h
  · cases h
  split at h
  · cases h
  split at h
  · cases h
  rename_i _ _ h1 h2
  rcases in_or x (bud S 0) (by omega) with z | ⟨b, hb, rfl⟩
  · rcases z with z | z
    · exact absurd (Or.inl z) h1
    · exact absurd (Or.inl z) h2
  rcases in_or y (bud S 1) (by omega) with z | ⟨o, ho, rfl⟩
  · rcases z with z | z
    · exact absurd (Or.inr z) h1
    · exact absurd (Or.inr z) h2
  exact ⟨b, o, hb, ho, rfl, rfl⟩
theorem rm_acc {S : Nat → Nat} (w : WS S) {x : Int32} (h : rmN S x = 0) : ∃ q, q < 8 ∧ x = nI q := by
  unfold rmN at h
  split at h
  · cases h
  split at h
  · cases h
  split at h
  · rename_i h2
    exact hm_to w.b w.2.2.2.2.1 h2
  · cases h
