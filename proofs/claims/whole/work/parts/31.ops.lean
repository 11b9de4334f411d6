theorem addM_lo (S : Nat → Nat) (p q : Nat) {j : Nat} (h : j < 12) : addM S p q j = S j := by unfold addM; rw [upN_n _ _ (by omega), upN_n _ _ (by omega)]
set_option maxHeartbeats 4000000 in
theorem m7_addMove {G : GT} {v : VV} {L : LL} {a : AS} (g : GH G) (h : IC v a) (w : WA a) {p q : Nat} (hp : p < 8) (hq : q < 8) (hne : p ≠ q) (hh : hm (sS a) p (nI q) = false) (hc : sS a (13 + 6 * p) < 4) : CC G MX7_addMove [.ref (gB G 0), .int (nI p), .int (nI q)] v L (gI (PC v L (stA (svA a) (addM (sS a) p q)) (nI (sS a (13 + 6 * p) + 1)))) := by
  refine cc_of g [some (.ref (gB G 0)), some (.int (nI p)), some (.int (nI q)), none] rfl rfl rfl rfl (fun K F => ?_)
  have e4 : v 4 p = sS a (13 + 6 * p) := (h.1.b p hp).2.1
  refine r_iload_n F dX7_addMove_0 rfl ?_
  refine r_callS1v F fMX7_needPosition tw_623 rfl dX7_addMove_1 rfl rfl z0 (m7_needPosition g (p := p) (by omega)) ?_
  refine r_iload_n F dX7_addMove_4 rfl ?_
  refine r_callS1v F fMX7_needPosition tw_623 rfl dX7_addMove_5 rfl rfl z0 (m7_needPosition g (p := q) (by omega)) ?_
  refine r_iload_n F dX7_addMove_8 rfl ?_
  refine r_iload_n F dX7_addMove_9 rfl ?_
  refine r_icne F dX7_addMove_10 (by omega) (by omega) (fun h10 => ?_) (fun h10 => ?_)
  · refine r_aload_n F dX7_addMove_23 rfl ?_
    refine r_get (x := .ref (gB G 1)) (T := TX7) (n := 0) F uw7 rfl rfl tw_274 (Or.inl rfl) dX7_addMove_24 (kd_lt (rfl : kd 0 = (6,0,0)) (by decide)) (ce6 rfl) rfl ?_
    refine r_getN (x := .ref (gB G 2)) (T := TX5) (n := 0) F uw5 rfl rfl tw_129 (Or.inl rfl) dX7_addMove_27 (kd_lt (rfl : kd 1 = (4,0,0)) (by decide)) (ce4 rfl) rfl ?_
    refine r_ast3 F dX7_addMove_30 rfl rfl ?_
    refine r_aload_n F dX7_addMove_31 rfl ?_
    refine r_iload_n F dX7_addMove_32 rfl ?_
    refine r_iload_n F dX7_addMove_33 rfl ?_
    refine r_callN2i F fMX0_hasMove tw_375 rfl rfl rfl rfl dX7_addMove_34 rfl rfl z0 (m0_hasMove g bd2 h.1.b w.1.b hp (nI q)) ?_
    refine r_Bne F dX7_addMove_37 (fun h37 => ?_) (fun h37 => ?_)
    · first | omega | (rw [hh] at h37; cases h37)
    · refine r_aload_n F dX7_addMove_40 rfl ?_
      refine r_getN (x := .ref (gB G 4)) (T := TX0) (n := 1) F uw0 rfl rfl tw_116 (Or.inl rfl) dX7_addMove_41 (kd_lt (rfl : kd 2 = (0,0,0)) (by decide)) (ce0 rfl) rfl ?_
      refine r_iload_n F dX7_addMove_44 rfl ?_
      refine r_iald F dX7_addMove_45 rfl (by omega) ?_
      refine r_iconst (x := 4) F dX7_addMove_46 rfl ?_
      refine r_iclt F dX7_addMove_47 (by omega) (by omega) (fun h47 => ?_) (fun h47 => ?_)
      · refine r_aload_n F dX7_addMove_60 rfl ?_
        refine r_callV0w F fMX7_saveBeforeBoard tw_300 rfl rfl rfl rfl dX7_addMove_61 rfl rfl z0 (m7_saveBeforeBoard g h w) ?_
        rintro v1 L1 ⟨rfl, hs⟩
        have f4 : v1 4 p = sS a (13 + 6 * p) := by rw [hs.2.2.2.2 4 (by decide)]; exact e4
        refine r_aload_n F dX7_addMove_64 rfl ?_
        refine r_iload_n F dX7_addMove_65 rfl ?_
        refine r_iload_n F dX7_addMove_66 rfl ?_
        refine r_callN2v F fMX0_putMove tw_738 rfl rfl rfl rfl dX7_addMove_67 rfl rfl z0 (m0_putMove g bd2 (p := p) (to := q) hp (by show v1 4 p < 4; omega)) ?_
        refine r_aload_n F dX7_addMove_70 rfl ?_
        refine r_getN (x := .ref (gB G 4)) (T := TX0) (n := 1) F uw0 rfl rfl tw_116 (Or.inl rfl) dX7_addMove_71 (kd_lt (rfl : kd 2 = (0,0,0)) (by decide)) (ce0 rfl) rfl ?_
        refine r_iload_n F dX7_addMove_74 rfl ?_
        refine r_iald F dX7_addMove_75 rfl (by omega) ?_
        refine r_iret F rfl rfl dX7_addMove_76 ⟨_, rfl, ?_, rfl, hs.to (hs.1.board ?_ ?_ ?_ (RB_addM hs.1.b w.1.b hp hc) (fun j hj => addM_lo _ _ _ hj)) (fun k hk => ?_)⟩
        · rw [up2_s, f4]
        · rw [up2_k _ (by decide), up2_k _ (by decide)]
        · rw [up2_k _ (by decide), up2_k _ (by decide)]
        · rw [up2_k _ (by decide), up2_k _ (by decide)]
        · rw [up2_k _ (by omega), up2_k _ (by omega)]
      · first | omega | (rw [hh] at h37; cases h37)
  · exact absurd h10 hne
set_option maxHeartbeats 4000000 in
theorem x7_addMove1 {G : GT} {v : VV} {L : LL} {Φ : VV → LL → Prop} (g : GH G) {x y : Int32} (hx : oor x 7) (h : Φ v L) : CX G MX7_addMove [.ref (gB G 0), .int x, .int y] v L eIX Φ := by
  refine cx_of g [some (.ref (gB G 0)), some (.int x), some (.int y), none] rfl rfl rfl rfl (fun K F he => ?_)
  refine r_iload_n F dX7_addMove_0 rfl ?_
  exact r_outS1 F he fMX7_needPosition tw_623 rfl dX7_addMove_1 rfl rfl (x7_needPosition g hx h)
set_option maxHeartbeats 4000000 in
theorem x7_addMove2 {G : GT} {v : VV} {L : LL} {Φ : VV → LL → Prop} (g : GH G) {p : Nat} {y : Int32} (hp : p < 8) (hx : oor y 7) (h : Φ v L) : CX G MX7_addMove [.ref (gB G 0), .int (nI p), .int y] v L eIX Φ := by
  refine cx_of g [some (.ref (gB G 0)), some (.int (nI p)), some (.int y), none] rfl rfl rfl rfl (fun K F he => ?_)
  refine r_iload_n F dX7_addMove_0 rfl ?_
  refine r_callS1v F fMX7_needPosition tw_623 rfl dX7_addMove_1 rfl rfl z16 (m7_needPosition g (p := p) (by omega)) ?_
  refine r_iload_n F dX7_addMove_4 rfl ?_
  exact r_outS1 F he fMX7_needPosition tw_623 rfl dX7_addMove_5 rfl rfl (x7_needPosition g hx h)
set_option maxHeartbeats 4000000 in
theorem x7_addMove3 {G : GT} {v : VV} {L : LL} {Φ : VV → LL → Prop} (g : GH G) {p : Nat} (hp : p < 8) (h : Φ v L) : CX G MX7_addMove [.ref (gB G 0), .int (nI p), .int (nI p)] v L eIA Φ := by
  refine cx_of g [some (.ref (gB G 0)), some (.int (nI p)), some (.int (nI p)), none] rfl rfl rfl rfl (fun K F he => ?_)
  refine r_iload_n F dX7_addMove_0 rfl ?_
  refine r_callS1v F fMX7_needPosition tw_623 rfl dX7_addMove_1 rfl rfl z16 (m7_needPosition g (p := p) (by omega)) ?_
  refine r_iload_n F dX7_addMove_4 rfl ?_
  refine r_callS1v F fMX7_needPosition tw_623 rfl dX7_addMove_5 rfl rfl z16 (m7_needPosition g (p := p) (by omega)) ?_
  refine r_iload_n F dX7_addMove_8 rfl ?_
  refine r_iload_n F dX7_addMove_9 rfl ?_
  refine r_icne F dX7_addMove_10 (by omega) (by omega) (fun h10 => ?_) (fun h10 => ?_)
  · exact absurd rfl h10
  · exact r_throwS (i := 3) F he efIA efN ewIA egIA rfl dX7_addMove_13 dX7_addMove_16 dX7_addMove_17 dX7_addMove_19 dX7_addMove_22 rfl h
set_option maxHeartbeats 4000000 in
theorem x7_addMove4 {G : GT} {v : VV} {L : LL} {Φ : VV → LL → Prop} {a : AS} (g : GH G) (hi : IC v a) (w : WA a) {p q : Nat} (hp : p < 8) (hq : q < 8) (hne : p ≠ q) (hh : hm (sS a) p (nI q) = true ∨ 4 ≤ sS a (13 + 6 * p)) (h : Φ v L) : CX G MX7_addMove [.ref (gB G 0), .int (nI p), .int (nI q)] v L eIS Φ := by
  refine cx_of g [some (.ref (gB G 0)), some (.int (nI p)), some (.int (nI q)), none] rfl rfl rfl rfl (fun K F he => ?_)
  have e4 : v 4 p = sS a (13 + 6 * p) := (hi.1.b p hp).2.1
  have w4 : sS a (13 + 6 * p) ≤ 4 := (w.1.b p hp).2.1
  refine r_iload_n F dX7_addMove_0 rfl ?_
  refine r_callS1v F fMX7_needPosition tw_623 rfl dX7_addMove_1 rfl rfl z16 (m7_needPosition g (p := p) (by omega)) ?_
  refine r_iload_n F dX7_addMove_4 rfl ?_
  refine r_callS1v F fMX7_needPosition tw_623 rfl dX7_addMove_5 rfl rfl z16 (m7_needPosition g (p := q) (by omega)) ?_
  refine r_iload_n F dX7_addMove_8 rfl ?_
  refine r_iload_n F dX7_addMove_9 rfl ?_
  refine r_icne F dX7_addMove_10 (by omega) (by omega) (fun h10 => ?_) (fun h10 => ?_)
  · refine r_aload_n F dX7_addMove_23 rfl ?_
    refine r_get (x := .ref (gB G 1)) (T := TX7) (n := 0) F uw7 rfl rfl tw_274 (Or.inl rfl) dX7_addMove_24 (kd_lt (rfl : kd 0 = (6,0,0)) (by decide)) (ce6 rfl) rfl ?_
    refine r_getN (x := .ref (gB G 2)) (T := TX5) (n := 0) F uw5 rfl rfl tw_129 (Or.inl rfl) dX7_addMove_27 (kd_lt (rfl : kd 1 = (4,0,0)) (by decide)) (ce4 rfl) rfl ?_
    refine r_ast3 F dX7_addMove_30 rfl rfl ?_
    refine r_aload_n F dX7_addMove_31 rfl ?_
    refine r_iload_n F dX7_addMove_32 rfl ?_
    refine r_iload_n F dX7_addMove_33 rfl ?_
    refine r_callN2i F fMX0_hasMove tw_375 rfl rfl rfl rfl dX7_addMove_34 rfl rfl z16 (m0_hasMove g bd2 hi.1.b w.1.b hp (nI q)) ?_
    refine r_Bne F dX7_addMove_37 (fun h37 => ?_) (fun h37 => ?_)
    · exact r_throwS (i := 4) F he efIS efN ewIS egIS rfl dX7_addMove_50 dX7_addMove_53 dX7_addMove_54 dX7_addMove_56 dX7_addMove_59 rfl h
    · refine r_aload_n F dX7_addMove_40 rfl ?_
      refine r_getN (x := .ref (gB G 4)) (T := TX0) (n := 1) F uw0 rfl rfl tw_116 (Or.inl rfl) dX7_addMove_41 (kd_lt (rfl : kd 2 = (0,0,0)) (by decide)) (ce0 rfl) rfl ?_
      refine r_iload_n F dX7_addMove_44 rfl ?_
      refine r_iald F dX7_addMove_45 rfl (by omega) ?_
      refine r_iconst (x := 4) F dX7_addMove_46 rfl ?_
      refine r_iclt F dX7_addMove_47 (by omega) (by omega) (fun h47 => ?_) (fun h47 => ?_)
      · rcases hh with z | z
        · rw [z] at h37; cases h37
        · omega
      · exact r_throwS (i := 4) F he efIS efN ewIS egIS rfl dX7_addMove_50 dX7_addMove_53 dX7_addMove_54 dX7_addMove_56 dX7_addMove_59 rfl h
  · exact absurd h10 hne
set_option maxHeartbeats 4000000 in
theorem m7_clearMoves {G : GT} {v : VV} {L : LL} {a : AS} (g : GH G) (h : IC v a) (w : WA a) {p : Nat} (hp : p < 8) : CC G MX7_clearMoves [.ref (gB G 0), .int (nI p)] v L (gI (PC v L (stA (svA a) (upN (sS a) (13 + 6 * p) 0)) (nI (sS a (13 + 6 * p))))) := by
  refine cc_of g [some (.ref (gB G 0)), some (.int (nI p)), none] rfl rfl rfl rfl (fun K F => ?_)
  have e4 : v 4 p = sS a (13 + 6 * p) := (h.1.b p hp).2.1
  refine r_iload_n F dX7_clearMoves_0 rfl ?_
  refine r_callS1v F fMX7_needPosition tw_623 rfl dX7_clearMoves_1 rfl rfl z0 (m7_needPosition g (p := p) (by omega)) ?_
  refine r_aload_n F dX7_clearMoves_4 rfl ?_
  refine r_callV0w F fMX7_saveBeforeBoard tw_300 rfl rfl rfl rfl dX7_clearMoves_5 rfl rfl z0 (m7_saveBeforeBoard g h w) ?_
  rintro v1 L1 ⟨rfl, hs⟩
  have f4 : v1 4 p = sS a (13 + 6 * p) := by rw [hs.2.2.2.2 4 (by decide)]; exact e4
  refine r_aload_n F dX7_clearMoves_8 rfl ?_
  refine r_get (x := .ref (gB G 1)) (T := TX7) (n := 0) F uw7 rfl rfl tw_274 (Or.inl rfl) dX7_clearMoves_9 (kd_lt (rfl : kd 0 = (6,0,0)) (by decide)) (ce6 rfl) rfl ?_
  refine r_getN (x := .ref (gB G 2)) (T := TX5) (n := 0) F uw5 rfl rfl tw_129 (Or.inl rfl) dX7_clearMoves_12 (kd_lt (rfl : kd 1 = (4,0,0)) (by decide)) (ce4 rfl) rfl ?_
  refine r_getN (x := .ref (gB G 4)) (T := TX0) (n := 1) F uw0 rfl rfl tw_116 (Or.inl rfl) dX7_clearMoves_15 (kd_lt (rfl : kd 2 = (0,0,0)) (by decide)) (ce0 rfl) rfl ?_
  refine r_iload_n F dX7_clearMoves_18 rfl ?_
  refine r_iald F dX7_clearMoves_19 rfl (by omega) ?_
  refine r_ist2 F dX7_clearMoves_20 rfl rfl ?_
  refine r_aload_n F dX7_clearMoves_21 rfl ?_
  refine r_get (x := .ref (gB G 1)) (T := TX7) (n := 0) F uw7 rfl rfl tw_274 (Or.inl rfl) dX7_clearMoves_22 (kd_lt (rfl : kd 0 = (6,0,0)) (by decide)) (ce6 rfl) rfl ?_
  refine r_getN (x := .ref (gB G 2)) (T := TX5) (n := 0) F uw5 rfl rfl tw_129 (Or.inl rfl) dX7_clearMoves_25 (kd_lt (rfl : kd 1 = (4,0,0)) (by decide)) (ce4 rfl) rfl ?_
  refine r_getN (x := .ref (gB G 4)) (T := TX0) (n := 1) F uw0 rfl rfl tw_116 (Or.inl rfl) dX7_clearMoves_28 (kd_lt (rfl : kd 2 = (0,0,0)) (by decide)) (ce0 rfl) rfl ?_
  refine r_iload_n F dX7_clearMoves_31 rfl ?_
  refine r_iconst (x := 0) F dX7_clearMoves_32 rfl ?_
  refine r_iast F dX7_clearMoves_33 rfl (by omega) ?_
  refine r_iload_n F dX7_clearMoves_34 rfl ?_
  refine r_iret F rfl rfl dX7_clearMoves_35 ⟨_, rfl, by rw [f4], rfl, hs.to (hs.1.board ?_ ?_ ?_ (fun r hr => ?_) (fun j hj => upN_n _ _ (by omega))) (fun k hk => ?_)⟩
  · rw [up2_k _ (by decide)]
  · rw [up2_k _ (by decide)]
  · rw [up2_k _ (by decide)]
  · obtain ⟨z1, z2, z3⟩ := hs.1.b r hr
    rw [up2_k _ (show (2 + 1 : Nat) ≠ 4 by decide), up2_k _ (show (2 + 3 : Nat) ≠ 4 by decide)]
    refine ⟨by rw [z1, upN_n _ _ (by omega)], ?_, fun i hi => ?_⟩
    · by_cases e : r = p
      · subst e; rw [up2_s, upN_s]
      · rw [up2_j _ e, z2, upN_n _ _ (by omega)]
    · by_cases e : r = p
      · subst e; rw [upN_s] at hi; omega
      · rw [upN_n _ _ (by omega)] at hi
        have := (w.1.b r hr).2.1
        rw [z3 i hi, upN_n _ _ (by omega)]
  · rw [up2_k _ (by omega)]
set_option maxHeartbeats 4000000 in
theorem x7_clearMoves {G : GT} {v : VV} {L : LL} {Φ : VV → LL → Prop} (g : GH G) {x : Int32} (hx : oor x 7) (h : Φ v L) : CX G MX7_clearMoves [.ref (gB G 0), .int x] v L eIX Φ := by
  refine cx_of g [some (.ref (gB G 0)), some (.int x), none] rfl rfl rfl rfl (fun K F he => ?_)
  refine r_iload_n F dX7_clearMoves_0 rfl ?_
  exact r_outS1 F he fMX7_needPosition tw_623 rfl dX7_clearMoves_1 rfl rfl (x7_needPosition g hx h)
set_option maxHeartbeats 4000000 in
theorem m7_mark {G : GT} {v : VV} {L : LL} {a : AS} (g : GH G) (h : IC v a) (w : WA a) {p m : Nat} (hp : p < 8) (hm : m ≤ 2) : CC G MX7_mark [.ref (gB G 0), .int (nI p), .int (nI m)] v L (gI (PC v L (stA (svA a) (upN (sS a) (12 + 6 * p) m)) (nI (sS a (12 + 6 * p))))) := by
  refine cc_of g [some (.ref (gB G 0)), some (.int (nI p)), some (.int (nI m)), none] rfl rfl rfl rfl (fun K F => ?_)
  have e4 : v 3 p = sS a (12 + 6 * p) := (h.1.b p hp).1
  refine r_iload_n F dX7_mark_0 rfl ?_
  refine r_callS1v F fMX7_needPosition tw_623 rfl dX7_mark_1 rfl rfl z0 (m7_needPosition g (p := p) (by omega)) ?_
  refine r_iload_n F dX7_mark_4 rfl ?_
  refine r_iconst (x := 2) F dX7_mark_5 rfl ?_
  refine r_callS2v F fMX7_needUpTo tw_544 rfl dX7_mark_6 rfl rfl z0 (m7_needUpTo g hm (by decide)) ?_
  refine r_aload_n F dX7_mark_9 rfl ?_
  refine r_callV0w F fMX7_saveBeforeBoard tw_300 rfl rfl rfl rfl dX7_mark_10 rfl rfl z0 (m7_saveBeforeBoard g h w) ?_
  rintro v1 L1 ⟨rfl, hs⟩
  have f4 : v1 3 p = sS a (12 + 6 * p) := by rw [hs.2.2.2.2 3 (by decide)]; exact e4
  refine r_aload_n F dX7_mark_13 rfl ?_
  refine r_get (x := .ref (gB G 1)) (T := TX7) (n := 0) F uw7 rfl rfl tw_274 (Or.inl rfl) dX7_mark_14 (kd_lt (rfl : kd 0 = (6,0,0)) (by decide)) (ce6 rfl) rfl ?_
  refine r_getN (x := .ref (gB G 2)) (T := TX5) (n := 0) F uw5 rfl rfl tw_129 (Or.inl rfl) dX7_mark_17 (kd_lt (rfl : kd 1 = (4,0,0)) (by decide)) (ce4 rfl) rfl ?_
  refine r_getN (x := .ref (gB G 3)) (T := TX0) (n := 0) F uw0 rfl rfl tw_113 (Or.inl rfl) dX7_mark_20 (kd_lt (rfl : kd 2 = (0,0,0)) (by decide)) (ce0 rfl) rfl ?_
  refine r_iload_n F dX7_mark_23 rfl ?_
  refine r_iald F dX7_mark_24 rfl (by omega) ?_
  refine r_ist3 F dX7_mark_25 rfl rfl ?_
  refine r_aload_n F dX7_mark_26 rfl ?_
  refine r_get (x := .ref (gB G 1)) (T := TX7) (n := 0) F uw7 rfl rfl tw_274 (Or.inl rfl) dX7_mark_27 (kd_lt (rfl : kd 0 = (6,0,0)) (by decide)) (ce6 rfl) rfl ?_
  refine r_getN (x := .ref (gB G 2)) (T := TX5) (n := 0) F uw5 rfl rfl tw_129 (Or.inl rfl) dX7_mark_30 (kd_lt (rfl : kd 1 = (4,0,0)) (by decide)) (ce4 rfl) rfl ?_
  refine r_getN (x := .ref (gB G 3)) (T := TX0) (n := 0) F uw0 rfl rfl tw_113 (Or.inl rfl) dX7_mark_33 (kd_lt (rfl : kd 2 = (0,0,0)) (by decide)) (ce0 rfl) rfl ?_
  refine r_iload_n F dX7_mark_36 rfl ?_
  refine r_iload_n F dX7_mark_37 rfl ?_
  refine r_iast F dX7_mark_38 rfl (by omega) ?_
  refine r_iload_n F dX7_mark_39 rfl ?_
  refine r_iret F rfl rfl dX7_mark_40 ⟨_, rfl, by rw [f4], rfl, hs.to (hs.1.board ?_ ?_ ?_ (RB_mark hs.1.b w.1.b hp) (fun j hj => upN_n _ _ (by omega))) (fun k hk => ?_)⟩
  · rw [up2_k _ (by decide)]
  · rw [up2_k _ (by decide)]
  · rw [up2_k _ (by decide)]
  · rw [up2_k _ (by omega)]
set_option maxHeartbeats 4000000 in
theorem x7_mark1 {G : GT} {v : VV} {L : LL} {Φ : VV → LL → Prop} (g : GH G) {x y : Int32} (hx : oor x 7) (h : Φ v L) : CX G MX7_mark [.ref (gB G 0), .int x, .int y] v L eIX Φ := by
  refine cx_of g [some (.ref (gB G 0)), some (.int x), some (.int y), none] rfl rfl rfl rfl (fun K F he => ?_)
  refine r_iload_n F dX7_mark_0 rfl ?_
  exact r_outS1 F he fMX7_needPosition tw_623 rfl dX7_mark_1 rfl rfl (x7_needPosition g hx h)
set_option maxHeartbeats 4000000 in
theorem x7_mark2 {G : GT} {v : VV} {L : LL} {Φ : VV → LL → Prop} (g : GH G) {p : Nat} {y : Int32} (hp : p < 8) (hx : oor y 2) (h : Φ v L) : CX G MX7_mark [.ref (gB G 0), .int (nI p), .int y] v L eIA Φ := by
  refine cx_of g [some (.ref (gB G 0)), some (.int (nI p)), some (.int y), none] rfl rfl rfl rfl (fun K F he => ?_)
  refine r_iload_n F dX7_mark_0 rfl ?_
  refine r_callS1v F fMX7_needPosition tw_623 rfl dX7_mark_1 rfl rfl z16 (m7_needPosition g (p := p) (by omega)) ?_
  refine r_iload_n F dX7_mark_4 rfl ?_
  refine r_iconst (x := 2) F dX7_mark_5 rfl ?_
  exact r_outS2 F he fMX7_needUpTo tw_544 rfl dX7_mark_6 rfl rfl (x7_needUpTo g (n := 2) hx h)
