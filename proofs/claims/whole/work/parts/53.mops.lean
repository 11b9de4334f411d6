set_option maxHeartbeats 8000000 in
theorem m8_addMove {G : GT} {v : VV} {L : LL} {a : AS} (g : GH G) (h : IM v a) (w : WA a) {p q : Nat} (hp : p < 8) (hq : q < 8) (hne : p ≠ q) (hh : hm (sS a) p (nI q) = false) (hc : sS a (13 + 6 * p) < 4) : CC G MX8_addMove [.ref (gB G 83), .int (nI p), .int (nI q)] v L (gI (PMo v L (stA (svA a) (addM (sS a) p q)) (nI (sS a (13 + 6 * p) + 1)))) := by
  refine cc_of g [some (.ref (gB G 83)), some (.int (nI p)), some (.int (nI q)), none] rfl rfl rfl rfl (fun K F => ?_)
  have i1 := inn_i (k := p) (n := 7) (by decide) (by omega)
  have i2 := inn_i (k := q) (n := 7) (by decide) (by omega)
  refine r_iload_n F dX8_addMove_0 rfl ?_
  refine r_callS1i F fMX8_isPosition tw_928 rfl dX8_addMove_1 rfl rfl z0 (m8_isPosition g (nI p)) ?_
  refine r_Beq F dX8_addMove_4 (fun h4 => ?_) (fun h4 => ?_)
  · exact absurd h4 (by rw [i1]; decide)
  · refine r_iload_n F dX8_addMove_7 rfl ?_
    refine r_callS1i F fMX8_isPosition tw_928 rfl dX8_addMove_8 rfl rfl z0 (m8_isPosition g (nI q)) ?_
    refine r_Beq F dX8_addMove_11 (fun h11 => ?_) (fun h11 => ?_)
    · exact absurd h11 (by rw [i2]; decide)
    · refine r_iconst (x := 1) F dX8_addMove_14 rfl ?_
      refine r_goto F dX8_addMove_15 ?_
      refine r_ist3 F dX8_addMove_19 rfl rfl ?_
      refine r_aload_n F dX8_addMove_20 rfl ?_
      refine r_iload_n F dX8_addMove_21 rfl ?_
      refine r_ifne F dX8_addMove_22 (by omega) (fun h22 => ?_) (fun h22 => ?_)
      · refine r_iload_n F dX8_addMove_29 rfl ?_
        refine r_iload_n F dX8_addMove_30 rfl ?_
        refine r_icne F dX8_addMove_31 (by omega) (by omega) (fun h31 => ?_) (fun h31 => ?_)
        · refine r_aload_n F dX8_addMove_38 rfl ?_
          refine r_iload_n F dX8_addMove_39 rfl ?_
          refine r_iload_n F dX8_addMove_40 rfl ?_
          refine r_callV2i F fMX8_hasMove tw_934 rfl rfl rfl rfl dX8_addMove_41 rfl rfl z0 (m8_hasMove g h.1 w.1.b hp (nI q)) ?_
          refine r_Bne F dX8_addMove_44 (fun h44 => ?_) (fun h44 => ?_)
          · exact absurd h44 (by rw [hh]; decide)
          · refine r_aload_n F dX8_addMove_47 rfl ?_
            refine r_iload_n F dX8_addMove_48 rfl ?_
            refine r_iconst (x := 1) F dX8_addMove_49 rfl ?_
            refine r_callV2i F fMX8_of tw_938 rfl rfl rfl rfl dX8_addMove_50 rfl rfl z0 (m8_many g h.1 hp) ?_
            refine r_iconst (x := 4) F dX8_addMove_53 rfl ?_
            refine r_icne F dX8_addMove_54 (by omega) (by omega) (fun h54 => ?_) (fun h54 => ?_)
            · refine r_iconst (x := 0) F dX8_addMove_61 rfl ?_
              refine r_callV1i F fMX8_holds tw_942 rfl rfl rfl rfl dX8_addMove_62 rfl rfl z0 (m8_holds g (x := 0) (by decide)) ?_
              refine r_Bne F dX8_addMove_65 (fun h65 => ?_) (fun h65 => ?_)
              · refine r_aload_n F dX8_addMove_70 rfl ?_
                refine r_callV0w F fMX8_save tw_946 rfl rfl rfl rfl dX8_addMove_71 rfl rfl z0 (m8_save g (h.thr 0) w) ?_
                rintro v1 L1 ⟨rfl, hs⟩
                have r1 := hs.rm
                refine r_aload_n F dX8_addMove_74 rfl ?_
                refine r_iload_n F dX8_addMove_75 rfl ?_
                refine r_iconst (x := 2) F dX8_addMove_76 rfl ?_
                refine r_aload_n F dX8_addMove_77 rfl ?_
                refine r_iload_n F dX8_addMove_78 rfl ?_
                refine r_iconst (x := 1) F dX8_addMove_79 rfl ?_
                refine r_callV2i F fMX8_of tw_938 rfl rfl rfl rfl dX8_addMove_80 rfl rfl z0 (m8_many g r1 hp) ?_
                refine r_iadd F dX8_addMove_83 ?_
                refine r_iload_n F dX8_addMove_84 rfl ?_
                refine r_callV3v F fMX8_put tw_950 rfl rfl rfl rfl dX8_addMove_85 rfl rfl z0 (m8_put g (p := p) (w := 2 + sS a (13 + 6 * p)) (by omega)) ?_
                rw [show 12 + 6 * p + (2 + sS a (13 + 6 * p)) = 14 + 6 * p + sS a (13 + 6 * p) by omega]
                have r2 := r1.up (14 + 6 * p + sS a (13 + 6 * p)) q
                refine r_aload_n F dX8_addMove_88 rfl ?_
                refine r_iload_n F dX8_addMove_89 rfl ?_
                refine r_iconst (x := 1) F dX8_addMove_90 rfl ?_
                refine r_aload_n F dX8_addMove_91 rfl ?_
                refine r_iload_n F dX8_addMove_92 rfl ?_
                refine r_iconst (x := 1) F dX8_addMove_93 rfl ?_
                refine r_callV2i F fMX8_of tw_938 rfl rfl rfl rfl dX8_addMove_94 rfl rfl z0 (m8_many g r2 hp) ?_
                rw [upN_n _ _ (show 13 + 6 * p ≠ 14 + 6 * p + sS a (13 + 6 * p) by omega)]
                refine r_iconst (x := 1) F dX8_addMove_97 rfl ?_
                refine r_iadd F dX8_addMove_98 ?_
                refine r_callV3v F fMX8_put tw_950 rfl rfl rfl rfl dX8_addMove_99 rfl rfl z0 (m8_put g (p := p) (w := 1) (by omega)) ?_
                rw [show 12 + 6 * p + 1 = 13 + 6 * p by omega]
                have r3 : RM (up2 (up2 v1 84 (14 + 6 * p + sS a (13 + 6 * p)) q) 84 (13 + 6 * p) (sS a (13 + 6 * p) + 1)) (addM (sS a) p q) := r2.up (13 + 6 * p) (sS a (13 + 6 * p) + 1)
                refine r_aload_n F dX8_addMove_102 rfl ?_
                refine r_iload_n F dX8_addMove_103 rfl ?_
                refine r_iconst (x := 1) F dX8_addMove_104 rfl ?_
                refine r_callV2i F fMX8_of tw_938 rfl rfl rfl rfl dX8_addMove_105 rfl rfl z0 (m8_many g r3 hp) ?_
                exact r_iret F rfl rfl dX8_addMove_108 ⟨_, rfl, by unfold addM; rw [upN_s], rfl, hs.to rfl r3 (fun k hk => by rw [up2_k _ hk, up2_k _ hk])⟩
              · exact absurd h65 (by decide)
            · omega
        · exact absurd h31 hne
      · exact absurd h22 (by decide)
set_option maxHeartbeats 8000000 in
theorem t8_addMove1 {G : GT} {v : VV} {L : LL} {a : AS} (g : GH G) (h : IM v a) {x y : Int32} (hx : oor x 7 ∨ oor y 7) : CC G MX8_addMove [.ref (gB G 83), .int x, .int y] v L (gI (PMt v L a 1)) := by
  refine cc_of g [some (.ref (gB G 83)), some (.int x), some (.int y), none] rfl rfl rfl rfl (fun K F => ?_)
  have ix : inn x (nI 0) (nI 7) = false ∨ inn y (nI 0) (nI 7) = false := hx.imp inn_o inn_o
  refine r_iload_n F dX8_addMove_0 rfl ?_
  refine r_callS1i F fMX8_isPosition tw_928 rfl dX8_addMove_1 rfl rfl z0 (m8_isPosition g x) ?_
  refine r_Beq F dX8_addMove_4 (fun h4 => ?_) (fun h4 => ?_)
  · refine r_iconst (x := 0) F dX8_addMove_18 rfl ?_
    refine r_ist3 F dX8_addMove_19 rfl rfl ?_
    refine r_aload_n F dX8_addMove_20 rfl ?_
    refine r_iload_n F dX8_addMove_21 rfl ?_
    refine r_ifne F dX8_addMove_22 (by omega) (fun h22 => ?_) (fun h22 => ?_)
    · exact absurd rfl h22
    · refine r_iconst (x := 1) F dX8_addMove_25 rfl ?_
      refine r_goto F dX8_addMove_26 ?_
      refine r_callV1i F fMX8_holds tw_942 rfl rfl rfl rfl dX8_addMove_62 rfl rfl z0 (m8_holds g (x := 1) (by decide)) ?_
      refine r_Bne F dX8_addMove_65 (fun h65 => ?_) (fun h65 => ?_)
      · exact absurd h65 (by decide)
      · refine r_iconst (x := 0) F dX8_addMove_68 rfl ?_
        exact r_iret F rfl rfl dX8_addMove_69 (pmt h 1 _)
  · refine r_iload_n F dX8_addMove_7 rfl ?_
    refine r_callS1i F fMX8_isPosition tw_928 rfl dX8_addMove_8 rfl rfl z0 (m8_isPosition g y) ?_
    refine r_Beq F dX8_addMove_11 (fun h11 => ?_) (fun h11 => ?_)
    · refine r_iconst (x := 0) F dX8_addMove_18 rfl ?_
      refine r_ist3 F dX8_addMove_19 rfl rfl ?_
      refine r_aload_n F dX8_addMove_20 rfl ?_
      refine r_iload_n F dX8_addMove_21 rfl ?_
      refine r_ifne F dX8_addMove_22 (by omega) (fun h22 => ?_) (fun h22 => ?_)
      · exact absurd rfl h22
      · refine r_iconst (x := 1) F dX8_addMove_25 rfl ?_
        refine r_goto F dX8_addMove_26 ?_
        refine r_callV1i F fMX8_holds tw_942 rfl rfl rfl rfl dX8_addMove_62 rfl rfl z0 (m8_holds g (x := 1) (by decide)) ?_
        refine r_Bne F dX8_addMove_65 (fun h65 => ?_) (fun h65 => ?_)
        · exact absurd h65 (by decide)
        · refine r_iconst (x := 0) F dX8_addMove_68 rfl ?_
          exact r_iret F rfl rfl dX8_addMove_69 (pmt h 1 _)
    · exact absurd ix (by rw [h4, h11]; decide)
set_option maxHeartbeats 8000000 in
theorem t8_addMove2 {G : GT} {v : VV} {L : LL} {a : AS} (g : GH G) (h : IM v a) {p : Nat} (hp : p < 8) : CC G MX8_addMove [.ref (gB G 83), .int (nI p), .int (nI p)] v L (gI (PMt v L a 2)) := by
  refine cc_of g [some (.ref (gB G 83)), some (.int (nI p)), some (.int (nI p)), none] rfl rfl rfl rfl (fun K F => ?_)
  have i1 := inn_i (k := p) (n := 7) (by decide) (by omega)
  refine r_iload_n F dX8_addMove_0 rfl ?_
  refine r_callS1i F fMX8_isPosition tw_928 rfl dX8_addMove_1 rfl rfl z0 (m8_isPosition g (nI p)) ?_
  refine r_Beq F dX8_addMove_4 (fun h4 => ?_) (fun h4 => ?_)
  · exact absurd h4 (by rw [i1]; decide)
  · refine r_iload_n F dX8_addMove_7 rfl ?_
    refine r_callS1i F fMX8_isPosition tw_928 rfl dX8_addMove_8 rfl rfl z0 (m8_isPosition g (nI p)) ?_
    refine r_Beq F dX8_addMove_11 (fun h11 => ?_) (fun h11 => ?_)
    · exact absurd h11 (by rw [i1]; decide)
    · refine r_iconst (x := 1) F dX8_addMove_14 rfl ?_
      refine r_goto F dX8_addMove_15 ?_
      refine r_ist3 F dX8_addMove_19 rfl rfl ?_
      refine r_aload_n F dX8_addMove_20 rfl ?_
      refine r_iload_n F dX8_addMove_21 rfl ?_
      refine r_ifne F dX8_addMove_22 (by omega) (fun h22 => ?_) (fun h22 => ?_)
      · refine r_iload_n F dX8_addMove_29 rfl ?_
        refine r_iload_n F dX8_addMove_30 rfl ?_
        refine r_icne F dX8_addMove_31 (by omega) (by omega) (fun h31 => ?_) (fun h31 => ?_)
        · exact absurd rfl h31
        · refine r_iconst (x := 2) F dX8_addMove_34 rfl ?_
          refine r_goto F dX8_addMove_35 ?_
          refine r_callV1i F fMX8_holds tw_942 rfl rfl rfl rfl dX8_addMove_62 rfl rfl z0 (m8_holds g (x := 2) (by decide)) ?_
          refine r_Bne F dX8_addMove_65 (fun h65 => ?_) (fun h65 => ?_)
          · exact absurd h65 (by decide)
          · refine r_iconst (x := 0) F dX8_addMove_68 rfl ?_
            exact r_iret F rfl rfl dX8_addMove_69 (pmt h 2 _)
      · exact absurd h22 (by decide)
set_option maxHeartbeats 8000000 in
theorem t8_addMove3 {G : GT} {v : VV} {L : LL} {a : AS} (g : GH G) (h : IM v a) (w : WA a) {p q : Nat} (hp : p < 8) (hq : q < 8) (hne : p ≠ q) (hh : hm (sS a) p (nI q) = true ∨ 4 ≤ sS a (13 + 6 * p)) : CC G MX8_addMove [.ref (gB G 83), .int (nI p), .int (nI q)] v L (gI (PMt v L a 3)) := by
  refine cc_of g [some (.ref (gB G 83)), some (.int (nI p)), some (.int (nI q)), none] rfl rfl rfl rfl (fun K F => ?_)
  have i1 := inn_i (k := p) (n := 7) (by decide) (by omega)
  have i2 := inn_i (k := q) (n := 7) (by decide) (by omega)
  have wc := (w.1.b p hp).2.1
  refine r_iload_n F dX8_addMove_0 rfl ?_
  refine r_callS1i F fMX8_isPosition tw_928 rfl dX8_addMove_1 rfl rfl z0 (m8_isPosition g (nI p)) ?_
  refine r_Beq F dX8_addMove_4 (fun h4 => ?_) (fun h4 => ?_)
  · exact absurd h4 (by rw [i1]; decide)
  · refine r_iload_n F dX8_addMove_7 rfl ?_
    refine r_callS1i F fMX8_isPosition tw_928 rfl dX8_addMove_8 rfl rfl z0 (m8_isPosition g (nI q)) ?_
    refine r_Beq F dX8_addMove_11 (fun h11 => ?_) (fun h11 => ?_)
    · exact absurd h11 (by rw [i2]; decide)
    · refine r_iconst (x := 1) F dX8_addMove_14 rfl ?_
      refine r_goto F dX8_addMove_15 ?_
      refine r_ist3 F dX8_addMove_19 rfl rfl ?_
      refine r_aload_n F dX8_addMove_20 rfl ?_
      refine r_iload_n F dX8_addMove_21 rfl ?_
      refine r_ifne F dX8_addMove_22 (by omega) (fun h22 => ?_) (fun h22 => ?_)
      · refine r_iload_n F dX8_addMove_29 rfl ?_
        refine r_iload_n F dX8_addMove_30 rfl ?_
        refine r_icne F dX8_addMove_31 (by omega) (by omega) (fun h31 => ?_) (fun h31 => ?_)
        · refine r_aload_n F dX8_addMove_38 rfl ?_
          refine r_iload_n F dX8_addMove_39 rfl ?_
          refine r_iload_n F dX8_addMove_40 rfl ?_
          refine r_callV2i F fMX8_hasMove tw_934 rfl rfl rfl rfl dX8_addMove_41 rfl rfl z0 (m8_hasMove g h.1 w.1.b hp (nI q)) ?_
          refine r_Bne F dX8_addMove_44 (fun h44 => ?_) (fun h44 => ?_)
          · refine r_iconst (x := 3) F dX8_addMove_57 rfl ?_
            refine r_goto F dX8_addMove_58 ?_
            refine r_callV1i F fMX8_holds tw_942 rfl rfl rfl rfl dX8_addMove_62 rfl rfl z0 (m8_holds g (x := 3) (by decide)) ?_
            refine r_Bne F dX8_addMove_65 (fun h65 => ?_) (fun h65 => ?_)
            · exact absurd h65 (by decide)
            · refine r_iconst (x := 0) F dX8_addMove_68 rfl ?_
              exact r_iret F rfl rfl dX8_addMove_69 (pmt h 3 _)
          · refine r_aload_n F dX8_addMove_47 rfl ?_
            refine r_iload_n F dX8_addMove_48 rfl ?_
            refine r_iconst (x := 1) F dX8_addMove_49 rfl ?_
            refine r_callV2i F fMX8_of tw_938 rfl rfl rfl rfl dX8_addMove_50 rfl rfl z0 (m8_many g h.1 hp) ?_
            refine r_iconst (x := 4) F dX8_addMove_53 rfl ?_
            refine r_icne F dX8_addMove_54 (by omega) (by omega) (fun h54 => ?_) (fun h54 => ?_)
            · exact absurd hh (by rw [h44]; exact fun z => z.elim (fun z => by cases z) (fun z => h54 (by omega)))
            · refine r_iconst (x := 3) F dX8_addMove_57 rfl ?_
              refine r_goto F dX8_addMove_58 ?_
              refine r_callV1i F fMX8_holds tw_942 rfl rfl rfl rfl dX8_addMove_62 rfl rfl z0 (m8_holds g (x := 3) (by decide)) ?_
              refine r_Bne F dX8_addMove_65 (fun h65 => ?_) (fun h65 => ?_)
              · exact absurd h65 (by decide)
              · refine r_iconst (x := 0) F dX8_addMove_68 rfl ?_
                exact r_iret F rfl rfl dX8_addMove_69 (pmt h 3 _)
        · exact absurd h31 hne
      · exact absurd h22 (by decide)
set_option maxHeartbeats 8000000 in
theorem m8_clearMoves {G : GT} {v : VV} {L : LL} {a : AS} (g : GH G) (h : IM v a) (w : WA a) {p : Nat} (hp : p < 8) : CC G MX8_clearMoves [.ref (gB G 83), .int (nI p)] v L (gI (PMo v L (stA (svA a) (upN (sS a) (13 + 6 * p) 0)) (nI (sS a (13 + 6 * p))))) := by
  refine cc_of g [some (.ref (gB G 83)), some (.int (nI p)), none] rfl rfl rfl rfl (fun K F => ?_)
  have i1 := inn_i (k := p) (n := 7) (by decide) (by omega)
  refine r_aload_n F dX8_clearMoves_0 rfl ?_
  refine r_iload_n F dX8_clearMoves_1 rfl ?_
  refine r_callS1i F fMX8_isPosition tw_928 rfl dX8_clearMoves_2 rfl rfl z0 (m8_isPosition g (nI p)) ?_
  refine r_Beq F dX8_clearMoves_5 (fun h5 => ?_) (fun h5 => ?_)
  · exact absurd h5 (by rw [i1]; decide)
  · refine r_iconst (x := 0) F dX8_clearMoves_8 rfl ?_
    refine r_goto F dX8_clearMoves_9 ?_
    refine r_callV1i F fMX8_holds tw_942 rfl rfl rfl rfl dX8_clearMoves_13 rfl rfl z0 (m8_holds g (x := 0) (by decide)) ?_
    refine r_Bne F dX8_clearMoves_16 (fun h16 => ?_) (fun h16 => ?_)
    · refine r_aload_n F dX8_clearMoves_21 rfl ?_
      refine r_callV0w F fMX8_save tw_946 rfl rfl rfl rfl dX8_clearMoves_22 rfl rfl z0 (m8_save g (h.thr 0) w) ?_
      rintro v1 L1 ⟨rfl, hs⟩
      refine r_aload_n F dX8_clearMoves_25 rfl ?_
      refine r_iload_n F dX8_clearMoves_26 rfl ?_
      refine r_iconst (x := 1) F dX8_clearMoves_27 rfl ?_
      refine r_callV2i F fMX8_of tw_938 rfl rfl rfl rfl dX8_clearMoves_28 rfl rfl z0 (m8_many g hs.rm hp) ?_
      refine r_ist2 F dX8_clearMoves_31 rfl rfl ?_
      refine r_aload_n F dX8_clearMoves_32 rfl ?_
      refine r_iload_n F dX8_clearMoves_33 rfl ?_
      refine r_iconst (x := 1) F dX8_clearMoves_34 rfl ?_
      refine r_iconst (x := 0) F dX8_clearMoves_35 rfl ?_
      refine r_callV3v F fMX8_put tw_950 rfl rfl rfl rfl dX8_clearMoves_36 rfl rfl z0 (m8_put g (p := p) (w := 1) (x := 0) (by omega)) ?_
      rw [show 12 + 6 * p + 1 = 13 + 6 * p by omega]
      refine r_iload_n F dX8_clearMoves_39 rfl ?_
      exact r_iret F rfl rfl dX8_clearMoves_40 ⟨_, rfl, rfl, rfl, hs.to rfl (hs.rm.up _ _) (fun k hk => up2_k _ hk)⟩
    · exact absurd h16 (by decide)
set_option maxHeartbeats 8000000 in
theorem t8_clearMoves {G : GT} {v : VV} {L : LL} {a : AS} (g : GH G) (h : IM v a) {x : Int32} (hx : oor x 7) : CC G MX8_clearMoves [.ref (gB G 83), .int x] v L (gI (PMt v L a 1)) := by
  refine cc_of g [some (.ref (gB G 83)), some (.int x), none] rfl rfl rfl rfl (fun K F => ?_)
  have i1 := inn_o hx
  refine r_aload_n F dX8_clearMoves_0 rfl ?_
  refine r_iload_n F dX8_clearMoves_1 rfl ?_
  refine r_callS1i F fMX8_isPosition tw_928 rfl dX8_clearMoves_2 rfl rfl z0 (m8_isPosition g x) ?_
  refine r_Beq F dX8_clearMoves_5 (fun h5 => ?_) (fun h5 => ?_)
  · refine r_iconst (x := 1) F dX8_clearMoves_12 rfl ?_
    refine r_callV1i F fMX8_holds tw_942 rfl rfl rfl rfl dX8_clearMoves_13 rfl rfl z0 (m8_holds g (x := 1) (by decide)) ?_
    refine r_Bne F dX8_clearMoves_16 (fun h16 => ?_) (fun h16 => ?_)
    · exact absurd h16 (by decide)
    · refine r_iconst (x := 0) F dX8_clearMoves_19 rfl ?_
      exact r_iret F rfl rfl dX8_clearMoves_20 (pmt h 1 _)
  · exact absurd h5 (by rw [i1]; decide)
set_option maxHeartbeats 8000000 in
theorem m8_mark {G : GT} {v : VV} {L : LL} {a : AS} (g : GH G) (h : IM v a) (w : WA a) {p m : Nat} (hp : p < 8) (hm : m ≤ 2) : CC G MX8_mark [.ref (gB G 83), .int (nI p), .int (nI m)] v L (gI (PMo v L (stA (svA a) (upN (sS a) (12 + 6 * p) m)) (nI (sS a (12 + 6 * p))))) := by
  refine cc_of g [some (.ref (gB G 83)), some (.int (nI p)), some (.int (nI m)), none] rfl rfl rfl rfl (fun K F => ?_)
  have i1 := inn_i (k := p) (n := 7) (by decide) (by omega)
  have i2 := inn_i (k := m) (n := 2) (by decide) hm
  refine r_aload_n F dX8_mark_0 rfl ?_
  refine r_iload_n F dX8_mark_1 rfl ?_
  refine r_callS1i F fMX8_isPosition tw_928 rfl dX8_mark_2 rfl rfl z0 (m8_isPosition g (nI p)) ?_
  refine r_Bne F dX8_mark_5 (fun h5 => ?_) (fun h5 => ?_)
  · refine r_iload_n F dX8_mark_12 rfl ?_
    refine r_iconst (x := 0) F dX8_mark_13 rfl ?_
    refine r_iconst (x := 2) F dX8_mark_14 rfl ?_
    refine r_callS3i F fMX8_in tw_931 rfl dX8_mark_15 rfl rfl z0 (m8_in g (nI m) (nI 0) (nI 2)) ?_
    refine r_Bne F dX8_mark_18 (fun h18 => ?_) (fun h18 => ?_)
    · refine r_iconst (x := 0) F dX8_mark_25 rfl ?_
      refine r_callV1i F fMX8_holds tw_942 rfl rfl rfl rfl dX8_mark_26 rfl rfl z0 (m8_holds g (x := 0) (by decide)) ?_
      refine r_Bne F dX8_mark_29 (fun h29 => ?_) (fun h29 => ?_)
      · refine r_aload_n F dX8_mark_34 rfl ?_
        refine r_callV0w F fMX8_save tw_946 rfl rfl rfl rfl dX8_mark_35 rfl rfl z0 (m8_save g (h.thr 0) w) ?_
        rintro v1 L1 ⟨rfl, hs⟩
        refine r_aload_n F dX8_mark_38 rfl ?_
        refine r_iload_n F dX8_mark_39 rfl ?_
        refine r_iconst (x := 0) F dX8_mark_40 rfl ?_
        refine r_callV2i F fMX8_of tw_938 rfl rfl rfl rfl dX8_mark_41 rfl rfl z0 (m8_mark0 g hs.rm hp) ?_
        refine r_ist3 F dX8_mark_44 rfl rfl ?_
        refine r_aload_n F dX8_mark_45 rfl ?_
        refine r_iload_n F dX8_mark_46 rfl ?_
        refine r_iconst (x := 0) F dX8_mark_47 rfl ?_
        refine r_iload_n F dX8_mark_48 rfl ?_
        refine r_callV3v F fMX8_put tw_950 rfl rfl rfl rfl dX8_mark_49 rfl rfl z0 (m8_put g (p := p) (w := 0) (x := m) (by omega)) ?_
        rw [show 12 + 6 * p + 0 = 12 + 6 * p by omega]
        refine r_iload_n F dX8_mark_52 rfl ?_
        exact r_iret F rfl rfl dX8_mark_53 ⟨_, rfl, rfl, rfl, hs.to rfl (hs.rm.up _ _) (fun k hk => up2_k _ hk)⟩
      · exact absurd h29 (by decide)
    · exact absurd h18 (by rw [i2]; decide)
  · exact absurd h5 (by rw [i1]; decide)
set_option maxHeartbeats 8000000 in
theorem t8_mark1 {G : GT} {v : VV} {L : LL} {a : AS} (g : GH G) (h : IM v a) {x y : Int32} (hx : oor x 7) : CC G MX8_mark [.ref (gB G 83), .int x, .int y] v L (gI (PMt v L a 1)) := by
  refine cc_of g [some (.ref (gB G 83)), some (.int x), some (.int y), none] rfl rfl rfl rfl (fun K F => ?_)
  have i1 := inn_o hx
  refine r_aload_n F dX8_mark_0 rfl ?_
  refine r_iload_n F dX8_mark_1 rfl ?_
  refine r_callS1i F fMX8_isPosition tw_928 rfl dX8_mark_2 rfl rfl z0 (m8_isPosition g x) ?_
  refine r_Bne F dX8_mark_5 (fun h5 => ?_) (fun h5 => ?_)
  · exact absurd h5 (by rw [i1]; decide)
  · refine r_iconst (x := 1) F dX8_mark_8 rfl ?_
    refine r_goto F dX8_mark_9 ?_
    refine r_callV1i F fMX8_holds tw_942 rfl rfl rfl rfl dX8_mark_26 rfl rfl z0 (m8_holds g (x := 1) (by decide)) ?_
    refine r_Bne F dX8_mark_29 (fun h29 => ?_) (fun h29 => ?_)
    · exact absurd h29 (by decide)
    · refine r_iconst (x := 0) F dX8_mark_32 rfl ?_
      exact r_iret F rfl rfl dX8_mark_33 (pmt h 1 _)
set_option maxHeartbeats 8000000 in
theorem t8_mark2 {G : GT} {v : VV} {L : LL} {a : AS} (g : GH G) (h : IM v a) {p : Nat} {y : Int32} (hp : p < 8) (hx : oor y 2) : CC G MX8_mark [.ref (gB G 83), .int (nI p), .int y] v L (gI (PMt v L a 2)) := by
  refine cc_of g [some (.ref (gB G 83)), some (.int (nI p)), some (.int y), none] rfl rfl rfl rfl (fun K F => ?_)
  have i1 := inn_i (k := p) (n := 7) (by decide) (by omega)
  have i2 := inn_o hx
  refine r_aload_n F dX8_mark_0 rfl ?_
  refine r_iload_n F dX8_mark_1 rfl ?_
  refine r_callS1i F fMX8_isPosition tw_928 rfl dX8_mark_2 rfl rfl z0 (m8_isPosition g (nI p)) ?_
  refine r_Bne F dX8_mark_5 (fun h5 => ?_) (fun h5 => ?_)
  · refine r_iload_n F dX8_mark_12 rfl ?_
    refine r_iconst (x := 0) F dX8_mark_13 rfl ?_
    refine r_iconst (x := 2) F dX8_mark_14 rfl ?_
    refine r_callS3i F fMX8_in tw_931 rfl dX8_mark_15 rfl rfl z0 (m8_in g y (nI 0) (nI 2)) ?_
    refine r_Bne F dX8_mark_18 (fun h18 => ?_) (fun h18 => ?_)
    · exact absurd h18 (by rw [i2]; decide)
    · refine r_iconst (x := 2) F dX8_mark_21 rfl ?_
      refine r_goto F dX8_mark_22 ?_
      refine r_callV1i F fMX8_holds tw_942 rfl rfl rfl rfl dX8_mark_26 rfl rfl z0 (m8_holds g (x := 2) (by decide)) ?_
      refine r_Bne F dX8_mark_29 (fun h29 => ?_) (fun h29 => ?_)
      · exact absurd h29 (by decide)
      · refine r_iconst (x := 0) F dX8_mark_32 rfl ?_
        exact r_iret F rfl rfl dX8_mark_33 (pmt h 2 _)
  · exact absurd h5 (by rw [i1]; decide)
theorem RM.cong {v : VV} {S S' : Nat → Nat} (h : RM v S) (e : ∀ j, j < 60 → S j = S' j) : RM v S' := fun j hj => (h j hj).trans (e j hj)
/-- the marks up to i are exchanged -/
def exS (S : Nat → Nat) (i : Nat) : Nat → Nat := fun j => if 12 ≤ j ∧ (j - 12) % 6 = 0 ∧ (j - 12) / 6 < i then (if S j = 0 then 0 else 3 - S j) else S j
theorem exS_s (S : Nat → Nat) (i : Nat) : upN (exS S i) (12 + 6 * i) (if S (12 + 6 * i) = 0 then 0 else 3 - S (12 + 6 * i)) = exS S (i + 1) := by
  funext j
  by_cases e : j = 12 + 6 * i
  · rw [e, upN_s]
    unfold exS
    rw [if_pos (show 12 ≤ 12 + 6 * i ∧ (12 + 6 * i - 12) % 6 = 0 ∧ (12 + 6 * i - 12) / 6 < i + 1 by omega)]
  · rw [upN_n _ _ e]
    unfold exS
    by_cases c : 12 ≤ j ∧ (j - 12) % 6 = 0 ∧ (j - 12) / 6 < i
    · rw [if_pos c, if_pos (show 12 ≤ j ∧ (j - 12) % 6 = 0 ∧ (j - 12) / 6 < i + 1 by omega)]
    · rw [if_neg c, if_neg (show ¬ (12 ≤ j ∧ (j - 12) % 6 = 0 ∧ (j - 12) / 6 < i + 1) by omega)]
theorem exS_o (S : Nat → Nat) {i j : Nat} (h : ¬ (12 ≤ j ∧ (j - 12) % 6 = 0 ∧ (j - 12) / 6 < i)) : exS S i j = S j := by unfold exS; rw [if_neg h]
set_option maxHeartbeats 8000000 in
theorem m8_reverse {G : GT} {v : VV} {L : LL} {a : AS} (g : GH G) (h : IM v a) (w : WA a) : CC G MX8_reverse [.ref (gB G 83)] v L (gI (PMo v L (stA (svA a) (revS (sS a))) (nI (sS a 0 - sS a 2)))) := by
  refine cc_of g [some (.ref (gB G 83)), none, none] rfl rfl rfl rfl (fun K F => ?_)
  obtain ⟨w1, w2, w3, w4, w5, w6, w7⟩ := w.1
  have lo : ∀ (v1 : VV), SV (up2 v 83 7 0) v1 a → ∀ (m i : Nat) (v2 : VV), 8 < i + m → i ≤ 8 → RM v2 (exS (sS a) i) → (∀ k, k ≠ 84 → v2 k = v1 k) → CW G K 3 0 0 (MQ (kb K) (Qn G (gI (PMo v L (stA (svA a) (revS (sS a))) (nI (sS a 0 - sS a 2))))) (ka K) (ks K) 0 0 (gA G)) v2 L 11 [some (.ref (gB G 83)), some (.int (nI i)), none] [] := by
    intro v1 hs m
    induction m with
    | zero => intro i v2 a1 a2; omega
    | succ m ih =>
      intro i v2 a1 a2 hr hk
      have em : exS (sS a) i (12 + 6 * i) = sS a (12 + 6 * i) := exS_o _ (by omega)
      have hx : i < 8 → sS a (12 + 6 * i) ≤ 2 := fun z => (w7 i z).1
      have q0 : v2 84 0 = sS a 0 := (hr 0 (by decide)).trans (exS_o _ (by omega))
      have q2 : v2 84 2 = sS a 2 := (hr 2 (by decide)).trans (exS_o _ (by omega))
      have q3 : v2 84 3 = sS a 3 := (hr 3 (by decide)).trans (exS_o _ (by omega))
      have q5 : v2 84 5 = sS a 5 := (hr 5 (by decide)).trans (exS_o _ (by omega))
      refine r_iload_n F dX8_reverse_11 rfl ?_
      refine r_bipush (x := 8) F dX8_reverse_12 rfl ?_
      refine r_icge F dX8_reverse_14 (by omega) (by omega) (fun h14 => ?_) (fun h14 => ?_)
      · refine r_aload_n F dX8_reverse_47 rfl ?_
        refine r_get (x := .ref (gB G 84)) (T := TX8) (n := 0) F uw8 rfl rfl tw_877 (Or.inl rfl) dX8_reverse_48 (kd_lt (rfl : kd 83 = (7,0,0)) (by decide)) (ce7 rfl) rfl ?_
        refine r_iconst (x := 2) F dX8_reverse_51 rfl ?_
        refine r_aload_n F dX8_reverse_52 rfl ?_
        refine r_get (x := .ref (gB G 84)) (T := TX8) (n := 0) F uw8 rfl rfl tw_877 (Or.inl rfl) dX8_reverse_53 (kd_lt (rfl : kd 83 = (7,0,0)) (by decide)) (ce7 rfl) rfl ?_
        refine r_iconst (x := 0) F dX8_reverse_56 rfl ?_
        refine r_iald F dX8_reverse_57 rfl (by omega) ?_
        refine r_aload_n F dX8_reverse_58 rfl ?_
        refine r_get (x := .ref (gB G 84)) (T := TX8) (n := 0) F uw8 rfl rfl tw_877 (Or.inl rfl) dX8_reverse_59 (kd_lt (rfl : kd 83 = (7,0,0)) (by decide)) (ce7 rfl) rfl ?_
        refine r_iconst (x := 2) F dX8_reverse_62 rfl ?_
        refine r_iald F dX8_reverse_63 rfl (by omega) ?_
        rw [q0, q2]
        refine r_isub F dX8_reverse_64 (by omega) ?_
        refine r_iast F dX8_reverse_65 rfl (by omega) ?_
        refine r_aload_n F dX8_reverse_66 rfl ?_
        refine r_get (x := .ref (gB G 84)) (T := TX8) (n := 0) F uw8 rfl rfl tw_877 (Or.inl rfl) dX8_reverse_67 (kd_lt (rfl : kd 83 = (7,0,0)) (by decide)) (ce7 rfl) rfl ?_
        refine r_iconst (x := 3) F dX8_reverse_70 rfl ?_
        refine r_iconst (x := 1) F dX8_reverse_71 rfl ?_
        refine r_aload_n F dX8_reverse_72 rfl ?_
        refine r_get (x := .ref (gB G 84)) (T := TX8) (n := 0) F uw8 rfl rfl tw_877 (Or.inl rfl) dX8_reverse_73 (kd_lt (rfl : kd 83 = (7,0,0)) (by decide)) (ce7 rfl) rfl ?_
        refine r_iconst (x := 3) F dX8_reverse_76 rfl ?_
        refine r_iald F dX8_reverse_77 rfl (by omega) ?_
        rw [up2_j (b := 3) _ (by decide), q3]
        refine r_isub F dX8_reverse_78 (by omega) ?_
        refine r_iast F dX8_reverse_79 rfl (by omega) ?_
        refine r_aload_n F dX8_reverse_80 rfl ?_
        refine r_get (x := .ref (gB G 84)) (T := TX8) (n := 0) F uw8 rfl rfl tw_877 (Or.inl rfl) dX8_reverse_81 (kd_lt (rfl : kd 83 = (7,0,0)) (by decide)) (ce7 rfl) rfl ?_
        refine r_iconst (x := 5) F dX8_reverse_84 rfl ?_
        refine r_aload_n F dX8_reverse_85 rfl ?_
        refine r_get (x := .ref (gB G 84)) (T := TX8) (n := 0) F uw8 rfl rfl tw_877 (Or.inl rfl) dX8_reverse_86 (kd_lt (rfl : kd 83 = (7,0,0)) (by decide)) (ce7 rfl) rfl ?_
        refine r_iconst (x := 5) F dX8_reverse_89 rfl ?_
        refine r_iald F dX8_reverse_90 rfl (by omega) ?_
        rw [up2_j (b := 5) _ (by decide), up2_j (b := 5) _ (by decide), q5]
        refine r_ifne F dX8_reverse_91 (by omega) (fun h91 => ?_) (fun h91 => ?_)
        · refine r_iconst (x := 3) F dX8_reverse_98 rfl ?_
          refine r_aload_n F dX8_reverse_99 rfl ?_
          refine r_get (x := .ref (gB G 84)) (T := TX8) (n := 0) F uw8 rfl rfl tw_877 (Or.inl rfl) dX8_reverse_100 (kd_lt (rfl : kd 83 = (7,0,0)) (by decide)) (ce7 rfl) rfl ?_
          refine r_iconst (x := 5) F dX8_reverse_103 rfl ?_
          refine r_iald F dX8_reverse_104 rfl (by omega) ?_
          rw [up2_j (b := 5) _ (by decide), up2_j (b := 5) _ (by decide), q5]
          refine r_isub F dX8_reverse_105 (by omega) ?_
          refine r_iast F dX8_reverse_106 rfl (by omega) ?_
          refine r_aload_n F dX8_reverse_107 rfl ?_
          refine r_get (x := .ref (gB G 84)) (T := TX8) (n := 0) F uw8 rfl rfl tw_877 (Or.inl rfl) dX8_reverse_108 (kd_lt (rfl : kd 83 = (7,0,0)) (by decide)) (ce7 rfl) rfl ?_
          refine r_iconst (x := 2) F dX8_reverse_111 rfl ?_
          refine r_iald F dX8_reverse_112 rfl (by omega) ?_
          have hi : i = 8 := by omega
          subst hi
          refine r_iret F rfl rfl dX8_reverse_113 ⟨_, rfl, by (repeat rw [up2_j (b := 2) _ (by decide)]); rw [up2_s], rfl, hs.to rfl (((hr.up 2 _).up 3 _).up 5 _ |>.cong (fun j hj => ?_)) (fun k hk2 => by rw [up2_k _ hk2, up2_k _ hk2, up2_k _ hk2, hk k hk2])⟩
          unfold revS
          by_cases j2 : j = 2
          · subst j2; rw [upN_n _ _ (by decide), upN_n _ _ (by decide), upN_s, if_pos rfl]
          · by_cases j3 : j = 3
            · subst j3; rw [upN_n _ _ (by decide), upN_s, if_neg (by decide), if_pos rfl]
            · by_cases j5 : j = 5
              · subst j5
                rw [upN_s, if_neg (by decide), if_neg (by decide), if_pos rfl]
                first | (rw [if_pos (by omega)]; done) | (rw [if_neg (by omega)]; done)
              · rw [upN_n _ _ j5, upN_n _ _ j3, upN_n _ _ j2, if_neg j2, if_neg j3, if_neg j5]
                by_cases c : 12 ≤ j ∧ (j - 12) % 6 = 0
                · rw [if_pos c]; unfold exS; rw [if_pos (by omega)]
                · rw [if_neg c]; exact exS_o _ (by omega)
        · refine r_iconst (x := 0) F dX8_reverse_94 rfl ?_
          refine r_goto F dX8_reverse_95 ?_
          refine r_iast F dX8_reverse_106 rfl (by omega) ?_
          refine r_aload_n F dX8_reverse_107 rfl ?_
          refine r_get (x := .ref (gB G 84)) (T := TX8) (n := 0) F uw8 rfl rfl tw_877 (Or.inl rfl) dX8_reverse_108 (kd_lt (rfl : kd 83 = (7,0,0)) (by decide)) (ce7 rfl) rfl ?_
          refine r_iconst (x := 2) F dX8_reverse_111 rfl ?_
          refine r_iald F dX8_reverse_112 rfl (by omega) ?_
          have hi : i = 8 := by omega
          subst hi
          refine r_iret F rfl rfl dX8_reverse_113 ⟨_, rfl, by (repeat rw [up2_j (b := 2) _ (by decide)]); rw [up2_s], rfl, hs.to rfl (((hr.up 2 _).up 3 _).up 5 _ |>.cong (fun j hj => ?_)) (fun k hk2 => by rw [up2_k _ hk2, up2_k _ hk2, up2_k _ hk2, hk k hk2])⟩
          unfold revS
          by_cases j2 : j = 2
          · subst j2; rw [upN_n _ _ (by decide), upN_n _ _ (by decide), upN_s, if_pos rfl]
          · by_cases j3 : j = 3
            · subst j3; rw [upN_n _ _ (by decide), upN_s, if_neg (by decide), if_pos rfl]
            · by_cases j5 : j = 5
              · subst j5
                rw [upN_s, if_neg (by decide), if_neg (by decide), if_pos rfl]
                first | (rw [if_pos (by omega)]; done) | (rw [if_neg (by omega)]; done)
              · rw [upN_n _ _ j5, upN_n _ _ j3, upN_n _ _ j2, if_neg j2, if_neg j3, if_neg j5]
                by_cases c : 12 ≤ j ∧ (j - 12) % 6 = 0
                · rw [if_pos c]; unfold exS; rw [if_pos (by omega)]
                · rw [if_neg c]; exact exS_o _ (by omega)
      · refine r_aload_n F dX8_reverse_17 rfl ?_
        refine r_iload_n F dX8_reverse_18 rfl ?_
        refine r_iconst (x := 0) F dX8_reverse_19 rfl ?_
        refine r_callV2i F fMX8_of tw_938 rfl rfl rfl rfl dX8_reverse_20 rfl rfl z0 (m8_mark0 g hr h14) ?_
        rw [em]
        refine r_ist2 F dX8_reverse_23 rfl rfl ?_
        refine r_aload_n F dX8_reverse_24 rfl ?_
        refine r_iload_n F dX8_reverse_25 rfl ?_
        refine r_iconst (x := 0) F dX8_reverse_26 rfl ?_
        refine r_iload_n F dX8_reverse_27 rfl ?_
        refine r_ifne F dX8_reverse_28 (by omega) (fun h28 => ?_) (fun h28 => ?_)
        · refine r_iconst (x := 3) F dX8_reverse_35 rfl ?_
          refine r_iload_n F dX8_reverse_36 rfl ?_
          refine r_isub F dX8_reverse_37 (by omega) ?_
          refine r_callV3v F fMX8_put tw_950 rfl rfl rfl rfl dX8_reverse_38 rfl rfl z0 (m8_put g (p := i) (w := 0) (by omega)) ?_
          refine r_iinc1 (y := 1) F dX8_reverse_41 rfl rfl rfl rfl ?_
          refine r_goto F dX8_reverse_44 ?_
          rw [show 12 + 6 * i + 0 = 12 + 6 * i by omega]
          refine r_dr2 ?_
          have e9 := exS_s (sS a) i
          have hh := hr.up (12 + 6 * i) (if sS a (12 + 6 * i) = 0 then 0 else 3 - sS a (12 + 6 * i))
          rw [e9] at hh
          first
            | (rw [if_pos (by omega)] at hh
               exact ih (i + 1) _ (by omega) (by omega) hh (fun k hk2 => by rw [up2_k _ hk2, hk k hk2]))
            | (rw [if_neg (by omega)] at hh
               exact ih (i + 1) _ (by omega) (by omega) hh (fun k hk2 => by rw [up2_k _ hk2, hk k hk2]))
        · refine r_iconst (x := 0) F dX8_reverse_31 rfl ?_
          refine r_goto F dX8_reverse_32 ?_
          refine r_callV3v F fMX8_put tw_950 rfl rfl rfl rfl dX8_reverse_38 rfl rfl z0 (m8_put g (p := i) (w := 0) (by omega)) ?_
          refine r_iinc1 (y := 1) F dX8_reverse_41 rfl rfl rfl rfl ?_
          refine r_goto F dX8_reverse_44 ?_
          rw [show 12 + 6 * i + 0 = 12 + 6 * i by omega]
          refine r_dr2 ?_
          have e9 := exS_s (sS a) i
          have hh := hr.up (12 + 6 * i) (if sS a (12 + 6 * i) = 0 then 0 else 3 - sS a (12 + 6 * i))
          rw [e9] at hh
          first
            | (rw [if_pos (by omega)] at hh
               exact ih (i + 1) _ (by omega) (by omega) hh (fun k hk2 => by rw [up2_k _ hk2, hk k hk2]))
            | (rw [if_neg (by omega)] at hh
               exact ih (i + 1) _ (by omega) (by omega) hh (fun k hk2 => by rw [up2_k _ hk2, hk k hk2]))
  refine r_aload_n F dX8_reverse_0 rfl ?_
  refine r_iconst (x := 0) F dX8_reverse_1 rfl ?_
  refine r_put (T := TX8) (n := 7) (ty0 := tyX8) (ty := .int) F uw8 tyX8_ok nmX8 rfl rfl tw_884 (Or.inl rfl) rfl rfl rfl rfl dX8_reverse_2 (kd_lt (rfl : kd 83 = (7,0,0)) (by decide)) (ce7 rfl) rfl (pe7_7 rfl) up2_ce ?_
  refine r_aload_n F dX8_reverse_5 rfl ?_
  refine r_callV0w F fMX8_save tw_946 rfl rfl rfl rfl dX8_reverse_6 rfl rfl z0 (m8_save g (h.thr 0) w) ?_
  rintro v1 L1 ⟨rfl, hs⟩
  refine r_iconst (x := 0) F dX8_reverse_9 rfl ?_
  refine r_ist1 F dX8_reverse_10 rfl rfl ?_
  exact lo v1 hs 9 0 v1 (by omega) (by omega) (hs.rm.cong (fun j _ => (exS_o _ (by omega)).symm)) (fun _ _ => rfl)
set_option maxHeartbeats 8000000 in
theorem m8_set {G : GT} {v : VV} {L : LL} {a : AS} (g : GH G) (h : IM v a) (w : WA a) {i x : Nat} (hi : i ≤ 1) (hx : x ≤ if i = 0 then 20 else 12) : CC G MX8_set [.ref (gB G 83), .int (nI i), .int (nI x)] v L (gI (PMo v L (stA (svA a) (setS (sS a) i x)) (nI (sS a i)))) := by
  refine cc_of g [some (.ref (gB G 83)), some (.int (nI i)), some (.int (nI x)), none] rfl rfl rfl rfl (fun K F => ?_)
  have i1 := inn_i (k := i) (n := 1) (by decide) hi
  have hi2 : i = 0 ∨ i = 1 := by omega
  rcases hi2 with rfl | rfl
  · have hx20 : x ≤ 20 := hx
    have i2 := inn_i (k := x) (n := 20) (by decide) hx20
    refine r_aload_n F dX8_set_0 rfl ?_
    refine r_iload_n F dX8_set_1 rfl ?_
    refine r_callS1i F fMX8_isOneOfTwo tw_970 rfl dX8_set_2 rfl rfl z0 (m8_isOneOfTwo g (nI 0)) ?_
    refine r_Bne F dX8_set_5 (fun h5 => ?_) (fun h5 => ?_)
    · refine r_iload_n F dX8_set_12 rfl ?_
      refine r_iconst (x := 0) F dX8_set_13 rfl ?_
      refine r_iload_n F dX8_set_14 rfl ?_
      refine r_ifne F dX8_set_15 (by omega) (fun h15 => ?_) (fun h15 => ?_)
      · exact absurd rfl h15
      · refine r_bipush (x := 20) F dX8_set_18 rfl ?_
        refine r_goto F dX8_set_20 ?_
        refine r_callS3i F fMX8_in tw_931 rfl dX8_set_25 rfl rfl z0 (m8_in g (nI x) (nI 0) (nI 20)) ?_
        refine r_Bne F dX8_set_28 (fun h28 => ?_) (fun h28 => ?_)
        · refine r_iconst (x := 0) F dX8_set_35 rfl ?_
          refine r_callV1i F fMX8_holds tw_942 rfl rfl rfl rfl dX8_set_36 rfl rfl z0 (m8_holds g (x := 0) (by decide)) ?_
          refine r_Bne F dX8_set_39 (fun h39 => ?_) (fun h39 => ?_)
          · refine r_aload_n F dX8_set_44 rfl ?_
            refine r_callV0w F fMX8_save tw_946 rfl rfl rfl rfl dX8_set_45 rfl rfl z0 (m8_save g (h.thr 0) w) ?_
            rintro v1 L1 ⟨rfl, hs⟩
            have q0 := hs.rm 0 (by decide)
            refine r_aload_n F dX8_set_48 rfl ?_
            refine r_get (x := .ref (gB G 84)) (T := TX8) (n := 0) F uw8 rfl rfl tw_877 (Or.inl rfl) dX8_set_49 (kd_lt (rfl : kd 83 = (7,0,0)) (by decide)) (ce7 rfl) rfl ?_
            refine r_iconst (x := 0) F dX8_set_52 rfl ?_
            refine r_iload_n F dX8_set_53 rfl ?_
            refine r_iadd F dX8_set_54 ?_
            refine r_iald F dX8_set_55 rfl (by omega) ?_
            refine r_ist3 F dX8_set_56 rfl rfl ?_
            refine r_aload_n F dX8_set_57 rfl ?_
            refine r_get (x := .ref (gB G 84)) (T := TX8) (n := 0) F uw8 rfl rfl tw_877 (Or.inl rfl) dX8_set_58 (kd_lt (rfl : kd 83 = (7,0,0)) (by decide)) (ce7 rfl) rfl ?_
            refine r_iconst (x := 0) F dX8_set_61 rfl ?_
            refine r_iload_n F dX8_set_62 rfl ?_
            refine r_iadd F dX8_set_63 ?_
            refine r_iload_n F dX8_set_64 rfl ?_
            refine r_iast F dX8_set_65 rfl (by omega) ?_
            refine r_aload_n F dX8_set_66 rfl ?_
            refine r_get (x := .ref (gB G 84)) (T := TX8) (n := 0) F uw8 rfl rfl tw_877 (Or.inl rfl) dX8_set_67 (kd_lt (rfl : kd 83 = (7,0,0)) (by decide)) (ce7 rfl) rfl ?_
            refine r_iconst (x := 2) F dX8_set_70 rfl ?_
            refine r_iload_n F dX8_set_71 rfl ?_
            refine r_ifne F dX8_set_72 (by omega) (fun h72 => ?_) (fun h72 => ?_)
            · exact absurd rfl h72
            · refine r_iload_n F dX8_set_75 rfl ?_
              refine r_iconst (x := 2) F dX8_set_76 rfl ?_
              refine r_idiv F dX8_set_77 (by omega) (by omega) (by omega) ?_
              refine r_goto F dX8_set_78 ?_
              refine r_iast F dX8_set_87 rfl (by omega) ?_
              refine r_iload_n F dX8_set_88 rfl ?_
              exact r_iret F rfl rfl dX8_set_89 ⟨_, rfl, by rw [q0], rfl, hs.to rfl ((hs.rm.up 0 _).up 2 _) (fun k hk2 => by rw [up2_k _ hk2, up2_k _ hk2])⟩
          · exact absurd h39 (by decide)
        · exact absurd h28 (by rw [i2]; decide)
    · exact absurd h5 (by rw [i1]; decide)
  · have hx12 : x ≤ 12 := hx
    have i2 := inn_i (k := x) (n := 12) (by decide) hx12
    refine r_aload_n F dX8_set_0 rfl ?_
    refine r_iload_n F dX8_set_1 rfl ?_
    refine r_callS1i F fMX8_isOneOfTwo tw_970 rfl dX8_set_2 rfl rfl z0 (m8_isOneOfTwo g (nI 1)) ?_
    refine r_Bne F dX8_set_5 (fun h5 => ?_) (fun h5 => ?_)
    · refine r_iload_n F dX8_set_12 rfl ?_
      refine r_iconst (x := 0) F dX8_set_13 rfl ?_
      refine r_iload_n F dX8_set_14 rfl ?_
      refine r_ifne F dX8_set_15 (by omega) (fun h15 => ?_) (fun h15 => ?_)
      · refine r_bipush (x := 12) F dX8_set_23 rfl ?_
        refine r_callS3i F fMX8_in tw_931 rfl dX8_set_25 rfl rfl z0 (m8_in g (nI x) (nI 0) (nI 12)) ?_
        refine r_Bne F dX8_set_28 (fun h28 => ?_) (fun h28 => ?_)
        · refine r_iconst (x := 0) F dX8_set_35 rfl ?_
          refine r_callV1i F fMX8_holds tw_942 rfl rfl rfl rfl dX8_set_36 rfl rfl z0 (m8_holds g (x := 0) (by decide)) ?_
          refine r_Bne F dX8_set_39 (fun h39 => ?_) (fun h39 => ?_)
          · refine r_aload_n F dX8_set_44 rfl ?_
            refine r_callV0w F fMX8_save tw_946 rfl rfl rfl rfl dX8_set_45 rfl rfl z0 (m8_save g (h.thr 0) w) ?_
            rintro v1 L1 ⟨rfl, hs⟩
            have q0 := hs.rm 1 (by decide)
            have q2 := hs.rm 2 (by decide)
            refine r_aload_n F dX8_set_48 rfl ?_
            refine r_get (x := .ref (gB G 84)) (T := TX8) (n := 0) F uw8 rfl rfl tw_877 (Or.inl rfl) dX8_set_49 (kd_lt (rfl : kd 83 = (7,0,0)) (by decide)) (ce7 rfl) rfl ?_
            refine r_iconst (x := 0) F dX8_set_52 rfl ?_
            refine r_iload_n F dX8_set_53 rfl ?_
            refine r_iadd F dX8_set_54 ?_
            refine r_iald F dX8_set_55 rfl (by omega) ?_
            refine r_ist3 F dX8_set_56 rfl rfl ?_
            refine r_aload_n F dX8_set_57 rfl ?_
            refine r_get (x := .ref (gB G 84)) (T := TX8) (n := 0) F uw8 rfl rfl tw_877 (Or.inl rfl) dX8_set_58 (kd_lt (rfl : kd 83 = (7,0,0)) (by decide)) (ce7 rfl) rfl ?_
            refine r_iconst (x := 0) F dX8_set_61 rfl ?_
            refine r_iload_n F dX8_set_62 rfl ?_
            refine r_iadd F dX8_set_63 ?_
            refine r_iload_n F dX8_set_64 rfl ?_
            refine r_iast F dX8_set_65 rfl (by omega) ?_
            refine r_aload_n F dX8_set_66 rfl ?_
            refine r_get (x := .ref (gB G 84)) (T := TX8) (n := 0) F uw8 rfl rfl tw_877 (Or.inl rfl) dX8_set_67 (kd_lt (rfl : kd 83 = (7,0,0)) (by decide)) (ce7 rfl) rfl ?_
            refine r_iconst (x := 2) F dX8_set_70 rfl ?_
            refine r_iload_n F dX8_set_71 rfl ?_
            refine r_ifne F dX8_set_72 (by omega) (fun h72 => ?_) (fun h72 => ?_)
            · refine r_aload_n F dX8_set_81 rfl ?_
              refine r_get (x := .ref (gB G 84)) (T := TX8) (n := 0) F uw8 rfl rfl tw_877 (Or.inl rfl) dX8_set_82 (kd_lt (rfl : kd 83 = (7,0,0)) (by decide)) (ce7 rfl) rfl ?_
              refine r_iconst (x := 2) F dX8_set_85 rfl ?_
              refine r_iald F dX8_set_86 rfl (by omega) ?_
              rw [up2_j (b := 2) _ (by decide), q2]
              refine r_iast F dX8_set_87 rfl (by omega) ?_
              refine r_iload_n F dX8_set_88 rfl ?_
              exact r_iret F rfl rfl dX8_set_89 ⟨_, rfl, by rw [q0], rfl, hs.to rfl (((hs.rm.up 1 _).up 2 _).cong (fun j hj => by
                show _ = (if (1 : Nat) = 0 then upN (upN (sS a) 0 x) 2 (x / 2) else upN (sS a) 1 x) j
                rw [if_neg (by decide)]
                by_cases e : j = 2
                · subst e; rw [upN_s, upN_n _ _ (by decide)]
                · rw [upN_n _ _ e])) (fun k hk2 => by rw [up2_k _ hk2, up2_k _ hk2])⟩
            · exact absurd h72 (by decide)
          · exact absurd h39 (by decide)
        · exact absurd h28 (by rw [i2]; decide)
      · exact absurd h15 (by decide)
    · exact absurd h5 (by rw [i1]; decide)
set_option maxHeartbeats 8000000 in
theorem t8_set1 {G : GT} {v : VV} {L : LL} {a : AS} (g : GH G) (h : IM v a) {x y : Int32} (hx : oor x 1) : CC G MX8_set [.ref (gB G 83), .int x, .int y] v L (gI (PMt v L a 1)) := by
  refine cc_of g [some (.ref (gB G 83)), some (.int x), some (.int y), none] rfl rfl rfl rfl (fun K F => ?_)
  have i1 := inn_o hx
  refine r_aload_n F dX8_set_0 rfl ?_
  refine r_iload_n F dX8_set_1 rfl ?_
  refine r_callS1i F fMX8_isOneOfTwo tw_970 rfl dX8_set_2 rfl rfl z0 (m8_isOneOfTwo g x) ?_
  refine r_Bne F dX8_set_5 (fun h5 => ?_) (fun h5 => ?_)
  · exact absurd h5 (by rw [i1]; decide)
  · refine r_iconst (x := 1) F dX8_set_8 rfl ?_
    refine r_goto F dX8_set_9 ?_
    refine r_callV1i F fMX8_holds tw_942 rfl rfl rfl rfl dX8_set_36 rfl rfl z0 (m8_holds g (x := 1) (by decide)) ?_
    refine r_Bne F dX8_set_39 (fun h39 => ?_) (fun h39 => ?_)
    · exact absurd h39 (by decide)
    · refine r_iconst (x := 0) F dX8_set_42 rfl ?_
      exact r_iret F rfl rfl dX8_set_43 (pmt h 1 _)
set_option maxHeartbeats 8000000 in
theorem t8_set2 {G : GT} {v : VV} {L : LL} {a : AS} (g : GH G) (h : IM v a) {i : Nat} {y : Int32} (hi : i ≤ 1) (hx : oor y (if i = 0 then 20 else 12)) : CC G MX8_set [.ref (gB G 83), .int (nI i), .int y] v L (gI (PMt v L a 2)) := by
  refine cc_of g [some (.ref (gB G 83)), some (.int (nI i)), some (.int y), none] rfl rfl rfl rfl (fun K F => ?_)
  have i1 := inn_i (k := i) (n := 1) (by decide) hi
  have i2 := inn_o hx
  refine r_aload_n F dX8_set_0 rfl ?_
  refine r_iload_n F dX8_set_1 rfl ?_
  refine r_callS1i F fMX8_isOneOfTwo tw_970 rfl dX8_set_2 rfl rfl z0 (m8_isOneOfTwo g (nI i)) ?_
  refine r_Bne F dX8_set_5 (fun h5 => ?_) (fun h5 => ?_)
  · refine r_iload_n F dX8_set_12 rfl ?_
    refine r_iconst (x := 0) F dX8_set_13 rfl ?_
    refine r_iload_n F dX8_set_14 rfl ?_
    refine r_ifne F dX8_set_15 (by omega) (fun h15 => ?_) (fun h15 => ?_)
    · refine r_bipush (x := 12) F dX8_set_23 rfl ?_
      refine r_callS3i F fMX8_in tw_931 rfl dX8_set_25 rfl rfl z0 (m8_in g y (nI 0) _) ?_
      refine r_Bne F dX8_set_28 (fun h28 => ?_) (fun h28 => ?_)
      · exact absurd h28 (by first | (rw [if_pos h15] at i2; rw [i2]; decide) | (rw [if_neg h15] at i2; rw [i2]; decide))
      · refine r_iconst (x := 2) F dX8_set_31 rfl ?_
        refine r_goto F dX8_set_32 ?_
        refine r_callV1i F fMX8_holds tw_942 rfl rfl rfl rfl dX8_set_36 rfl rfl z0 (m8_holds g (x := 2) (by decide)) ?_
        refine r_Bne F dX8_set_39 (fun h39 => ?_) (fun h39 => ?_)
        · exact absurd h39 (by decide)
        · refine r_iconst (x := 0) F dX8_set_42 rfl ?_
          exact r_iret F rfl rfl dX8_set_43 (pmt h 2 _)
    · refine r_bipush (x := 20) F dX8_set_18 rfl ?_
      refine r_goto F dX8_set_20 ?_
      refine r_callS3i F fMX8_in tw_931 rfl dX8_set_25 rfl rfl z0 (m8_in g y (nI 0) _) ?_
      refine r_Bne F dX8_set_28 (fun h28 => ?_) (fun h28 => ?_)
      · exact absurd h28 (by first | (rw [if_pos h15] at i2; rw [i2]; decide) | (rw [if_neg h15] at i2; rw [i2]; decide))
      · refine r_iconst (x := 2) F dX8_set_31 rfl ?_
        refine r_goto F dX8_set_32 ?_
        refine r_callV1i F fMX8_holds tw_942 rfl rfl rfl rfl dX8_set_36 rfl rfl z0 (m8_holds g (x := 2) (by decide)) ?_
        refine r_Bne F dX8_set_39 (fun h39 => ?_) (fun h39 => ?_)
        · exact absurd h39 (by decide)
        · refine r_iconst (x := 0) F dX8_set_42 rfl ?_
          exact r_iret F rfl rfl dX8_set_43 (pmt h 2 _)
  · exact absurd h5 (by rw [i1]; decide)
