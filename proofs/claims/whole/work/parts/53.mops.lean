set_option maxHeartbeats 8000000 in
theorem m8_addMove {G : GT} {v : VV} {L : LL} {a : AS} (g : GH G) (h : IM v a) (w : WA a) {p q : Nat} (hp : p < 8) (hq : q < 8) (hne : p ≠ q) (hh : hm (sS a) p (nI q) = false) (hc : sS a (13 + 6 * p) < 4) : CC G MX8_addMove [.ref (gB G 83), .int (nI p), .int (nI q)] v L (gI (PMo v L (stA (svA a) (addM (sS a) p q)) (nI (sS a (13 + 6 * p) + 1)))) := by
  refine cc_of g [some (.ref (gB G 83)), some (.int (nI p)), some (.int (nI q)), none] rfl rfl rfl rfl (fun K F => ?_)
  have i1 := inn_i (k := p) (n := 7) (by decide) (by omega)
  have i2 := inn_i (k := q) (n := 7) (by decide) (by omega)
  refine r_iload_n F dX8_addMove_0 rfl ?_
  refine r_callS1i F fMX8_isPosition tw_928 rfl dX8_addMove_1 rfl rfl z0 (m8_isPosition g (nI p)) ?_
  refine r_Beq F dX8_addMove_4 (fun h4 => ?_) (fun h4 => ?_)
  · exact absurd h4 (by rw [i1]; decide)
  · refine r_iload_n F dX8_addMove_7 rfl ?_
    refine r_callS1i F fMX8_isPosition tw_928 rfl dX8_addMove_8 rfl rfl z0 (m8_isPosition g (nI q)) ?_
    refine r_Beq F dX8_addMove_11 (fun h11 => ?_) (fun h11 => ?_)
    · exact absurd h11 (by rw [i2]; decide)
    · refine r_iconst (x := 1) F dX8_addMove_14 rfl ?_
      refine r_goto F dX8_addMove_15 ?_
      refine r_ist3 F dX8_addMove_19 rfl rfl ?_
      refine r_aload_n F dX8_addMove_20 rfl ?_
      refine r_iload_n F dX8_addMove_21 rfl ?_
      refine r_ifne F dX8_addMove_22 (by omega) (fun h22 => ?_) (fun h22 => ?_)
      · refine r_iload_n F dX8_addMove_29 rfl ?_
        refine r_iload_n F dX8_addMove_30 rfl ?_
        refine r_icne F dX8_addMove_31 (by omega) (by omega) (fun h31 => ?_) (fun h31 => ?_)
        · refine r_aload_n F dX8_addMove_38 rfl ?_
          refine r_iload_n F dX8_addMove_39 rfl ?_
          refine r_iload_n F dX8_addMove_40 rfl ?_
          refine r_callV2i F fMX8_hasMove tw_934 rfl rfl rfl rfl dX8_addMove_41 rfl rfl z0 (m8_hasMove g h.1 w.1.b hp (nI q)) ?_
          refine r_Bne F dX8_addMove_44 (fun h44 => ?_) (fun h44 => ?_)
          · exact absurd h44 (by rw [hh]; decide)
          · refine r_aload_n F dX8_addMove_47 rfl ?_
            refine r_iload_n F dX8_addMove_48 rfl ?_
            refine r_iconst (x := 1) F dX8_addMove_49 rfl ?_
            refine r_callV2i F fMX8_of tw_938 rfl rfl rfl rfl dX8_addMove_50 rfl rfl z0 (m8_many g h.1 hp) ?_
            refine r_iconst (x := 4) F dX8_addMove_53 rfl ?_
            refine r_icne F dX8_addMove_54 (by omega) (by omega) (fun h54 => ?_) (fun h54 => ?_)
            · refine r_iconst (x := 0) F dX8_addMove_61 rfl ?_
              refine r_callV1i F fMX8_holds tw_942 rfl rfl rfl rfl dX8_addMove_62 rfl rfl z0 (m8_holds g (x := 0) (by decide)) ?_
              refine r_Bne F dX8_addMove_65 (fun h65 => ?_) (fun h65 => ?_)
              · refine r_aload_n F dX8_addMove_70 rfl ?_
                refine r_callV0w F fMX8_save tw_946 rfl rfl rfl rfl dX8_addMove_71 rfl rfl z0 (m8_save g (h.thr 0) w) ?_
                rintro v1 L1 ⟨rfl, hs⟩
                have r1 := hs.rm
                refine r_aload_n F dX8_addMove_74 rfl ?_
                refine r_iload_n F dX8_addMove_75 rfl ?_
                refine r_iconst (x := 2) F dX8_addMove_76 rfl ?_
                refine r_aload_n F dX8_addMove_77 rfl ?_
                refine r_iload_n F dX8_addMove_78 rfl ?_
                refine r_iconst (x := 1) F dX8_addMove_79 rfl ?_
                refine r_callV2i F fMX8_of tw_938 rfl rfl rfl rfl dX8_addMove_80 rfl rfl z0 (m8_many g r1 hp) ?_
                refine r_iadd F dX8_addMove_83 ?_
                refine r_iload_n F dX8_addMove_84 rfl ?_
                refine r_callV3v F fMX8_put tw_950 rfl rfl rfl rfl dX8_addMove_85 rfl rfl z0 (m8_put g (p := p) (w := 2 + sS a (13 + 6 * p)) (by omega)) ?_
                rw [show 12 + 6 * p + (2 + sS a (13 + 6 * p)) = 14 + 6 * p + sS a (13 + 6 * p) by omega]
                have r2 := r1.up (14 + 6 * p + sS a (13 + 6 * p)) q
                refine r_aload_n F dX8_addMove_88 rfl ?_
                refine r_iload_n F dX8_addMove_89 rfl ?_
                refine r_iconst (x := 1) F dX8_addMove_90 rfl ?_
                refine r_aload_n F dX8_addMove_91 rfl ?_
                refine r_iload_n F dX8_addMove_92 rfl ?_
                refine r_iconst (x := 1) F dX8_addMove_93 rfl ?_
                refine r_callV2i F fMX8_of tw_938 rfl rfl rfl rfl dX8_addMove_94 rfl rfl z0 (m8_many g r2 hp) ?_
                rw [upN_n _ _ (show 13 + 6 * p ≠ 14 + 6 * p + sS a (13 + 6 * p) by omega)]
                refine r_iconst (x := 1) F dX8_addMove_97 rfl ?_
                refine r_iadd F dX8_addMove_98 ?_
                refine r_callV3v F fMX8_put tw_950 rfl rfl rfl rfl dX8_addMove_99 rfl rfl z0 (m8_put g (p := p) (w := 1) (by omega)) ?_
                rw [show 12 + 6 * p + 1 = 13 + 6 * p by omega]
                have r3 : RM (up2 (up2 v1 84 (14 + 6 * p + sS a (13 + 6 * p)) q) 84 (13 + 6 * p) (sS a (13 + 6 * p) + 1)) (addM (sS a) p q) := r2.up (13 + 6 * p) (sS a (13 + 6 * p) + 1)
                refine r_aload_n F dX8_addMove_102 rfl ?_
                refine r_iload_n F dX8_addMove_103 rfl ?_
                refine r_iconst (x := 1) F dX8_addMove_104 rfl ?_
                refine r_callV2i F fMX8_of tw_938 rfl rfl rfl rfl dX8_addMove_105 rfl rfl z0 (m8_many g r3 hp) ?_
                exact r_iret F rfl rfl dX8_addMove_108 ⟨_, rfl, by unfold addM; rw [upN_s], rfl, hs.to rfl r3 (fun k hk => by rw [up2_k _ hk, up2_k _ hk])⟩
              · exact absurd h65 (by decide)
            · omega
        · exact absurd h31 hne
      · exact absurd h22 (by decide)
