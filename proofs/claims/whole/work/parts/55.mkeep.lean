set_option maxHeartbeats 16000000 in
theorem m8_bidY {G : GT} {v : VV} {L : LL} {a : AS} (g : GH G) (h : IM v a) (w : WA a) {b o : Nat} (hb : b ≤ bud (sS a) 0) (ho : o ≤ bud (sS a) 1) (hn : rbN (sS a) (nI b) (nI o) = 0) : CC G MX8_bid [.ref (gB G 83), .int (nI b), .int (nI o)] v L (gI (PMo v L (stA (svA a) (bidS (sS a) b o)) (nI (10 + buyer (sS a) b o)))) := by
  refine cc_of g [some (.ref (gB G 83)), some (.int (nI b)), some (.int (nI o)), none, none] rfl rfl rfl rfl (fun K F => ?_)
  have w0 : sS a 0 ≤ 20 := w.1.1
  have w2 : sS a 2 ≤ sS a 0 := w.1.2.2.1
  have w3 : sS a 3 ≤ 1 := w.1.2.2.2.1
  have w4 : sS a 4 < 8 := w.1.2.2.2.2.1
  have w5 : sS a 5 ≤ 2 := w.1.2.2.2.2.2.1
  have hb' : b ≤ sS a 2 := hb
  have ho' : o ≤ sS a 0 - sS a 2 := ho
  obtain ⟨p1, p2⟩ := buyer_pay w.1 hb ho
  have hn1 : ovr (sS a) (sS a 4) = false := by
    cases hz : ovr (sS a) (sS a 4) with
    | false => rfl
    | true => unfold rbN at hn; rw [if_pos hz] at hn; cases hn
  have hn2 : sS a 5 = 0 := by
    rcases Nat.eq_zero_or_pos (sS a 5) with z | z
    · exact z
    · unfold rbN at hn
      rw [if_neg (by rw [hn1]; decide), if_pos (by omega)] at hn
      cases hn
  have fin : ∀ (v1 v2 : VV) (y z : Nat), SV (up2 v 83 7 0) v1 a → RM v2 (bidT (sS a) b o) → (∀ k, k ≠ 84 → v2 k = v1 k) → y = buyer (sS a) b o → z = mxN b o → CW G K 5 0 0 (MQ (kb K) (Qn G (gI (PMo v L (stA (svA a) (bidS (sS a) b o)) (nI (10 + buyer (sS a) b o))))) (ka K) (ks K) 0 0 (gA G)) v2 L 142 [some (.ref (gB G 83)), some (.int (nI b)), some (.int (nI o)), some (.int (nI y)), some (.int (nI z))] [] := by
    intro v1 v2 y z hs hr hk hy hz
    have hy2 : y < 2 := by rw [hy]; exact buyer_lt w.1 b o
    have q2 : v2 84 2 = sS a 2 := by rw [hr 2 (by decide), bidT_lo _ _ _ (by decide) (by decide)]
    obtain ⟨S1, hS1⟩ : ∃ S1, S1 = bidT (sS a) b o := ⟨_, rfl⟩
    rw [← hS1] at hr
    have e2 : S1 2 = sS a 2 := by rw [hS1, bidT_lo _ _ _ (by decide) (by decide)]
    have c6 : 6 + y < 60 := by omega
    have c8 : 8 + y < 60 := by omega
    have eb : bidS (sS a) b o = buyS S1 y z := by unfold bidS; rw [hS1, hy, hz]
    have last : ∀ x, x = (if y = 0 then S1 2 - z else S1 2 + z) → CW G K 5 0 0 (MQ (kb K) (Qn G (gI (PMo v L (stA (svA a) (bidS (sS a) b o)) (nI (10 + buyer (sS a) b o))))) (ka K) (ks K) 0 0 (gA G)) (up2 v2 84 2 x) L 163 [some (.ref (gB G 83)), some (.int (nI b)), some (.int (nI o)), some (.int (nI y)), some (.int (nI z))] [] := by
      intro x hx
      have r1 := hr.up 2 x
      have r2 := r1.up 5 (y + 1)
      have g6 : up2 (up2 v2 84 2 x) 84 5 (y + 1) 84 (6 + y) = S1 (6 + y) := by rw [r2 _ c6, upN_n _ _ (by omega), upN_n _ _ (by omega)]
      have r3 := r2.up (6 + y) (S1 (6 + y) + 1)
      have g8 : up2 (up2 (up2 v2 84 2 x) 84 5 (y + 1)) 84 (6 + y) (S1 (6 + y) + 1) 84 (8 + y) = S1 (8 + y) := by rw [r3 _ c8, upN_n _ _ (by omega), upN_n _ _ (by omega), upN_n _ _ (by omega)]
      have r4 := r3.up (8 + y) (S1 (8 + y) + z)
      refine r_aload_n F dX8_bid_163 rfl ?_
      refine r_get (x := .ref (gB G 84)) (T := TX8) (n := 0) F uw8 rfl rfl tw_877 (Or.inl rfl) dX8_bid_164 (kd_lt (rfl : kd 83 = (7,0,0)) (by decide)) (ce7 rfl) rfl ?_
      refine r_iconst (x := 5) F dX8_bid_167 rfl ?_
      refine r_iload_n F dX8_bid_168 rfl ?_
      refine r_iconst (x := 1) F dX8_bid_169 rfl ?_
      refine r_iadd F dX8_bid_170 ?_
      refine r_iast F dX8_bid_171 rfl (by omega) ?_
      refine r_aload_n F dX8_bid_172 rfl ?_
      refine r_get (x := .ref (gB G 84)) (T := TX8) (n := 0) F uw8 rfl rfl tw_877 (Or.inl rfl) dX8_bid_173 (kd_lt (rfl : kd 83 = (7,0,0)) (by decide)) (ce7 rfl) rfl ?_
      refine r_bipush (x := 6) F dX8_bid_176 rfl ?_
      refine r_iload_n F dX8_bid_178 rfl ?_
      refine r_iadd F dX8_bid_179 ?_
      refine r_dup2 F dX8_bid_180 rfl rfl ?_
      refine r_iald F dX8_bid_181 rfl (by omega) ?_
      rw [g6]
      refine r_iconst (x := 1) F dX8_bid_182 rfl ?_
      refine r_iadd F dX8_bid_183 ?_
      refine r_iast F dX8_bid_184 rfl (by omega) ?_
      refine r_aload_n F dX8_bid_185 rfl ?_
      refine r_get (x := .ref (gB G 84)) (T := TX8) (n := 0) F uw8 rfl rfl tw_877 (Or.inl rfl) dX8_bid_186 (kd_lt (rfl : kd 83 = (7,0,0)) (by decide)) (ce7 rfl) rfl ?_
      refine r_bipush (x := 8) F dX8_bid_189 rfl ?_
      refine r_iload_n F dX8_bid_191 rfl ?_
      refine r_iadd F dX8_bid_192 ?_
      refine r_dup2 F dX8_bid_193 rfl rfl ?_
      refine r_iald F dX8_bid_194 rfl (by omega) ?_
      rw [g8]
      refine r_iload F dX8_bid_195 rfl ?_
      refine r_iadd F dX8_bid_197 ?_
      refine r_iast F dX8_bid_198 rfl (by omega) ?_
      refine r_bipush (x := 10) F dX8_bid_199 rfl ?_
      refine r_iload_n F dX8_bid_201 rfl ?_
      refine r_iadd F dX8_bid_202 ?_
      refine r_iret F rfl rfl dX8_bid_203 ⟨_, rfl, by rw [hy], rfl, hs.to rfl (r4.cong (fun j hj => ?_)) (fun k hk2 => by rw [up2_k _ hk2, up2_k _ hk2, up2_k _ hk2, up2_k _ hk2, hk k hk2])⟩
      rw [eb]
      unfold buyS
      rw [hx]
      by_cases j8 : j = 8 + y
      · subst j8; rw [upN_s, upN_n _ _ (by omega), upN_s]
      · rw [upN_n _ _ j8]
        by_cases j6 : j = 6 + y
        · subst j6; rw [upN_s, upN_n _ _ (by omega), upN_n _ _ (by omega), upN_s]
        · rw [upN_n _ _ j6]
          by_cases j5 : j = 5
          · subst j5; rw [upN_s, upN_s]
          · rw [upN_n _ _ j5, upN_n _ _ j5, upN_n _ _ j8, upN_n _ _ j6]
    have hpay : y = 0 → z ≤ sS a 2 := fun e => by rw [hz]; exact p1 (by rw [← hy]; exact e)
    refine r_aload_n F dX8_bid_142 rfl ?_
    refine r_get (x := .ref (gB G 84)) (T := TX8) (n := 0) F uw8 rfl rfl tw_877 (Or.inl rfl) dX8_bid_143 (kd_lt (rfl : kd 83 = (7,0,0)) (by decide)) (ce7 rfl) rfl ?_
    refine r_iconst (x := 2) F dX8_bid_146 rfl ?_
    refine r_dup2 F dX8_bid_147 rfl rfl ?_
    refine r_iald F dX8_bid_148 rfl (by omega) ?_
    rw [q2, ← e2]
    refine r_iload_n F dX8_bid_149 rfl ?_
    refine r_ifne F dX8_bid_150 (by omega) (fun h150 => ?_) (fun h150 => ?_)
    · refine r_iload F dX8_bid_159 rfl ?_
      refine r_iadd F dX8_bid_161 ?_
      refine r_iast F dX8_bid_162 rfl (by omega) ?_
      first
        | exact last _ (by rw [if_pos h150])
        | exact last _ (by rw [if_neg h150])
    · refine r_iload F dX8_bid_153 rfl ?_
      refine R_ineg F dX8_bid_155 rfl ?_
      refine r_goto F dX8_bid_156 ?_
      refine R_iadd F dX8_bid_161 (nI_addneg (by rw [e2]; exact hpay h150)) ?_
      refine r_iast F dX8_bid_162 rfl (by omega) ?_
      first
        | exact last _ (by rw [if_pos h150])
        | exact last _ (by rw [if_neg h150])
  refine r_aload_n F dX8_bid_0 rfl ?_
  refine r_iconst (x := 0) F dX8_bid_1 rfl ?_
  refine r_put (T := TX8) (n := 7) (ty0 := tyX8) (ty := .int) F uw8 tyX8_ok nmX8 rfl rfl tw_884 (Or.inl rfl) rfl rfl rfl rfl dX8_bid_2 (kd_lt (rfl : kd 83 = (7,0,0)) (by decide)) (ce7 rfl) rfl (pe7_7 rfl) up2_ce ?_
  refine r_aload_n F dX8_bid_5 rfl ?_
  refine r_callV0w F fMX8_save tw_946 rfl rfl rfl rfl dX8_bid_6 rfl rfl z0 (m8_save g (h.thr 0) w) ?_
  rintro v1 L1 ⟨rfl, hs⟩
  have q3 := hs.rm 3 (by decide)
  have q4 := hs.rm 4 (by decide)
  have q5 := hs.rm 5 (by decide)
  have q10 := hs.rm 10 (by decide)
  refine r_aload_n F dX8_bid_9 rfl ?_
  refine r_aload_n F dX8_bid_10 rfl ?_
  refine r_get (x := .ref (gB G 84)) (T := TX8) (n := 0) F uw8 rfl rfl tw_877 (Or.inl rfl) dX8_bid_11 (kd_lt (rfl : kd 83 = (7,0,0)) (by decide)) (ce7 rfl) rfl ?_
  refine r_iconst (x := 4) F dX8_bid_14 rfl ?_
  refine r_iald F dX8_bid_15 rfl (by omega) ?_
  rw [q4]
  refine r_callV1i F fMX8_isOver tw_977 rfl rfl rfl rfl dX8_bid_16 rfl rfl z0 (m8_isOver g hs.rm w.1.b w4) ?_
  refine r_Beq F dX8_bid_19 (fun h19 => ?_) (fun h19 => ?_)
  · refine r_aload_n F dX8_bid_28 rfl ?_
    refine r_get (x := .ref (gB G 84)) (T := TX8) (n := 0) F uw8 rfl rfl tw_877 (Or.inl rfl) dX8_bid_29 (kd_lt (rfl : kd 83 = (7,0,0)) (by decide)) (ce7 rfl) rfl ?_
    refine r_iconst (x := 5) F dX8_bid_32 rfl ?_
    refine r_iald F dX8_bid_33 rfl (by omega) ?_
    rw [q5]
    refine r_ifle F dX8_bid_34 (by omega) (fun h34 => ?_) (fun h34 => ?_)
    · refine r_iload_n F dX8_bid_43 rfl ?_
      refine r_iflt F dX8_bid_44 (by omega) ?_
      refine r_iload_n F dX8_bid_47 rfl ?_
      refine r_ifge F dX8_bid_48 (by omega) ?_
      refine r_iload_n F dX8_bid_57 rfl ?_
      refine r_aload_n F dX8_bid_58 rfl ?_
      refine r_iconst (x := 0) F dX8_bid_59 rfl ?_
      refine r_callV1i F fMX8_budgetOf tw_989 rfl rfl rfl rfl dX8_bid_60 rfl rfl z0 (m8_budgetOf g hs.rm w.1 (pl := 0) (by decide)) ?_
      refine r_icgt F dX8_bid_63 (by omega) (by have : bud (sS a) 0 = sS a 2 := rfl; omega) (fun h63 => ?_) (fun h63 => ?_)
      · omega
      · refine r_iload_n F dX8_bid_66 rfl ?_
        refine r_aload_n F dX8_bid_67 rfl ?_
        refine r_iconst (x := 1) F dX8_bid_68 rfl ?_
        refine r_callV1i F fMX8_budgetOf tw_989 rfl rfl rfl rfl dX8_bid_69 rfl rfl z0 (m8_budgetOf g hs.rm w.1 (pl := 1) (by decide)) ?_
        refine r_icle F dX8_bid_72 (by omega) (by have : bud (sS a) 1 = sS a 0 - sS a 2 := rfl; omega) (fun h72 => ?_) (fun h72 => ?_)
        · refine r_iload_n F dX8_bid_81 rfl ?_
          refine r_iload_n F dX8_bid_82 rfl ?_
          refine r_icle F dX8_bid_83 (by omega) (by omega) (fun h83 => ?_) (fun h83 => ?_)
          · refine r_iload_n F dX8_bid_90 rfl ?_
            refine r_iload_n F dX8_bid_91 rfl ?_
            refine r_icge F dX8_bid_92 (by omega) (by omega) (fun h92 => ?_) (fun h92 => ?_)
            · refine r_aload_n F dX8_bid_99 rfl ?_
              refine r_get (x := .ref (gB G 84)) (T := TX8) (n := 0) F uw8 rfl rfl tw_877 (Or.inl rfl) dX8_bid_100 (kd_lt (rfl : kd 83 = (7,0,0)) (by decide)) (ce7 rfl) rfl ?_
              refine r_iconst (x := 3) F dX8_bid_103 rfl ?_
              refine r_iald F dX8_bid_104 rfl (by omega) ?_
              try rw [q3]
              refine r_ist3 F dX8_bid_105 rfl rfl ?_
              refine r_iload_n F dX8_bid_106 rfl ?_
              refine r_ifne F dX8_bid_107 (by omega) (fun h107 => ?_) (fun h107 => ?_)
              · refine r_iload_n F dX8_bid_114 rfl ?_
                refine r_ist4 F dX8_bid_115 rfl rfl ?_
                refine r_iload_n F dX8_bid_117 rfl ?_
                refine r_iload_n F dX8_bid_118 rfl ?_
                refine r_icne F dX8_bid_119 (by omega) (by omega) (fun h119 => ?_) (fun h119 => ?_)
                · first
                    | (exfalso; omega)
                    | exact fin v1 _ _ _ hs (by rw [show bidT (sS a) b o = upN (upN (sS a) 10 (sS a 10 + 1)) 3 (1 - sS a 3) from if_pos (by omega)]; exact (hs.rm.up 10 _).up 3 _) (fun k hk => by rw [up2_k _ hk, up2_k _ hk]) (by unfold buyer; rw [if_pos (by omega)]) (by unfold mxN; first | (rw [if_pos (by omega)]; done) | (rw [if_neg (by omega)]; done) | (rw [if_neg (by omega)]; omega))
                    | exact fin v1 _ _ _ hs (by rw [show bidT (sS a) b o = sS a from if_neg (by omega)]; exact hs.rm) (fun k hk => rfl) (by unfold buyer; first | (rw [if_neg (by omega), if_pos (by omega)]; done) | (rw [if_neg (by omega), if_neg (by omega)]; done)) (by unfold mxN; first | (rw [if_pos (by omega)]; done) | (rw [if_neg (by omega)]; done) | (rw [if_neg (by omega)]; omega))
                · refine r_aload_n F dX8_bid_122 rfl ?_
                  refine r_get (x := .ref (gB G 84)) (T := TX8) (n := 0) F uw8 rfl rfl tw_877 (Or.inl rfl) dX8_bid_123 (kd_lt (rfl : kd 83 = (7,0,0)) (by decide)) (ce7 rfl) rfl ?_
                  refine r_bipush (x := 10) F dX8_bid_126 rfl ?_
                  refine r_dup2 F dX8_bid_128 rfl rfl ?_
                  refine r_iald F dX8_bid_129 rfl (by omega) ?_
                  rw [q10]
                  refine r_iconst (x := 1) F dX8_bid_130 rfl ?_
                  refine r_iadd F dX8_bid_131 ?_
                  refine r_iast F dX8_bid_132 rfl (by omega) ?_
                  refine r_aload_n F dX8_bid_133 rfl ?_
                  refine r_get (x := .ref (gB G 84)) (T := TX8) (n := 0) F uw8 rfl rfl tw_877 (Or.inl rfl) dX8_bid_134 (kd_lt (rfl : kd 83 = (7,0,0)) (by decide)) (ce7 rfl) rfl ?_
                  refine r_iconst (x := 3) F dX8_bid_137 rfl ?_
                  refine r_iconst (x := 1) F dX8_bid_138 rfl ?_
                  refine r_iload_n F dX8_bid_139 rfl ?_
                  refine r_isub F dX8_bid_140 (by first | omega | (exfalso; omega)) ?_
                  refine r_iast F dX8_bid_141 rfl (by omega) ?_
                  first
                    | (exfalso; omega)
                    | exact fin v1 _ _ _ hs (by rw [show bidT (sS a) b o = upN (upN (sS a) 10 (sS a 10 + 1)) 3 (1 - sS a 3) from if_pos (by omega)]; exact (hs.rm.up 10 _).up 3 _) (fun k hk => by rw [up2_k _ hk, up2_k _ hk]) (by unfold buyer; rw [if_pos (by omega)]) (by unfold mxN; first | (rw [if_pos (by omega)]; done) | (rw [if_neg (by omega)]; done) | (rw [if_neg (by omega)]; omega))
                    | exact fin v1 _ _ _ hs (by rw [show bidT (sS a) b o = sS a from if_neg (by omega)]; exact hs.rm) (fun k hk => rfl) (by unfold buyer; first | (rw [if_neg (by omega), if_pos (by omega)]; done) | (rw [if_neg (by omega), if_neg (by omega)]; done)) (by unfold mxN; first | (rw [if_pos (by omega)]; done) | (rw [if_neg (by omega)]; done) | (rw [if_neg (by omega)]; omega))
              · refine r_iload_n F dX8_bid_110 rfl ?_
                refine r_goto F dX8_bid_111 ?_
                refine r_ist4 F dX8_bid_115 rfl rfl ?_
                refine r_iload_n F dX8_bid_117 rfl ?_
                refine r_iload_n F dX8_bid_118 rfl ?_
                refine r_icne F dX8_bid_119 (by omega) (by omega) (fun h119 => ?_) (fun h119 => ?_)
                · first
                    | (exfalso; omega)
                    | exact fin v1 _ _ _ hs (by rw [show bidT (sS a) b o = upN (upN (sS a) 10 (sS a 10 + 1)) 3 (1 - sS a 3) from if_pos (by omega)]; exact (hs.rm.up 10 _).up 3 _) (fun k hk => by rw [up2_k _ hk, up2_k _ hk]) (by unfold buyer; rw [if_pos (by omega)]) (by unfold mxN; first | (rw [if_pos (by omega)]; done) | (rw [if_neg (by omega)]; done) | (rw [if_neg (by omega)]; omega))
                    | exact fin v1 _ _ _ hs (by rw [show bidT (sS a) b o = sS a from if_neg (by omega)]; exact hs.rm) (fun k hk => rfl) (by unfold buyer; first | (rw [if_neg (by omega), if_pos (by omega)]; done) | (rw [if_neg (by omega), if_neg (by omega)]; done)) (by unfold mxN; first | (rw [if_pos (by omega)]; done) | (rw [if_neg (by omega)]; done) | (rw [if_neg (by omega)]; omega))
                · refine r_aload_n F dX8_bid_122 rfl ?_
                  refine r_get (x := .ref (gB G 84)) (T := TX8) (n := 0) F uw8 rfl rfl tw_877 (Or.inl rfl) dX8_bid_123 (kd_lt (rfl : kd 83 = (7,0,0)) (by decide)) (ce7 rfl) rfl ?_
                  refine r_bipush (x := 10) F dX8_bid_126 rfl ?_
                  refine r_dup2 F dX8_bid_128 rfl rfl ?_
                  refine r_iald F dX8_bid_129 rfl (by omega) ?_
                  rw [q10]
                  refine r_iconst (x := 1) F dX8_bid_130 rfl ?_
                  refine r_iadd F dX8_bid_131 ?_
                  refine r_iast F dX8_bid_132 rfl (by omega) ?_
                  refine r_aload_n F dX8_bid_133 rfl ?_
                  refine r_get (x := .ref (gB G 84)) (T := TX8) (n := 0) F uw8 rfl rfl tw_877 (Or.inl rfl) dX8_bid_134 (kd_lt (rfl : kd 83 = (7,0,0)) (by decide)) (ce7 rfl) rfl ?_
                  refine r_iconst (x := 3) F dX8_bid_137 rfl ?_
                  refine r_iconst (x := 1) F dX8_bid_138 rfl ?_
                  refine r_iload_n F dX8_bid_139 rfl ?_
                  refine r_isub F dX8_bid_140 (by first | omega | (exfalso; omega)) ?_
                  refine r_iast F dX8_bid_141 rfl (by omega) ?_
                  first
                    | (exfalso; omega)
                    | exact fin v1 _ _ _ hs (by rw [show bidT (sS a) b o = upN (upN (sS a) 10 (sS a 10 + 1)) 3 (1 - sS a 3) from if_pos (by omega)]; exact (hs.rm.up 10 _).up 3 _) (fun k hk => by rw [up2_k _ hk, up2_k _ hk]) (by unfold buyer; rw [if_pos (by omega)]) (by unfold mxN; first | (rw [if_pos (by omega)]; done) | (rw [if_neg (by omega)]; done) | (rw [if_neg (by omega)]; omega))
                    | exact fin v1 _ _ _ hs (by rw [show bidT (sS a) b o = sS a from if_neg (by omega)]; exact hs.rm) (fun k hk => rfl) (by unfold buyer; first | (rw [if_neg (by omega), if_pos (by omega)]; done) | (rw [if_neg (by omega), if_neg (by omega)]; done)) (by unfold mxN; first | (rw [if_pos (by omega)]; done) | (rw [if_neg (by omega)]; done) | (rw [if_neg (by omega)]; omega))
            · refine r_iconst (x := 1) F dX8_bid_95 rfl ?_
              refine r_goto F dX8_bid_96 ?_
              try rw [q3]
              refine r_ist3 F dX8_bid_105 rfl rfl ?_
              refine r_iload_n F dX8_bid_106 rfl ?_
              refine r_ifne F dX8_bid_107 (by omega) (fun h107 => ?_) (fun h107 => ?_)
              · refine r_iload_n F dX8_bid_114 rfl ?_
                refine r_ist4 F dX8_bid_115 rfl rfl ?_
                refine r_iload_n F dX8_bid_117 rfl ?_
                refine r_iload_n F dX8_bid_118 rfl ?_
                refine r_icne F dX8_bid_119 (by omega) (by omega) (fun h119 => ?_) (fun h119 => ?_)
                · first
                    | (exfalso; omega)
                    | exact fin v1 _ _ _ hs (by rw [show bidT (sS a) b o = upN (upN (sS a) 10 (sS a 10 + 1)) 3 (1 - sS a 3) from if_pos (by omega)]; exact (hs.rm.up 10 _).up 3 _) (fun k hk => by rw [up2_k _ hk, up2_k _ hk]) (by unfold buyer; rw [if_pos (by omega)]) (by unfold mxN; first | (rw [if_pos (by omega)]; done) | (rw [if_neg (by omega)]; done) | (rw [if_neg (by omega)]; omega))
                    | exact fin v1 _ _ _ hs (by rw [show bidT (sS a) b o = sS a from if_neg (by omega)]; exact hs.rm) (fun k hk => rfl) (by unfold buyer; first | (rw [if_neg (by omega), if_pos (by omega)]; done) | (rw [if_neg (by omega), if_neg (by omega)]; done)) (by unfold mxN; first | (rw [if_pos (by omega)]; done) | (rw [if_neg (by omega)]; done) | (rw [if_neg (by omega)]; omega))
                · refine r_aload_n F dX8_bid_122 rfl ?_
                  refine r_get (x := .ref (gB G 84)) (T := TX8) (n := 0) F uw8 rfl rfl tw_877 (Or.inl rfl) dX8_bid_123 (kd_lt (rfl : kd 83 = (7,0,0)) (by decide)) (ce7 rfl) rfl ?_
                  refine r_bipush (x := 10) F dX8_bid_126 rfl ?_
                  refine r_dup2 F dX8_bid_128 rfl rfl ?_
                  refine r_iald F dX8_bid_129 rfl (by omega) ?_
                  rw [q10]
                  refine r_iconst (x := 1) F dX8_bid_130 rfl ?_
                  refine r_iadd F dX8_bid_131 ?_
                  refine r_iast F dX8_bid_132 rfl (by omega) ?_
                  refine r_aload_n F dX8_bid_133 rfl ?_
                  refine r_get (x := .ref (gB G 84)) (T := TX8) (n := 0) F uw8 rfl rfl tw_877 (Or.inl rfl) dX8_bid_134 (kd_lt (rfl : kd 83 = (7,0,0)) (by decide)) (ce7 rfl) rfl ?_
                  refine r_iconst (x := 3) F dX8_bid_137 rfl ?_
                  refine r_iconst (x := 1) F dX8_bid_138 rfl ?_
                  refine r_iload_n F dX8_bid_139 rfl ?_
                  refine r_isub F dX8_bid_140 (by first | omega | (exfalso; omega)) ?_
                  refine r_iast F dX8_bid_141 rfl (by omega) ?_
                  first
                    | (exfalso; omega)
                    | exact fin v1 _ _ _ hs (by rw [show bidT (sS a) b o = upN (upN (sS a) 10 (sS a 10 + 1)) 3 (1 - sS a 3) from if_pos (by omega)]; exact (hs.rm.up 10 _).up 3 _) (fun k hk => by rw [up2_k _ hk, up2_k _ hk]) (by unfold buyer; rw [if_pos (by omega)]) (by unfold mxN; first | (rw [if_pos (by omega)]; done) | (rw [if_neg (by omega)]; done) | (rw [if_neg (by omega)]; omega))
                    | exact fin v1 _ _ _ hs (by rw [show bidT (sS a) b o = sS a from if_neg (by omega)]; exact hs.rm) (fun k hk => rfl) (by unfold buyer; first | (rw [if_neg (by omega), if_pos (by omega)]; done) | (rw [if_neg (by omega), if_neg (by omega)]; done)) (by unfold mxN; first | (rw [if_pos (by omega)]; done) | (rw [if_neg (by omega)]; done) | (rw [if_neg (by omega)]; omega))
              · refine r_iload_n F dX8_bid_110 rfl ?_
                refine r_goto F dX8_bid_111 ?_
                refine r_ist4 F dX8_bid_115 rfl rfl ?_
                refine r_iload_n F dX8_bid_117 rfl ?_
                refine r_iload_n F dX8_bid_118 rfl ?_
                refine r_icne F dX8_bid_119 (by omega) (by omega) (fun h119 => ?_) (fun h119 => ?_)
                · first
                    | (exfalso; omega)
                    | exact fin v1 _ _ _ hs (by rw [show bidT (sS a) b o = upN (upN (sS a) 10 (sS a 10 + 1)) 3 (1 - sS a 3) from if_pos (by omega)]; exact (hs.rm.up 10 _).up 3 _) (fun k hk => by rw [up2_k _ hk, up2_k _ hk]) (by unfold buyer; rw [if_pos (by omega)]) (by unfold mxN; first | (rw [if_pos (by omega)]; done) | (rw [if_neg (by omega)]; done) | (rw [if_neg (by omega)]; omega))
                    | exact fin v1 _ _ _ hs (by rw [show bidT (sS a) b o = sS a from if_neg (by omega)]; exact hs.rm) (fun k hk => rfl) (by unfold buyer; first | (rw [if_neg (by omega), if_pos (by omega)]; done) | (rw [if_neg (by omega), if_neg (by omega)]; done)) (by unfold mxN; first | (rw [if_pos (by omega)]; done) | (rw [if_neg (by omega)]; done) | (rw [if_neg (by omega)]; omega))
                · refine r_aload_n F dX8_bid_122 rfl ?_
                  refine r_get (x := .ref (gB G 84)) (T := TX8) (n := 0) F uw8 rfl rfl tw_877 (Or.inl rfl) dX8_bid_123 (kd_lt (rfl : kd 83 = (7,0,0)) (by decide)) (ce7 rfl) rfl ?_
                  refine r_bipush (x := 10) F dX8_bid_126 rfl ?_
                  refine r_dup2 F dX8_bid_128 rfl rfl ?_
                  refine r_iald F dX8_bid_129 rfl (by omega) ?_
                  rw [q10]
                  refine r_iconst (x := 1) F dX8_bid_130 rfl ?_
                  refine r_iadd F dX8_bid_131 ?_
                  refine r_iast F dX8_bid_132 rfl (by omega) ?_
                  refine r_aload_n F dX8_bid_133 rfl ?_
                  refine r_get (x := .ref (gB G 84)) (T := TX8) (n := 0) F uw8 rfl rfl tw_877 (Or.inl rfl) dX8_bid_134 (kd_lt (rfl : kd 83 = (7,0,0)) (by decide)) (ce7 rfl) rfl ?_
                  refine r_iconst (x := 3) F dX8_bid_137 rfl ?_
                  refine r_iconst (x := 1) F dX8_bid_138 rfl ?_
                  refine r_iload_n F dX8_bid_139 rfl ?_
                  refine r_isub F dX8_bid_140 (by first | omega | (exfalso; omega)) ?_
                  refine r_iast F dX8_bid_141 rfl (by omega) ?_
                  first
                    | (exfalso; omega)
                    | exact fin v1 _ _ _ hs (by rw [show bidT (sS a) b o = upN (upN (sS a) 10 (sS a 10 + 1)) 3 (1 - sS a 3) from if_pos (by omega)]; exact (hs.rm.up 10 _).up 3 _) (fun k hk => by rw [up2_k _ hk, up2_k _ hk]) (by unfold buyer; rw [if_pos (by omega)]) (by unfold mxN; first | (rw [if_pos (by omega)]; done) | (rw [if_neg (by omega)]; done) | (rw [if_neg (by omega)]; omega))
                    | exact fin v1 _ _ _ hs (by rw [show bidT (sS a) b o = sS a from if_neg (by omega)]; exact hs.rm) (fun k hk => rfl) (by unfold buyer; first | (rw [if_neg (by omega), if_pos (by omega)]; done) | (rw [if_neg (by omega), if_neg (by omega)]; done)) (by unfold mxN; first | (rw [if_pos (by omega)]; done) | (rw [if_neg (by omega)]; done) | (rw [if_neg (by omega)]; omega))
          · refine r_iconst (x := 0) F dX8_bid_86 rfl ?_
            refine r_goto F dX8_bid_87 ?_
            try rw [q3]
            refine r_ist3 F dX8_bid_105 rfl rfl ?_
            refine r_iload_n F dX8_bid_106 rfl ?_
            refine r_ifne F dX8_bid_107 (by omega) (fun h107 => ?_) (fun h107 => ?_)
            · refine r_iload_n F dX8_bid_114 rfl ?_
              refine r_ist4 F dX8_bid_115 rfl rfl ?_
              refine r_iload_n F dX8_bid_117 rfl ?_
              refine r_iload_n F dX8_bid_118 rfl ?_
              refine r_icne F dX8_bid_119 (by omega) (by omega) (fun h119 => ?_) (fun h119 => ?_)
              · first
                  | (exfalso; omega)
                  | exact fin v1 _ _ _ hs (by rw [show bidT (sS a) b o = upN (upN (sS a) 10 (sS a 10 + 1)) 3 (1 - sS a 3) from if_pos (by omega)]; exact (hs.rm.up 10 _).up 3 _) (fun k hk => by rw [up2_k _ hk, up2_k _ hk]) (by unfold buyer; rw [if_pos (by omega)]) (by unfold mxN; first | (rw [if_pos (by omega)]; done) | (rw [if_neg (by omega)]; done) | (rw [if_neg (by omega)]; omega))
                  | exact fin v1 _ _ _ hs (by rw [show bidT (sS a) b o = sS a from if_neg (by omega)]; exact hs.rm) (fun k hk => rfl) (by unfold buyer; first | (rw [if_neg (by omega), if_pos (by omega)]; done) | (rw [if_neg (by omega), if_neg (by omega)]; done)) (by unfold mxN; first | (rw [if_pos (by omega)]; done) | (rw [if_neg (by omega)]; done) | (rw [if_neg (by omega)]; omega))
              · refine r_aload_n F dX8_bid_122 rfl ?_
                refine r_get (x := .ref (gB G 84)) (T := TX8) (n := 0) F uw8 rfl rfl tw_877 (Or.inl rfl) dX8_bid_123 (kd_lt (rfl : kd 83 = (7,0,0)) (by decide)) (ce7 rfl) rfl ?_
                refine r_bipush (x := 10) F dX8_bid_126 rfl ?_
                refine r_dup2 F dX8_bid_128 rfl rfl ?_
                refine r_iald F dX8_bid_129 rfl (by omega) ?_
                rw [q10]
                refine r_iconst (x := 1) F dX8_bid_130 rfl ?_
                refine r_iadd F dX8_bid_131 ?_
                refine r_iast F dX8_bid_132 rfl (by omega) ?_
                refine r_aload_n F dX8_bid_133 rfl ?_
                refine r_get (x := .ref (gB G 84)) (T := TX8) (n := 0) F uw8 rfl rfl tw_877 (Or.inl rfl) dX8_bid_134 (kd_lt (rfl : kd 83 = (7,0,0)) (by decide)) (ce7 rfl) rfl ?_
                refine r_iconst (x := 3) F dX8_bid_137 rfl ?_
                refine r_iconst (x := 1) F dX8_bid_138 rfl ?_
                refine r_iload_n F dX8_bid_139 rfl ?_
                refine r_isub F dX8_bid_140 (by first | omega | (exfalso; omega)) ?_
                refine r_iast F dX8_bid_141 rfl (by omega) ?_
                first
                  | (exfalso; omega)
                  | exact fin v1 _ _ _ hs (by rw [show bidT (sS a) b o = upN (upN (sS a) 10 (sS a 10 + 1)) 3 (1 - sS a 3) from if_pos (by omega)]; exact (hs.rm.up 10 _).up 3 _) (fun k hk => by rw [up2_k _ hk, up2_k _ hk]) (by unfold buyer; rw [if_pos (by omega)]) (by unfold mxN; first | (rw [if_pos (by omega)]; done) | (rw [if_neg (by omega)]; done) | (rw [if_neg (by omega)]; omega))
                  | exact fin v1 _ _ _ hs (by rw [show bidT (sS a) b o = sS a from if_neg (by omega)]; exact hs.rm) (fun k hk => rfl) (by unfold buyer; first | (rw [if_neg (by omega), if_pos (by omega)]; done) | (rw [if_neg (by omega), if_neg (by omega)]; done)) (by unfold mxN; first | (rw [if_pos (by omega)]; done) | (rw [if_neg (by omega)]; done) | (rw [if_neg (by omega)]; omega))
            · refine r_iload_n F dX8_bid_110 rfl ?_
              refine r_goto F dX8_bid_111 ?_
              refine r_ist4 F dX8_bid_115 rfl rfl ?_
              refine r_iload_n F dX8_bid_117 rfl ?_
              refine r_iload_n F dX8_bid_118 rfl ?_
              refine r_icne F dX8_bid_119 (by omega) (by omega) (fun h119 => ?_) (fun h119 => ?_)
              · first
                  | (exfalso; omega)
                  | exact fin v1 _ _ _ hs (by rw [show bidT (sS a) b o = upN (upN (sS a) 10 (sS a 10 + 1)) 3 (1 - sS a 3) from if_pos (by omega)]; exact (hs.rm.up 10 _).up 3 _) (fun k hk => by rw [up2_k _ hk, up2_k _ hk]) (by unfold buyer; rw [if_pos (by omega)]) (by unfold mxN; first | (rw [if_pos (by omega)]; done) | (rw [if_neg (by omega)]; done) | (rw [if_neg (by omega)]; omega))
                  | exact fin v1 _ _ _ hs (by rw [show bidT (sS a) b o = sS a from if_neg (by omega)]; exact hs.rm) (fun k hk => rfl) (by unfold buyer; first | (rw [if_neg (by omega), if_pos (by omega)]; done) | (rw [if_neg (by omega), if_neg (by omega)]; done)) (by unfold mxN; first | (rw [if_pos (by omega)]; done) | (rw [if_neg (by omega)]; done) | (rw [if_neg (by omega)]; omega))
              · refine r_aload_n F dX8_bid_122 rfl ?_
                refine r_get (x := .ref (gB G 84)) (T := TX8) (n := 0) F uw8 rfl rfl tw_877 (Or.inl rfl) dX8_bid_123 (kd_lt (rfl : kd 83 = (7,0,0)) (by decide)) (ce7 rfl) rfl ?_
                refine r_bipush (x := 10) F dX8_bid_126 rfl ?_
                refine r_dup2 F dX8_bid_128 rfl rfl ?_
                refine r_iald F dX8_bid_129 rfl (by omega) ?_
                rw [q10]
                refine r_iconst (x := 1) F dX8_bid_130 rfl ?_
                refine r_iadd F dX8_bid_131 ?_
                refine r_iast F dX8_bid_132 rfl (by omega) ?_
                refine r_aload_n F dX8_bid_133 rfl ?_
                refine r_get (x := .ref (gB G 84)) (T := TX8) (n := 0) F uw8 rfl rfl tw_877 (Or.inl rfl) dX8_bid_134 (kd_lt (rfl : kd 83 = (7,0,0)) (by decide)) (ce7 rfl) rfl ?_
                refine r_iconst (x := 3) F dX8_bid_137 rfl ?_
                refine r_iconst (x := 1) F dX8_bid_138 rfl ?_
                refine r_iload_n F dX8_bid_139 rfl ?_
                refine r_isub F dX8_bid_140 (by first | omega | (exfalso; omega)) ?_
                refine r_iast F dX8_bid_141 rfl (by omega) ?_
                first
                  | (exfalso; omega)
                  | exact fin v1 _ _ _ hs (by rw [show bidT (sS a) b o = upN (upN (sS a) 10 (sS a 10 + 1)) 3 (1 - sS a 3) from if_pos (by omega)]; exact (hs.rm.up 10 _).up 3 _) (fun k hk => by rw [up2_k _ hk, up2_k _ hk]) (by unfold buyer; rw [if_pos (by omega)]) (by unfold mxN; first | (rw [if_pos (by omega)]; done) | (rw [if_neg (by omega)]; done) | (rw [if_neg (by omega)]; omega))
                  | exact fin v1 _ _ _ hs (by rw [show bidT (sS a) b o = sS a from if_neg (by omega)]; exact hs.rm) (fun k hk => rfl) (by unfold buyer; first | (rw [if_neg (by omega), if_pos (by omega)]; done) | (rw [if_neg (by omega), if_neg (by omega)]; done)) (by unfold mxN; first | (rw [if_pos (by omega)]; done) | (rw [if_neg (by omega)]; done) | (rw [if_neg (by omega)]; omega))
        · omega
    · omega
  · exact absurd h19 (by rw [hn1]; decide)
set_option maxHeartbeats 8000000 in
theorem m8_keep {G : GT} {v : VV} {L : LL} {a : AS} (g : GH G) (h : IM v a) (w : WA a) {i : Nat} (hi : i ≤ 1) : CC G MX8_keep [.ref (gB G 83), .int (nI i)] v L (gI (PMo v L (kpA a i) (nI (sS a 4)))) := by
  refine cc_of g [some (.ref (gB G 83)), some (.int (nI i)), none] rfl rfl rfl rfl (fun K F => ?_)
  have i1 := inn_i (k := i) (n := 1) (by decide) hi
  have lo : ∀ (m n : Nat), 60 < n + m → n ≤ 60 → CW G K 3 0 0 (MQ (kb K) (Qn G (gI (PMo v L (kpA a i) (nI (sS a 4))))) (ka K) (ks K) 0 0 (gA G)) (cpR (up2 v 83 7 0) 84 0 86 (60 * i) n) L 23 [some (.ref (gB G 83)), some (.int (nI i)), some (.int (nI n))] [] := by
    intro m
    induction m with
    | zero => intro n a1 a2; omega
    | succ m ih =>
      intro n a1 a2
      have e3 : cpR (up2 v 83 7 0) 84 0 86 (60 * i) n 84 n = up2 v 83 7 0 84 (0 + n) := by rw [cpR_k _ (by decide), Nat.zero_add]
      have e4 : up2 (cpR (up2 v 83 7 0) 84 0 86 (60 * i) n) 87 i 1 84 4 = sS a 4 := by rw [up2_k _ (by decide), cpR_k _ (by decide), up2_k _ (by decide)]; exact h.1 4 (by decide)
      refine r_iload_n F dX8_keep_23 rfl ?_
      refine r_bipush (x := 60) F dX8_keep_24 rfl ?_
      refine r_icge F dX8_keep_26 (by omega) (by omega) (fun h26 => ?_) (fun h26 => ?_)
      · refine r_aload_n F dX8_keep_52 rfl ?_
        refine r_get (x := .ref (gB G 87)) (T := TX8) (n := 4) F uw8 rfl rfl tw_881 (Or.inl rfl) dX8_keep_53 (kd_lt (rfl : kd 83 = (7,0,0)) (by decide)) (ce7 rfl) rfl ?_
        refine r_iload_n F dX8_keep_56 rfl ?_
        refine r_iconst (x := 1) F dX8_keep_57 rfl ?_
        refine r_zast F dX8_keep_58 rfl (show i < 2 by omega) rfl ?_
        refine r_aload_n F dX8_keep_59 rfl ?_
        refine r_get (x := .ref (gB G 84)) (T := TX8) (n := 0) F uw8 rfl rfl tw_877 (Or.inl rfl) dX8_keep_60 (kd_lt (rfl : kd 83 = (7,0,0)) (by decide)) (ce7 rfl) rfl ?_
        refine r_iconst (x := 4) F dX8_keep_63 rfl ?_
        refine r_iald F dX8_keep_64 rfl (by omega) ?_
        rw [e4]
        have hn : n = 60 := by omega
        subst hn
        refine r_iret F rfl rfl dX8_keep_65 ⟨_, rfl, rfl, rfl, fun k hk => by rw [up2_k _ (by omega), cpR_k _ (by omega), up2_k _ (by omega)], by rw [up2_k _ (by decide), cpR_k _ (by decide), up2_s], fun j hj => ?_, ?_, fun i2 hi2 j hj => ?_, fun i2 hi2 => ?_, ?_, fun i2 hi2 => ?_⟩
        · rw [up2_k _ (by decide), cpR_k _ (by decide), up2_k _ (by decide)]; exact h.1 j hj
        · rw [up2_k _ (by decide), cpR_k _ (by decide), up2_j _ (by decide)]; exact h.2.1
        · rw [up2_k _ (by decide), cpR_k _ (by decide), up2_k _ (by decide)]; exact h.2.2.1 i2 hi2 j hj
        · show _ = (upB (sKp a) i true i2).toNat ∧ (upB (sKp a) i true i2 = true → ∀ j, j < 60 → _ = (if i2 = i then sS a else sK a i2) j)
          by_cases e : i2 = i
          · subst e
            rw [up2_s, if_pos rfl]
            refine ⟨by simp [upB], fun _ j hj => ?_⟩
            rw [up2_k _ (by decide), cpR_at _ hj, up2_k _ (by decide), Nat.zero_add]
            exact h.1 j hj
          · rw [up2_j _ e, cpR_k _ (by decide), up2_k _ (by decide), if_neg e]
            unfold upB
            rw [if_neg e]
            refine ⟨(h.2.2.2.1 i2 hi2).1, fun hk j hj => ?_⟩
            rw [up2_k _ (by decide), cpR_out _ (by omega), up2_k _ (by decide)]
            exact (h.2.2.2.1 i2 hi2).2 hk j hj
        · rw [up2_k _ (by decide), cpR_k _ (by decide), up2_j _ (by decide)]; exact h.2.2.2.2.1
        · rw [up2_k _ (by decide), cpR_k _ (by decide), up2_k _ (by decide)]; exact h.2.2.2.2.2 i2 hi2
      · refine r_aload_n F dX8_keep_29 rfl ?_
        refine r_get (x := .ref (gB G 86)) (T := TX8) (n := 3) F uw8 rfl rfl tw_880 (Or.inl rfl) dX8_keep_30 (kd_lt (rfl : kd 83 = (7,0,0)) (by decide)) (ce7 rfl) rfl ?_
        refine r_bipush (x := 60) F dX8_keep_33 rfl ?_
        refine r_iload_n F dX8_keep_35 rfl ?_
        refine r_imul F dX8_keep_36 ?_
        refine r_iload_n F dX8_keep_37 rfl ?_
        refine r_iadd F dX8_keep_38 ?_
        refine r_aload_n F dX8_keep_39 rfl ?_
        refine r_get (x := .ref (gB G 84)) (T := TX8) (n := 0) F uw8 rfl rfl tw_877 (Or.inl rfl) dX8_keep_40 (kd_lt (rfl : kd 83 = (7,0,0)) (by decide)) (ce7 rfl) rfl ?_
        refine r_iload_n F dX8_keep_43 rfl ?_
        refine r_iald F dX8_keep_44 rfl (by omega) ?_
        rw [e3]
        refine r_iast F dX8_keep_45 rfl (by omega) ?_
        refine r_iinc2 (y := 1) F dX8_keep_46 rfl rfl rfl rfl ?_
        refine r_goto F dX8_keep_49 ?_
        rw [cpR_s]; exact ih (n + 1) (by omega) (by omega)
  refine r_aload_n F dX8_keep_0 rfl ?_
  refine r_iload_n F dX8_keep_1 rfl ?_
  refine r_callS1i F fMX8_isOneOfTwo tw_970 rfl dX8_keep_2 rfl rfl z0 (m8_isOneOfTwo g (nI i)) ?_
  refine r_Beq F dX8_keep_5 (fun h5 => ?_) (fun h5 => ?_)
  · exact absurd h5 (by rw [i1]; decide)
  · refine r_iconst (x := 0) F dX8_keep_8 rfl ?_
    refine r_goto F dX8_keep_9 ?_
    refine r_callV1i F fMX8_holds tw_942 rfl rfl rfl rfl dX8_keep_13 rfl rfl z0 (m8_holds g (x := 0) (by decide)) ?_
    refine r_Bne F dX8_keep_16 (fun h16 => ?_) (fun h16 => ?_)
    · refine r_iconst (x := 0) F dX8_keep_21 rfl ?_
      refine r_ist2 F dX8_keep_22 rfl rfl ?_
      have := lo 61 0 (by omega) (by omega)
      rw [cpR_0] at this
      exact this
    · exact absurd h16 (by decide)
set_option maxHeartbeats 8000000 in
theorem t8_keep {G : GT} {v : VV} {L : LL} {a : AS} (g : GH G) (h : IM v a) {x : Int32} (hx : oor x 1) : CC G MX8_keep [.ref (gB G 83), .int x] v L (gI (PMt v L a 1)) := by
  refine cc_of g [some (.ref (gB G 83)), some (.int x), none] rfl rfl rfl rfl (fun K F => ?_)
  have i1 := inn_o hx
  refine r_aload_n F dX8_keep_0 rfl ?_
  refine r_iload_n F dX8_keep_1 rfl ?_
  refine r_callS1i F fMX8_isOneOfTwo tw_970 rfl dX8_keep_2 rfl rfl z0 (m8_isOneOfTwo g x) ?_
  refine r_Beq F dX8_keep_5 (fun h5 => ?_) (fun h5 => ?_)
  · refine r_iconst (x := 1) F dX8_keep_12 rfl ?_
    refine r_callV1i F fMX8_holds tw_942 rfl rfl rfl rfl dX8_keep_13 rfl rfl z0 (m8_holds g (x := 1) (by decide)) ?_
    refine r_Bne F dX8_keep_16 (fun h16 => ?_) (fun h16 => ?_)
    · exact absurd h16 (by decide)
    · refine r_iconst (x := 0) F dX8_keep_19 rfl ?_
      exact r_iret F rfl rfl dX8_keep_20 (pmt h 1 _)
  · exact absurd h5 (by rw [i1]; decide)
set_option maxHeartbeats 8000000 in
theorem m8_goBack {G : GT} {v : VV} {L : LL} {a : AS} (g : GH G) (h : IM v a) (w : WA a) {i : Nat} (hi : i ≤ 1) (hk : sKp a i = true) : CC G MX8_goBack [.ref (gB G 83), .int (nI i)] v L (gI (PMo v L (stA (svA a) (sK a i)) (nI (sK a i 4)))) := by
  refine cc_of g [some (.ref (gB G 83)), some (.int (nI i)), none] rfl rfl rfl rfl (fun K F => ?_)
  have i1 := inn_i (k := i) (n := 1) (by decide) hi
  have hk1 : v 87 i = 1 := by rw [(h.2.2.2.1 i (by omega)).1, hk]; rfl
  have lo : ∀ (v1 : VV), SV (up2 v 83 7 0) v1 a → ∀ (m n : Nat), 60 < n + m → n ≤ 60 → CW G K 3 0 0 (MQ (kb K) (Qn G (gI (PMo v L (stA (svA a) (sK a i)) (nI (sK a i 4))))) (ka K) (ks K) 0 0 (gA G)) (cpR v1 86 (60 * i) 84 0 n) L 40 [some (.ref (gB G 83)), some (.int (nI i)), some (.int (nI n))] [] := by
    intro v1 hs m
    induction m with
    | zero => intro n a1 a2; omega
    | succ m ih =>
      intro n a1 a2
      have e3 : cpR v1 86 (60 * i) 84 0 n 86 (60 * i + n) = v1 86 (60 * i + n) := by rw [cpR_k _ (by decide)]
      have hk6 : ∀ j, j < 60 → v1 86 (60 * i + j) = sK a i j := fun j hj => ((hs.2.2.2.2.2.1 i (by omega)).2 hk) j hj
      refine r_iload_n F dX8_goBack_40 rfl ?_
      refine r_bipush (x := 60) F dX8_goBack_41 rfl ?_
      refine r_icge F dX8_goBack_43 (by omega) (by omega) (fun h43 => ?_) (fun h43 => ?_)
      · refine r_aload_n F dX8_goBack_69 rfl ?_
        refine r_get (x := .ref (gB G 84)) (T := TX8) (n := 0) F uw8 rfl rfl tw_877 (Or.inl rfl) dX8_goBack_70 (kd_lt (rfl : kd 83 = (7,0,0)) (by decide)) (ce7 rfl) rfl ?_
        refine r_iconst (x := 4) F dX8_goBack_73 rfl ?_
        refine r_iald F dX8_goBack_74 rfl (by omega) ?_
        rw [show cpR v1 86 (60 * i) 84 0 n 84 4 = sK a i 4 by have e9 := cpR_at v1 (a := 86) (oa := 60 * i) (b := 84) (ob := 0) (n := n) (j := 4) (by omega); rw [Nat.zero_add] at e9; rw [e9]; exact hk6 4 (by decide)]
        have hn : n = 60 := by omega
        subst hn
        exact r_iret F rfl rfl dX8_goBack_75 ⟨_, rfl, rfl, rfl, hs.to rfl (fun j hj => by have e9 := cpR_at v1 (a := 86) (oa := 60 * i) (b := 84) (ob := 0) (n := 60) (j := j) hj; rw [Nat.zero_add] at e9; rw [e9]; exact hk6 j hj) (fun k hk2 => cpR_k _ hk2)⟩
      · refine r_aload_n F dX8_goBack_46 rfl ?_
        refine r_get (x := .ref (gB G 84)) (T := TX8) (n := 0) F uw8 rfl rfl tw_877 (Or.inl rfl) dX8_goBack_47 (kd_lt (rfl : kd 83 = (7,0,0)) (by decide)) (ce7 rfl) rfl ?_
        refine r_iload_n F dX8_goBack_50 rfl ?_
        refine r_aload_n F dX8_goBack_51 rfl ?_
        refine r_get (x := .ref (gB G 86)) (T := TX8) (n := 3) F uw8 rfl rfl tw_880 (Or.inl rfl) dX8_goBack_52 (kd_lt (rfl : kd 83 = (7,0,0)) (by decide)) (ce7 rfl) rfl ?_
        refine r_bipush (x := 60) F dX8_goBack_55 rfl ?_
        refine r_iload_n F dX8_goBack_57 rfl ?_
        refine r_imul F dX8_goBack_58 ?_
        refine r_iload_n F dX8_goBack_59 rfl ?_
        refine r_iadd F dX8_goBack_60 ?_
        refine r_iald F dX8_goBack_61 rfl (by omega) ?_
        rw [e3]
        refine r_iast F dX8_goBack_62 rfl (by omega) ?_
        refine r_iinc2 (y := 1) F dX8_goBack_63 rfl rfl rfl rfl ?_
        refine r_goto F dX8_goBack_66 ?_
        have e9 := cpR_s v1 86 (60 * i) 84 0 n
        rw [Nat.zero_add] at e9
        rw [e9]
        exact ih (n + 1) (by omega) (by omega)
  refine r_aload_n F dX8_goBack_0 rfl ?_
  refine r_iload_n F dX8_goBack_1 rfl ?_
  refine r_callS1i F fMX8_isOneOfTwo tw_970 rfl dX8_goBack_2 rfl rfl z0 (m8_isOneOfTwo g (nI i)) ?_
  refine r_Bne F dX8_goBack_5 (fun h5 => ?_) (fun h5 => ?_)
  · refine r_aload_n F dX8_goBack_12 rfl ?_
    refine r_get (x := .ref (gB G 87)) (T := TX8) (n := 4) F uw8 rfl rfl tw_881 (Or.inl rfl) dX8_goBack_13 (kd_lt (rfl : kd 83 = (7,0,0)) (by decide)) (ce7 rfl) rfl ?_
    refine r_iload_n F dX8_goBack_16 rfl ?_
    refine r_zald F dX8_goBack_17 rfl (show i < 2 by omega) ?_
    rw [hk1]
    refine r_ifeq F dX8_goBack_18 (by omega) (fun h18 => ?_) (fun h18 => ?_)
    · exact absurd h18 (by decide)
    · refine r_iconst (x := 0) F dX8_goBack_21 rfl ?_
      refine r_goto F dX8_goBack_22 ?_
      refine r_callV1i F fMX8_holds tw_942 rfl rfl rfl rfl dX8_goBack_26 rfl rfl z0 (m8_holds g (x := 0) (by decide)) ?_
      refine r_Bne F dX8_goBack_29 (fun h29 => ?_) (fun h29 => ?_)
      · refine r_aload_n F dX8_goBack_34 rfl ?_
        refine r_callV0w F fMX8_save tw_946 rfl rfl rfl rfl dX8_goBack_35 rfl rfl z0 (m8_save g (h.thr 0) w) ?_
        rintro v1 L1 ⟨rfl, hs⟩
        refine r_iconst (x := 0) F dX8_goBack_38 rfl ?_
        refine r_ist2 F dX8_goBack_39 rfl rfl ?_
        have := lo v1 hs 61 0 (by omega) (by omega)
        rw [cpR_0] at this
        exact this
      · exact absurd h29 (by decide)
  · exact absurd h5 (by rw [i1]; decide)
set_option maxHeartbeats 8000000 in
theorem t8_goBack1 {G : GT} {v : VV} {L : LL} {a : AS} (g : GH G) (h : IM v a) {x : Int32} (hx : oor x 1) : CC G MX8_goBack [.ref (gB G 83), .int x] v L (gI (PMt v L a 1)) := by
  refine cc_of g [some (.ref (gB G 83)), some (.int x), none] rfl rfl rfl rfl (fun K F => ?_)
  have i1 := inn_o hx
  refine r_aload_n F dX8_goBack_0 rfl ?_
  refine r_iload_n F dX8_goBack_1 rfl ?_
  refine r_callS1i F fMX8_isOneOfTwo tw_970 rfl dX8_goBack_2 rfl rfl z0 (m8_isOneOfTwo g x) ?_
  refine r_Bne F dX8_goBack_5 (fun h5 => ?_) (fun h5 => ?_)
  · exact absurd h5 (by rw [i1]; decide)
  · refine r_iconst (x := 1) F dX8_goBack_8 rfl ?_
    refine r_goto F dX8_goBack_9 ?_
    refine r_callV1i F fMX8_holds tw_942 rfl rfl rfl rfl dX8_goBack_26 rfl rfl z0 (m8_holds g (x := 1) (by decide)) ?_
    refine r_Bne F dX8_goBack_29 (fun h29 => ?_) (fun h29 => ?_)
    · exact absurd h29 (by decide)
    · refine r_iconst (x := 0) F dX8_goBack_32 rfl ?_
      exact r_iret F rfl rfl dX8_goBack_33 (pmt h 1 _)
set_option maxHeartbeats 8000000 in
theorem t8_goBack2 {G : GT} {v : VV} {L : LL} {a : AS} (g : GH G) (h : IM v a) {i : Nat} (hi : i ≤ 1) (hk : sKp a i = false) : CC G MX8_goBack [.ref (gB G 83), .int (nI i)] v L (gI (PMt v L a 2)) := by
  refine cc_of g [some (.ref (gB G 83)), some (.int (nI i)), none] rfl rfl rfl rfl (fun K F => ?_)
  have i1 := inn_i (k := i) (n := 1) (by decide) hi
  have hk1 : v 87 i = 0 := by rw [(h.2.2.2.1 i (by omega)).1, hk]; rfl
  refine r_aload_n F dX8_goBack_0 rfl ?_
  refine r_iload_n F dX8_goBack_1 rfl ?_
  refine r_callS1i F fMX8_isOneOfTwo tw_970 rfl dX8_goBack_2 rfl rfl z0 (m8_isOneOfTwo g (nI i)) ?_
  refine r_Bne F dX8_goBack_5 (fun h5 => ?_) (fun h5 => ?_)
  · refine r_aload_n F dX8_goBack_12 rfl ?_
    refine r_get (x := .ref (gB G 87)) (T := TX8) (n := 4) F uw8 rfl rfl tw_881 (Or.inl rfl) dX8_goBack_13 (kd_lt (rfl : kd 83 = (7,0,0)) (by decide)) (ce7 rfl) rfl ?_
    refine r_iload_n F dX8_goBack_16 rfl ?_
    refine r_zald F dX8_goBack_17 rfl (show i < 2 by omega) ?_
    rw [hk1]
    refine r_ifeq F dX8_goBack_18 (by omega) (fun h18 => ?_) (fun h18 => ?_)
    · refine r_iconst (x := 2) F dX8_goBack_25 rfl ?_
      refine r_callV1i F fMX8_holds tw_942 rfl rfl rfl rfl dX8_goBack_26 rfl rfl z0 (m8_holds g (x := 2) (by decide)) ?_
      refine r_Bne F dX8_goBack_29 (fun h29 => ?_) (fun h29 => ?_)
      · exact absurd h29 (by decide)
      · refine r_iconst (x := 0) F dX8_goBack_32 rfl ?_
        exact r_iret F rfl rfl dX8_goBack_33 (pmt h 2 _)
    · exact absurd rfl h18
  · exact absurd h5 (by rw [i1]; decide)
set_option maxHeartbeats 8000000 in
theorem m8_undo {G : GT} {v : VV} {L : LL} {a : AS} (g : GH G) (h : IM v a) (w : WA a) (hn : 0 < sN a) : CC G MX8_undo [.ref (gB G 83)] v L (gI (PMo v L (unA a) (nI (sN a - 1)))) := by
  refine cc_of g [some (.ref (gB G 83)), none] rfl rfl rfl rfl (fun K F => ?_)
  have e2 : v 83 2 = sN a := h.2.1
  have w6 : sN a ≤ 6 := w.2.1
  obtain ⟨v1, hv1⟩ : ∃ v1, v1 = up2 (up2 v 83 7 0) 83 2 (sN a - 1) := ⟨_, rfl⟩
  have o1 : ∀ k, k ≠ 83 → v1 k = v k := fun k hk => by rw [hv1, up2_k _ hk, up2_k _ hk]
  have o2 : v1 83 2 = sN a - 1 := by rw [hv1, up2_s]
  have o6 : v1 83 6 = v 83 6 := by rw [hv1, up2_j _ (by decide), up2_j _ (by decide)]
  have o7 : v1 83 7 = 0 := by rw [hv1, up2_j _ (by decide), up2_s]
  have lo : ∀ (m n : Nat), 60 < n + m → n ≤ 60 → CW G K 2 0 0 (MQ (kb K) (Qn G (gI (PMo v L (unA a) (nI (sN a - 1))))) (ka K) (ks K) 0 0 (gA G)) (cpR v1 85 (60 * (sN a - 1)) 84 0 n) L 33 [some (.ref (gB G 83)), some (.int (nI n))] [] := by
    intro m
    induction m with
    | zero => intro n a1 a2; omega
    | succ m ih =>
      intro n a1 a2
      have e3 : cpR v1 85 (60 * (sN a - 1)) 84 0 n 85 (60 * (sN a - 1) + n) = v1 85 (60 * (sN a - 1) + n) := by rw [cpR_k _ (by decide)]
      have e4 : cpR v1 85 (60 * (sN a - 1)) 84 0 n 83 2 = sN a - 1 := by rw [cpR_k _ (by decide)]; exact o2
      refine r_iload_n F dX8_undo_33 rfl ?_
      refine r_bipush (x := 60) F dX8_undo_34 rfl ?_
      refine r_icge F dX8_undo_36 (by omega) (by omega) (fun h36 => ?_) (fun h36 => ?_)
      · refine r_aload_n F dX8_undo_65 rfl ?_
        refine r_get (T := TX8) (n := 2) F uw8 rfl rfl tw_879 (Or.inl rfl) dX8_undo_66 (kd_lt (rfl : kd 83 = (7,0,0)) (by decide)) (ce7 rfl) rfl ?_
        rw [e4]
        have hn2 : n = 60 := by omega
        subst hn2
        refine r_iret F rfl rfl dX8_undo_69 ⟨_, rfl, rfl, rfl, fun k hk => by rw [cpR_k _ (by omega), o1 k (by omega)], by rw [cpR_k _ (by decide)]; exact o7, fun j hj => ?_, e4, fun i2 hi2 j hj => ?_, fun i2 hi2 => ?_, ?_, fun i2 hi2 => ?_⟩
        · have e9 := cpR_at v1 (a := 85) (oa := 60 * (sN a - 1)) (b := 84) (ob := 0) (n := 60) (j := j) hj
          rw [Nat.zero_add] at e9
          rw [e9, o1 85 (by decide)]
          exact h.2.2.1 (sN a - 1) (by omega) j hj
        · have hi2 : i2 < sN a - 1 := hi2
          rw [cpR_k _ (by decide), o1 85 (by decide)]; exact h.2.2.1 i2 (by omega) j hj
        · rw [cpR_k (k := 87) _ (by decide), cpR_k (k := 86) _ (by decide), o1 87 (by decide), o1 86 (by decide)]; exact h.2.2.2.1 i2 hi2
        · rw [cpR_k _ (by decide), o6]; exact h.2.2.2.2.1
        · rw [cpR_k _ (by decide), o1 88 (by decide)]; exact h.2.2.2.2.2 i2 hi2
      · refine r_aload_n F dX8_undo_39 rfl ?_
        refine r_get (x := .ref (gB G 84)) (T := TX8) (n := 0) F uw8 rfl rfl tw_877 (Or.inl rfl) dX8_undo_40 (kd_lt (rfl : kd 83 = (7,0,0)) (by decide)) (ce7 rfl) rfl ?_
        refine r_iload_n F dX8_undo_43 rfl ?_
        refine r_aload_n F dX8_undo_44 rfl ?_
        refine r_get (x := .ref (gB G 85)) (T := TX8) (n := 1) F uw8 rfl rfl tw_878 (Or.inl rfl) dX8_undo_45 (kd_lt (rfl : kd 83 = (7,0,0)) (by decide)) (ce7 rfl) rfl ?_
        refine r_bipush (x := 60) F dX8_undo_48 rfl ?_
        refine r_aload_n F dX8_undo_50 rfl ?_
        refine r_get (T := TX8) (n := 2) F uw8 rfl rfl tw_879 (Or.inl rfl) dX8_undo_51 (kd_lt (rfl : kd 83 = (7,0,0)) (by decide)) (ce7 rfl) rfl ?_
        rw [e4]
        refine r_imul F dX8_undo_54 ?_
        refine r_iload_n F dX8_undo_55 rfl ?_
        refine r_iadd F dX8_undo_56 ?_
        refine r_iald F dX8_undo_57 rfl (by omega) ?_
        rw [e3]
        refine r_iast F dX8_undo_58 rfl (by omega) ?_
        refine r_iinc1 (y := 1) F dX8_undo_59 rfl rfl rfl rfl ?_
        refine r_goto F dX8_undo_62 ?_
        have e9 := cpR_s v1 85 (60 * (sN a - 1)) 84 0 n
        rw [Nat.zero_add] at e9
        rw [e9]
        exact ih (n + 1) (by omega) (by omega)
  refine r_aload_n F dX8_undo_0 rfl ?_
  refine r_aload_n F dX8_undo_1 rfl ?_
  refine r_get (T := TX8) (n := 2) F uw8 rfl rfl tw_879 (Or.inl rfl) dX8_undo_2 (kd_lt (rfl : kd 83 = (7,0,0)) (by decide)) (ce7 rfl) rfl ?_
  rw [e2]
  refine r_ifle F dX8_undo_5 (by omega) (fun h5 => ?_) (fun h5 => ?_)
  · omega
  · refine r_iconst (x := 0) F dX8_undo_8 rfl ?_
    refine r_goto F dX8_undo_9 ?_
    refine r_callV1i F fMX8_holds tw_942 rfl rfl rfl rfl dX8_undo_13 rfl rfl z0 (m8_holds g (x := 0) (by decide)) ?_
    refine r_Bne F dX8_undo_16 (fun h16 => ?_) (fun h16 => ?_)
    · refine r_aload_n F dX8_undo_21 rfl ?_
      refine r_dup F dX8_undo_22 rfl ?_
      refine r_get (T := TX8) (n := 2) F uw8 rfl rfl tw_879 (Or.inl rfl) dX8_undo_23 (kd_lt (rfl : kd 83 = (7,0,0)) (by decide)) (ce7 rfl) rfl ?_
      rw [up2_j (b := 2) _ (by decide), e2]
      refine r_iconst (x := 1) F dX8_undo_26 rfl ?_
      refine r_isub F dX8_undo_27 (by omega) ?_
      refine r_put (T := TX8) (n := 2) (ty0 := tyX8) (ty := .int) F uw8 tyX8_ok nmX8 rfl rfl tw_879 (Or.inl rfl) rfl rfl rfl rfl dX8_undo_28 (kd_lt (rfl : kd 83 = (7,0,0)) (by decide)) (ce7 rfl) rfl (pe7_2 rfl) up2_ce ?_
      refine r_iconst (x := 0) F dX8_undo_31 rfl ?_
      refine r_ist1 F dX8_undo_32 rfl rfl ?_
      have := lo 61 0 (by omega) (by omega)
      rw [cpR_0, hv1] at this
      exact this
    · exact absurd h16 (by decide)
set_option maxHeartbeats 8000000 in
theorem t8_undo {G : GT} {v : VV} {L : LL} {a : AS} (g : GH G) (h : IM v a) (hn : sN a = 0) : CC G MX8_undo [.ref (gB G 83)] v L (gI (PMt v L a 1)) := by
  refine cc_of g [some (.ref (gB G 83)), none] rfl rfl rfl rfl (fun K F => ?_)
  have e2 : v 83 2 = 0 := h.2.1.trans hn
  refine r_aload_n F dX8_undo_0 rfl ?_
  refine r_aload_n F dX8_undo_1 rfl ?_
  refine r_get (T := TX8) (n := 2) F uw8 rfl rfl tw_879 (Or.inl rfl) dX8_undo_2 (kd_lt (rfl : kd 83 = (7,0,0)) (by decide)) (ce7 rfl) rfl ?_
  rw [e2]
  refine r_ifle F dX8_undo_5 (by omega) (fun h5 => ?_) (fun h5 => ?_)
  · refine r_iconst (x := 1) F dX8_undo_12 rfl ?_
    refine r_callV1i F fMX8_holds tw_942 rfl rfl rfl rfl dX8_undo_13 rfl rfl z0 (m8_holds g (x := 1) (by decide)) ?_
    refine r_Bne F dX8_undo_16 (fun h16 => ?_) (fun h16 => ?_)
    · exact absurd h16 (by decide)
    · refine r_iconst (x := 0) F dX8_undo_19 rfl ?_
      exact r_iret F rfl rfl dX8_undo_20 (pmt h 1 _)
  · exact absurd h5 (by decide)
