def DGm (v : VV) (L : LL) (a : AS) : Int64 → VV → LL → Prop := fun x v' L' => x = dgV a ∧ (∃ y, L' = up1 L 0 y) ∧ FrM v v' ∧ v' 83 7 = 0 ∧ IM v' a
set_option maxHeartbeats 16000000 in
theorem m8_digest {G : GT} {v : VV} {L : LL} {a : AS} (g : GH G) (h : IM v a) (w : WA a) : CC G MX8_digest [.ref (gB G 83)] v L (gJ (DGm v L a)) := by
  refine cc_of g [some (.ref (gB G 83)), none] rfl rfl rfl rfl (fun K F => ?_)
  have w0 : sS a 0 ≤ 20 := w.1.1
  have wl : sL a ≤ 60 := w.2.2.2.2.1
  have main : ∀ v1, (FrM v v1 ∧ v1 83 7 = 0 ∧ IM v1 a) → (∀ t, t < 13 → HL v1 (sS a) t) → CW G K 2 0 0 (MQ (kb K) (Qn G (gJ (DGm v L a))) (ka K) (ks K) 0 0 (gA G)) v1 (up1 L 0 3433) 16 [some (.ref (gB G 83)), none] [] := by
    intro v1 hm hL
    have hr := hm.2.2.1
    have q0 := hr 0 (by decide)
    have q1 := hr 1 (by decide)
    have q6 : v1 83 6 = sL a := hm.2.2.2.2.2.2.1
    have qt : ∀ i, i < sL a → v1 88 i = sT a i := hm.2.2.2.2.2.2.2
    have qk : ∀ i, i < 2 → v1 87 i = (sKp a i).toNat := fun i hi => (hm.2.2.2.2.2.1 i hi).1
    have l4 : ∀ (n j : Nat), sL a < j + n → j ≤ sL a → CW G K 2 0 0 (MQ (kb K) (Qn G (gJ (DGm v L a))) (ka K) (ks K) 0 0 (gA G)) v1 (up1 L 0 (fd (fun i => (nI (sT a i)).toInt64) j (mx (fd (fun i => (nI (sKp a i).toNat).toInt64) 2 (dg1 a)) (nI (sL a)).toInt64))) 144 [some (.ref (gB G 83)), some (.int (nI j))] [] := by
      intro n
      induction n with
      | zero => intro j a1 a2; omega
      | succ n ih =>
        intro j a1 a2
        refine r_iload_n F dX8_digest_144 rfl ?_
        refine r_aload_n F dX8_digest_145 rfl ?_
        refine r_get (T := TX8) (n := 6) F uw8 rfl rfl tw_883 (Or.inl rfl) dX8_digest_146 (kd_lt (rfl : kd 83 = (7,0,0)) (by decide)) (ce7 rfl) rfl ?_
        rw [q6]
        refine r_icge F dX8_digest_149 (by omega) (by omega) (fun h149 => ?_) (fun h149 => ?_)
        · refine r_aload_n F dX8_digest_169 rfl ?_
          refine r_get (T := TX8) (n := 13) F uw8 rfl rfl tw_890 (Or.inl rfl) dX8_digest_170 (kd_lt (rfl : kd 83 = (7,0,0)) (by decide)) (ce7 rfl) rfl ?_
          rw [up1_s0]
          exact r_lret F rfl dX8_digest_173 ⟨_, rfl, by rw [show j = sL a by omega]; rfl, ⟨_, rfl⟩, hm⟩
        · refine r_aload_n F dX8_digest_152 rfl ?_
          refine r_aload_n F dX8_digest_153 rfl ?_
          refine r_get (x := .ref (gB G 88)) (T := TX8) (n := 5) F uw8 rfl rfl tw_882 (Or.inl rfl) dX8_digest_154 (kd_lt (rfl : kd 83 = (7,0,0)) (by decide)) (ce7 rfl) rfl ?_
          refine r_iload_n F dX8_digest_157 rfl ?_
          refine r_iald F dX8_digest_158 rfl (by omega) ?_
          rw [qt j h149]
          refine r_i2l F dX8_digest_159 rfl ?_
          refine r_callV1v F fMX8_mix tw_1186 rfl rfl rfl rfl dX8_digest_160 rfl rfl z0 (m8_mixh g _ _) ?_
          refine r_iinc1 (y := 1) F dX8_digest_163 rfl rfl rfl rfl ?_
          refine r_goto F dX8_digest_166 ?_
          exact ih (j + 1) (by omega) (by omega)
    have l3 : ∀ (n j : Nat), 2 < j + n → j ≤ 2 → CW G K 2 0 0 (MQ (kb K) (Qn G (gJ (DGm v L a))) (ka K) (ks K) 0 0 (gA G)) v1 (up1 L 0 (fd (fun i => (nI (sKp a i).toNat).toInt64) j (dg1 a))) 104 [some (.ref (gB G 83)), some (.int (nI j))] [] := by
      intro n
      induction n with
      | zero => intro j a1 a2; omega
      | succ n ih =>
        intro j a1 a2
        have tb := Bool.toNat_le (sKp a j)
        refine r_iload_n F dX8_digest_104 rfl ?_
        refine r_iconst (x := 2) F dX8_digest_105 rfl ?_
        refine r_icge F dX8_digest_106 (by omega) (by omega) (fun h106 => ?_) (fun h106 => ?_)
        · refine r_aload_n F dX8_digest_133 rfl ?_
          refine r_aload_n F dX8_digest_134 rfl ?_
          refine r_get (T := TX8) (n := 6) F uw8 rfl rfl tw_883 (Or.inl rfl) dX8_digest_135 (kd_lt (rfl : kd 83 = (7,0,0)) (by decide)) (ce7 rfl) rfl ?_
          rw [q6]
          refine r_i2l F dX8_digest_138 rfl ?_
          refine r_callV1v F fMX8_mix tw_1186 rfl rfl rfl rfl dX8_digest_139 rfl rfl z0 (m8_mixh g _ _) ?_
          refine r_iconst (x := 0) F dX8_digest_142 rfl ?_
          refine r_ist1 F dX8_digest_143 rfl rfl ?_
          have e2 : j = 2 := by omega
          subst e2
          exact l4 (sL a + 1) 0 (by omega) (Nat.zero_le _)
        · refine r_aload_n F dX8_digest_109 rfl ?_
          refine r_aload_n F dX8_digest_110 rfl ?_
          refine r_get (x := .ref (gB G 87)) (T := TX8) (n := 4) F uw8 rfl rfl tw_881 (Or.inl rfl) dX8_digest_111 (kd_lt (rfl : kd 83 = (7,0,0)) (by decide)) (ce7 rfl) rfl ?_
          refine r_iload_n F dX8_digest_114 rfl ?_
          refine r_zald F dX8_digest_115 rfl (by omega) ?_
          rw [qk j h106]
          refine r_ifeq F dX8_digest_116 (by omega) (fun h116 => ?_) (fun h116 => ?_)
          · refine r_lconst (x := 0) F dX8_digest_123 rfl ?_
            refine r_callV1v F fMX8_mix tw_1186 rfl rfl rfl rfl dX8_digest_124 rfl rfl z0 (m8_mixh g _ _) ?_
            refine r_iinc1 (y := 1) F dX8_digest_127 rfl rfl rfl rfl ?_
            refine r_goto F dX8_digest_130 ?_
            have := ih (j + 1) (by omega) (by omega)
            first
              | (rw [show fd (fun i => (nI (sKp a i).toNat).toInt64) (j + 1) (dg1 a) = mx (fd (fun i => (nI (sKp a i).toNat).toInt64) j (dg1 a)) 1 from (by show mx _ (nI (sKp a j).toNat).toInt64 = _; rw [show (sKp a j).toNat = 1 by omega]; rfl)] at this; exact this)
              | (rw [show fd (fun i => (nI (sKp a i).toNat).toInt64) (j + 1) (dg1 a) = mx (fd (fun i => (nI (sKp a i).toNat).toInt64) j (dg1 a)) 0 from (by show mx _ (nI (sKp a j).toNat).toInt64 = _; rw [show (sKp a j).toNat = 0 by omega]; rfl)] at this; exact this)
          · refine r_lconst (x := 1) F dX8_digest_119 rfl ?_
            refine r_goto F dX8_digest_120 ?_
            refine r_callV1v F fMX8_mix tw_1186 rfl rfl rfl rfl dX8_digest_124 rfl rfl z0 (m8_mixh g _ _) ?_
            refine r_iinc1 (y := 1) F dX8_digest_127 rfl rfl rfl rfl ?_
            refine r_goto F dX8_digest_130 ?_
            have := ih (j + 1) (by omega) (by omega)
            first
              | (rw [show fd (fun i => (nI (sKp a i).toNat).toInt64) (j + 1) (dg1 a) = mx (fd (fun i => (nI (sKp a i).toNat).toInt64) j (dg1 a)) 1 from (by show mx _ (nI (sKp a j).toNat).toInt64 = _; rw [show (sKp a j).toNat = 1 by omega]; rfl)] at this; exact this)
              | (rw [show fd (fun i => (nI (sKp a i).toNat).toInt64) (j + 1) (dg1 a) = mx (fd (fun i => (nI (sKp a i).toNat).toInt64) j (dg1 a)) 0 from (by show mx _ (nI (sKp a j).toNat).toInt64 = _; rw [show (sKp a j).toNat = 0 by omega]; rfl)] at this; exact this)
    have l2 : ∀ (n j : Nat), 8 < j + n → j ≤ 8 → CW G K 2 0 0 (MQ (kb K) (Qn G (gJ (DGm v L a))) (ka K) (ks K) 0 0 (gA G)) v1 (up1 L 0 (allP (sS a) j (dg0 a))) 64 [some (.ref (gB G 83)), some (.int (nI j))] [] := by
      intro n
      induction n with
      | zero => intro j a1 a2; omega
      | succ n ih =>
        intro j a1 a2
        refine r_iload_n F dX8_digest_64 rfl ?_
        refine r_bipush (x := 8) F dX8_digest_65 rfl ?_
        refine r_icge F dX8_digest_67 (by omega) (by omega) (fun h67 => ?_) (fun h67 => ?_)
        · rw [show j = 8 by omega]
          refine r_aload_n F dX8_digest_81 rfl ?_
          refine r_iconst (x := 0) F dX8_digest_82 rfl ?_
          refine r_callV1v F fMX8_mixPlayer tw_1195 rfl rfl rfl rfl dX8_digest_83 rfl rfl z0 (m8_mixPlayer g hr w.1 (pl := 0) (by decide) hL _) ?_
          refine r_aload_n F dX8_digest_86 rfl ?_
          refine r_iconst (x := 1) F dX8_digest_87 rfl ?_
          refine r_callV1v F fMX8_mixPlayer tw_1195 rfl rfl rfl rfl dX8_digest_88 rfl rfl z0 (m8_mixPlayer g hr w.1 (pl := 1) (by decide) hL _) ?_
          refine r_aload_n F dX8_digest_91 rfl ?_
          refine r_aload_n F dX8_digest_92 rfl ?_
          refine r_callV0d F fMX8_shareTold tw_1177 rfl rfl rfl rfl dX8_digest_93 rfl rfl z0 (m8_shareTold g hr w.1 hL) ?_
          rintro y v3 L3 ⟨rfl, rfl, rfl⟩
          refine r_callS1l F fMX8_bitsOf tw_1199 rfl dX8_digest_96 rfl rfl z0 (m8_bitsOf g w0 (shN_le (Nat.le_refl 16))) ?_
          rintro y v3 L3 ⟨rfl, rfl, rfl⟩
          refine r_callV1v F fMX8_mix tw_1186 rfl rfl rfl rfl dX8_digest_99 rfl rfl z0 (m8_mixh g _ _) ?_
          refine r_iconst (x := 0) F dX8_digest_102 rfl ?_
          refine r_ist1 F dX8_digest_103 rfl rfl ?_
          exact l3 3 0 (by omega) (by omega)
        · refine r_aload_n F dX8_digest_70 rfl ?_
          refine r_iload_n F dX8_digest_71 rfl ?_
          refine r_callV1v F fMX8_mixPosition tw_1191 rfl rfl rfl rfl dX8_digest_72 rfl rfl z0 (m8_mixPosition g hr w.1 h67 hL _) ?_
          refine r_iinc1 (y := 1) F dX8_digest_75 rfl rfl rfl rfl ?_
          refine r_goto F dX8_digest_78 ?_
          exact ih (j + 1) (by omega) (by omega)
    have l1 : ∀ (n j : Nat), 11 < j + n → j ≤ 11 → CW G K 2 0 0 (MQ (kb K) (Qn G (gJ (DGm v L a))) (ka K) (ks K) 0 0 (gA G)) v1 (up1 L 0 (fd (fun w => (cnV a w).toInt64) j 3433)) 18 [some (.ref (gB G 83)), some (.int (nI j))] [] := by
      intro n
      induction n with
      | zero => intro j a1 a2; omega
      | succ n ih =>
        intro j a1 a2
        refine r_iload_n F dX8_digest_18 rfl ?_
        refine r_bipush (x := 11) F dX8_digest_19 rfl ?_
        refine r_icge F dX8_digest_21 (by omega) (by omega) (fun h21 => ?_) (fun h21 => ?_)
        · refine r_aload_n F dX8_digest_40 rfl ?_
          refine r_aload_n F dX8_digest_41 rfl ?_
          refine r_get (x := .ref (gB G 84)) (T := TX8) (n := 0) F uw8 rfl rfl tw_877 (Or.inl rfl) dX8_digest_42 (kd_lt (rfl : kd 83 = (7,0,0)) (by decide)) (ce7 rfl) rfl ?_
          refine r_iconst (x := 0) F dX8_digest_45 rfl ?_
          refine r_iald F dX8_digest_46 rfl (by omega) ?_
          rw [q0]
          refine r_i2l F dX8_digest_47 rfl ?_
          refine r_callV1v F fMX8_mix tw_1186 rfl rfl rfl rfl dX8_digest_48 rfl rfl z0 (m8_mixh g _ _) ?_
          refine r_aload_n F dX8_digest_51 rfl ?_
          refine r_aload_n F dX8_digest_52 rfl ?_
          refine r_get (x := .ref (gB G 84)) (T := TX8) (n := 0) F uw8 rfl rfl tw_877 (Or.inl rfl) dX8_digest_53 (kd_lt (rfl : kd 83 = (7,0,0)) (by decide)) (ce7 rfl) rfl ?_
          refine r_iconst (x := 1) F dX8_digest_56 rfl ?_
          refine r_iald F dX8_digest_57 rfl (by omega) ?_
          rw [q1]
          refine r_i2l F dX8_digest_58 rfl ?_
          refine r_callV1v F fMX8_mix tw_1186 rfl rfl rfl rfl dX8_digest_59 rfl rfl z0 (m8_mixh g _ _) ?_
          refine r_iconst (x := 0) F dX8_digest_62 rfl ?_
          refine r_ist1 F dX8_digest_63 rfl rfl ?_
          have e2 : j = 11 := by omega
          subst e2
          exact l2 9 0 (by omega) (by omega)
        · refine r_aload_n F dX8_digest_24 rfl ?_
          refine r_aload_n F dX8_digest_25 rfl ?_
          refine r_iload_n F dX8_digest_26 rfl ?_
          refine r_callV1q F fMX8_countTold tw_1113 rfl rfl rfl rfl dX8_digest_27 rfl rfl z0 (m8_countTold g hm.2.2 w (i := j) (by omega)) ?_
          refine r_i2l F dX8_digest_30 rfl ?_
          refine r_callV1v F fMX8_mix tw_1186 rfl rfl rfl rfl dX8_digest_31 rfl rfl z0 (m8_mixh g _ _) ?_
          refine r_iinc1 (y := 1) F dX8_digest_34 rfl rfl rfl rfl ?_
          refine r_goto F dX8_digest_37 ?_
          exact ih (j + 1) (by omega) (by omega)
    refine r_iconst (x := 0) F dX8_digest_16 rfl ?_
    refine r_ist1 F dX8_digest_17 rfl rfl ?_
    exact l1 12 0 (by omega) (by omega)
  refine r_aload_n F dX8_digest_0 rfl ?_
  refine r_iconst (x := 0) F dX8_digest_1 rfl ?_
  refine r_put (T := TX8) (n := 7) (ty0 := tyX8) (ty := .int) F uw8 tyX8_ok nmX8 rfl rfl tw_884 (Or.inl rfl) rfl rfl rfl rfl dX8_digest_2 (kd_lt (rfl : kd 83 = (7,0,0)) (by decide)) (ce7 rfl) rfl (pe7_7 rfl) up2_ce ?_
  refine r_aload_n F dX8_digest_5 rfl ?_
  refine r_callV0w F fMX8_lay tw_1061 rfl rfl rfl rfl dX8_digest_6 rfl rfl z0 (m8_lay g (h.thr 0).1 w.1) ?_
  rintro v1 L1 ⟨rfl, hc, hL⟩
  refine r_aload_n F dX8_digest_9 rfl ?_
  refine r_ldc2 F dX8_digest_10 tw_1185 ?_
  refine r_put (T := TX8) (n := 13) (ty0 := tyX8) (ty := .long) F uw8 tyX8_ok nmX8 rfl rfl tw_890 (Or.inl rfl) rfl rfl rfl rfl dX8_digest_13 (kd_lt (rfl : kd 83 = (7,0,0)) (by decide)) (ce7 rfl) rfl (pe7_13 rfl) up1_ce0 ?_
  exact main v1 (ly_m h hc) hL
