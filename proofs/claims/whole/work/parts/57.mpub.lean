theorem ly_m {v v1 : VV} {a : AS} (h : IM v a) (c : ∀ k, k ≠ 89 → v1 k = up2 v 83 7 0 k) : FrM v v1 ∧ v1 83 7 = 0 ∧ IM v1 a := ⟨fun k hk => by rw [c k (by omega), up2_k _ (by omega)], by rw [c 83 (by decide), up2_s], (h.thr 0).kept (fun k _ _ => c k (by omega)) (by rw [c 83 (by decide)]) (by rw [c 83 (by decide)])⟩
theorem ok_m {v : VV} {a : AS} (h : IM v a) : FrM v (up2 v 83 7 0) ∧ up2 v 83 7 0 83 7 = 0 ∧ IM (up2 v 83 7 0) a := ⟨(FrM.rf v).up (by decide) (by decide), up2_s _ _ _ _, h.thr 0⟩
set_option maxHeartbeats 8000000 in
theorem m8_positionOf {G : GT} {v : VV} {L : LL} {a : AS} (g : GH G) (h : IM v a) (w : WA a) {p i : Nat} (hp : p < 8) (hi : i ≤ 6) : CC G MX8_positionOf [.ref (gB G 83), .int (nI p), .int (nI i)] v L (gI (PMo v L a (posV (sS a) p i))) := by
  refine cc_of g [some (.ref (gB G 83)), some (.int (nI p)), some (.int (nI i))] rfl rfl rfl rfl (fun K F => ?_)
  have i1 := inn_i (k := p) (n := 7) (by decide) (by omega)
  have i2 := inn_i (k := i) (n := 6) (by decide) hi
  refine r_aload_n F dX8_positionOf_0 rfl ?_
  refine r_iload_n F dX8_positionOf_1 rfl ?_
  refine r_callS1i F fMX8_isPosition tw_928 rfl dX8_positionOf_2 rfl rfl z0 (m8_isPosition g (nI p)) ?_
  refine r_Bne F dX8_positionOf_5 (fun h5 => ?_) (fun h5 => ?_)
  · refine r_iload_n F dX8_positionOf_12 rfl ?_
    refine r_iconst (x := 0) F dX8_positionOf_13 rfl ?_
    refine r_bipush (x := 6) F dX8_positionOf_14 rfl ?_
    refine r_callS3i F fMX8_in tw_931 rfl dX8_positionOf_16 rfl rfl z0 (m8_in g (nI i) (nI 0) (nI 6)) ?_
    refine r_Bne F dX8_positionOf_19 (fun h19 => ?_) (fun h19 => ?_)
    · refine r_iconst (x := 0) F dX8_positionOf_26 rfl ?_
      refine r_callV1i F fMX8_holds tw_942 rfl rfl rfl rfl dX8_positionOf_27 rfl rfl z0 (m8_holds g (x := 0) (by decide)) ?_
      refine r_Beq F dX8_positionOf_30 (fun h30 => ?_) (fun h30 => ?_)
      · exact absurd h30 (by decide)
      · refine r_aload_n F dX8_positionOf_33 rfl ?_
        refine r_iload_n F dX8_positionOf_34 rfl ?_
        refine r_iload_n F dX8_positionOf_35 rfl ?_
        refine r_callV2q F fMX8_positionTold tw_1053 rfl rfl rfl rfl dX8_positionOf_36 rfl rfl z0 (m8_positionTold g (h.thr 0).1 w.1.b hp hi) ?_
        refine r_goto F dX8_positionOf_39 ?_
        exact r_iret F rfl rfl dX8_positionOf_43 ⟨_, rfl, rfl, rfl, ok_m h⟩
    · exact absurd h19 (by rw [i2]; decide)
  · exact absurd h5 (by rw [i1]; decide)
set_option maxHeartbeats 8000000 in
theorem t8_positionOf1 {G : GT} {v : VV} {L : LL} {a : AS} (g : GH G) (h : IM v a) {x y : Int32} (hx : oor x 7) : CC G MX8_positionOf [.ref (gB G 83), .int x, .int y] v L (gI (PMt v L a 1)) := by
  refine cc_of g [some (.ref (gB G 83)), some (.int x), some (.int y)] rfl rfl rfl rfl (fun K F => ?_)
  have i1 := inn_o hx
  refine r_aload_n F dX8_positionOf_0 rfl ?_
  refine r_iload_n F dX8_positionOf_1 rfl ?_
  refine r_callS1i F fMX8_isPosition tw_928 rfl dX8_positionOf_2 rfl rfl z0 (m8_isPosition g x) ?_
  refine r_Bne F dX8_positionOf_5 (fun h5 => ?_) (fun h5 => ?_)
  · exact absurd h5 (by rw [i1]; decide)
  · refine r_iconst (x := 1) F dX8_positionOf_8 rfl ?_
    refine r_goto F dX8_positionOf_9 ?_
    refine r_callV1i F fMX8_holds tw_942 rfl rfl rfl rfl dX8_positionOf_27 rfl rfl z0 (m8_holds g (x := 1) (by decide)) ?_
    refine r_Beq F dX8_positionOf_30 (fun h30 => ?_) (fun h30 => ?_)
    · refine r_iconst (x := 0) F dX8_positionOf_42 rfl ?_
      exact r_iret F rfl rfl dX8_positionOf_43 (pmt h 1 _)
    · exact absurd h30 (by decide)
set_option maxHeartbeats 8000000 in
theorem t8_positionOf2 {G : GT} {v : VV} {L : LL} {a : AS} (g : GH G) (h : IM v a) {p : Nat} {y : Int32} (hp : p < 8) (hx : oor y 6) : CC G MX8_positionOf [.ref (gB G 83), .int (nI p), .int y] v L (gI (PMt v L a 2)) := by
  refine cc_of g [some (.ref (gB G 83)), some (.int (nI p)), some (.int y)] rfl rfl rfl rfl (fun K F => ?_)
  have i1 := inn_i (k := p) (n := 7) (by decide) (by omega)
  have i2 := inn_o hx
  refine r_aload_n F dX8_positionOf_0 rfl ?_
  refine r_iload_n F dX8_positionOf_1 rfl ?_
  refine r_callS1i F fMX8_isPosition tw_928 rfl dX8_positionOf_2 rfl rfl z0 (m8_isPosition g (nI p)) ?_
  refine r_Bne F dX8_positionOf_5 (fun h5 => ?_) (fun h5 => ?_)
  · refine r_iload_n F dX8_positionOf_12 rfl ?_
    refine r_iconst (x := 0) F dX8_positionOf_13 rfl ?_
    refine r_bipush (x := 6) F dX8_positionOf_14 rfl ?_
    refine r_callS3i F fMX8_in tw_931 rfl dX8_positionOf_16 rfl rfl z0 (m8_in g y (nI 0) (nI 6)) ?_
    refine r_Bne F dX8_positionOf_19 (fun h19 => ?_) (fun h19 => ?_)
    · exact absurd h19 (by rw [i2]; decide)
    · refine r_iconst (x := 2) F dX8_positionOf_22 rfl ?_
      refine r_goto F dX8_positionOf_23 ?_
      refine r_callV1i F fMX8_holds tw_942 rfl rfl rfl rfl dX8_positionOf_27 rfl rfl z0 (m8_holds g (x := 2) (by decide)) ?_
      refine r_Beq F dX8_positionOf_30 (fun h30 => ?_) (fun h30 => ?_)
      · refine r_iconst (x := 0) F dX8_positionOf_42 rfl ?_
        exact r_iret F rfl rfl dX8_positionOf_43 (pmt h 2 _)
      · exact absurd h30 (by decide)
  · exact absurd h5 (by rw [i1]; decide)
set_option maxHeartbeats 8000000 in
theorem m8_count {G : GT} {v : VV} {L : LL} {a : AS} (g : GH G) (h : IM v a) (w : WA a) {i : Nat} (hi : i ≤ 10) : CC G MX8_count [.ref (gB G 83), .int (nI i)] v L (gI (PMo v L a (cnV a i))) := by
  refine cc_of g [some (.ref (gB G 83)), some (.int (nI i))] rfl rfl rfl rfl (fun K F => ?_)
  have i2 := inn_i (k := i) (n := 10) (by decide) hi
  refine r_aload_n F dX8_count_0 rfl ?_
  refine r_iload_n F dX8_count_1 rfl ?_
  refine r_iconst (x := 0) F dX8_count_2 rfl ?_
  refine r_bipush (x := 10) F dX8_count_3 rfl ?_
  refine r_callS3i F fMX8_in tw_931 rfl dX8_count_5 rfl rfl z0 (m8_in g (nI i) (nI 0) (nI 10)) ?_
  refine r_Beq F dX8_count_8 (fun h8 => ?_) (fun h8 => ?_)
  · exact absurd h8 (by rw [i2]; decide)
  · refine r_iconst (x := 0) F dX8_count_11 rfl ?_
    refine r_goto F dX8_count_12 ?_
    refine r_callV1i F fMX8_holds tw_942 rfl rfl rfl rfl dX8_count_16 rfl rfl z0 (m8_holds g (x := 0) (by decide)) ?_
    refine r_Beq F dX8_count_19 (fun h19 => ?_) (fun h19 => ?_)
    · exact absurd h19 (by decide)
    · refine r_aload_n F dX8_count_22 rfl ?_
      refine r_iload_n F dX8_count_23 rfl ?_
      refine r_callV1q F fMX8_countTold tw_1113 rfl rfl rfl rfl dX8_count_24 rfl rfl z0 (m8_countTold g (h.thr 0) w hi) ?_
      refine r_goto F dX8_count_27 ?_
      exact r_iret F rfl rfl dX8_count_31 ⟨_, rfl, rfl, rfl, ok_m h⟩
set_option maxHeartbeats 8000000 in
theorem t8_count {G : GT} {v : VV} {L : LL} {a : AS} (g : GH G) (h : IM v a) {x : Int32} (hx : oor x 10) : CC G MX8_count [.ref (gB G 83), .int x] v L (gI (PMt v L a 1)) := by
  refine cc_of g [some (.ref (gB G 83)), some (.int x)] rfl rfl rfl rfl (fun K F => ?_)
  have i2 := inn_o hx
  refine r_aload_n F dX8_count_0 rfl ?_
  refine r_iload_n F dX8_count_1 rfl ?_
  refine r_iconst (x := 0) F dX8_count_2 rfl ?_
  refine r_bipush (x := 10) F dX8_count_3 rfl ?_
  refine r_callS3i F fMX8_in tw_931 rfl dX8_count_5 rfl rfl z0 (m8_in g x (nI 0) (nI 10)) ?_
  refine r_Beq F dX8_count_8 (fun h8 => ?_) (fun h8 => ?_)
  · refine r_iconst (x := 1) F dX8_count_15 rfl ?_
    refine r_callV1i F fMX8_holds tw_942 rfl rfl rfl rfl dX8_count_16 rfl rfl z0 (m8_holds g (x := 1) (by decide)) ?_
    refine r_Beq F dX8_count_19 (fun h19 => ?_) (fun h19 => ?_)
    · refine r_iconst (x := 0) F dX8_count_30 rfl ?_
      exact r_iret F rfl rfl dX8_count_31 (pmt h 1 _)
    · exact absurd h19 (by decide)
  · exact absurd h8 (by rw [i2]; decide)
set_option maxHeartbeats 8000000 in
theorem m8_setting {G : GT} {v : VV} {L : LL} {a : AS} (g : GH G) (h : IM v a) {i : Nat} (hi : i ≤ 1) : CC G MX8_setting [.ref (gB G 83), .int (nI i)] v L (gI (PMo v L a (nI (sS a i)))) := by
  refine cc_of g [some (.ref (gB G 83)), some (.int (nI i))] rfl rfl rfl rfl (fun K F => ?_)
  have i2 := inn_i (k := i) (n := 1) (by decide) hi
  have q := (h.thr 0).1 i (by omega)
  refine r_aload_n F dX8_setting_0 rfl ?_
  refine r_iload_n F dX8_setting_1 rfl ?_
  refine r_callS1i F fMX8_isOneOfTwo tw_970 rfl dX8_setting_2 rfl rfl z0 (m8_isOneOfTwo g (nI i)) ?_
  refine r_Beq F dX8_setting_5 (fun h5 => ?_) (fun h5 => ?_)
  · exact absurd h5 (by rw [i2]; decide)
  · refine r_iconst (x := 0) F dX8_setting_8 rfl ?_
    refine r_goto F dX8_setting_9 ?_
    refine r_callV1i F fMX8_holds tw_942 rfl rfl rfl rfl dX8_setting_13 rfl rfl z0 (m8_holds g (x := 0) (by decide)) ?_
    refine r_Beq F dX8_setting_16 (fun h16 => ?_) (fun h16 => ?_)
    · exact absurd h16 (by decide)
    · refine r_aload_n F dX8_setting_19 rfl ?_
      refine r_get (x := .ref (gB G 84)) (T := TX8) (n := 0) F uw8 rfl rfl tw_877 (Or.inl rfl) dX8_setting_20 (kd_lt (rfl : kd 83 = (7,0,0)) (by decide)) (ce7 rfl) rfl ?_
      refine r_iconst (x := 0) F dX8_setting_23 rfl ?_
      refine r_iload_n F dX8_setting_24 rfl ?_
      refine r_iadd F dX8_setting_25 ?_
      refine r_iald F dX8_setting_26 rfl (by omega) ?_
      refine r_goto F dX8_setting_27 ?_
      exact r_iret F rfl rfl dX8_setting_31 ⟨_, rfl, by rw [Nat.zero_add, q], rfl, ok_m h⟩
set_option maxHeartbeats 8000000 in
theorem t8_setting {G : GT} {v : VV} {L : LL} {a : AS} (g : GH G) (h : IM v a) {x : Int32} (hx : oor x 1) : CC G MX8_setting [.ref (gB G 83), .int x] v L (gI (PMt v L a 1)) := by
  refine cc_of g [some (.ref (gB G 83)), some (.int x)] rfl rfl rfl rfl (fun K F => ?_)
  have i2 := inn_o hx
  refine r_aload_n F dX8_setting_0 rfl ?_
  refine r_iload_n F dX8_setting_1 rfl ?_
  refine r_callS1i F fMX8_isOneOfTwo tw_970 rfl dX8_setting_2 rfl rfl z0 (m8_isOneOfTwo g x) ?_
  refine r_Beq F dX8_setting_5 (fun h5 => ?_) (fun h5 => ?_)
  · refine r_iconst (x := 1) F dX8_setting_12 rfl ?_
    refine r_callV1i F fMX8_holds tw_942 rfl rfl rfl rfl dX8_setting_13 rfl rfl z0 (m8_holds g (x := 1) (by decide)) ?_
    refine r_Beq F dX8_setting_16 (fun h16 => ?_) (fun h16 => ?_)
    · refine r_iconst (x := 0) F dX8_setting_30 rfl ?_
      exact r_iret F rfl rfl dX8_setting_31 (pmt h 1 _)
    · exact absurd h16 (by decide)
  · exact absurd h5 (by rw [i2]; decide)
set_option maxHeartbeats 8000000 in
theorem m8_isBid {G : GT} {v : VV} {L : LL} (g : GH G) {S : Nat → Nat} (hr : RM v S) (w : WS S) {pl : Nat} (hpl : pl < 2) (x : Int32) : CC G MX8_isBid [.ref (gB G 83), .int (nI pl), .int x] v L (rI (inn x (nI 0) (nI (bud S pl))).toNat v L) := by
  refine cc_of g [some (.ref (gB G 83)), some (.int (nI pl)), some (.int x)] rfl rfl rfl rfl (fun K F => ?_)
  refine r_iload_n F dX8_isBid_0 rfl ?_
  refine r_iconst (x := 0) F dX8_isBid_1 rfl ?_
  refine r_aload_n F dX8_isBid_2 rfl ?_
  refine r_iload_n F dX8_isBid_3 rfl ?_
  refine r_callV1i F fMX8_budgetOf tw_989 rfl rfl rfl rfl dX8_isBid_4 rfl rfl z0 (m8_budgetOf g hr w hpl) ?_
  refine r_callS3i F fMX8_in tw_931 rfl dX8_isBid_7 rfl rfl z0 (m8_in g x (nI 0) (nI (bud S pl))) ?_
  exact r_iret F rfl nb_b dX8_isBid_10 ⟨rfl, rfl, rfl⟩
set_option maxHeartbeats 8000000 in
theorem m8_playerOf {G : GT} {v : VV} {L : LL} {a : AS} (g : GH G) (h : IM v a) (w : WA a) {pl i : Nat} (hpl : pl ≤ 1) (hi : i ≤ 5) : CC G MX8_playerOf [.ref (gB G 83), .int (nI pl), .int (nI i)] v L (gI (PMo v L a (plV (sS a) pl i))) := by
  refine cc_of g [some (.ref (gB G 83)), some (.int (nI pl)), some (.int (nI i))] rfl rfl rfl rfl (fun K F => ?_)
  have i1 := inn_i (k := pl) (n := 1) (by decide) hpl
  have i2 := inn_i (k := i) (n := 5) (by omega) hi
  have w1 : sS a 1 ≤ 12 := w.1.2.1
  refine r_aload_n F dX8_playerOf_0 rfl ?_
  refine r_iload_n F dX8_playerOf_1 rfl ?_
  refine r_callS1i F fMX8_isOneOfTwo tw_970 rfl dX8_playerOf_2 rfl rfl z0 (m8_isOneOfTwo g (nI pl)) ?_
  refine r_Bne F dX8_playerOf_5 (fun h5 => ?_) (fun h5 => ?_)
  · refine r_iload_n F dX8_playerOf_12 rfl ?_
    refine r_iconst (x := 0) F dX8_playerOf_13 rfl ?_
    refine r_iconst (x := 5) F dX8_playerOf_14 rfl ?_
    refine r_callS3i F fMX8_in tw_931 rfl dX8_playerOf_15 rfl rfl z0 (m8_in g (nI i) (nI 0) (nI 5)) ?_
    refine r_Bne F dX8_playerOf_18 (fun h18 => ?_) (fun h18 => ?_)
    · refine r_iconst (x := 0) F dX8_playerOf_25 rfl ?_
      refine r_callV1i F fMX8_holds tw_942 rfl rfl rfl rfl dX8_playerOf_26 rfl rfl z0 (m8_holds g (x := 0) (by decide)) ?_
      refine r_Bne F dX8_playerOf_29 (fun h29 => ?_) (fun h29 => ?_)
      · refine r_aload_n F dX8_playerOf_34 rfl ?_
        refine r_callV0w F fMX8_lay tw_1061 rfl rfl rfl rfl dX8_playerOf_35 rfl rfl z0 (m8_lay g (h.thr 0).1 w.1) ?_
        rintro v1 L1 ⟨rfl, hc, hL⟩
        have hm := ly_m h hc
        refine r_aload_n F dX8_playerOf_38 rfl ?_
        refine r_iload_n F dX8_playerOf_39 rfl ?_
        refine r_iload_n F dX8_playerOf_40 rfl ?_
        refine r_callV2q F fMX8_playerTold tw_1097 rfl rfl rfl rfl dX8_playerOf_41 rfl rfl z0 (m8_playerTold g hm.2.2.1 w.1 hpl hi (hL _ (by omega))) ?_
        exact r_iret F rfl rfl dX8_playerOf_44 ⟨_, rfl, rfl, rfl, hm⟩
      · exact absurd h29 (by decide)
    · exact absurd h18 (by rw [i2]; decide)
  · exact absurd h5 (by rw [i1]; decide)
set_option maxHeartbeats 8000000 in
theorem t8_playerOf1 {G : GT} {v : VV} {L : LL} {a : AS} (g : GH G) (h : IM v a) {x y : Int32} (hx : oor x 1) : CC G MX8_playerOf [.ref (gB G 83), .int x, .int y] v L (gI (PMt v L a 1)) := by
  refine cc_of g [some (.ref (gB G 83)), some (.int x), some (.int y)] rfl rfl rfl rfl (fun K F => ?_)
  have i1 := inn_o hx
  refine r_aload_n F dX8_playerOf_0 rfl ?_
  refine r_iload_n F dX8_playerOf_1 rfl ?_
  refine r_callS1i F fMX8_isOneOfTwo tw_970 rfl dX8_playerOf_2 rfl rfl z0 (m8_isOneOfTwo g x) ?_
  refine r_Bne F dX8_playerOf_5 (fun h5 => ?_) (fun h5 => ?_)
  · exact absurd h5 (by rw [i1]; decide)
  · refine r_iconst (x := 1) F dX8_playerOf_8 rfl ?_
    refine r_goto F dX8_playerOf_9 ?_
    refine r_callV1i F fMX8_holds tw_942 rfl rfl rfl rfl dX8_playerOf_26 rfl rfl z0 (m8_holds g (x := 1) (by decide)) ?_
    refine r_Bne F dX8_playerOf_29 (fun h29 => ?_) (fun h29 => ?_)
    · exact absurd h29 (by decide)
    · refine r_iconst (x := 0) F dX8_playerOf_32 rfl ?_
      exact r_iret F rfl rfl dX8_playerOf_33 (pmt h 1 _)
set_option maxHeartbeats 8000000 in
theorem t8_playerOf2 {G : GT} {v : VV} {L : LL} {a : AS} (g : GH G) (h : IM v a) (w : WA a) {pl : Nat} {y : Int32} (hpl : pl ≤ 1) (hx : oor y (5)) : CC G MX8_playerOf [.ref (gB G 83), .int (nI pl), .int y] v L (gI (PMt v L a 2)) := by
  refine cc_of g [some (.ref (gB G 83)), some (.int (nI pl)), some (.int y)] rfl rfl rfl rfl (fun K F => ?_)
  have i1 := inn_i (k := pl) (n := 1) (by decide) hpl
  have i2 := inn_o hx
  refine r_aload_n F dX8_playerOf_0 rfl ?_
  refine r_iload_n F dX8_playerOf_1 rfl ?_
  refine r_callS1i F fMX8_isOneOfTwo tw_970 rfl dX8_playerOf_2 rfl rfl z0 (m8_isOneOfTwo g (nI pl)) ?_
  refine r_Bne F dX8_playerOf_5 (fun h5 => ?_) (fun h5 => ?_)
  · refine r_iload_n F dX8_playerOf_12 rfl ?_
    refine r_iconst (x := 0) F dX8_playerOf_13 rfl ?_
    refine r_iconst (x := 5) F dX8_playerOf_14 rfl ?_
    refine r_callS3i F fMX8_in tw_931 rfl dX8_playerOf_15 rfl rfl z0 (m8_in g y (nI 0) (nI 5)) ?_
    refine r_Bne F dX8_playerOf_18 (fun h18 => ?_) (fun h18 => ?_)
    · exact absurd h18 (by rw [i2]; decide)
    · refine r_iconst (x := 2) F dX8_playerOf_21 rfl ?_
      refine r_goto F dX8_playerOf_22 ?_
      refine r_callV1i F fMX8_holds tw_942 rfl rfl rfl rfl dX8_playerOf_26 rfl rfl z0 (m8_holds g (x := 2) (by decide)) ?_
      refine r_Bne F dX8_playerOf_29 (fun h29 => ?_) (fun h29 => ?_)
      · exact absurd h29 (by decide)
      · refine r_iconst (x := 0) F dX8_playerOf_32 rfl ?_
        exact r_iret F rfl rfl dX8_playerOf_33 (pmt h 2 _)
  · exact absurd h5 (by rw [i1]; decide)
set_option maxHeartbeats 8000000 in
theorem m8_refuted {G : GT} {v : VV} {L : LL} {a : AS} (g : GH G) (h : IM v a) (w : WA a) {pl i : Nat} (hpl : pl ≤ 1) (hi : i ≤ bud (sS a) pl) : CC G MX8_refuted [.ref (gB G 83), .int (nI pl), .int (nI i)] v L (gI (PMo v L a (reV (sS a) pl i))) := by
  refine cc_of g [some (.ref (gB G 83)), some (.int (nI pl)), some (.int (nI i))] rfl rfl rfl rfl (fun K F => ?_)
  have w0 : sS a 0 ≤ 20 := w.1.1
  have wb := bud_le w.1 pl
  have i1 := inn_i (k := pl) (n := 1) (by decide) hpl
  have i2 := inn_i (k := i) (n := bud (sS a) pl) (by omega) hi
  have w1 : sS a 1 ≤ 12 := w.1.2.1
  refine r_aload_n F dX8_refuted_0 rfl ?_
  refine r_iload_n F dX8_refuted_1 rfl ?_
  refine r_callS1i F fMX8_isOneOfTwo tw_970 rfl dX8_refuted_2 rfl rfl z0 (m8_isOneOfTwo g (nI pl)) ?_
  refine r_Bne F dX8_refuted_5 (fun h5 => ?_) (fun h5 => ?_)
  · refine r_aload_n F dX8_refuted_12 rfl ?_
    refine r_iload_n F dX8_refuted_13 rfl ?_
    refine r_iload_n F dX8_refuted_14 rfl ?_
    refine r_callV2i F fMX8_isBid tw_1149 rfl rfl rfl rfl dX8_refuted_15 rfl rfl z0 (m8_isBid g h.1 w.1 (by omega) (nI i)) ?_
    refine r_Bne F dX8_refuted_18 (fun h18 => ?_) (fun h18 => ?_)
    · refine r_iconst (x := 0) F dX8_refuted_25 rfl ?_
      refine r_callV1i F fMX8_holds tw_942 rfl rfl rfl rfl dX8_refuted_26 rfl rfl z0 (m8_holds g (x := 0) (by decide)) ?_
      refine r_Bne F dX8_refuted_29 (fun h29 => ?_) (fun h29 => ?_)
      · refine r_aload_n F dX8_refuted_34 rfl ?_
        refine r_callV0w F fMX8_lay tw_1061 rfl rfl rfl rfl dX8_refuted_35 rfl rfl z0 (m8_lay g (h.thr 0).1 w.1) ?_
        rintro v1 L1 ⟨rfl, hc, hL⟩
        have hm := ly_m h hc
        refine r_aload_n F dX8_refuted_38 rfl ?_
        refine r_iload_n F dX8_refuted_39 rfl ?_
        refine r_iload_n F dX8_refuted_40 rfl ?_
        refine r_callV2q F fMX8_refutedTold tw_1153 rfl rfl rfl rfl dX8_refuted_41 rfl rfl z0 (m8_refutedTold g hm.2.2.1 w.1 (by omega) hi hL) ?_
        exact r_iret F rfl rfl dX8_refuted_44 ⟨_, rfl, rfl, rfl, hm⟩
      · exact absurd h29 (by decide)
    · exact absurd h18 (by rw [i2]; decide)
  · exact absurd h5 (by rw [i1]; decide)
set_option maxHeartbeats 8000000 in
theorem t8_refuted1 {G : GT} {v : VV} {L : LL} {a : AS} (g : GH G) (h : IM v a) {x y : Int32} (hx : oor x 1) : CC G MX8_refuted [.ref (gB G 83), .int x, .int y] v L (gI (PMt v L a 1)) := by
  refine cc_of g [some (.ref (gB G 83)), some (.int x), some (.int y)] rfl rfl rfl rfl (fun K F => ?_)
  have i1 := inn_o hx
  refine r_aload_n F dX8_refuted_0 rfl ?_
  refine r_iload_n F dX8_refuted_1 rfl ?_
  refine r_callS1i F fMX8_isOneOfTwo tw_970 rfl dX8_refuted_2 rfl rfl z0 (m8_isOneOfTwo g x) ?_
  refine r_Bne F dX8_refuted_5 (fun h5 => ?_) (fun h5 => ?_)
  · exact absurd h5 (by rw [i1]; decide)
  · refine r_iconst (x := 1) F dX8_refuted_8 rfl ?_
    refine r_goto F dX8_refuted_9 ?_
    refine r_callV1i F fMX8_holds tw_942 rfl rfl rfl rfl dX8_refuted_26 rfl rfl z0 (m8_holds g (x := 1) (by decide)) ?_
    refine r_Bne F dX8_refuted_29 (fun h29 => ?_) (fun h29 => ?_)
    · exact absurd h29 (by decide)
    · refine r_iconst (x := 0) F dX8_refuted_32 rfl ?_
      exact r_iret F rfl rfl dX8_refuted_33 (pmt h 1 _)
set_option maxHeartbeats 8000000 in
theorem t8_refuted2 {G : GT} {v : VV} {L : LL} {a : AS} (g : GH G) (h : IM v a) (w : WA a) {pl : Nat} {y : Int32} (hpl : pl ≤ 1) (hx : oor y (bud (sS a) pl)) : CC G MX8_refuted [.ref (gB G 83), .int (nI pl), .int y] v L (gI (PMt v L a 2)) := by
  refine cc_of g [some (.ref (gB G 83)), some (.int (nI pl)), some (.int y)] rfl rfl rfl rfl (fun K F => ?_)
  have i1 := inn_i (k := pl) (n := 1) (by decide) hpl
  have i2 := inn_o hx
  refine r_aload_n F dX8_refuted_0 rfl ?_
  refine r_iload_n F dX8_refuted_1 rfl ?_
  refine r_callS1i F fMX8_isOneOfTwo tw_970 rfl dX8_refuted_2 rfl rfl z0 (m8_isOneOfTwo g (nI pl)) ?_
  refine r_Bne F dX8_refuted_5 (fun h5 => ?_) (fun h5 => ?_)
  · refine r_aload_n F dX8_refuted_12 rfl ?_
    refine r_iload_n F dX8_refuted_13 rfl ?_
    refine r_iload_n F dX8_refuted_14 rfl ?_
    refine r_callV2i F fMX8_isBid tw_1149 rfl rfl rfl rfl dX8_refuted_15 rfl rfl z0 (m8_isBid g h.1 w.1 (by omega) y) ?_
    refine r_Bne F dX8_refuted_18 (fun h18 => ?_) (fun h18 => ?_)
    · exact absurd h18 (by rw [i2]; decide)
    · refine r_iconst (x := 2) F dX8_refuted_21 rfl ?_
      refine r_goto F dX8_refuted_22 ?_
      refine r_callV1i F fMX8_holds tw_942 rfl rfl rfl rfl dX8_refuted_26 rfl rfl z0 (m8_holds g (x := 2) (by decide)) ?_
      refine r_Bne F dX8_refuted_29 (fun h29 => ?_) (fun h29 => ?_)
      · exact absurd h29 (by decide)
      · refine r_iconst (x := 0) F dX8_refuted_32 rfl ?_
        exact r_iret F rfl rfl dX8_refuted_33 (pmt h 2 _)
  · exact absurd h5 (by rw [i1]; decide)
set_option maxHeartbeats 8000000 in
theorem m8_bestMove {G : GT} {v : VV} {L : LL} {a : AS} (g : GH G) (h : IM v a) (w : WA a) {pl i : Nat} (hpl : pl ≤ 1) (hi : i ≤ bud (sS a) pl) : CC G MX8_bestMove [.ref (gB G 83), .int (nI pl), .int (nI i)] v L (gI (PMo v L a (bmV (sS a) pl i))) := by
  refine cc_of g [some (.ref (gB G 83)), some (.int (nI pl)), some (.int (nI i))] rfl rfl rfl rfl (fun K F => ?_)
  have w0 : sS a 0 ≤ 20 := w.1.1
  have wb := bud_le w.1 pl
  have i1 := inn_i (k := pl) (n := 1) (by decide) hpl
  have i2 := inn_i (k := i) (n := bud (sS a) pl) (by omega) hi
  have w1 : sS a 1 ≤ 12 := w.1.2.1
  refine r_aload_n F dX8_bestMove_0 rfl ?_
  refine r_iload_n F dX8_bestMove_1 rfl ?_
  refine r_callS1i F fMX8_isOneOfTwo tw_970 rfl dX8_bestMove_2 rfl rfl z0 (m8_isOneOfTwo g (nI pl)) ?_
  refine r_Bne F dX8_bestMove_5 (fun h5 => ?_) (fun h5 => ?_)
  · refine r_aload_n F dX8_bestMove_12 rfl ?_
    refine r_iload_n F dX8_bestMove_13 rfl ?_
    refine r_iload_n F dX8_bestMove_14 rfl ?_
    refine r_callV2i F fMX8_isBid tw_1149 rfl rfl rfl rfl dX8_bestMove_15 rfl rfl z0 (m8_isBid g h.1 w.1 (by omega) (nI i)) ?_
    refine r_Bne F dX8_bestMove_18 (fun h18 => ?_) (fun h18 => ?_)
    · refine r_iconst (x := 0) F dX8_bestMove_25 rfl ?_
      refine r_callV1i F fMX8_holds tw_942 rfl rfl rfl rfl dX8_bestMove_26 rfl rfl z0 (m8_holds g (x := 0) (by decide)) ?_
      refine r_Bne F dX8_bestMove_29 (fun h29 => ?_) (fun h29 => ?_)
      · refine r_aload_n F dX8_bestMove_34 rfl ?_
        refine r_callV0w F fMX8_lay tw_1061 rfl rfl rfl rfl dX8_bestMove_35 rfl rfl z0 (m8_lay g (h.thr 0).1 w.1) ?_
        rintro v1 L1 ⟨rfl, hc, hL⟩
        have hm := ly_m h hc
        refine r_aload_n F dX8_bestMove_38 rfl ?_
        refine r_iload_n F dX8_bestMove_39 rfl ?_
        refine r_iload_n F dX8_bestMove_40 rfl ?_
        refine r_callV2q F fMX8_bestMoveTold tw_1161 rfl rfl rfl rfl dX8_bestMove_41 rfl rfl z0 (m8_bestMoveTold g hm.2.2.1 w.1 (by omega) hi hL) ?_
        exact r_iret F rfl rfl dX8_bestMove_44 ⟨_, rfl, rfl, rfl, hm⟩
      · exact absurd h29 (by decide)
    · exact absurd h18 (by rw [i2]; decide)
  · exact absurd h5 (by rw [i1]; decide)
set_option maxHeartbeats 8000000 in
theorem t8_bestMove1 {G : GT} {v : VV} {L : LL} {a : AS} (g : GH G) (h : IM v a) {x y : Int32} (hx : oor x 1) : CC G MX8_bestMove [.ref (gB G 83), .int x, .int y] v L (gI (PMt v L a 1)) := by
  refine cc_of g [some (.ref (gB G 83)), some (.int x), some (.int y)] rfl rfl rfl rfl (fun K F => ?_)
  have i1 := inn_o hx
  refine r_aload_n F dX8_bestMove_0 rfl ?_
  refine r_iload_n F dX8_bestMove_1 rfl ?_
  refine r_callS1i F fMX8_isOneOfTwo tw_970 rfl dX8_bestMove_2 rfl rfl z0 (m8_isOneOfTwo g x) ?_
  refine r_Bne F dX8_bestMove_5 (fun h5 => ?_) (fun h5 => ?_)
  · exact absurd h5 (by rw [i1]; decide)
  · refine r_iconst (x := 1) F dX8_bestMove_8 rfl ?_
    refine r_goto F dX8_bestMove_9 ?_
    refine r_callV1i F fMX8_holds tw_942 rfl rfl rfl rfl dX8_bestMove_26 rfl rfl z0 (m8_holds g (x := 1) (by decide)) ?_
    refine r_Bne F dX8_bestMove_29 (fun h29 => ?_) (fun h29 => ?_)
    · exact absurd h29 (by decide)
    · refine r_iconst (x := 0) F dX8_bestMove_32 rfl ?_
      exact r_iret F rfl rfl dX8_bestMove_33 (pmt h 1 _)
set_option maxHeartbeats 8000000 in
theorem t8_bestMove2 {G : GT} {v : VV} {L : LL} {a : AS} (g : GH G) (h : IM v a) (w : WA a) {pl : Nat} {y : Int32} (hpl : pl ≤ 1) (hx : oor y (bud (sS a) pl)) : CC G MX8_bestMove [.ref (gB G 83), .int (nI pl), .int y] v L (gI (PMt v L a 2)) := by
  refine cc_of g [some (.ref (gB G 83)), some (.int (nI pl)), some (.int y)] rfl rfl rfl rfl (fun K F => ?_)
  have i1 := inn_i (k := pl) (n := 1) (by decide) hpl
  have i2 := inn_o hx
  refine r_aload_n F dX8_bestMove_0 rfl ?_
  refine r_iload_n F dX8_bestMove_1 rfl ?_
  refine r_callS1i F fMX8_isOneOfTwo tw_970 rfl dX8_bestMove_2 rfl rfl z0 (m8_isOneOfTwo g (nI pl)) ?_
  refine r_Bne F dX8_bestMove_5 (fun h5 => ?_) (fun h5 => ?_)
  · refine r_aload_n F dX8_bestMove_12 rfl ?_
    refine r_iload_n F dX8_bestMove_13 rfl ?_
    refine r_iload_n F dX8_bestMove_14 rfl ?_
    refine r_callV2i F fMX8_isBid tw_1149 rfl rfl rfl rfl dX8_bestMove_15 rfl rfl z0 (m8_isBid g h.1 w.1 (by omega) y) ?_
    refine r_Bne F dX8_bestMove_18 (fun h18 => ?_) (fun h18 => ?_)
    · exact absurd h18 (by rw [i2]; decide)
    · refine r_iconst (x := 2) F dX8_bestMove_21 rfl ?_
      refine r_goto F dX8_bestMove_22 ?_
      refine r_callV1i F fMX8_holds tw_942 rfl rfl rfl rfl dX8_bestMove_26 rfl rfl z0 (m8_holds g (x := 2) (by decide)) ?_
      refine r_Bne F dX8_bestMove_29 (fun h29 => ?_) (fun h29 => ?_)
      · exact absurd h29 (by decide)
      · refine r_iconst (x := 0) F dX8_bestMove_32 rfl ?_
        exact r_iret F rfl rfl dX8_bestMove_33 (pmt h 2 _)
  · exact absurd h5 (by rw [i1]; decide)
set_option maxHeartbeats 8000000 in
theorem m8_advice {G : GT} {v : VV} {L : LL} {a : AS} (g : GH G) (h : IM v a) (w : WA a) {pl : Nat} (hpl : pl ≤ 1) : CC G MX8_advice [.ref (gB G 83), .int (nI pl)] v L (gI (PMo v L a (adV (sS a) pl))) := by
  refine cc_of g [some (.ref (gB G 83)), some (.int (nI pl))] rfl rfl rfl rfl (fun K F => ?_)
  have i1 := inn_i (k := pl) (n := 1) (by decide) hpl
  refine r_aload_n F dX8_advice_0 rfl ?_
  refine r_iload_n F dX8_advice_1 rfl ?_
  refine r_callS1i F fMX8_isOneOfTwo tw_970 rfl dX8_advice_2 rfl rfl z0 (m8_isOneOfTwo g (nI pl)) ?_
  refine r_Beq F dX8_advice_5 (fun h5 => ?_) (fun h5 => ?_)
  · exact absurd h5 (by rw [i1]; decide)
  · refine r_iconst (x := 0) F dX8_advice_8 rfl ?_
    refine r_goto F dX8_advice_9 ?_
    refine r_callV1i F fMX8_holds tw_942 rfl rfl rfl rfl dX8_advice_13 rfl rfl z0 (m8_holds g (x := 0) (by decide)) ?_
    refine r_Bne F dX8_advice_16 (fun h16 => ?_) (fun h16 => ?_)
    · refine r_aload_n F dX8_advice_21 rfl ?_
      refine r_callV0w F fMX8_lay tw_1061 rfl rfl rfl rfl dX8_advice_22 rfl rfl z0 (m8_lay g (h.thr 0).1 w.1) ?_
      rintro v1 L1 ⟨rfl, hc, hL⟩
      have hm := ly_m h hc
      refine r_aload_n F dX8_advice_25 rfl ?_
      refine r_iload_n F dX8_advice_26 rfl ?_
      refine r_callV1q F fMX8_adviceTold tw_1141 rfl rfl rfl rfl dX8_advice_27 rfl rfl z0 (m8_adviceTold g hm.2.2.1 w.1 (by omega) hL) ?_
      exact r_iret F rfl rfl dX8_advice_30 ⟨_, rfl, rfl, rfl, hm⟩
    · exact absurd h16 (by decide)
set_option maxHeartbeats 8000000 in
theorem t8_advice {G : GT} {v : VV} {L : LL} {a : AS} (g : GH G) (h : IM v a) {x : Int32} (hx : oor x 1) : CC G MX8_advice [.ref (gB G 83), .int x] v L (gI (PMt v L a 1)) := by
  refine cc_of g [some (.ref (gB G 83)), some (.int x)] rfl rfl rfl rfl (fun K F => ?_)
  have i1 := inn_o hx
  refine r_aload_n F dX8_advice_0 rfl ?_
  refine r_iload_n F dX8_advice_1 rfl ?_
  refine r_callS1i F fMX8_isOneOfTwo tw_970 rfl dX8_advice_2 rfl rfl z0 (m8_isOneOfTwo g x) ?_
  refine r_Beq F dX8_advice_5 (fun h5 => ?_) (fun h5 => ?_)
  · refine r_iconst (x := 1) F dX8_advice_12 rfl ?_
    refine r_callV1i F fMX8_holds tw_942 rfl rfl rfl rfl dX8_advice_13 rfl rfl z0 (m8_holds g (x := 1) (by decide)) ?_
    refine r_Bne F dX8_advice_16 (fun h16 => ?_) (fun h16 => ?_)
    · exact absurd h16 (by decide)
    · refine r_iconst (x := 0) F dX8_advice_19 rfl ?_
      exact r_iret F rfl rfl dX8_advice_20 (pmt h 1 _)
  · exact absurd h5 (by rw [i1]; decide)
set_option maxHeartbeats 8000000 in
theorem m8_winIn {G : GT} {v : VV} {L : LL} {a : AS} (g : GH G) (h : IM v a) (w : WA a) {pl : Nat} (hpl : pl ≤ 1) : CC G MX8_winIn [.ref (gB G 83), .int (nI pl)] v L (gI (PMo v L a (wiV (sS a) pl))) := by
  refine cc_of g [some (.ref (gB G 83)), some (.int (nI pl))] rfl rfl rfl rfl (fun K F => ?_)
  have i1 := inn_i (k := pl) (n := 1) (by decide) hpl
  refine r_aload_n F dX8_winIn_0 rfl ?_
  refine r_iload_n F dX8_winIn_1 rfl ?_
  refine r_callS1i F fMX8_isOneOfTwo tw_970 rfl dX8_winIn_2 rfl rfl z0 (m8_isOneOfTwo g (nI pl)) ?_
  refine r_Beq F dX8_winIn_5 (fun h5 => ?_) (fun h5 => ?_)
  · exact absurd h5 (by rw [i1]; decide)
  · refine r_iconst (x := 0) F dX8_winIn_8 rfl ?_
    refine r_goto F dX8_winIn_9 ?_
    refine r_callV1i F fMX8_holds tw_942 rfl rfl rfl rfl dX8_winIn_13 rfl rfl z0 (m8_holds g (x := 0) (by decide)) ?_
    refine r_Bne F dX8_winIn_16 (fun h16 => ?_) (fun h16 => ?_)
    · refine r_aload_n F dX8_winIn_21 rfl ?_
      refine r_callV0w F fMX8_lay tw_1061 rfl rfl rfl rfl dX8_winIn_22 rfl rfl z0 (m8_lay g (h.thr 0).1 w.1) ?_
      rintro v1 L1 ⟨rfl, hc, hL⟩
      have hm := ly_m h hc
      refine r_aload_n F dX8_winIn_25 rfl ?_
      refine r_iload_n F dX8_winIn_26 rfl ?_
      refine r_callV1q F fMX8_winInTold tw_1169 rfl rfl rfl rfl dX8_winIn_27 rfl rfl z0 (m8_winInTold g hm.2.2.1 w.1 (by omega) hL) ?_
      exact r_iret F rfl rfl dX8_winIn_30 ⟨_, rfl, rfl, rfl, hm⟩
    · exact absurd h16 (by decide)
set_option maxHeartbeats 8000000 in
theorem t8_winIn {G : GT} {v : VV} {L : LL} {a : AS} (g : GH G) (h : IM v a) {x : Int32} (hx : oor x 1) : CC G MX8_winIn [.ref (gB G 83), .int x] v L (gI (PMt v L a 1)) := by
  refine cc_of g [some (.ref (gB G 83)), some (.int x)] rfl rfl rfl rfl (fun K F => ?_)
  have i1 := inn_o hx
  refine r_aload_n F dX8_winIn_0 rfl ?_
  refine r_iload_n F dX8_winIn_1 rfl ?_
  refine r_callS1i F fMX8_isOneOfTwo tw_970 rfl dX8_winIn_2 rfl rfl z0 (m8_isOneOfTwo g x) ?_
  refine r_Beq F dX8_winIn_5 (fun h5 => ?_) (fun h5 => ?_)
  · refine r_iconst (x := 1) F dX8_winIn_12 rfl ?_
    refine r_callV1i F fMX8_holds tw_942 rfl rfl rfl rfl dX8_winIn_13 rfl rfl z0 (m8_holds g (x := 1) (by decide)) ?_
    refine r_Bne F dX8_winIn_16 (fun h16 => ?_) (fun h16 => ?_)
    · exact absurd h16 (by decide)
    · refine r_iconst (x := 0) F dX8_winIn_19 rfl ?_
      exact r_iret F rfl rfl dX8_winIn_20 (pmt h 1 _)
  · exact absurd h5 (by rw [i1]; decide)
set_option maxHeartbeats 8000000 in
theorem m8_forcedShare {G : GT} {v : VV} {L : LL} {a : AS} (g : GH G) (h : IM v a) (w : WA a) : CC G MX8_forcedShare [.ref (gB G 83)] v L (gDd fun y v' L' => y = shV (shN (sS a) 16) (sS a 0) ∧ L' = L ∧ FrM v v' ∧ v' 83 7 = 0 ∧ IM v' a) := by
  refine cc_of g [some (.ref (gB G 83))] rfl rfl rfl rfl (fun K F => ?_)
  refine r_aload_n F dX8_forcedShare_0 rfl ?_
  refine r_iconst (x := 0) F dX8_forcedShare_1 rfl ?_
  refine r_put (T := TX8) (n := 7) (ty0 := tyX8) (ty := .int) F uw8 tyX8_ok nmX8 rfl rfl tw_884 (Or.inl rfl) rfl rfl rfl rfl dX8_forcedShare_2 (kd_lt (rfl : kd 83 = (7,0,0)) (by decide)) (ce7 rfl) rfl (pe7_7 rfl) up2_ce ?_
  refine r_aload_n F dX8_forcedShare_5 rfl ?_
  refine r_callV0w F fMX8_lay tw_1061 rfl rfl rfl rfl dX8_forcedShare_6 rfl rfl z0 (m8_lay g (h.thr 0).1 w.1) ?_
  rintro v1 L1 ⟨rfl, hc, hL⟩
  have hm := ly_m h hc
  refine r_aload_n F dX8_forcedShare_9 rfl ?_
  refine r_callV0d F fMX8_shareTold tw_1177 rfl rfl rfl rfl dX8_forcedShare_10 rfl rfl z0 (m8_shareTold g hm.2.2.1 w.1 hL) ?_
  rintro y v2 L2 ⟨rfl, rfl, rfl⟩
  exact r_dret F rfl dX8_forcedShare_13 ⟨_, rfl, rfl, rfl, hm⟩
set_option maxHeartbeats 8000000 in
theorem m8_force {G : GT} {v : VV} {L : LL} {a : AS} (g : GH G) (h : IM v a) (w : WA a) {pl p b st t : Nat} (hpl : pl ≤ 1) (hp : p < 8) (hb : b ≤ sS a 0) (hst : st ≤ 1) (ht : t ≤ 12) : CC G MX8_force [.ref (gB G 83), .int (nI pl), .int (nI p), .int (nI b), .int (nI st), .int (nI t)] v L (gI (PMo v L a (nI (b01 (thr (sS a) t pl p st ≤ b))))) := by
  refine cc_of g [some (.ref (gB G 83)), some (.int (nI pl)), some (.int (nI p)), some (.int (nI b)), some (.int (nI st)), some (.int (nI t)), none] rfl rfl rfl rfl (fun K F => ?_)
  have w0 : sS a 0 ≤ 20 := w.1.1
  have i1 := inn_i (k := pl) (n := 1) (by decide) hpl
  have i2 := inn_i (k := p) (n := 7) (by decide) (by omega)
  have i3 := inn_i (k := b) (n := sS a 0) (by omega) hb
  have i4 := inn_i (k := st) (n := 1) (by decide) hst
  have i5 := inn_i (k := t) (n := 12) (by decide) ht
  have q0 := h.1 0 (by decide)
  refine r_iload_n F dX8_force_0 rfl ?_
  refine r_callS1i F fMX8_isOneOfTwo tw_970 rfl dX8_force_1 rfl rfl z0 (m8_isOneOfTwo g (nI pl)) ?_
  refine r_Beq F dX8_force_4 (fun h4 => ?_) (fun h4 => ?_)
  · exact absurd h4 (by rw [i1]; decide)
  · refine r_iload_n F dX8_force_7 rfl ?_
    refine r_callS1i F fMX8_isPosition tw_928 rfl dX8_force_8 rfl rfl z0 (m8_isPosition g (nI p)) ?_
    refine r_Beq F dX8_force_11 (fun h11 => ?_) (fun h11 => ?_)
    · exact absurd h11 (by rw [i2]; decide)
    · refine r_iconst (x := 1) F dX8_force_14 rfl ?_
      refine r_goto F dX8_force_15 ?_
      refine r_ist6 F dX8_force_19 rfl rfl ?_
      refine r_aload_n F dX8_force_21 rfl ?_
      refine r_iload F dX8_force_22 rfl ?_
      refine r_ifne F dX8_force_24 (by omega) (fun h24 => ?_) (fun h24 => ?_)
      · refine r_iload_n F dX8_force_31 rfl ?_
        refine r_iconst (x := 0) F dX8_force_32 rfl ?_
        refine r_aload_n F dX8_force_33 rfl ?_
        refine r_get (x := .ref (gB G 84)) (T := TX8) (n := 0) F uw8 rfl rfl tw_877 (Or.inl rfl) dX8_force_34 (kd_lt (rfl : kd 83 = (7,0,0)) (by decide)) (ce7 rfl) rfl ?_
        refine r_iconst (x := 0) F dX8_force_37 rfl ?_
        refine r_iald F dX8_force_38 rfl (by omega) ?_
        rw [q0]
        refine r_callS3i F fMX8_in tw_931 rfl dX8_force_39 rfl rfl z0 (m8_in g (nI b) (nI 0) (nI (sS a 0))) ?_
        refine r_Beq F dX8_force_42 (fun h42 => ?_) (fun h42 => ?_)
        · exact absurd h42 (by rw [i3]; decide)
        · refine r_iload F dX8_force_45 rfl ?_
          refine r_callS1i F fMX8_isOneOfTwo tw_970 rfl dX8_force_47 rfl rfl z0 (m8_isOneOfTwo g (nI st)) ?_
          refine r_Beq F dX8_force_50 (fun h50 => ?_) (fun h50 => ?_)
          · exact absurd h50 (by rw [i4]; decide)
          · refine r_iload F dX8_force_53 rfl ?_
            refine r_iconst (x := 0) F dX8_force_55 rfl ?_
            refine r_bipush (x := 12) F dX8_force_56 rfl ?_
            refine r_callS3i F fMX8_in tw_931 rfl dX8_force_58 rfl rfl z0 (m8_in g (nI t) (nI 0) (nI 12)) ?_
            refine r_Bne F dX8_force_61 (fun h61 => ?_) (fun h61 => ?_)
            · refine r_iconst (x := 0) F dX8_force_68 rfl ?_
              refine r_callV1i F fMX8_holds tw_942 rfl rfl rfl rfl dX8_force_69 rfl rfl z0 (m8_holds g (x := 0) (by decide)) ?_
              refine r_Bne F dX8_force_72 (fun h72 => ?_) (fun h72 => ?_)
              · refine r_aload_n F dX8_force_77 rfl ?_
                refine r_callV0w F fMX8_lay tw_1061 rfl rfl rfl rfl dX8_force_78 rfl rfl z0 (m8_lay g (h.thr 0).1 w.1) ?_
                rintro v1 L1 ⟨rfl, hc, hL⟩
                have hm := ly_m h hc
                refine r_aload_n F dX8_force_81 rfl ?_
                refine r_iload_n F dX8_force_82 rfl ?_
                refine r_iload_n F dX8_force_83 rfl ?_
                refine r_iload_n F dX8_force_84 rfl ?_
                refine r_iload F dX8_force_85 rfl ?_
                refine r_iload F dX8_force_87 rfl ?_
                refine r_callV5i F fMX8_canForce tw_1105 rfl rfl rfl rfl dX8_force_89 rfl rfl z0 (m8_canForce g w.1 (by omega) hp (by omega) (by omega) (by omega) (hL t (by omega))) ?_
                refine r_Beq F dX8_force_92 (fun h92 => ?_) (fun h92 => ?_)
                · refine r_iconst (x := 0) F dX8_force_99 rfl ?_
                  first
                    | exact r_iret F rfl rfl dX8_force_100 ⟨_, rfl, by rw [b01_y (of_decide_eq_true h92)], rfl, hm⟩
                    | exact r_iret F rfl rfl dX8_force_100 ⟨_, rfl, by rw [b01_n (of_decide_eq_false h92)], rfl, hm⟩
                · refine r_iconst (x := 1) F dX8_force_95 rfl ?_
                  refine r_goto F dX8_force_96 ?_
                  first
                    | exact r_iret F rfl rfl dX8_force_100 ⟨_, rfl, by rw [b01_y (of_decide_eq_true h92)], rfl, hm⟩
                    | exact r_iret F rfl rfl dX8_force_100 ⟨_, rfl, by rw [b01_n (of_decide_eq_false h92)], rfl, hm⟩
              · exact absurd h72 (by decide)
            · exact absurd h61 (by rw [i5]; decide)
      · exact absurd h24 (by decide)
set_option maxHeartbeats 8000000 in
theorem t8_force1 {G : GT} {v : VV} {L : LL} {a : AS} (g : GH G) (h : IM v a) {x1 x2 x3 x4 x5 : Int32} (hx : oor x1 1 ∨ oor x2 7) : CC G MX8_force [.ref (gB G 83), .int x1, .int x2, .int x3, .int x4, .int x5] v L (gI (PMt v L a 1)) := by
  refine cc_of g [some (.ref (gB G 83)), some (.int x1), some (.int x2), some (.int x3), some (.int x4), some (.int x5), none] rfl rfl rfl rfl (fun K F => ?_)
  have ix : inn x1 (nI 0) (nI 1) = false ∨ inn x2 (nI 0) (nI 7) = false := hx.imp inn_o inn_o
  refine r_iload_n F dX8_force_0 rfl ?_
  refine r_callS1i F fMX8_isOneOfTwo tw_970 rfl dX8_force_1 rfl rfl z0 (m8_isOneOfTwo g x1) ?_
  refine r_Beq F dX8_force_4 (fun h4 => ?_) (fun h4 => ?_)
  · refine r_iconst (x := 0) F dX8_force_18 rfl ?_
    refine r_ist6 F dX8_force_19 rfl rfl ?_
    refine r_aload_n F dX8_force_21 rfl ?_
    refine r_iload F dX8_force_22 rfl ?_
    refine r_ifne F dX8_force_24 (by omega) (fun h24 => ?_) (fun h24 => ?_)
    · exact absurd rfl h24
    · refine r_iconst (x := 1) F dX8_force_27 rfl ?_
      refine r_goto F dX8_force_28 ?_
      refine r_callV1i F fMX8_holds tw_942 rfl rfl rfl rfl dX8_force_69 rfl rfl z0 (m8_holds g (x := 1) (by decide)) ?_
      refine r_Bne F dX8_force_72 (fun h72 => ?_) (fun h72 => ?_)
      · exact absurd h72 (by decide)
      · refine r_iconst (x := 0) F dX8_force_75 rfl ?_
        exact r_iret F rfl rfl dX8_force_76 (pmt h 1 _)
  · refine r_iload_n F dX8_force_7 rfl ?_
    refine r_callS1i F fMX8_isPosition tw_928 rfl dX8_force_8 rfl rfl z0 (m8_isPosition g x2) ?_
    refine r_Beq F dX8_force_11 (fun h11 => ?_) (fun h11 => ?_)
    · refine r_iconst (x := 0) F dX8_force_18 rfl ?_
      refine r_ist6 F dX8_force_19 rfl rfl ?_
      refine r_aload_n F dX8_force_21 rfl ?_
      refine r_iload F dX8_force_22 rfl ?_
      refine r_ifne F dX8_force_24 (by omega) (fun h24 => ?_) (fun h24 => ?_)
      · exact absurd rfl h24
      · refine r_iconst (x := 1) F dX8_force_27 rfl ?_
        refine r_goto F dX8_force_28 ?_
        refine r_callV1i F fMX8_holds tw_942 rfl rfl rfl rfl dX8_force_69 rfl rfl z0 (m8_holds g (x := 1) (by decide)) ?_
        refine r_Bne F dX8_force_72 (fun h72 => ?_) (fun h72 => ?_)
        · exact absurd h72 (by decide)
        · refine r_iconst (x := 0) F dX8_force_75 rfl ?_
          exact r_iret F rfl rfl dX8_force_76 (pmt h 1 _)
    · exact absurd ix (by rw [h4, h11]; decide)
set_option maxHeartbeats 8000000 in
theorem t8_force2 {G : GT} {v : VV} {L : LL} {a : AS} (g : GH G) (h : IM v a) {pl p : Nat} {x3 x4 x5 : Int32} (hpl : pl ≤ 1) (hp : p < 8) (hx : oor x3 (sS a 0) ∨ oor x4 1 ∨ oor x5 12) : CC G MX8_force [.ref (gB G 83), .int (nI pl), .int (nI p), .int x3, .int x4, .int x5] v L (gI (PMt v L a 2)) := by
  refine cc_of g [some (.ref (gB G 83)), some (.int (nI pl)), some (.int (nI p)), some (.int x3), some (.int x4), some (.int x5), none] rfl rfl rfl rfl (fun K F => ?_)
  have i1 := inn_i (k := pl) (n := 1) (by decide) hpl
  have i2 := inn_i (k := p) (n := 7) (by decide) (by omega)
  have ix : inn x3 (nI 0) (nI (sS a 0)) = false ∨ inn x4 (nI 0) (nI 1) = false ∨ inn x5 (nI 0) (nI 12) = false := hx.imp inn_o (fun z => z.imp inn_o inn_o)
  have q0 := h.1 0 (by decide)
  refine r_iload_n F dX8_force_0 rfl ?_
  refine r_callS1i F fMX8_isOneOfTwo tw_970 rfl dX8_force_1 rfl rfl z0 (m8_isOneOfTwo g (nI pl)) ?_
  refine r_Beq F dX8_force_4 (fun h4 => ?_) (fun h4 => ?_)
  · exact absurd h4 (by rw [i1]; decide)
  · refine r_iload_n F dX8_force_7 rfl ?_
    refine r_callS1i F fMX8_isPosition tw_928 rfl dX8_force_8 rfl rfl z0 (m8_isPosition g (nI p)) ?_
    refine r_Beq F dX8_force_11 (fun h11 => ?_) (fun h11 => ?_)
    · exact absurd h11 (by rw [i2]; decide)
    · refine r_iconst (x := 1) F dX8_force_14 rfl ?_
      refine r_goto F dX8_force_15 ?_
      refine r_ist6 F dX8_force_19 rfl rfl ?_
      refine r_aload_n F dX8_force_21 rfl ?_
      refine r_iload F dX8_force_22 rfl ?_
      refine r_ifne F dX8_force_24 (by omega) (fun h24 => ?_) (fun h24 => ?_)
      · refine r_iload_n F dX8_force_31 rfl ?_
        refine r_iconst (x := 0) F dX8_force_32 rfl ?_
        refine r_aload_n F dX8_force_33 rfl ?_
        refine r_get (x := .ref (gB G 84)) (T := TX8) (n := 0) F uw8 rfl rfl tw_877 (Or.inl rfl) dX8_force_34 (kd_lt (rfl : kd 83 = (7,0,0)) (by decide)) (ce7 rfl) rfl ?_
        refine r_iconst (x := 0) F dX8_force_37 rfl ?_
        refine r_iald F dX8_force_38 rfl (by omega) ?_
        rw [q0]
        refine r_callS3i F fMX8_in tw_931 rfl dX8_force_39 rfl rfl z0 (m8_in g x3 (nI 0) (nI (sS a 0))) ?_
        refine r_Beq F dX8_force_42 (fun h42 => ?_) (fun h42 => ?_)
        · refine r_iconst (x := 2) F dX8_force_64 rfl ?_
          refine r_goto F dX8_force_65 ?_
          refine r_callV1i F fMX8_holds tw_942 rfl rfl rfl rfl dX8_force_69 rfl rfl z0 (m8_holds g (x := 2) (by decide)) ?_
          refine r_Bne F dX8_force_72 (fun h72 => ?_) (fun h72 => ?_)
          · exact absurd h72 (by decide)
          · refine r_iconst (x := 0) F dX8_force_75 rfl ?_
            exact r_iret F rfl rfl dX8_force_76 (pmt h 2 _)
        · refine r_iload F dX8_force_45 rfl ?_
          refine r_callS1i F fMX8_isOneOfTwo tw_970 rfl dX8_force_47 rfl rfl z0 (m8_isOneOfTwo g x4) ?_
          refine r_Beq F dX8_force_50 (fun h50 => ?_) (fun h50 => ?_)
          · refine r_iconst (x := 2) F dX8_force_64 rfl ?_
            refine r_goto F dX8_force_65 ?_
            refine r_callV1i F fMX8_holds tw_942 rfl rfl rfl rfl dX8_force_69 rfl rfl z0 (m8_holds g (x := 2) (by decide)) ?_
            refine r_Bne F dX8_force_72 (fun h72 => ?_) (fun h72 => ?_)
            · exact absurd h72 (by decide)
            · refine r_iconst (x := 0) F dX8_force_75 rfl ?_
              exact r_iret F rfl rfl dX8_force_76 (pmt h 2 _)
          · refine r_iload F dX8_force_53 rfl ?_
            refine r_iconst (x := 0) F dX8_force_55 rfl ?_
            refine r_bipush (x := 12) F dX8_force_56 rfl ?_
            refine r_callS3i F fMX8_in tw_931 rfl dX8_force_58 rfl rfl z0 (m8_in g x5 (nI 0) (nI 12)) ?_
            refine r_Bne F dX8_force_61 (fun h61 => ?_) (fun h61 => ?_)
            · exact absurd ix (by rw [h42, h50, h61]; decide)
            · refine r_iconst (x := 2) F dX8_force_64 rfl ?_
              refine r_goto F dX8_force_65 ?_
              refine r_callV1i F fMX8_holds tw_942 rfl rfl rfl rfl dX8_force_69 rfl rfl z0 (m8_holds g (x := 2) (by decide)) ?_
              refine r_Bne F dX8_force_72 (fun h72 => ?_) (fun h72 => ?_)
              · exact absurd h72 (by decide)
              · refine r_iconst (x := 0) F dX8_force_75 rfl ?_
                exact r_iret F rfl rfl dX8_force_76 (pmt h 2 _)
      · exact absurd h24 (by decide)
set_option maxHeartbeats 8000000 in
theorem m8_threshold {G : GT} {v : VV} {L : LL} {a : AS} (g : GH G) (h : IM v a) (w : WA a) {pl p st i : Nat} (hpl : pl ≤ 1) (hp : p < 8) (hst : st ≤ 1) (hi : i ≤ 1) : CC G MX8_threshold [.ref (gB G 83), .int (nI pl), .int (nI p), .int (nI st), .int (nI i)] v L (gI (PMo v L a (thV (thr (sS a) (sS a 1) pl p st)))) := by
  refine cc_of g [some (.ref (gB G 83)), some (.int (nI pl)), some (.int (nI p)), some (.int (nI st)), some (.int (nI i)), none] rfl rfl rfl rfl (fun K F => ?_)
  have w1 : sS a 1 ≤ 12 := w.1.2.1
  have i1 := inn_i (k := pl) (n := 1) (by decide) hpl
  have i2 := inn_i (k := p) (n := 7) (by decide) (by omega)
  have i3 := inn_i (k := st) (n := 1) (by decide) hst
  have i4 := inn_i (k := i) (n := 1) (by decide) hi
  refine r_iload_n F dX8_threshold_0 rfl ?_
  refine r_callS1i F fMX8_isOneOfTwo tw_970 rfl dX8_threshold_1 rfl rfl z0 (m8_isOneOfTwo g (nI pl)) ?_
  refine r_Beq F dX8_threshold_4 (fun h4 => ?_) (fun h4 => ?_)
  · exact absurd h4 (by rw [i1]; decide)
  · refine r_iload_n F dX8_threshold_7 rfl ?_
    refine r_callS1i F fMX8_isPosition tw_928 rfl dX8_threshold_8 rfl rfl z0 (m8_isPosition g (nI p)) ?_
    refine r_Beq F dX8_threshold_11 (fun h11 => ?_) (fun h11 => ?_)
    · exact absurd h11 (by rw [i2]; decide)
    · refine r_iconst (x := 1) F dX8_threshold_14 rfl ?_
      refine r_goto F dX8_threshold_15 ?_
      refine r_ist5 F dX8_threshold_19 rfl rfl ?_
      refine r_aload_n F dX8_threshold_21 rfl ?_
      refine r_iload F dX8_threshold_22 rfl ?_
      refine r_ifne F dX8_threshold_24 (by omega) (fun h24 => ?_) (fun h24 => ?_)
      · refine r_iload_n F dX8_threshold_31 rfl ?_
        refine r_callS1i F fMX8_isOneOfTwo tw_970 rfl dX8_threshold_32 rfl rfl z0 (m8_isOneOfTwo g (nI st)) ?_
        refine r_Beq F dX8_threshold_35 (fun h35 => ?_) (fun h35 => ?_)
        · exact absurd h35 (by rw [i3]; decide)
        · refine r_iload F dX8_threshold_38 rfl ?_
          refine r_callS1i F fMX8_isOneOfTwo tw_970 rfl dX8_threshold_40 rfl rfl z0 (m8_isOneOfTwo g (nI i)) ?_
          refine r_Bne F dX8_threshold_43 (fun h43 => ?_) (fun h43 => ?_)
          · refine r_iconst (x := 0) F dX8_threshold_50 rfl ?_
            refine r_callV1i F fMX8_holds tw_942 rfl rfl rfl rfl dX8_threshold_51 rfl rfl z0 (m8_holds g (x := 0) (by decide)) ?_
            refine r_Bne F dX8_threshold_54 (fun h54 => ?_) (fun h54 => ?_)
            · refine r_aload_n F dX8_threshold_59 rfl ?_
              refine r_callV0w F fMX8_lay tw_1061 rfl rfl rfl rfl dX8_threshold_60 rfl rfl z0 (m8_lay g (h.thr 0).1 w.1) ?_
              rintro v1 L1 ⟨rfl, hc, hL⟩
              have hm := ly_m h hc
              refine r_aload_n F dX8_threshold_63 rfl ?_
              refine r_iload_n F dX8_threshold_64 rfl ?_
              refine r_iload_n F dX8_threshold_65 rfl ?_
              refine r_iload_n F dX8_threshold_66 rfl ?_
              refine r_callV3q F fMX8_thresholdTold tw_1133 rfl rfl rfl rfl dX8_threshold_67 rfl rfl z0 (m8_thresholdTold g hm.2.2.1 w.1 (by omega) hp (by omega) (hL _ (by omega))) ?_
              exact r_iret F rfl rfl dX8_threshold_70 ⟨_, rfl, rfl, rfl, hm⟩
            · exact absurd h54 (by decide)
          · exact absurd h43 (by rw [i4]; decide)
      · exact absurd h24 (by decide)
set_option maxHeartbeats 8000000 in
theorem t8_threshold1 {G : GT} {v : VV} {L : LL} {a : AS} (g : GH G) (h : IM v a) {x1 x2 x3 x4 : Int32} (hx : oor x1 1 ∨ oor x2 7) : CC G MX8_threshold [.ref (gB G 83), .int x1, .int x2, .int x3, .int x4] v L (gI (PMt v L a 1)) := by
  refine cc_of g [some (.ref (gB G 83)), some (.int x1), some (.int x2), some (.int x3), some (.int x4), none] rfl rfl rfl rfl (fun K F => ?_)
  have ix : inn x1 (nI 0) (nI 1) = false ∨ inn x2 (nI 0) (nI 7) = false := hx.imp inn_o inn_o
  refine r_iload_n F dX8_threshold_0 rfl ?_
  refine r_callS1i F fMX8_isOneOfTwo tw_970 rfl dX8_threshold_1 rfl rfl z0 (m8_isOneOfTwo g x1) ?_
  refine r_Beq F dX8_threshold_4 (fun h4 => ?_) (fun h4 => ?_)
  · refine r_iconst (x := 0) F dX8_threshold_18 rfl ?_
    refine r_ist5 F dX8_threshold_19 rfl rfl ?_
    refine r_aload_n F dX8_threshold_21 rfl ?_
    refine r_iload F dX8_threshold_22 rfl ?_
    refine r_ifne F dX8_threshold_24 (by omega) (fun h24 => ?_) (fun h24 => ?_)
    · exact absurd rfl h24
    · refine r_iconst (x := 1) F dX8_threshold_27 rfl ?_
      refine r_goto F dX8_threshold_28 ?_
      refine r_callV1i F fMX8_holds tw_942 rfl rfl rfl rfl dX8_threshold_51 rfl rfl z0 (m8_holds g (x := 1) (by decide)) ?_
      refine r_Bne F dX8_threshold_54 (fun h54 => ?_) (fun h54 => ?_)
      · exact absurd h54 (by decide)
      · refine r_iconst (x := 0) F dX8_threshold_57 rfl ?_
        exact r_iret F rfl rfl dX8_threshold_58 (pmt h 1 _)
  · refine r_iload_n F dX8_threshold_7 rfl ?_
    refine r_callS1i F fMX8_isPosition tw_928 rfl dX8_threshold_8 rfl rfl z0 (m8_isPosition g x2) ?_
    refine r_Beq F dX8_threshold_11 (fun h11 => ?_) (fun h11 => ?_)
    · refine r_iconst (x := 0) F dX8_threshold_18 rfl ?_
      refine r_ist5 F dX8_threshold_19 rfl rfl ?_
      refine r_aload_n F dX8_threshold_21 rfl ?_
      refine r_iload F dX8_threshold_22 rfl ?_
      refine r_ifne F dX8_threshold_24 (by omega) (fun h24 => ?_) (fun h24 => ?_)
      · exact absurd rfl h24
      · refine r_iconst (x := 1) F dX8_threshold_27 rfl ?_
        refine r_goto F dX8_threshold_28 ?_
        refine r_callV1i F fMX8_holds tw_942 rfl rfl rfl rfl dX8_threshold_51 rfl rfl z0 (m8_holds g (x := 1) (by decide)) ?_
        refine r_Bne F dX8_threshold_54 (fun h54 => ?_) (fun h54 => ?_)
        · exact absurd h54 (by decide)
        · refine r_iconst (x := 0) F dX8_threshold_57 rfl ?_
          exact r_iret F rfl rfl dX8_threshold_58 (pmt h 1 _)
    · exact absurd ix (by rw [h4, h11]; decide)
set_option maxHeartbeats 8000000 in
theorem t8_threshold2 {G : GT} {v : VV} {L : LL} {a : AS} (g : GH G) (h : IM v a) {pl p : Nat} {x3 x4 : Int32} (hpl : pl ≤ 1) (hp : p < 8) (hx : oor x3 1 ∨ oor x4 1) : CC G MX8_threshold [.ref (gB G 83), .int (nI pl), .int (nI p), .int x3, .int x4] v L (gI (PMt v L a 2)) := by
  refine cc_of g [some (.ref (gB G 83)), some (.int (nI pl)), some (.int (nI p)), some (.int x3), some (.int x4), none] rfl rfl rfl rfl (fun K F => ?_)
  have i1 := inn_i (k := pl) (n := 1) (by decide) hpl
  have i2 := inn_i (k := p) (n := 7) (by decide) (by omega)
  have ix : inn x3 (nI 0) (nI 1) = false ∨ inn x4 (nI 0) (nI 1) = false := hx.imp inn_o inn_o
  refine r_iload_n F dX8_threshold_0 rfl ?_
  refine r_callS1i F fMX8_isOneOfTwo tw_970 rfl dX8_threshold_1 rfl rfl z0 (m8_isOneOfTwo g (nI pl)) ?_
  refine r_Beq F dX8_threshold_4 (fun h4 => ?_) (fun h4 => ?_)
  · exact absurd h4 (by rw [i1]; decide)
  · refine r_iload_n F dX8_threshold_7 rfl ?_
    refine r_callS1i F fMX8_isPosition tw_928 rfl dX8_threshold_8 rfl rfl z0 (m8_isPosition g (nI p)) ?_
    refine r_Beq F dX8_threshold_11 (fun h11 => ?_) (fun h11 => ?_)
    · exact absurd h11 (by rw [i2]; decide)
    · refine r_iconst (x := 1) F dX8_threshold_14 rfl ?_
      refine r_goto F dX8_threshold_15 ?_
      refine r_ist5 F dX8_threshold_19 rfl rfl ?_
      refine r_aload_n F dX8_threshold_21 rfl ?_
      refine r_iload F dX8_threshold_22 rfl ?_
      refine r_ifne F dX8_threshold_24 (by omega) (fun h24 => ?_) (fun h24 => ?_)
      · refine r_iload_n F dX8_threshold_31 rfl ?_
        refine r_callS1i F fMX8_isOneOfTwo tw_970 rfl dX8_threshold_32 rfl rfl z0 (m8_isOneOfTwo g x3) ?_
        refine r_Beq F dX8_threshold_35 (fun h35 => ?_) (fun h35 => ?_)
        · refine r_iconst (x := 2) F dX8_threshold_46 rfl ?_
          refine r_goto F dX8_threshold_47 ?_
          refine r_callV1i F fMX8_holds tw_942 rfl rfl rfl rfl dX8_threshold_51 rfl rfl z0 (m8_holds g (x := 2) (by decide)) ?_
          refine r_Bne F dX8_threshold_54 (fun h54 => ?_) (fun h54 => ?_)
          · exact absurd h54 (by decide)
          · refine r_iconst (x := 0) F dX8_threshold_57 rfl ?_
            exact r_iret F rfl rfl dX8_threshold_58 (pmt h 2 _)
        · refine r_iload F dX8_threshold_38 rfl ?_
          refine r_callS1i F fMX8_isOneOfTwo tw_970 rfl dX8_threshold_40 rfl rfl z0 (m8_isOneOfTwo g x4) ?_
          refine r_Bne F dX8_threshold_43 (fun h43 => ?_) (fun h43 => ?_)
          · exact absurd ix (by rw [h35, h43]; decide)
          · refine r_iconst (x := 2) F dX8_threshold_46 rfl ?_
            refine r_goto F dX8_threshold_47 ?_
            refine r_callV1i F fMX8_holds tw_942 rfl rfl rfl rfl dX8_threshold_51 rfl rfl z0 (m8_holds g (x := 2) (by decide)) ?_
            refine r_Bne F dX8_threshold_54 (fun h54 => ?_) (fun h54 => ?_)
            · exact absurd h54 (by decide)
            · refine r_iconst (x := 0) F dX8_threshold_57 rfl ?_
              exact r_iret F rfl rfl dX8_threshold_58 (pmt h 2 _)
      · exact absurd h24 (by decide)
