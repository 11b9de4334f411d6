set_option maxHeartbeats 8000000 in
theorem m8_place {G : GT} {v : VV} {L : LL} {a : AS} (g : GH G) (h : IM v a) (w : WA a) {p b st : Nat} (hp : p < 8) (hb : b ≤ sS a 0) (hst : st ≤ 1) : CC G MX8_place [.ref (gB G 83), .int (nI p), .int (nI b), .int (nI st)] v L (gI (PMo v L (stA (svA a) (placeS (sS a) p b st)) (nI (ovr (sS a) p).toNat))) := by
  refine cc_of g [some (.ref (gB G 83)), some (.int (nI p)), some (.int (nI b)), some (.int (nI st))] rfl rfl rfl rfl (fun K F => ?_)
  have w0 : sS a 0 ≤ 20 := w.1.1
  have i1 := inn_i (k := p) (n := 7) (by decide) (by omega)
  have i2 := inn_i (k := b) (n := sS a 0) (by omega) hb
  have i3 := inn_i (k := st) (n := 1) (by decide) hst
  have q0 := h.1 0 (by decide)
  refine r_aload_n F dX8_place_0 rfl ?_
  refine r_iload_n F dX8_place_1 rfl ?_
  refine r_callS1i F fMX8_isPosition tw_928 rfl dX8_place_2 rfl rfl z0 (m8_isPosition g (nI p)) ?_
  refine r_Bne F dX8_place_5 (fun h5 => ?_) (fun h5 => ?_)
  · refine r_iload_n F dX8_place_12 rfl ?_
    refine r_iconst (x := 0) F dX8_place_13 rfl ?_
    refine r_aload_n F dX8_place_14 rfl ?_
    refine r_get (x := .ref (gB G 84)) (T := TX8) (n := 0) F uw8 rfl rfl tw_877 (Or.inl rfl) dX8_place_15 (kd_lt (rfl : kd 83 = (7,0,0)) (by decide)) (ce7 rfl) rfl ?_
    refine r_iconst (x := 0) F dX8_place_18 rfl ?_
    refine r_iald F dX8_place_19 rfl (by omega) ?_
    rw [q0]
    refine r_callS3i F fMX8_in tw_931 rfl dX8_place_20 rfl rfl z0 (m8_in g (nI b) (nI 0) (nI (sS a 0))) ?_
    refine r_Beq F dX8_place_23 (fun h23 => ?_) (fun h23 => ?_)
    · exact absurd h23 (by rw [i2]; decide)
    · refine r_iload_n F dX8_place_26 rfl ?_
      refine r_callS1i F fMX8_isOneOfTwo tw_970 rfl dX8_place_27 rfl rfl z0 (m8_isOneOfTwo g (nI st)) ?_
      refine r_Bne F dX8_place_30 (fun h30 => ?_) (fun h30 => ?_)
      · refine r_iconst (x := 0) F dX8_place_37 rfl ?_
        refine r_callV1i F fMX8_holds tw_942 rfl rfl rfl rfl dX8_place_38 rfl rfl z0 (m8_holds g (x := 0) (by decide)) ?_
        refine r_Bne F dX8_place_41 (fun h41 => ?_) (fun h41 => ?_)
        · refine r_aload_n F dX8_place_46 rfl ?_
          refine r_callV0w F fMX8_save tw_946 rfl rfl rfl rfl dX8_place_47 rfl rfl z0 (m8_save g (h.thr 0) w) ?_
          rintro v1 L1 ⟨rfl, hs⟩
          refine r_aload_n F dX8_place_50 rfl ?_
          refine r_get (x := .ref (gB G 84)) (T := TX8) (n := 0) F uw8 rfl rfl tw_877 (Or.inl rfl) dX8_place_51 (kd_lt (rfl : kd 83 = (7,0,0)) (by decide)) (ce7 rfl) rfl ?_
          refine r_iconst (x := 4) F dX8_place_54 rfl ?_
          refine r_iload_n F dX8_place_55 rfl ?_
          refine r_iast F dX8_place_56 rfl (by omega) ?_
          refine r_aload_n F dX8_place_57 rfl ?_
          refine r_get (x := .ref (gB G 84)) (T := TX8) (n := 0) F uw8 rfl rfl tw_877 (Or.inl rfl) dX8_place_58 (kd_lt (rfl : kd 83 = (7,0,0)) (by decide)) (ce7 rfl) rfl ?_
          refine r_iconst (x := 2) F dX8_place_61 rfl ?_
          refine r_iload_n F dX8_place_62 rfl ?_
          refine r_iast F dX8_place_63 rfl (by omega) ?_
          refine r_aload_n F dX8_place_64 rfl ?_
          refine r_get (x := .ref (gB G 84)) (T := TX8) (n := 0) F uw8 rfl rfl tw_877 (Or.inl rfl) dX8_place_65 (kd_lt (rfl : kd 83 = (7,0,0)) (by decide)) (ce7 rfl) rfl ?_
          refine r_iconst (x := 3) F dX8_place_68 rfl ?_
          refine r_iload_n F dX8_place_69 rfl ?_
          refine r_iast F dX8_place_70 rfl (by omega) ?_
          refine r_aload_n F dX8_place_71 rfl ?_
          refine r_get (x := .ref (gB G 84)) (T := TX8) (n := 0) F uw8 rfl rfl tw_877 (Or.inl rfl) dX8_place_72 (kd_lt (rfl : kd 83 = (7,0,0)) (by decide)) (ce7 rfl) rfl ?_
          refine r_iconst (x := 5) F dX8_place_75 rfl ?_
          refine r_iconst (x := 0) F dX8_place_76 rfl ?_
          refine r_iast F dX8_place_77 rfl (by omega) ?_
          have hr : RM (up2 (up2 (up2 (up2 v1 84 4 p) 84 2 b) 84 3 st) 84 5 0) (placeS (sS a) p b st) := (((hs.rm.up 4 p).up 2 b).up 3 st).up 5 0
          refine r_aload_n F dX8_place_78 rfl ?_
          refine r_iload_n F dX8_place_79 rfl ?_
          refine r_callV1i F fMX8_isOver tw_977 rfl rfl rfl rfl dX8_place_80 rfl rfl z0 (m8_isOver g hr (w.1.place hp hb hst).b hp) ?_
          refine r_Beq F dX8_place_83 (fun h83 => ?_) (fun h83 => ?_)
          · refine r_iconst (x := 0) F dX8_place_90 rfl ?_
            exact r_iret F rfl rfl dX8_place_91 ⟨_, rfl, by rw [ovr_cong (placeS_b _ _ _ _)] at h83; rw [h83]; rfl, rfl, hs.to rfl hr (fun k hk => by rw [up2_k _ hk, up2_k _ hk, up2_k _ hk, up2_k _ hk])⟩
          · refine r_iconst (x := 1) F dX8_place_86 rfl ?_
            refine r_goto F dX8_place_87 ?_
            exact r_iret F rfl rfl dX8_place_91 ⟨_, rfl, by rw [ovr_cong (placeS_b _ _ _ _)] at h83; rw [h83]; rfl, rfl, hs.to rfl hr (fun k hk => by rw [up2_k _ hk, up2_k _ hk, up2_k _ hk, up2_k _ hk])⟩
        · exact absurd h41 (by decide)
      · exact absurd h30 (by rw [i3]; decide)
  · exact absurd h5 (by rw [i1]; decide)
set_option maxHeartbeats 8000000 in
theorem t8_place1 {G : GT} {v : VV} {L : LL} {a : AS} (g : GH G) (h : IM v a) {x y z : Int32} (hx : oor x 7) : CC G MX8_place [.ref (gB G 83), .int x, .int y, .int z] v L (gI (PMt v L a 1)) := by
  refine cc_of g [some (.ref (gB G 83)), some (.int x), some (.int y), some (.int z)] rfl rfl rfl rfl (fun K F => ?_)
  have i1 := inn_o hx
  refine r_aload_n F dX8_place_0 rfl ?_
  refine r_iload_n F dX8_place_1 rfl ?_
  refine r_callS1i F fMX8_isPosition tw_928 rfl dX8_place_2 rfl rfl z0 (m8_isPosition g x) ?_
  refine r_Bne F dX8_place_5 (fun h5 => ?_) (fun h5 => ?_)
  · exact absurd h5 (by rw [i1]; decide)
  · refine r_iconst (x := 1) F dX8_place_8 rfl ?_
    refine r_goto F dX8_place_9 ?_
    refine r_callV1i F fMX8_holds tw_942 rfl rfl rfl rfl dX8_place_38 rfl rfl z0 (m8_holds g (x := 1) (by decide)) ?_
    refine r_Bne F dX8_place_41 (fun h41 => ?_) (fun h41 => ?_)
    · exact absurd h41 (by decide)
    · refine r_iconst (x := 0) F dX8_place_44 rfl ?_
      exact r_iret F rfl rfl dX8_place_45 (pmt h 1 _)
set_option maxHeartbeats 8000000 in
theorem t8_place2 {G : GT} {v : VV} {L : LL} {a : AS} (g : GH G) (h : IM v a) {p : Nat} {y z : Int32} (hp : p < 8) (hx : oor y (sS a 0) ∨ oor z 1) : CC G MX8_place [.ref (gB G 83), .int (nI p), .int y, .int z] v L (gI (PMt v L a 2)) := by
  refine cc_of g [some (.ref (gB G 83)), some (.int (nI p)), some (.int y), some (.int z)] rfl rfl rfl rfl (fun K F => ?_)
  have i1 := inn_i (k := p) (n := 7) (by decide) (by omega)
  have ix : inn y (nI 0) (nI (sS a 0)) = false ∨ inn z (nI 0) (nI 1) = false := hx.imp inn_o inn_o
  have q0 := h.1 0 (by decide)
  refine r_aload_n F dX8_place_0 rfl ?_
  refine r_iload_n F dX8_place_1 rfl ?_
  refine r_callS1i F fMX8_isPosition tw_928 rfl dX8_place_2 rfl rfl z0 (m8_isPosition g (nI p)) ?_
  refine r_Bne F dX8_place_5 (fun h5 => ?_) (fun h5 => ?_)
  · refine r_iload_n F dX8_place_12 rfl ?_
    refine r_iconst (x := 0) F dX8_place_13 rfl ?_
    refine r_aload_n F dX8_place_14 rfl ?_
    refine r_get (x := .ref (gB G 84)) (T := TX8) (n := 0) F uw8 rfl rfl tw_877 (Or.inl rfl) dX8_place_15 (kd_lt (rfl : kd 83 = (7,0,0)) (by decide)) (ce7 rfl) rfl ?_
    refine r_iconst (x := 0) F dX8_place_18 rfl ?_
    refine r_iald F dX8_place_19 rfl (by omega) ?_
    rw [q0]
    refine r_callS3i F fMX8_in tw_931 rfl dX8_place_20 rfl rfl z0 (m8_in g y (nI 0) (nI (sS a 0))) ?_
    refine r_Beq F dX8_place_23 (fun h23 => ?_) (fun h23 => ?_)
    · refine r_iconst (x := 2) F dX8_place_33 rfl ?_
      refine r_goto F dX8_place_34 ?_
      refine r_callV1i F fMX8_holds tw_942 rfl rfl rfl rfl dX8_place_38 rfl rfl z0 (m8_holds g (x := 2) (by decide)) ?_
      refine r_Bne F dX8_place_41 (fun h41 => ?_) (fun h41 => ?_)
      · exact absurd h41 (by decide)
      · refine r_iconst (x := 0) F dX8_place_44 rfl ?_
        exact r_iret F rfl rfl dX8_place_45 (pmt h 2 _)
    · refine r_iload_n F dX8_place_26 rfl ?_
      refine r_callS1i F fMX8_isOneOfTwo tw_970 rfl dX8_place_27 rfl rfl z0 (m8_isOneOfTwo g z) ?_
      refine r_Bne F dX8_place_30 (fun h30 => ?_) (fun h30 => ?_)
      · exact absurd ix (by rw [h23, h30]; decide)
      · refine r_iconst (x := 2) F dX8_place_33 rfl ?_
        refine r_goto F dX8_place_34 ?_
        refine r_callV1i F fMX8_holds tw_942 rfl rfl rfl rfl dX8_place_38 rfl rfl z0 (m8_holds g (x := 2) (by decide)) ?_
        refine r_Bne F dX8_place_41 (fun h41 => ?_) (fun h41 => ?_)
        · exact absurd h41 (by decide)
        · refine r_iconst (x := 0) F dX8_place_44 rfl ?_
          exact r_iret F rfl rfl dX8_place_45 (pmt h 2 _)
  · exact absurd h5 (by rw [i1]; decide)
set_option maxHeartbeats 8000000 in
theorem m8_refuse {G : GT} {v : VV} {L : LL} (g : GH G) {S : Nat → Nat} (hr : RM v S) {r : Nat} : CC G MX8_refuse [.ref (gB G 83), .int (nI r)] v L (rI r (up2 v 84 11 (S 11 + 1)) L) := by
  refine cc_of g [some (.ref (gB G 83)), some (.int (nI r))] rfl rfl rfl rfl (fun K F => ?_)
  have q0 := hr 11 (by decide)
  refine r_aload_n F dX8_refuse_0 rfl ?_
  refine r_get (x := .ref (gB G 84)) (T := TX8) (n := 0) F uw8 rfl rfl tw_877 (Or.inl rfl) dX8_refuse_1 (kd_lt (rfl : kd 83 = (7,0,0)) (by decide)) (ce7 rfl) rfl ?_
  refine r_bipush (x := 11) F dX8_refuse_4 rfl ?_
  refine r_dup2 F dX8_refuse_6 rfl rfl ?_
  refine r_iald F dX8_refuse_7 rfl (by omega) ?_
  rw [q0]
  refine r_iconst (x := 1) F dX8_refuse_8 rfl ?_
  refine r_iadd F dX8_refuse_9 ?_
  refine r_iast F dX8_refuse_10 rfl (by omega) ?_
  refine r_iload_n F dX8_refuse_11 rfl ?_
  exact i_iret F rfl dX8_refuse_12 rfl rfl rfl
set_option maxHeartbeats 16000000 in
theorem m8_bidR {G : GT} {v : VV} {L : LL} {a : AS} (g : GH G) (h : IM v a) (w : WA a) {x y : Int32} (hn : rbN (sS a) x y ≠ 0) : CC G MX8_bid [.ref (gB G 83), .int x, .int y] v L (gI (PMo v L (stA (svA a) (refS (sS a))) (nI (rbN (sS a) x y)))) := by
  refine cc_of g [some (.ref (gB G 83)), some (.int x), some (.int y), none, none] rfl rfl rfl rfl (fun K F => ?_)
  have w4 : sS a 4 < 8 := w.1.2.2.2.2.1
  have w5 : sS a 5 ≤ 2 := w.1.2.2.2.2.2.1
  refine r_aload_n F dX8_bid_0 rfl ?_
  refine r_iconst (x := 0) F dX8_bid_1 rfl ?_
  refine r_put (T := TX8) (n := 7) (ty0 := tyX8) (ty := .int) F uw8 tyX8_ok nmX8 rfl rfl tw_884 (Or.inl rfl) rfl rfl rfl rfl dX8_bid_2 (kd_lt (rfl : kd 83 = (7,0,0)) (by decide)) (ce7 rfl) rfl (pe7_7 rfl) up2_ce ?_
  refine r_aload_n F dX8_bid_5 rfl ?_
  refine r_callV0w F fMX8_save tw_946 rfl rfl rfl rfl dX8_bid_6 rfl rfl z0 (m8_save g (h.thr 0) w) ?_
  rintro v1 L1 ⟨rfl, hs⟩
  have q4 := hs.rm 4 (by decide)
  have q5 := hs.rm 5 (by decide)
  have fin : FrM v (up2 v1 84 11 (sS a 11 + 1)) ∧ up2 v1 84 11 (sS a 11 + 1) 83 7 = 0 ∧ IM (up2 v1 84 11 (sS a 11 + 1)) (stA (svA a) (refS (sS a))) := hs.to rfl (hs.rm.up 11 _) (fun k hk => up2_k _ hk)
  refine r_aload_n F dX8_bid_9 rfl ?_
  refine r_aload_n F dX8_bid_10 rfl ?_
  refine r_get (x := .ref (gB G 84)) (T := TX8) (n := 0) F uw8 rfl rfl tw_877 (Or.inl rfl) dX8_bid_11 (kd_lt (rfl : kd 83 = (7,0,0)) (by decide)) (ce7 rfl) rfl ?_
  refine r_iconst (x := 4) F dX8_bid_14 rfl ?_
  refine r_iald F dX8_bid_15 rfl (by omega) ?_
  rw [q4]
  refine r_callV1i F fMX8_isOver tw_977 rfl rfl rfl rfl dX8_bid_16 rfl rfl z0 (m8_isOver g hs.rm w.1.b w4) ?_
  refine r_Beq F dX8_bid_19 (fun h19 => ?_) (fun h19 => ?_)
  · refine r_aload_n F dX8_bid_28 rfl ?_
    refine r_get (x := .ref (gB G 84)) (T := TX8) (n := 0) F uw8 rfl rfl tw_877 (Or.inl rfl) dX8_bid_29 (kd_lt (rfl : kd 83 = (7,0,0)) (by decide)) (ce7 rfl) rfl ?_
    refine r_iconst (x := 5) F dX8_bid_32 rfl ?_
    refine r_iald F dX8_bid_33 rfl (by omega) ?_
    rw [q5]
    refine r_ifle F dX8_bid_34 (by omega) (fun h34 => ?_) (fun h34 => ?_)
    · refine r_iload_n F dX8_bid_43 rfl ?_
      refine R_iflt F dX8_bid_44 (fun h44 => ?_) (fun h44 => ?_)
      · refine r_aload_n F dX8_bid_51 rfl ?_
        refine r_iconst (x := 3) F dX8_bid_52 rfl ?_
        refine r_callV1i F fMX8_refuse tw_985 rfl rfl rfl rfl dX8_bid_53 rfl rfl z0 (m8_refuse g hs.rm) ?_
        refine r_iret F rfl rfl dX8_bid_56 ⟨_, rfl, ?_, rfl, fin⟩
        unfold rbN
        first
          | (rw [if_pos h19]; done)
          | (rw [if_neg (by rw [h19]; decide), if_pos (by omega)]; done)
          | (rw [if_neg (by rw [h19]; decide), if_neg (by omega), if_pos (Or.inl h44)]; done)
          | (rw [if_neg (by rw [h19]; decide), if_neg (by omega), if_pos (Or.inr (Int32.not_le.mp h48))]; done)
          | (rw [if_neg (by rw [h19]; decide), if_neg (by omega), if_neg (fun z => z.elim h44 (fun z => Int32.not_le.mpr z h48)), if_pos (Or.inl h63)]; done)
          | (rw [if_neg (by rw [h19]; decide), if_neg (by omega), if_neg (fun z => z.elim h44 (fun z => Int32.not_le.mpr z h48)), if_pos (Or.inr (Int32.not_le.mp h72))]; done)
      · refine r_iload_n F dX8_bid_47 rfl ?_
        refine R_ifge F dX8_bid_48 (fun h48 => ?_) (fun h48 => ?_)
        · refine r_iload_n F dX8_bid_57 rfl ?_
          refine r_aload_n F dX8_bid_58 rfl ?_
          refine r_iconst (x := 0) F dX8_bid_59 rfl ?_
          refine r_callV1i F fMX8_budgetOf tw_989 rfl rfl rfl rfl dX8_bid_60 rfl rfl z0 (m8_budgetOf g hs.rm w.1 (pl := 0) (by decide)) ?_
          refine R_icgt F dX8_bid_63 (fun h63 => ?_) (fun h63 => ?_)
          · refine r_aload_n F dX8_bid_75 rfl ?_
            refine r_iconst (x := 4) F dX8_bid_76 rfl ?_
            refine r_callV1i F fMX8_refuse tw_985 rfl rfl rfl rfl dX8_bid_77 rfl rfl z0 (m8_refuse g hs.rm) ?_
            refine r_iret F rfl rfl dX8_bid_80 ⟨_, rfl, ?_, rfl, fin⟩
            unfold rbN
            first
              | (rw [if_pos h19]; done)
              | (rw [if_neg (by rw [h19]; decide), if_pos (by omega)]; done)
              | (rw [if_neg (by rw [h19]; decide), if_neg (by omega), if_pos (Or.inl h44)]; done)
              | (rw [if_neg (by rw [h19]; decide), if_neg (by omega), if_pos (Or.inr (Int32.not_le.mp h48))]; done)
              | (rw [if_neg (by rw [h19]; decide), if_neg (by omega), if_neg (fun z => z.elim h44 (fun z => Int32.not_le.mpr z h48)), if_pos (Or.inl h63)]; done)
              | (rw [if_neg (by rw [h19]; decide), if_neg (by omega), if_neg (fun z => z.elim h44 (fun z => Int32.not_le.mpr z h48)), if_pos (Or.inr (Int32.not_le.mp h72))]; done)
          · refine r_iload_n F dX8_bid_66 rfl ?_
            refine r_aload_n F dX8_bid_67 rfl ?_
            refine r_iconst (x := 1) F dX8_bid_68 rfl ?_
            refine r_callV1i F fMX8_budgetOf tw_989 rfl rfl rfl rfl dX8_bid_69 rfl rfl z0 (m8_budgetOf g hs.rm w.1 (pl := 1) (by decide)) ?_
            refine R_icle F dX8_bid_72 (fun h72 => ?_) (fun h72 => ?_)
            · exfalso
              apply hn
              unfold rbN
              rw [if_neg (by rw [h19]; decide), if_neg (by omega), if_neg (fun z => z.elim h44 (fun z => Int32.not_le.mpr z h48)), if_neg (fun z => z.elim h63 (fun z => Int32.not_le.mpr z h72))]
            · refine r_aload_n F dX8_bid_75 rfl ?_
              refine r_iconst (x := 4) F dX8_bid_76 rfl ?_
              refine r_callV1i F fMX8_refuse tw_985 rfl rfl rfl rfl dX8_bid_77 rfl rfl z0 (m8_refuse g hs.rm) ?_
              refine r_iret F rfl rfl dX8_bid_80 ⟨_, rfl, ?_, rfl, fin⟩
              unfold rbN
              first
                | (rw [if_pos h19]; done)
                | (rw [if_neg (by rw [h19]; decide), if_pos (by omega)]; done)
                | (rw [if_neg (by rw [h19]; decide), if_neg (by omega), if_pos (Or.inl h44)]; done)
                | (rw [if_neg (by rw [h19]; decide), if_neg (by omega), if_pos (Or.inr (Int32.not_le.mp h48))]; done)
                | (rw [if_neg (by rw [h19]; decide), if_neg (by omega), if_neg (fun z => z.elim h44 (fun z => Int32.not_le.mpr z h48)), if_pos (Or.inl h63)]; done)
                | (rw [if_neg (by rw [h19]; decide), if_neg (by omega), if_neg (fun z => z.elim h44 (fun z => Int32.not_le.mpr z h48)), if_pos (Or.inr (Int32.not_le.mp h72))]; done)
        · refine r_aload_n F dX8_bid_51 rfl ?_
          refine r_iconst (x := 3) F dX8_bid_52 rfl ?_
          refine r_callV1i F fMX8_refuse tw_985 rfl rfl rfl rfl dX8_bid_53 rfl rfl z0 (m8_refuse g hs.rm) ?_
          refine r_iret F rfl rfl dX8_bid_56 ⟨_, rfl, ?_, rfl, fin⟩
          unfold rbN
          first
            | (rw [if_pos h19]; done)
            | (rw [if_neg (by rw [h19]; decide), if_pos (by omega)]; done)
            | (rw [if_neg (by rw [h19]; decide), if_neg (by omega), if_pos (Or.inl h44)]; done)
            | (rw [if_neg (by rw [h19]; decide), if_neg (by omega), if_pos (Or.inr (Int32.not_le.mp h48))]; done)
            | (rw [if_neg (by rw [h19]; decide), if_neg (by omega), if_neg (fun z => z.elim h44 (fun z => Int32.not_le.mpr z h48)), if_pos (Or.inl h63)]; done)
            | (rw [if_neg (by rw [h19]; decide), if_neg (by omega), if_neg (fun z => z.elim h44 (fun z => Int32.not_le.mpr z h48)), if_pos (Or.inr (Int32.not_le.mp h72))]; done)
    · refine r_aload_n F dX8_bid_37 rfl ?_
      refine r_iconst (x := 2) F dX8_bid_38 rfl ?_
      refine r_callV1i F fMX8_refuse tw_985 rfl rfl rfl rfl dX8_bid_39 rfl rfl z0 (m8_refuse g hs.rm) ?_
      refine r_iret F rfl rfl dX8_bid_42 ⟨_, rfl, ?_, rfl, fin⟩
      unfold rbN
      first
        | (rw [if_pos h19]; done)
        | (rw [if_neg (by rw [h19]; decide), if_pos (by omega)]; done)
        | (rw [if_neg (by rw [h19]; decide), if_neg (by omega), if_pos (Or.inl h44)]; done)
        | (rw [if_neg (by rw [h19]; decide), if_neg (by omega), if_pos (Or.inr (Int32.not_le.mp h48))]; done)
        | (rw [if_neg (by rw [h19]; decide), if_neg (by omega), if_neg (fun z => z.elim h44 (fun z => Int32.not_le.mpr z h48)), if_pos (Or.inl h63)]; done)
        | (rw [if_neg (by rw [h19]; decide), if_neg (by omega), if_neg (fun z => z.elim h44 (fun z => Int32.not_le.mpr z h48)), if_pos (Or.inr (Int32.not_le.mp h72))]; done)
  · refine r_aload_n F dX8_bid_22 rfl ?_
    refine r_iconst (x := 1) F dX8_bid_23 rfl ?_
    refine r_callV1i F fMX8_refuse tw_985 rfl rfl rfl rfl dX8_bid_24 rfl rfl z0 (m8_refuse g hs.rm) ?_
    refine r_iret F rfl rfl dX8_bid_27 ⟨_, rfl, ?_, rfl, fin⟩
    unfold rbN
    first
      | (rw [if_pos h19]; done)
      | (rw [if_neg (by rw [h19]; decide), if_pos (by omega)]; done)
      | (rw [if_neg (by rw [h19]; decide), if_neg (by omega), if_pos (Or.inl h44)]; done)
      | (rw [if_neg (by rw [h19]; decide), if_neg (by omega), if_pos (Or.inr (Int32.not_le.mp h48))]; done)
      | (rw [if_neg (by rw [h19]; decide), if_neg (by omega), if_neg (fun z => z.elim h44 (fun z => Int32.not_le.mpr z h48)), if_pos (Or.inl h63)]; done)
      | (rw [if_neg (by rw [h19]; decide), if_neg (by omega), if_neg (fun z => z.elim h44 (fun z => Int32.not_le.mpr z h48)), if_pos (Or.inr (Int32.not_le.mp h72))]; done)
set_option maxHeartbeats 16000000 in
theorem m8_moveR {G : GT} {v : VV} {L : LL} {a : AS} (g : GH G) (h : IM v a) (w : WA a) {x : Int32} (hn : rmN (sS a) x ≠ 0) : CC G MX8_move [.ref (gB G 83), .int x] v L (gI (PMo v L (stA (svA a) (refS (sS a))) (nI (rmN (sS a) x)))) := by
  refine cc_of g [some (.ref (gB G 83)), some (.int x)] rfl rfl rfl rfl (fun K F => ?_)
  have w4 : sS a 4 < 8 := w.1.2.2.2.2.1
  have w5 : sS a 5 ≤ 2 := w.1.2.2.2.2.2.1
  refine r_aload_n F dX8_move_0 rfl ?_
  refine r_iconst (x := 0) F dX8_move_1 rfl ?_
  refine r_put (T := TX8) (n := 7) (ty0 := tyX8) (ty := .int) F uw8 tyX8_ok nmX8 rfl rfl tw_884 (Or.inl rfl) rfl rfl rfl rfl dX8_move_2 (kd_lt (rfl : kd 83 = (7,0,0)) (by decide)) (ce7 rfl) rfl (pe7_7 rfl) up2_ce ?_
  refine r_aload_n F dX8_move_5 rfl ?_
  refine r_callV0w F fMX8_save tw_946 rfl rfl rfl rfl dX8_move_6 rfl rfl z0 (m8_save g (h.thr 0) w) ?_
  rintro v1 L1 ⟨rfl, hs⟩
  have q4 := hs.rm 4 (by decide)
  have q5 := hs.rm 5 (by decide)
  have fin : FrM v (up2 v1 84 11 (sS a 11 + 1)) ∧ up2 v1 84 11 (sS a 11 + 1) 83 7 = 0 ∧ IM (up2 v1 84 11 (sS a 11 + 1)) (stA (svA a) (refS (sS a))) := hs.to rfl (hs.rm.up 11 _) (fun k hk => up2_k _ hk)
  refine r_aload_n F dX8_move_9 rfl ?_
  refine r_aload_n F dX8_move_10 rfl ?_
  refine r_get (x := .ref (gB G 84)) (T := TX8) (n := 0) F uw8 rfl rfl tw_877 (Or.inl rfl) dX8_move_11 (kd_lt (rfl : kd 83 = (7,0,0)) (by decide)) (ce7 rfl) rfl ?_
  refine r_iconst (x := 4) F dX8_move_14 rfl ?_
  refine r_iald F dX8_move_15 rfl (by omega) ?_
  rw [q4]
  refine r_callV1i F fMX8_isOver tw_977 rfl rfl rfl rfl dX8_move_16 rfl rfl z0 (m8_isOver g hs.rm w.1.b w4) ?_
  refine r_Beq F dX8_move_19 (fun h19 => ?_) (fun h19 => ?_)
  · refine r_aload_n F dX8_move_28 rfl ?_
    refine r_get (x := .ref (gB G 84)) (T := TX8) (n := 0) F uw8 rfl rfl tw_877 (Or.inl rfl) dX8_move_29 (kd_lt (rfl : kd 83 = (7,0,0)) (by decide)) (ce7 rfl) rfl ?_
    refine r_iconst (x := 5) F dX8_move_32 rfl ?_
    refine r_iald F dX8_move_33 rfl (by omega) ?_
    rw [q5]
    refine r_ifne F dX8_move_34 (by omega) (fun h34 => ?_) (fun h34 => ?_)
    · refine r_aload_n F dX8_move_43 rfl ?_
      refine r_aload_n F dX8_move_44 rfl ?_
      refine r_get (x := .ref (gB G 84)) (T := TX8) (n := 0) F uw8 rfl rfl tw_877 (Or.inl rfl) dX8_move_45 (kd_lt (rfl : kd 83 = (7,0,0)) (by decide)) (ce7 rfl) rfl ?_
      refine r_iconst (x := 4) F dX8_move_48 rfl ?_
      refine r_iald F dX8_move_49 rfl (by omega) ?_
      refine r_iload_n F dX8_move_50 rfl ?_
      rw [q4]
      refine r_callV2i F fMX8_hasMove tw_934 rfl rfl rfl rfl dX8_move_51 rfl rfl z0 (m8_hasMove g hs.rm w.1.b w4 x) ?_
      refine r_Bne F dX8_move_54 (fun h54 => ?_) (fun h54 => ?_)
      · exfalso
        apply hn
        unfold rmN
        rw [if_neg (by rw [h19]; decide), if_neg (by omega), if_pos h54]
      · refine r_aload_n F dX8_move_57 rfl ?_
        refine r_iconst (x := 3) F dX8_move_58 rfl ?_
        refine r_callV1i F fMX8_refuse tw_985 rfl rfl rfl rfl dX8_move_59 rfl rfl z0 (m8_refuse g hs.rm) ?_
        refine r_iret F rfl rfl dX8_move_62 ⟨_, rfl, ?_, rfl, fin⟩
        unfold rmN
        first
          | (rw [if_pos h19]; done)
          | (rw [if_neg (by rw [h19]; decide), if_pos (by omega)]; done)
          | (rw [if_neg (by rw [h19]; decide), if_neg (by omega), if_neg (by rw [h54]; decide)]; done)
    · refine r_aload_n F dX8_move_37 rfl ?_
      refine r_iconst (x := 2) F dX8_move_38 rfl ?_
      refine r_callV1i F fMX8_refuse tw_985 rfl rfl rfl rfl dX8_move_39 rfl rfl z0 (m8_refuse g hs.rm) ?_
      refine r_iret F rfl rfl dX8_move_42 ⟨_, rfl, ?_, rfl, fin⟩
      unfold rmN
      first
        | (rw [if_pos h19]; done)
        | (rw [if_neg (by rw [h19]; decide), if_pos (by omega)]; done)
        | (rw [if_neg (by rw [h19]; decide), if_neg (by omega), if_neg (by rw [h54]; decide)]; done)
  · refine r_aload_n F dX8_move_22 rfl ?_
    refine r_iconst (x := 1) F dX8_move_23 rfl ?_
    refine r_callV1i F fMX8_refuse tw_985 rfl rfl rfl rfl dX8_move_24 rfl rfl z0 (m8_refuse g hs.rm) ?_
    refine r_iret F rfl rfl dX8_move_27 ⟨_, rfl, ?_, rfl, fin⟩
    unfold rmN
    first
      | (rw [if_pos h19]; done)
      | (rw [if_neg (by rw [h19]; decide), if_pos (by omega)]; done)
      | (rw [if_neg (by rw [h19]; decide), if_neg (by omega), if_neg (by rw [h54]; decide)]; done)
set_option maxHeartbeats 16000000 in
theorem m8_moveY {G : GT} {v : VV} {L : LL} {a : AS} (g : GH G) (h : IM v a) (w : WA a) {q : Nat} (hq : q < 8) (hn : rmN (sS a) (nI q) = 0) : CC G MX8_move [.ref (gB G 83), .int (nI q)] v L (gI (PMo v L (stA (svA a) (movS (sS a) q)) (nI (if ovr (sS a) q = true then 11 else 10)))) := by
  refine cc_of g [some (.ref (gB G 83)), some (.int (nI q))] rfl rfl rfl rfl (fun K F => ?_)
  have w4 : sS a 4 < 8 := w.1.2.2.2.2.1
  have w5 : sS a 5 ≤ 2 := w.1.2.2.2.2.2.1
  have hn1 : ovr (sS a) (sS a 4) = false := by
    cases hz : ovr (sS a) (sS a 4) with
    | false => rfl
    | true => unfold rmN at hn; rw [if_pos hz] at hn; cases hn
  have hn2 : sS a 5 ≠ 0 := fun z => by
    unfold rmN at hn
    rw [if_neg (by rw [hn1]; decide), if_pos z] at hn
    cases hn
  have hn3 : hm (sS a) (sS a 4) (nI q) = true := by
    cases hz : hm (sS a) (sS a 4) (nI q) with
    | true => rfl
    | false => unfold rmN at hn; rw [if_neg (by rw [hn1]; decide), if_neg hn2, if_neg (by rw [hz]; decide)] at hn; cases hn
  refine r_aload_n F dX8_move_0 rfl ?_
  refine r_iconst (x := 0) F dX8_move_1 rfl ?_
  refine r_put (T := TX8) (n := 7) (ty0 := tyX8) (ty := .int) F uw8 tyX8_ok nmX8 rfl rfl tw_884 (Or.inl rfl) rfl rfl rfl rfl dX8_move_2 (kd_lt (rfl : kd 83 = (7,0,0)) (by decide)) (ce7 rfl) rfl (pe7_7 rfl) up2_ce ?_
  refine r_aload_n F dX8_move_5 rfl ?_
  refine r_callV0w F fMX8_save tw_946 rfl rfl rfl rfl dX8_move_6 rfl rfl z0 (m8_save g (h.thr 0) w) ?_
  rintro v1 L1 ⟨rfl, hs⟩
  have q4 := hs.rm 4 (by decide)
  have q5 := hs.rm 5 (by decide)
  refine r_aload_n F dX8_move_9 rfl ?_
  refine r_aload_n F dX8_move_10 rfl ?_
  refine r_get (x := .ref (gB G 84)) (T := TX8) (n := 0) F uw8 rfl rfl tw_877 (Or.inl rfl) dX8_move_11 (kd_lt (rfl : kd 83 = (7,0,0)) (by decide)) (ce7 rfl) rfl ?_
  refine r_iconst (x := 4) F dX8_move_14 rfl ?_
  refine r_iald F dX8_move_15 rfl (by omega) ?_
  rw [q4]
  refine r_callV1i F fMX8_isOver tw_977 rfl rfl rfl rfl dX8_move_16 rfl rfl z0 (m8_isOver g hs.rm w.1.b w4) ?_
  refine r_Beq F dX8_move_19 (fun h19 => ?_) (fun h19 => ?_)
  · refine r_aload_n F dX8_move_28 rfl ?_
    refine r_get (x := .ref (gB G 84)) (T := TX8) (n := 0) F uw8 rfl rfl tw_877 (Or.inl rfl) dX8_move_29 (kd_lt (rfl : kd 83 = (7,0,0)) (by decide)) (ce7 rfl) rfl ?_
    refine r_iconst (x := 5) F dX8_move_32 rfl ?_
    refine r_iald F dX8_move_33 rfl (by omega) ?_
    rw [q5]
    refine r_ifne F dX8_move_34 (by omega) (fun h34 => ?_) (fun h34 => ?_)
    · refine r_aload_n F dX8_move_43 rfl ?_
      refine r_aload_n F dX8_move_44 rfl ?_
      refine r_get (x := .ref (gB G 84)) (T := TX8) (n := 0) F uw8 rfl rfl tw_877 (Or.inl rfl) dX8_move_45 (kd_lt (rfl : kd 83 = (7,0,0)) (by decide)) (ce7 rfl) rfl ?_
      refine r_iconst (x := 4) F dX8_move_48 rfl ?_
      refine r_iald F dX8_move_49 rfl (by omega) ?_
      refine r_iload_n F dX8_move_50 rfl ?_
      rw [q4]
      refine r_callV2i F fMX8_hasMove tw_934 rfl rfl rfl rfl dX8_move_51 rfl rfl z0 (m8_hasMove g hs.rm w.1.b w4 (nI q)) ?_
      refine r_Bne F dX8_move_54 (fun h54 => ?_) (fun h54 => ?_)
      · refine r_aload_n F dX8_move_63 rfl ?_
        refine r_get (x := .ref (gB G 84)) (T := TX8) (n := 0) F uw8 rfl rfl tw_877 (Or.inl rfl) dX8_move_64 (kd_lt (rfl : kd 83 = (7,0,0)) (by decide)) (ce7 rfl) rfl ?_
        refine r_iconst (x := 4) F dX8_move_67 rfl ?_
        refine r_iload_n F dX8_move_68 rfl ?_
        refine r_iast F dX8_move_69 rfl (by omega) ?_
        refine r_aload_n F dX8_move_70 rfl ?_
        refine r_get (x := .ref (gB G 84)) (T := TX8) (n := 0) F uw8 rfl rfl tw_877 (Or.inl rfl) dX8_move_71 (kd_lt (rfl : kd 83 = (7,0,0)) (by decide)) (ce7 rfl) rfl ?_
        refine r_iconst (x := 5) F dX8_move_74 rfl ?_
        refine r_iconst (x := 0) F dX8_move_75 rfl ?_
        refine r_iast F dX8_move_76 rfl (by omega) ?_
        have hr : RM (up2 (up2 v1 84 4 q) 84 5 0) (movS (sS a) q) := (hs.rm.up 4 q).up 5 0
        refine r_aload_n F dX8_move_77 rfl ?_
        refine r_iload_n F dX8_move_78 rfl ?_
        refine r_callV1i F fMX8_isOver tw_977 rfl rfl rfl rfl dX8_move_79 rfl rfl z0 (m8_isOver g hr (w.1.mov hq).b hq) ?_
        refine r_Beq F dX8_move_82 (fun h82 => ?_) (fun h82 => ?_)
        · refine r_bipush (x := 10) F dX8_move_90 rfl ?_
          first
            | exact r_iret F rfl rfl dX8_move_92 ⟨_, rfl, by rw [ovr_cong (movS_b _ _)] at h82; rw [if_pos h82], rfl, hs.to rfl hr (fun k hk => by rw [up2_k _ hk, up2_k _ hk])⟩
            | exact r_iret F rfl rfl dX8_move_92 ⟨_, rfl, by rw [ovr_cong (movS_b _ _)] at h82; rw [if_neg (by rw [h82]; decide)], rfl, hs.to rfl hr (fun k hk => by rw [up2_k _ hk, up2_k _ hk])⟩
        · refine r_bipush (x := 11) F dX8_move_85 rfl ?_
          refine r_goto F dX8_move_87 ?_
          first
            | exact r_iret F rfl rfl dX8_move_92 ⟨_, rfl, by rw [ovr_cong (movS_b _ _)] at h82; rw [if_pos h82], rfl, hs.to rfl hr (fun k hk => by rw [up2_k _ hk, up2_k _ hk])⟩
            | exact r_iret F rfl rfl dX8_move_92 ⟨_, rfl, by rw [ovr_cong (movS_b _ _)] at h82; rw [if_neg (by rw [h82]; decide)], rfl, hs.to rfl hr (fun k hk => by rw [up2_k _ hk, up2_k _ hk])⟩
      · exact absurd h54 (by rw [hn3]; decide)
    · exact absurd h34 hn2
  · exact absurd h19 (by rw [hn1]; decide)
def TX (v v' : VV) (a a' : AS) : Prop := FrM v v' ∧ v' 83 7 = 0 ∧ IM v' a'
set_option maxHeartbeats 8000000 in
theorem m8_append {G : GT} {v : VV} {L : LL} {a : AS} (g : GH G) (h : IM v a) {c : Nat} (hc1 : 33 ≤ c) (hc2 : c ≤ 126) (hl : sL a < 60) : CC G MX8_append [.ref (gB G 83), .int (nI c)] v L (gI (PMo v L (txA a c) (nI (sL a + 1)))) := by
  refine cc_of g [some (.ref (gB G 83)), some (.int (nI c))] rfl rfl rfl rfl (fun K F => ?_)
  have i1 : inn (nI c) (nI 33) (nI 126) = true := inn_y ((nI_leI (by decide) (by omega)).mpr hc1) ((nI_leI (by omega) (by decide)).mpr hc2)
  have c0 : v 83 6 = sL a := h.2.2.2.2.1
  refine r_aload_n F dX8_append_0 rfl ?_
  refine r_iload_n F dX8_append_1 rfl ?_
  refine r_bipush (x := 33) F dX8_append_2 rfl ?_
  refine r_bipush (x := 126) F dX8_append_4 rfl ?_
  refine r_callS3i F fMX8_in tw_931 rfl dX8_append_6 rfl rfl z0 (m8_in g (nI c) (nI 33) (nI 126)) ?_
  refine r_Bne F dX8_append_9 (fun h9 => ?_) (fun h9 => ?_)
  · refine r_aload_n F dX8_append_16 rfl ?_
    refine r_get (T := TX8) (n := 6) F uw8 rfl rfl tw_883 (Or.inl rfl) dX8_append_17 (kd_lt (rfl : kd 83 = (7,0,0)) (by decide)) (ce7 rfl) rfl ?_
    refine r_bipush (x := 60) F dX8_append_20 rfl ?_
    rw [c0]
    refine r_icne F dX8_append_22 (by omega) (by omega) (fun h22 => ?_) (fun h22 => ?_)
    · refine r_iconst (x := 0) F dX8_append_29 rfl ?_
      refine r_callV1i F fMX8_holds tw_942 rfl rfl rfl rfl dX8_append_30 rfl rfl z0 (m8_holds g (x := 0) (by decide)) ?_
      refine r_Bne F dX8_append_33 (fun h33 => ?_) (fun h33 => ?_)
      · refine r_aload_n F dX8_append_38 rfl ?_
        refine r_get (x := .ref (gB G 88)) (T := TX8) (n := 5) F uw8 rfl rfl tw_882 (Or.inl rfl) dX8_append_39 (kd_lt (rfl : kd 83 = (7,0,0)) (by decide)) (ce7 rfl) rfl ?_
        refine r_aload_n F dX8_append_42 rfl ?_
        refine r_get (T := TX8) (n := 6) F uw8 rfl rfl tw_883 (Or.inl rfl) dX8_append_43 (kd_lt (rfl : kd 83 = (7,0,0)) (by decide)) (ce7 rfl) rfl ?_
        rw [up2_j (b := 6) _ (by decide), c0]
        refine r_iload_n F dX8_append_46 rfl ?_
        refine r_iast F dX8_append_47 rfl (by omega) ?_
        refine r_aload_n F dX8_append_48 rfl ?_
        refine r_dup F dX8_append_49 rfl ?_
        refine r_get (T := TX8) (n := 6) F uw8 rfl rfl tw_883 (Or.inl rfl) dX8_append_50 (kd_lt (rfl : kd 83 = (7,0,0)) (by decide)) (ce7 rfl) rfl ?_
        rw [up2_k (a := 83) _ (by decide), up2_j (b := 6) _ (by decide), c0]
        refine r_iconst (x := 1) F dX8_append_53 rfl ?_
        refine r_iadd F dX8_append_54 ?_
        refine r_put (T := TX8) (n := 6) (ty0 := tyX8) (ty := .int) F uw8 tyX8_ok nmX8 rfl rfl tw_883 (Or.inl rfl) rfl rfl rfl rfl dX8_append_55 (kd_lt (rfl : kd 83 = (7,0,0)) (by decide)) (ce7 rfl) rfl (pe7_6 rfl) up2_ce ?_
        refine r_aload_n F dX8_append_58 rfl ?_
        refine r_get (T := TX8) (n := 6) F uw8 rfl rfl tw_883 (Or.inl rfl) dX8_append_59 (kd_lt (rfl : kd 83 = (7,0,0)) (by decide)) (ce7 rfl) rfl ?_
        rw [up2_s]
        refine r_iret F rfl rfl dX8_append_62 ⟨_, rfl, rfl, rfl, fun k hk => by rw [up2_k _ (by omega), up2_k _ (by omega), up2_k _ (by omega)], by rw [up2_j _ (by decide), up2_k _ (by decide), up2_s], fun j hj => ?_, ?_, fun i hi j hj => ?_, fun i hi => ?_, up2_s _ _ _ _, fun i hi => ?_⟩
        · rw [up2_k _ (by decide), up2_k _ (by decide), up2_k _ (by decide)]; exact h.1 j hj
        · rw [up2_j _ (by decide), up2_k _ (by decide), up2_j _ (by decide)]; exact h.2.1
        · rw [up2_k _ (by decide), up2_k _ (by decide), up2_k _ (by decide)]; exact h.2.2.1 i hi j hj
        · rw [up2_k (a := 87) _ (by decide), up2_k (a := 87) _ (by decide), up2_k (a := 87) _ (by decide), up2_k (a := 86) _ (by decide), up2_k (a := 86) _ (by decide), up2_k (a := 86) _ (by decide)]; exact h.2.2.2.1 i hi
        · have hi : i < sL a + 1 := hi
          show _ = upN (sT a) (sL a) c i
          rw [up2_k _ (by decide)]
          by_cases e : i = sL a
          · rw [e, upN_s, up2_s]
          · rw [upN_n _ _ e, up2_j _ e, up2_k _ (by decide)]; exact h.2.2.2.2.2 i (by omega)
      · exact absurd h33 (by decide)
    · omega
  · exact absurd h9 (by rw [i1]; decide)
set_option maxHeartbeats 8000000 in
theorem t8_append1 {G : GT} {v : VV} {L : LL} {a : AS} (g : GH G) (h : IM v a) {x : Int32} (hx : x < nI 33 ∨ nI 126 < x) : CC G MX8_append [.ref (gB G 83), .int x] v L (gI (PMt v L a 1)) := by
  refine cc_of g [some (.ref (gB G 83)), some (.int x)] rfl rfl rfl rfl (fun K F => ?_)
  have i1 : inn x (nI 33) (nI 126) = false := hx.elim inn_n1 inn_n2
  refine r_aload_n F dX8_append_0 rfl ?_
  refine r_iload_n F dX8_append_1 rfl ?_
  refine r_bipush (x := 33) F dX8_append_2 rfl ?_
  refine r_bipush (x := 126) F dX8_append_4 rfl ?_
  refine r_callS3i F fMX8_in tw_931 rfl dX8_append_6 rfl rfl z0 (m8_in g x (nI 33) (nI 126)) ?_
  refine r_Bne F dX8_append_9 (fun h9 => ?_) (fun h9 => ?_)
  · exact absurd h9 (by rw [i1]; decide)
  · refine r_iconst (x := 1) F dX8_append_12 rfl ?_
    refine r_goto F dX8_append_13 ?_
    refine r_callV1i F fMX8_holds tw_942 rfl rfl rfl rfl dX8_append_30 rfl rfl z0 (m8_holds g (x := 1) (by decide)) ?_
    refine r_Bne F dX8_append_33 (fun h33 => ?_) (fun h33 => ?_)
    · exact absurd h33 (by decide)
    · refine r_iconst (x := 0) F dX8_append_36 rfl ?_
      exact r_iret F rfl rfl dX8_append_37 (pmt h 1 _)
set_option maxHeartbeats 8000000 in
theorem t8_append2 {G : GT} {v : VV} {L : LL} {a : AS} (g : GH G) (h : IM v a) {c : Nat} (hc1 : 33 ≤ c) (hc2 : c ≤ 126) (hl : sL a = 60) : CC G MX8_append [.ref (gB G 83), .int (nI c)] v L (gI (PMt v L a 2)) := by
  refine cc_of g [some (.ref (gB G 83)), some (.int (nI c))] rfl rfl rfl rfl (fun K F => ?_)
  have i1 : inn (nI c) (nI 33) (nI 126) = true := inn_y ((nI_leI (by decide) (by omega)).mpr hc1) ((nI_leI (by omega) (by decide)).mpr hc2)
  have c0 : v 83 6 = sL a := h.2.2.2.2.1
  refine r_aload_n F dX8_append_0 rfl ?_
  refine r_iload_n F dX8_append_1 rfl ?_
  refine r_bipush (x := 33) F dX8_append_2 rfl ?_
  refine r_bipush (x := 126) F dX8_append_4 rfl ?_
  refine r_callS3i F fMX8_in tw_931 rfl dX8_append_6 rfl rfl z0 (m8_in g (nI c) (nI 33) (nI 126)) ?_
  refine r_Bne F dX8_append_9 (fun h9 => ?_) (fun h9 => ?_)
  · refine r_aload_n F dX8_append_16 rfl ?_
    refine r_get (T := TX8) (n := 6) F uw8 rfl rfl tw_883 (Or.inl rfl) dX8_append_17 (kd_lt (rfl : kd 83 = (7,0,0)) (by decide)) (ce7 rfl) rfl ?_
    refine r_bipush (x := 60) F dX8_append_20 rfl ?_
    rw [c0]
    refine r_icne F dX8_append_22 (by omega) (by omega) (fun h22 => ?_) (fun h22 => ?_)
    · omega
    · refine r_iconst (x := 2) F dX8_append_25 rfl ?_
      refine r_goto F dX8_append_26 ?_
      refine r_callV1i F fMX8_holds tw_942 rfl rfl rfl rfl dX8_append_30 rfl rfl z0 (m8_holds g (x := 2) (by decide)) ?_
      refine r_Bne F dX8_append_33 (fun h33 => ?_) (fun h33 => ?_)
      · exact absurd h33 (by decide)
      · refine r_iconst (x := 0) F dX8_append_36 rfl ?_
        exact r_iret F rfl rfl dX8_append_37 (pmt h 2 _)
  · exact absurd h9 (by rw [i1]; decide)
set_option maxHeartbeats 8000000 in
theorem m8_clearBuffer {G : GT} {v : VV} {L : LL} {a : AS} (g : GH G) (h : IM v a) : CC G MX8_clearBuffer [.ref (gB G 83)] v L (gI (PMo v L (clA a) (nI (sL a)))) := by
  refine cc_of g [some (.ref (gB G 83)), none] rfl rfl rfl rfl (fun K F => ?_)
  have c0 : v 83 6 = sL a := h.2.2.2.2.1
  refine r_aload_n F dX8_clearBuffer_0 rfl ?_
  refine r_iconst (x := 0) F dX8_clearBuffer_1 rfl ?_
  refine r_put (T := TX8) (n := 7) (ty0 := tyX8) (ty := .int) F uw8 tyX8_ok nmX8 rfl rfl tw_884 (Or.inl rfl) rfl rfl rfl rfl dX8_clearBuffer_2 (kd_lt (rfl : kd 83 = (7,0,0)) (by decide)) (ce7 rfl) rfl (pe7_7 rfl) up2_ce ?_
  refine r_aload_n F dX8_clearBuffer_5 rfl ?_
  refine r_get (T := TX8) (n := 6) F uw8 rfl rfl tw_883 (Or.inl rfl) dX8_clearBuffer_6 (kd_lt (rfl : kd 83 = (7,0,0)) (by decide)) (ce7 rfl) rfl ?_
  refine r_ist1 F dX8_clearBuffer_9 rfl rfl ?_
  refine r_aload_n F dX8_clearBuffer_10 rfl ?_
  refine r_iconst (x := 0) F dX8_clearBuffer_11 rfl ?_
  refine r_put (T := TX8) (n := 6) (ty0 := tyX8) (ty := .int) F uw8 tyX8_ok nmX8 rfl rfl tw_883 (Or.inl rfl) rfl rfl rfl rfl dX8_clearBuffer_12 (kd_lt (rfl : kd 83 = (7,0,0)) (by decide)) (ce7 rfl) rfl (pe7_6 rfl) up2_ce ?_
  refine r_iload_n F dX8_clearBuffer_15 rfl ?_
  refine r_iret F rfl rfl dX8_clearBuffer_16 ⟨_, rfl, by rw [up2_j _ (by decide), c0], rfl, fun k hk => by rw [up2_k _ (by omega), up2_k _ (by omega)], by rw [up2_j _ (by decide), up2_s], fun j hj => ?_, ?_, fun i hi j hj => ?_, fun i hi => ?_, up2_s _ _ _ _, fun i hi => absurd hi (Nat.not_lt_zero i)⟩
  · rw [up2_k _ (by decide), up2_k _ (by decide)]; exact h.1 j hj
  · rw [up2_j _ (by decide), up2_j _ (by decide)]; exact h.2.1
  · rw [up2_k _ (by decide), up2_k _ (by decide)]; exact h.2.2.1 i hi j hj
  · rw [up2_k (a := 87) _ (by decide), up2_k (a := 87) _ (by decide), up2_k (a := 86) _ (by decide), up2_k (a := 86) _ (by decide)]; exact h.2.2.2.1 i hi
