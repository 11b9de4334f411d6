/-- saved ahead of a move in the game: what is told stands -/
def IP (v v' : VV) (a : AS) : Prop := RSt 1 v' (sS a) ∧ IR v' (svA a) ∧ Ch v' (sS a) ∧ FrC v v' ∧ ∀ k, (k < 22 ∨ 65 ≤ k) → v' k = v k
theorem ip_of {v v' : VV} {a : AS} (h : IC v a) (f1 : RSv v' (svN (sN a)) (svP (sN a) (sP a) (sS a))) (f2 : ∀ k, (k < 22 ∨ 65 ≤ k) → v' k = v k) : IP v v' a := by
  refine ⟨h.1.kept (fun j a b => f2 j (by omega)), ⟨f1, fun i hi => ?_, by rw [f2 68 (by omega)]; exact h.2.1.2.2.1, fun i hi => by rw [f2 69 (by omega)]; exact h.2.1.2.2.2 i hi⟩, h.2.2.kept (fun k a b => f2 k (by omega)), fun k hk => f2 k (by omega), f2⟩
  rw [f2 67 (by omega)]
  exact ⟨(h.2.1.2.1 i hi).1, fun hk => ((h.2.1.2.1 i hi).2 hk).kept (fun j a b => f2 j (by omega))⟩
theorem IP.to {v v' v2 : VV} {a : AS} {S : Nat → Nat} (h : IP v v' a) (hr : RSt 1 v2 S) (c : ∀ k, 8 ≤ k → v2 k = v' k) (hs : sameB (sS a) S) : FrC v v2 ∧ IC v2 (stA (svA a) S) := by
  obtain ⟨h1, h2, h3, h4, h5⟩ := h
  exact ⟨h4.trans (fun k hk => c k (by omega)), hr, h2.kept (fun k a b d => c k a) (by rw [c 68 (by decide)]), (h3.kept (fun k a b => c k (by omega))).cong hs⟩
def placeS (S : Nat → Nat) (p b st : Nat) : Nat → Nat := upN (upN (upN (upN S 4 p) 2 b) 3 st) 5 0
theorem placeS_hi (S : Nat → Nat) (p b st : Nat) {j : Nat} (h : 12 ≤ j) : placeS S p b st j = S j := by unfold placeS; rw [upN_n _ _ (by omega), upN_n _ _ (by omega), upN_n _ _ (by omega), upN_n _ _ (by omega)]
theorem placeS_b (S : Nat → Nat) (p b st : Nat) : sameB S (placeS S p b st) := ⟨by simp [placeS, upN], fun j hj => placeS_hi S p b st hj⟩
theorem WS.place {S : Nat → Nat} (w : WS S) {p b st : Nat} (hp : p < 8) (hb : b ≤ S 0) (hs : st ≤ 1) : WS (placeS S p b st) := by
  obtain ⟨w1, w2, w3, w4, w5, w6, w7⟩ := w
  exact ⟨by simpa [placeS, upN] using w1, by simpa [placeS, upN] using w2, by simpa [placeS, upN] using hb, by simpa [placeS, upN] using hs, by simpa [placeS, upN] using hp, by simp [placeS, upN], w7.cell (fun j hj => placeS_hi S p b st hj)⟩
set_option maxHeartbeats 8000000 in
theorem m7_place {G : GT} {v : VV} {L : LL} {a : AS} (g : GH G) (h : IC v a) (w : WA a) {p b st : Nat} (hp : p < 8) (hb : b ≤ sS a 0) (hs : st ≤ 1) : CC G MX7_place [.ref (gB G 0), .int (nI p), .int (nI b), .int (nI st)] v L (gI (PC v L (stA (svA a) (placeS (sS a) p b st)) (nI (ovr (sS a) p).toNat))) := by
  refine cc_of g [some (.ref (gB G 0)), some (.int (nI p)), some (.int (nI b)), some (.int (nI st))] rfl rfl rfl rfl (fun K F => ?_)
  have w0 : sS a 0 ≤ 20 := w.1.1
  have c0 : v 1 1 = sS a 0 := h.1.1
  have eo : ovr (placeS (sS a) p b st) (placeS (sS a) p b st 4) = ovr (sS a) p := by
    rw [show placeS (sS a) p b st 4 = p by simp [placeS, upN]]
    exact ovr_cong (placeS_b _ _ _ _) p
  refine r_iload_n F dX7_place_0 rfl ?_
  refine r_callS1v F fMX7_needPosition tw_623 rfl dX7_place_1 rfl rfl z0 (m7_needPosition g (p := p) (by omega)) ?_
  refine r_iload_n F dX7_place_4 rfl ?_
  refine r_aload_n F dX7_place_5 rfl ?_
  refine r_get (x := .ref (gB G 1)) (T := TX7) (n := 0) F uw7 rfl rfl tw_274 (Or.inl rfl) dX7_place_6 (kd_lt (rfl : kd 0 = (6,0,0)) (by decide)) (ce6 rfl) rfl ?_
  refine r_getN (T := TX5) (n := 1) F uw5 rfl rfl tw_132 (Or.inl rfl) dX7_place_9 (kd_lt (rfl : kd 1 = (4,0,0)) (by decide)) (ce4 rfl) rfl ?_
  rw [c0]
  refine r_callS2v F fMX7_needUpTo tw_544 rfl dX7_place_12 rfl rfl z0 (m7_needUpTo g hb (by omega)) ?_
  refine r_iload_n F dX7_place_15 rfl ?_
  refine r_iconst (x := 1) F dX7_place_16 rfl ?_
  refine r_callS2v F fMX7_needUpTo tw_544 rfl dX7_place_17 rfl rfl z0 (m7_needUpTo g hs (by decide)) ?_
  refine r_aload_n F dX7_place_20 rfl ?_
  refine r_get (x := .ref (gB G 64)) (T := TX7) (n := 1) F uw7 rfl rfl tw_275 (Or.inl rfl) dX7_place_21 (kd_lt (rfl : kd 0 = (6,0,0)) (by decide)) (ce6 rfl) rfl ?_
  refine r_aload_n F dX7_place_24 rfl ?_
  refine r_get (x := .ref (gB G 1)) (T := TX7) (n := 0) F uw7 rfl rfl tw_274 (Or.inl rfl) dX7_place_25 (kd_lt (rfl : kd 0 = (6,0,0)) (by decide)) (ce6 rfl) rfl ?_
  refine r_callN1w F fMX4_push tw_304 rfl rfl rfl rfl dX7_place_28 rfl rfl z0 (m4_push g h.1 w.1 h.2.1.1) ?_
  rintro v1 L1 ⟨rfl, f1, f2⟩
  have hi := ip_of h f1 f2
  have hr := hi.1
  obtain ⟨a1, a2, a3, a4, a5, a6, a7, a8, a9, a10, a11, a12, -⟩ := hi.1
  refine r_aload_n F dX7_place_31 rfl ?_
  refine r_get (x := .ref (gB G 1)) (T := TX7) (n := 0) F uw7 rfl rfl tw_274 (Or.inl rfl) dX7_place_32 (kd_lt (rfl : kd 0 = (6,0,0)) (by decide)) (ce6 rfl) rfl ?_
  refine r_iload_n F dX7_place_35 rfl ?_
  refine r_putN (T := TX5) (n := 3) (ty0 := tyX5) (ty := .int) F uw5 tyX5_ok nmX5 rfl rfl tw_138 (Or.inl rfl) rfl rfl rfl rfl dX7_place_36 (kd_lt (rfl : kd 1 = (4,0,0)) (by decide)) (ce4 rfl) rfl (pe4_3 rfl) up2_ce ?_
  refine r_aload_n F dX7_place_39 rfl ?_
  refine r_get (x := .ref (gB G 1)) (T := TX7) (n := 0) F uw7 rfl rfl tw_274 (Or.inl rfl) dX7_place_40 (kd_lt (rfl : kd 0 = (6,0,0)) (by decide)) (ce6 rfl) rfl ?_
  refine r_iload_n F dX7_place_43 rfl ?_
  refine r_putN (T := TX5) (n := 4) (ty0 := tyX5) (ty := .int) F uw5 tyX5_ok nmX5 rfl rfl tw_140 (Or.inl rfl) rfl rfl rfl rfl dX7_place_44 (kd_lt (rfl : kd 1 = (4,0,0)) (by decide)) (ce4 rfl) rfl (pe4_4 rfl) up2_ce ?_
  refine r_aload_n F dX7_place_47 rfl ?_
  refine r_get (x := .ref (gB G 1)) (T := TX7) (n := 0) F uw7 rfl rfl tw_274 (Or.inl rfl) dX7_place_48 (kd_lt (rfl : kd 0 = (6,0,0)) (by decide)) (ce6 rfl) rfl ?_
  refine r_iload_n F dX7_place_51 rfl ?_
  refine r_putN (T := TX5) (n := 5) (ty0 := tyX5) (ty := .int) F uw5 tyX5_ok nmX5 rfl rfl tw_142 (Or.inl rfl) rfl rfl rfl rfl dX7_place_52 (kd_lt (rfl : kd 1 = (4,0,0)) (by decide)) (ce4 rfl) rfl (pe4_5 rfl) up2_ce ?_
  refine r_aload_n F dX7_place_55 rfl ?_
  refine r_get (x := .ref (gB G 1)) (T := TX7) (n := 0) F uw7 rfl rfl tw_274 (Or.inl rfl) dX7_place_56 (kd_lt (rfl : kd 0 = (6,0,0)) (by decide)) (ce6 rfl) rfl ?_
  refine r_iconst (x := 4294967295) F dX7_place_59 rfl ?_
  refine r_putN (T := TX5) (n := 6) (ty0 := tyX5) (ty := .int) F uw5 tyX5_ok nmX5 rfl rfl tw_145 (Or.inl rfl) rfl rfl rfl rfl dX7_place_60 (kd_lt (rfl : kd 1 = (4,0,0)) (by decide)) (ce4 rfl) rfl (pe4_6 rfl) up2_ce ?_
  obtain ⟨v2, hv2⟩ : ∃ v2, v2 = up2 (up2 (up2 (up2 v1 1 3 p) 1 4 b) 1 5 st) 1 6 4294967295 := ⟨_, rfl⟩
  have hr2 : RSt 1 v2 (placeS (sS a) p b st) := by
    rw [hv2]
    refine hr.cell ?_ ?_ ?_ ?_ ?_ ?_ ?_ ?_ ?_ ?_ ?_ ?_ (fun k k1 k2 => ?_) (fun j hj => placeS_hi _ _ _ _ hj)
    · simpa [up2, placeS, upN] using a1
    · simpa [up2, placeS, upN] using a2
    · simp [up2, placeS, upN]
    · simp [up2, placeS, upN]
    · simp [up2, placeS, upN]
    · simp [up2, placeS, upN, bq]
    · simpa [up2, placeS, upN] using a7
    · simpa [up2, placeS, upN] using a8
    · simpa [up2, placeS, upN] using a9
    · simpa [up2, placeS, upN] using a10
    · simpa [up2, placeS, upN] using a11
    · simpa [up2, placeS, upN] using a12
    · rw [up2_k _ (by omega), up2_k _ (by omega), up2_k _ (by omega), up2_k _ (by omega)]
  have ho : ∀ k, 8 ≤ k → v2 k = v1 k := fun k hk => by rw [hv2, up2_k _ (by omega), up2_k _ (by omega), up2_k _ (by omega), up2_k _ (by omega)]
  rw [← hv2]
  refine r_aload_n F dX7_place_63 rfl ?_
  refine r_get (x := .ref (gB G 1)) (T := TX7) (n := 0) F uw7 rfl rfl tw_274 (Or.inl rfl) dX7_place_64 (kd_lt (rfl : kd 0 = (6,0,0)) (by decide)) (ce6 rfl) rfl ?_
  refine r_callN0i F fMX5_isOver tw_348 rfl rfl rfl rfl dX7_place_67 rfl rfl z0 (m5_isOver g st1 hr2 (w.1.place hp hb hs)) ?_
  refine r_Beq F dX7_place_70 (fun h70 => ?_) (fun h70 => ?_)
  · refine r_iconst (x := 0) F dX7_place_77 rfl ?_
    exact r_iret F rfl rfl dX7_place_78 ⟨_, rfl, by rw [eo] at h70; rw [h70]; rfl, rfl, hi.to hr2 ho (placeS_b _ _ _ _)⟩
  · refine r_iconst (x := 1) F dX7_place_73 rfl ?_
    refine r_goto F dX7_place_74 ?_
    exact r_iret F rfl rfl dX7_place_78 ⟨_, rfl, by rw [eo] at h70; rw [h70]; rfl, rfl, hi.to hr2 ho (placeS_b _ _ _ _)⟩
set_option maxHeartbeats 4000000 in
theorem x7_place1 {G : GT} {v : VV} {L : LL} {Φ : VV → LL → Prop} (g : GH G) {x y z : Int32} (hx : oor x 7) (h : Φ v L) : CX G MX7_place [.ref (gB G 0), .int x, .int y, .int z] v L eIX Φ := by
  refine cx_of g [some (.ref (gB G 0)), some (.int x), some (.int y), some (.int z)] rfl rfl rfl rfl (fun K F he => ?_)
  refine r_iload_n F dX7_place_0 rfl ?_
  exact r_outS1 F he fMX7_needPosition tw_623 rfl dX7_place_1 rfl rfl (x7_needPosition g hx h)
set_option maxHeartbeats 4000000 in
theorem x7_place2 {G : GT} {v : VV} {L : LL} {Φ : VV → LL → Prop} {a : AS} (g : GH G) (hi : IC v a) (w : WA a) {p : Nat} {y z : Int32} (hp : p < 8) (hx : oor y (sS a 0)) (h : Φ v L) : CX G MX7_place [.ref (gB G 0), .int (nI p), .int y, .int z] v L eIA Φ := by
  refine cx_of g [some (.ref (gB G 0)), some (.int (nI p)), some (.int y), some (.int z)] rfl rfl rfl rfl (fun K F he => ?_)
  have c0 : v 1 1 = sS a 0 := hi.1.1
  refine r_iload_n F dX7_place_0 rfl ?_
  refine r_callS1v F fMX7_needPosition tw_623 rfl dX7_place_1 rfl rfl z16 (m7_needPosition g (p := p) (by omega)) ?_
  refine r_iload_n F dX7_place_4 rfl ?_
  refine r_aload_n F dX7_place_5 rfl ?_
  refine r_get (x := .ref (gB G 1)) (T := TX7) (n := 0) F uw7 rfl rfl tw_274 (Or.inl rfl) dX7_place_6 (kd_lt (rfl : kd 0 = (6,0,0)) (by decide)) (ce6 rfl) rfl ?_
  refine r_getN (T := TX5) (n := 1) F uw5 rfl rfl tw_132 (Or.inl rfl) dX7_place_9 (kd_lt (rfl : kd 1 = (4,0,0)) (by decide)) (ce4 rfl) rfl ?_
  rw [c0]
  exact r_outS2 F he fMX7_needUpTo tw_544 rfl dX7_place_12 rfl rfl (x7_needUpTo g hx h)
set_option maxHeartbeats 4000000 in
theorem x7_place3 {G : GT} {v : VV} {L : LL} {Φ : VV → LL → Prop} {a : AS} (g : GH G) (hi : IC v a) (w : WA a) {p b : Nat} {z : Int32} (hp : p < 8) (hb : b ≤ sS a 0) (hx : oor z 1) (h : Φ v L) : CX G MX7_place [.ref (gB G 0), .int (nI p), .int (nI b), .int z] v L eIA Φ := by
  refine cx_of g [some (.ref (gB G 0)), some (.int (nI p)), some (.int (nI b)), some (.int z)] rfl rfl rfl rfl (fun K F he => ?_)
  have w0 : sS a 0 ≤ 20 := w.1.1
  have c0 : v 1 1 = sS a 0 := hi.1.1
  refine r_iload_n F dX7_place_0 rfl ?_
  refine r_callS1v F fMX7_needPosition tw_623 rfl dX7_place_1 rfl rfl z16 (m7_needPosition g (p := p) (by omega)) ?_
  refine r_iload_n F dX7_place_4 rfl ?_
  refine r_aload_n F dX7_place_5 rfl ?_
  refine r_get (x := .ref (gB G 1)) (T := TX7) (n := 0) F uw7 rfl rfl tw_274 (Or.inl rfl) dX7_place_6 (kd_lt (rfl : kd 0 = (6,0,0)) (by decide)) (ce6 rfl) rfl ?_
  refine r_getN (T := TX5) (n := 1) F uw5 rfl rfl tw_132 (Or.inl rfl) dX7_place_9 (kd_lt (rfl : kd 1 = (4,0,0)) (by decide)) (ce4 rfl) rfl ?_
  rw [c0]
  refine r_callS2v F fMX7_needUpTo tw_544 rfl dX7_place_12 rfl rfl z16 (m7_needUpTo g hb (by omega)) ?_
  refine r_iload_n F dX7_place_15 rfl ?_
  refine r_iconst (x := 1) F dX7_place_16 rfl ?_
  exact r_outS2 F he fMX7_needUpTo tw_544 rfl dX7_place_17 rfl rfl (x7_needUpTo g (n := 1) hx h)
/-- the reason against two bids; 0: none -/
def rbN (S : Nat → Nat) (x y : Int32) : Nat := if ovr S (S 4) = true then 1 else if S 5 ≠ 0 then 2 else if x < 0 ∨ y < 0 then 3 else if nI (bud S 0) < x ∨ nI (bud S 1) < y then 4 else 0
set_option maxHeartbeats 8000000 in
theorem m7_reasonAgainstBids {G : GT} {v : VV} {L : LL} {S : Nat → Nat} (g : GH G) (h : RSt 1 v S) (w : WS S) (x y : Int32) : CC G MX7_reasonAgainstBids [.ref (gB G 0), .int x, .int y] v L (rI (rbN S x y) v L) := by
  refine cc_of g [some (.ref (gB G 0)), some (.int x), some (.int y)] rfl rfl rfl rfl (fun K F => ?_)
  have e6 : v 1 6 = bq (S 5) := h.2.2.2.2.2.1
  have w5 : S 5 ≤ 2 := w.2.2.2.2.2.1
  refine r_aload_n F dX7_reasonAgainstBids_0 rfl ?_
  refine r_get (x := .ref (gB G 1)) (T := TX7) (n := 0) F uw7 rfl rfl tw_274 (Or.inl rfl) dX7_reasonAgainstBids_1 (kd_lt (rfl : kd 0 = (6,0,0)) (by decide)) (ce6 rfl) rfl ?_
  refine r_callN0i F fMX5_isOver tw_348 rfl rfl rfl rfl dX7_reasonAgainstBids_4 rfl rfl z0 (m5_isOver g st1 h w) ?_
  refine r_Beq F dX7_reasonAgainstBids_7 (fun h7 => ?_) (fun h7 => ?_)
  · refine r_aload_n F dX7_reasonAgainstBids_12 rfl ?_
    refine r_get (x := .ref (gB G 1)) (T := TX7) (n := 0) F uw7 rfl rfl tw_274 (Or.inl rfl) dX7_reasonAgainstBids_13 (kd_lt (rfl : kd 0 = (6,0,0)) (by decide)) (ce6 rfl) rfl ?_
    refine r_getN (T := TX5) (n := 6) F uw5 rfl rfl tw_145 (Or.inl rfl) dX7_reasonAgainstBids_16 (kd_lt (rfl : kd 1 = (4,0,0)) (by decide)) (ce4 rfl) rfl ?_
    refine R_iconst (x := -1) F dX7_reasonAgainstBids_19 rfl ?_
    rw [e6]
    refine R_iceq F dX7_reasonAgainstBids_20 (fun h20 => ?_) (fun h20 => ?_)
    · refine r_iload_n F dX7_reasonAgainstBids_25 rfl ?_
      refine R_iflt F dX7_reasonAgainstBids_26 (fun h26 => ?_) (fun h26 => ?_)
      · refine r_iconst (x := 3) F dX7_reasonAgainstBids_33 rfl ?_
        refine i_iret F rfl dX7_reasonAgainstBids_34 ?_ rfl rfl
        unfold rbN
        first
          | (rw [if_pos h7]; done)
          | (rw [if_neg (by rw [h7]; decide), if_pos (fun z => h20 ((nI_bq w5).mpr z))]; done)
          | (rw [if_neg (by rw [h7]; decide), if_neg (fun z => z ((nI_bq w5).mp h20)), if_pos (Or.inl h26)]; done)
          | (rw [if_neg (by rw [h7]; decide), if_neg (fun z => z ((nI_bq w5).mp h20)), if_pos (Or.inr (Int32.not_le.mp h30))]; done)
          | (rw [if_neg (by rw [h7]; decide), if_neg (fun z => z ((nI_bq w5).mp h20)), if_neg (fun z => z.elim h26 (fun z => Int32.not_le.mpr z h30)), if_pos (Or.inl h44)]; done)
          | (rw [if_neg (by rw [h7]; decide), if_neg (fun z => z ((nI_bq w5).mp h20)), if_neg (fun z => z.elim h26 (fun z => Int32.not_le.mpr z h30)), if_pos (Or.inr (Int32.not_le.mp h56))]; done)
          | (rw [if_neg (by rw [h7]; decide), if_neg (fun z => z ((nI_bq w5).mp h20)), if_neg (fun z => z.elim h26 (fun z => Int32.not_le.mpr z h30)), if_neg (fun z => z.elim h44 (fun z => Int32.not_le.mpr z h56))]; done)
      · refine r_iload_n F dX7_reasonAgainstBids_29 rfl ?_
        refine R_ifge F dX7_reasonAgainstBids_30 (fun h30 => ?_) (fun h30 => ?_)
        · refine r_iload_n F dX7_reasonAgainstBids_35 rfl ?_
          refine r_aload_n F dX7_reasonAgainstBids_36 rfl ?_
          refine r_get (x := .ref (gB G 1)) (T := TX7) (n := 0) F uw7 rfl rfl tw_274 (Or.inl rfl) dX7_reasonAgainstBids_37 (kd_lt (rfl : kd 0 = (6,0,0)) (by decide)) (ce6 rfl) rfl ?_
          refine r_iconst (x := 0) F dX7_reasonAgainstBids_40 rfl ?_
          refine r_callN1i F fMX5_budgetOf tw_356 rfl rfl rfl rfl dX7_reasonAgainstBids_41 rfl rfl z0 (m5_budgetOf g st1 h w (pl := 0) (by decide)) ?_
          refine R_icgt F dX7_reasonAgainstBids_44 (fun h44 => ?_) (fun h44 => ?_)
          · refine r_iconst (x := 4) F dX7_reasonAgainstBids_59 rfl ?_
            refine r_goto F dX7_reasonAgainstBids_60 ?_
            refine i_iret F rfl dX7_reasonAgainstBids_64 ?_ rfl rfl
            unfold rbN
            first
              | (rw [if_pos h7]; done)
              | (rw [if_neg (by rw [h7]; decide), if_pos (fun z => h20 ((nI_bq w5).mpr z))]; done)
              | (rw [if_neg (by rw [h7]; decide), if_neg (fun z => z ((nI_bq w5).mp h20)), if_pos (Or.inl h26)]; done)
              | (rw [if_neg (by rw [h7]; decide), if_neg (fun z => z ((nI_bq w5).mp h20)), if_pos (Or.inr (Int32.not_le.mp h30))]; done)
              | (rw [if_neg (by rw [h7]; decide), if_neg (fun z => z ((nI_bq w5).mp h20)), if_neg (fun z => z.elim h26 (fun z => Int32.not_le.mpr z h30)), if_pos (Or.inl h44)]; done)
              | (rw [if_neg (by rw [h7]; decide), if_neg (fun z => z ((nI_bq w5).mp h20)), if_neg (fun z => z.elim h26 (fun z => Int32.not_le.mpr z h30)), if_pos (Or.inr (Int32.not_le.mp h56))]; done)
              | (rw [if_neg (by rw [h7]; decide), if_neg (fun z => z ((nI_bq w5).mp h20)), if_neg (fun z => z.elim h26 (fun z => Int32.not_le.mpr z h30)), if_neg (fun z => z.elim h44 (fun z => Int32.not_le.mpr z h56))]; done)
          · refine r_iload_n F dX7_reasonAgainstBids_47 rfl ?_
            refine r_aload_n F dX7_reasonAgainstBids_48 rfl ?_
            refine r_get (x := .ref (gB G 1)) (T := TX7) (n := 0) F uw7 rfl rfl tw_274 (Or.inl rfl) dX7_reasonAgainstBids_49 (kd_lt (rfl : kd 0 = (6,0,0)) (by decide)) (ce6 rfl) rfl ?_
            refine r_iconst (x := 1) F dX7_reasonAgainstBids_52 rfl ?_
            refine r_callN1i F fMX5_budgetOf tw_356 rfl rfl rfl rfl dX7_reasonAgainstBids_53 rfl rfl z0 (m5_budgetOf g st1 h w (pl := 1) (by decide)) ?_
            refine R_icle F dX7_reasonAgainstBids_56 (fun h56 => ?_) (fun h56 => ?_)
            · refine r_iconst (x := 0) F dX7_reasonAgainstBids_63 rfl ?_
              refine i_iret F rfl dX7_reasonAgainstBids_64 ?_ rfl rfl
              unfold rbN
              first
                | (rw [if_pos h7]; done)
                | (rw [if_neg (by rw [h7]; decide), if_pos (fun z => h20 ((nI_bq w5).mpr z))]; done)
                | (rw [if_neg (by rw [h7]; decide), if_neg (fun z => z ((nI_bq w5).mp h20)), if_pos (Or.inl h26)]; done)
                | (rw [if_neg (by rw [h7]; decide), if_neg (fun z => z ((nI_bq w5).mp h20)), if_pos (Or.inr (Int32.not_le.mp h30))]; done)
                | (rw [if_neg (by rw [h7]; decide), if_neg (fun z => z ((nI_bq w5).mp h20)), if_neg (fun z => z.elim h26 (fun z => Int32.not_le.mpr z h30)), if_pos (Or.inl h44)]; done)
                | (rw [if_neg (by rw [h7]; decide), if_neg (fun z => z ((nI_bq w5).mp h20)), if_neg (fun z => z.elim h26 (fun z => Int32.not_le.mpr z h30)), if_pos (Or.inr (Int32.not_le.mp h56))]; done)
                | (rw [if_neg (by rw [h7]; decide), if_neg (fun z => z ((nI_bq w5).mp h20)), if_neg (fun z => z.elim h26 (fun z => Int32.not_le.mpr z h30)), if_neg (fun z => z.elim h44 (fun z => Int32.not_le.mpr z h56))]; done)
            · refine r_iconst (x := 4) F dX7_reasonAgainstBids_59 rfl ?_
              refine r_goto F dX7_reasonAgainstBids_60 ?_
              refine i_iret F rfl dX7_reasonAgainstBids_64 ?_ rfl rfl
              unfold rbN
              first
                | (rw [if_pos h7]; done)
                | (rw [if_neg (by rw [h7]; decide), if_pos (fun z => h20 ((nI_bq w5).mpr z))]; done)
                | (rw [if_neg (by rw [h7]; decide), if_neg (fun z => z ((nI_bq w5).mp h20)), if_pos (Or.inl h26)]; done)
                | (rw [if_neg (by rw [h7]; decide), if_neg (fun z => z ((nI_bq w5).mp h20)), if_pos (Or.inr (Int32.not_le.mp h30))]; done)
                | (rw [if_neg (by rw [h7]; decide), if_neg (fun z => z ((nI_bq w5).mp h20)), if_neg (fun z => z.elim h26 (fun z => Int32.not_le.mpr z h30)), if_pos (Or.inl h44)]; done)
                | (rw [if_neg (by rw [h7]; decide), if_neg (fun z => z ((nI_bq w5).mp h20)), if_neg (fun z => z.elim h26 (fun z => Int32.not_le.mpr z h30)), if_pos (Or.inr (Int32.not_le.mp h56))]; done)
                | (rw [if_neg (by rw [h7]; decide), if_neg (fun z => z ((nI_bq w5).mp h20)), if_neg (fun z => z.elim h26 (fun z => Int32.not_le.mpr z h30)), if_neg (fun z => z.elim h44 (fun z => Int32.not_le.mpr z h56))]; done)
        · refine r_iconst (x := 3) F dX7_reasonAgainstBids_33 rfl ?_
          refine i_iret F rfl dX7_reasonAgainstBids_34 ?_ rfl rfl
          unfold rbN
          first
            | (rw [if_pos h7]; done)
            | (rw [if_neg (by rw [h7]; decide), if_pos (fun z => h20 ((nI_bq w5).mpr z))]; done)
            | (rw [if_neg (by rw [h7]; decide), if_neg (fun z => z ((nI_bq w5).mp h20)), if_pos (Or.inl h26)]; done)
            | (rw [if_neg (by rw [h7]; decide), if_neg (fun z => z ((nI_bq w5).mp h20)), if_pos (Or.inr (Int32.not_le.mp h30))]; done)
            | (rw [if_neg (by rw [h7]; decide), if_neg (fun z => z ((nI_bq w5).mp h20)), if_neg (fun z => z.elim h26 (fun z => Int32.not_le.mpr z h30)), if_pos (Or.inl h44)]; done)
            | (rw [if_neg (by rw [h7]; decide), if_neg (fun z => z ((nI_bq w5).mp h20)), if_neg (fun z => z.elim h26 (fun z => Int32.not_le.mpr z h30)), if_pos (Or.inr (Int32.not_le.mp h56))]; done)
            | (rw [if_neg (by rw [h7]; decide), if_neg (fun z => z ((nI_bq w5).mp h20)), if_neg (fun z => z.elim h26 (fun z => Int32.not_le.mpr z h30)), if_neg (fun z => z.elim h44 (fun z => Int32.not_le.mpr z h56))]; done)
    · refine r_iconst (x := 2) F dX7_reasonAgainstBids_23 rfl ?_
      refine i_iret F rfl dX7_reasonAgainstBids_24 ?_ rfl rfl
      unfold rbN
      first
        | (rw [if_pos h7]; done)
        | (rw [if_neg (by rw [h7]; decide), if_pos (fun z => h20 ((nI_bq w5).mpr z))]; done)
        | (rw [if_neg (by rw [h7]; decide), if_neg (fun z => z ((nI_bq w5).mp h20)), if_pos (Or.inl h26)]; done)
        | (rw [if_neg (by rw [h7]; decide), if_neg (fun z => z ((nI_bq w5).mp h20)), if_pos (Or.inr (Int32.not_le.mp h30))]; done)
        | (rw [if_neg (by rw [h7]; decide), if_neg (fun z => z ((nI_bq w5).mp h20)), if_neg (fun z => z.elim h26 (fun z => Int32.not_le.mpr z h30)), if_pos (Or.inl h44)]; done)
        | (rw [if_neg (by rw [h7]; decide), if_neg (fun z => z ((nI_bq w5).mp h20)), if_neg (fun z => z.elim h26 (fun z => Int32.not_le.mpr z h30)), if_pos (Or.inr (Int32.not_le.mp h56))]; done)
        | (rw [if_neg (by rw [h7]; decide), if_neg (fun z => z ((nI_bq w5).mp h20)), if_neg (fun z => z.elim h26 (fun z => Int32.not_le.mpr z h30)), if_neg (fun z => z.elim h44 (fun z => Int32.not_le.mpr z h56))]; done)
  · refine r_iconst (x := 1) F dX7_reasonAgainstBids_10 rfl ?_
    refine i_iret F rfl dX7_reasonAgainstBids_11 ?_ rfl rfl
    unfold rbN
    first
      | (rw [if_pos h7]; done)
      | (rw [if_neg (by rw [h7]; decide), if_pos (fun z => h20 ((nI_bq w5).mpr z))]; done)
      | (rw [if_neg (by rw [h7]; decide), if_neg (fun z => z ((nI_bq w5).mp h20)), if_pos (Or.inl h26)]; done)
      | (rw [if_neg (by rw [h7]; decide), if_neg (fun z => z ((nI_bq w5).mp h20)), if_pos (Or.inr (Int32.not_le.mp h30))]; done)
      | (rw [if_neg (by rw [h7]; decide), if_neg (fun z => z ((nI_bq w5).mp h20)), if_neg (fun z => z.elim h26 (fun z => Int32.not_le.mpr z h30)), if_pos (Or.inl h44)]; done)
      | (rw [if_neg (by rw [h7]; decide), if_neg (fun z => z ((nI_bq w5).mp h20)), if_neg (fun z => z.elim h26 (fun z => Int32.not_le.mpr z h30)), if_pos (Or.inr (Int32.not_le.mp h56))]; done)
      | (rw [if_neg (by rw [h7]; decide), if_neg (fun z => z ((nI_bq w5).mp h20)), if_neg (fun z => z.elim h26 (fun z => Int32.not_le.mpr z h30)), if_neg (fun z => z.elim h44 (fun z => Int32.not_le.mpr z h56))]; done)
def rmN (S : Nat → Nat) (to : Int32) : Nat := if ovr S (S 4) = true then 1 else if S 5 = 0 then 2 else if hm S (S 4) to = true then 0 else 3
set_option maxHeartbeats 8000000 in
theorem m7_reasonAgainstMove {G : GT} {v : VV} {L : LL} {S : Nat → Nat} (g : GH G) (h : RSt 1 v S) (w : WS S) (to : Int32) : CC G MX7_reasonAgainstMove [.ref (gB G 0), .int to] v L (rI (rmN S to) v L) := by
  refine cc_of g [some (.ref (gB G 0)), some (.int to)] rfl rfl rfl rfl (fun K F => ?_)
  have e6 : v 1 6 = bq (S 5) := h.2.2.2.2.2.1
  have e3 : v 1 3 = S 4 := h.2.2.1
  have w5 : S 5 ≤ 2 := w.2.2.2.2.2.1
  have w4 : S 4 < 8 := w.2.2.2.2.1
  refine r_aload_n F dX7_reasonAgainstMove_0 rfl ?_
  refine r_get (x := .ref (gB G 1)) (T := TX7) (n := 0) F uw7 rfl rfl tw_274 (Or.inl rfl) dX7_reasonAgainstMove_1 (kd_lt (rfl : kd 0 = (6,0,0)) (by decide)) (ce6 rfl) rfl ?_
  refine r_callN0i F fMX5_isOver tw_348 rfl rfl rfl rfl dX7_reasonAgainstMove_4 rfl rfl z0 (m5_isOver g st1 h w) ?_
  refine r_Beq F dX7_reasonAgainstMove_7 (fun h7 => ?_) (fun h7 => ?_)
  · refine r_aload_n F dX7_reasonAgainstMove_12 rfl ?_
    refine r_get (x := .ref (gB G 1)) (T := TX7) (n := 0) F uw7 rfl rfl tw_274 (Or.inl rfl) dX7_reasonAgainstMove_13 (kd_lt (rfl : kd 0 = (6,0,0)) (by decide)) (ce6 rfl) rfl ?_
    refine r_getN (T := TX5) (n := 6) F uw5 rfl rfl tw_145 (Or.inl rfl) dX7_reasonAgainstMove_16 (kd_lt (rfl : kd 1 = (4,0,0)) (by decide)) (ce4 rfl) rfl ?_
    refine R_iconst (x := -1) F dX7_reasonAgainstMove_19 rfl ?_
    rw [e6]
    refine R_icne F dX7_reasonAgainstMove_20 (fun h20 => ?_) (fun h20 => ?_)
    · refine r_aload_n F dX7_reasonAgainstMove_25 rfl ?_
      refine r_get (x := .ref (gB G 1)) (T := TX7) (n := 0) F uw7 rfl rfl tw_274 (Or.inl rfl) dX7_reasonAgainstMove_26 (kd_lt (rfl : kd 0 = (6,0,0)) (by decide)) (ce6 rfl) rfl ?_
      refine r_getN (x := .ref (gB G 2)) (T := TX5) (n := 0) F uw5 rfl rfl tw_129 (Or.inl rfl) dX7_reasonAgainstMove_29 (kd_lt (rfl : kd 1 = (4,0,0)) (by decide)) (ce4 rfl) rfl ?_
      refine r_aload_n F dX7_reasonAgainstMove_32 rfl ?_
      refine r_get (x := .ref (gB G 1)) (T := TX7) (n := 0) F uw7 rfl rfl tw_274 (Or.inl rfl) dX7_reasonAgainstMove_33 (kd_lt (rfl : kd 0 = (6,0,0)) (by decide)) (ce6 rfl) rfl ?_
      refine r_getN (T := TX5) (n := 3) F uw5 rfl rfl tw_138 (Or.inl rfl) dX7_reasonAgainstMove_36 (kd_lt (rfl : kd 1 = (4,0,0)) (by decide)) (ce4 rfl) rfl ?_
      refine r_iload_n F dX7_reasonAgainstMove_39 rfl ?_
      rw [e3]
      refine r_callN2i F fMX0_hasMove tw_375 rfl rfl rfl rfl dX7_reasonAgainstMove_40 rfl rfl z0 (m0_hasMove g bd2 h.b w.b w4 to) ?_
      refine r_Beq F dX7_reasonAgainstMove_43 (fun h43 => ?_) (fun h43 => ?_)
      · refine r_iconst (x := 3) F dX7_reasonAgainstMove_50 rfl ?_
        refine i_iret F rfl dX7_reasonAgainstMove_51 ?_ rfl rfl
        unfold rmN
        first
          | (rw [if_pos h7]; done)
          | (rw [if_neg (by rw [h7]; decide), if_pos ((nI_bq w5).mp h20)]; done)
          | (rw [if_neg (by rw [h7]; decide), if_neg (fun z => h20 ((nI_bq w5).mpr z)), if_pos h43]; done)
          | (rw [if_neg (by rw [h7]; decide), if_neg (fun z => h20 ((nI_bq w5).mpr z)), if_neg (by rw [h43]; decide)]; done)
      · refine r_iconst (x := 0) F dX7_reasonAgainstMove_46 rfl ?_
        refine r_goto F dX7_reasonAgainstMove_47 ?_
        refine i_iret F rfl dX7_reasonAgainstMove_51 ?_ rfl rfl
        unfold rmN
        first
          | (rw [if_pos h7]; done)
          | (rw [if_neg (by rw [h7]; decide), if_pos ((nI_bq w5).mp h20)]; done)
          | (rw [if_neg (by rw [h7]; decide), if_neg (fun z => h20 ((nI_bq w5).mpr z)), if_pos h43]; done)
          | (rw [if_neg (by rw [h7]; decide), if_neg (fun z => h20 ((nI_bq w5).mpr z)), if_neg (by rw [h43]; decide)]; done)
    · refine r_iconst (x := 2) F dX7_reasonAgainstMove_23 rfl ?_
      refine i_iret F rfl dX7_reasonAgainstMove_24 ?_ rfl rfl
      unfold rmN
      first
        | (rw [if_pos h7]; done)
        | (rw [if_neg (by rw [h7]; decide), if_pos ((nI_bq w5).mp h20)]; done)
        | (rw [if_neg (by rw [h7]; decide), if_neg (fun z => h20 ((nI_bq w5).mpr z)), if_pos h43]; done)
        | (rw [if_neg (by rw [h7]; decide), if_neg (fun z => h20 ((nI_bq w5).mpr z)), if_neg (by rw [h43]; decide)]; done)
  · refine r_iconst (x := 1) F dX7_reasonAgainstMove_10 rfl ?_
    refine i_iret F rfl dX7_reasonAgainstMove_11 ?_ rfl rfl
    unfold rmN
    first
      | (rw [if_pos h7]; done)
      | (rw [if_neg (by rw [h7]; decide), if_pos ((nI_bq w5).mp h20)]; done)
      | (rw [if_neg (by rw [h7]; decide), if_neg (fun z => h20 ((nI_bq w5).mpr z)), if_pos h43]; done)
      | (rw [if_neg (by rw [h7]; decide), if_neg (fun z => h20 ((nI_bq w5).mpr z)), if_neg (by rw [h43]; decide)]; done)
def buyer (S : Nat → Nat) (b o : Nat) : Nat := if b = o then S 3 else if o < b then 0 else 1
def bidT (S : Nat → Nat) (b o : Nat) : Nat → Nat := if b = o then upN (upN S 10 (S 10 + 1)) 3 (1 - S 3) else S
/-- the buyer pl pays pr -/
def buyS (S : Nat → Nat) (pl pr : Nat) : Nat → Nat := upN (upN (upN (upN S 2 (if pl = 0 then S 2 - pr else S 2 + pr)) (6 + pl) (S (6 + pl) + 1)) (8 + pl) (S (8 + pl) + pr)) 5 (pl + 1)
def mxN (b o : Nat) : Nat := if b < o then o else b
def bidS (S : Nat → Nat) (b o : Nat) : Nat → Nat := buyS (bidT S b o) (buyer S b o) (mxN b o)
theorem buyS_hi (S : Nat → Nat) {pl : Nat} (hp : pl < 2) (pr : Nat) {j : Nat} (h : 12 ≤ j) : buyS S pl pr j = S j := by unfold buyS; rw [upN_n _ _ (by omega), upN_n _ _ (by omega), upN_n _ _ (by omega), upN_n _ _ (by omega)]
theorem bidT_hi (S : Nat → Nat) (b o : Nat) {j : Nat} (h : 12 ≤ j) : bidT S b o j = S j := by
  unfold bidT
  split
  · rw [upN_n _ _ (by omega), upN_n _ _ (by omega)]
  · rfl
theorem bidT_lo (S : Nat → Nat) (b o : Nat) {j : Nat} (h : j ≠ 10) (h3 : j ≠ 3) : bidT S b o j = S j := by
  unfold bidT
  split
  · rw [upN_n _ _ h3, upN_n _ _ h]
  · rfl
theorem buyer_lt {S : Nat → Nat} (w : WS S) (b o : Nat) : buyer S b o < 2 := by
  have := w.2.2.2.1
  unfold buyer
  split
  · omega
  · split <;> omega
theorem buyer_pay {S : Nat → Nat} (w : WS S) {b o : Nat} (hb : b ≤ bud S 0) (ho : o ≤ bud S 1) : (buyer S b o = 0 → mxN b o ≤ S 2) ∧ (buyer S b o ≠ 0 → S 2 + mxN b o ≤ S 0) := by
  have hb : b ≤ S 2 := hb
  have ho : o ≤ S 0 - S 2 := ho
  have w2 := w.2.2.1
  unfold buyer mxN
  constructor
  · intro h
    split at h
    · split <;> omega
    · split at h
      · split <;> omega
      · omega
  · intro h
    split at h
    · split <;> omega
    · split at h
      · omega
      · split <;> omega
theorem bidS_b {S : Nat → Nat} (w : WS S) (b o : Nat) : sameB S (bidS S b o) := by
  refine ⟨?_, fun j hj => by unfold bidS; rw [buyS_hi _ (buyer_lt w b o) _ hj, bidT_hi _ _ _ hj]⟩
  unfold bidS buyS
  rw [upN_n _ _ (by decide), upN_n _ _ (by omega), upN_n _ _ (by omega), upN_n _ _ (by decide), bidT_lo _ _ _ (by decide) (by decide)]
theorem WS.buy {S : Nat → Nat} (w : WS S) {pl pr : Nat} (hp : pl < 2) (h0 : pl = 0 → pr ≤ S 2) (h1 : pl ≠ 0 → S 2 + pr ≤ S 0) : WS (buyS S pl pr) := by
  obtain ⟨w1, w2, w3, w4, w5, w6, w7⟩ := w
  have q : pl = 0 ∨ pl = 1 := by omega
  refine ⟨?_, ?_, ?_, ?_, ?_, ?_, w7.cell (fun j hj => buyS_hi S hp pr hj)⟩
  · rcases q with rfl | rfl <;> simpa [buyS, upN] using w1
  · rcases q with rfl | rfl <;> simpa [buyS, upN] using w2
  · rcases q with rfl | rfl
    · simp [buyS, upN]; omega
    · have := h1 (by decide)
      simp [buyS, upN]; omega
  · rcases q with rfl | rfl <;> simpa [buyS, upN] using w4
  · rcases q with rfl | rfl <;> simpa [buyS, upN] using w5
  · rcases q with rfl | rfl <;> simp [buyS, upN]
theorem WS.tie {S : Nat → Nat} (w : WS S) (b o : Nat) : WS (bidT S b o) := by
  obtain ⟨w1, w2, w3, w4, w5, w6, w7⟩ := w
  refine ⟨by rw [bidT_lo _ _ _ (by decide) (by decide)]; exact w1, by rw [bidT_lo _ _ _ (by decide) (by decide)]; exact w2, by rw [bidT_lo _ _ _ (by decide) (by decide), bidT_lo _ _ _ (by decide) (by decide)]; exact w3, ?_, by rw [bidT_lo _ _ _ (by decide) (by decide)]; exact w5, by rw [bidT_lo _ _ _ (by decide) (by decide)]; exact w6, w7.cell (fun j hj => bidT_hi S b o hj)⟩
  unfold bidT
  split
  · rw [upN_s]; omega
  · exact w4
theorem WS.bid {S : Nat → Nat} (w : WS S) {b o : Nat} (hb : b ≤ bud S 0) (ho : o ≤ bud S 1) : WS (bidS S b o) := by
  obtain ⟨p1, p2⟩ := buyer_pay w hb ho
  refine (w.tie b o).buy (buyer_lt w b o) ?_ ?_
  · rw [bidT_lo _ _ _ (by decide) (by decide)]; exact p1
  · rw [bidT_lo _ _ _ (by decide) (by decide), bidT_lo _ _ _ (by decide) (by decide)]; exact p2
/-- a refused call is counted -/
def refS (S : Nat → Nat) : Nat → Nat := upN S 11 (S 11 + 1)
theorem refS_b (S : Nat → Nat) : sameB S (refS S) := ⟨upN_n _ _ (by decide), fun j hj => upN_n _ _ (by omega)⟩
theorem WS.ref {S : Nat → Nat} (w : WS S) : WS (refS S) := by
  obtain ⟨w1, w2, w3, w4, w5, w6, w7⟩ := w
  exact ⟨by simpa [refS, upN] using w1, by simpa [refS, upN] using w2, by simpa [refS, upN] using w3, by simpa [refS, upN] using w4, by simpa [refS, upN] using w5, by simpa [refS, upN] using w6, w7.cell (fun j hj => upN_n _ _ (by omega))⟩
theorem RSt.ref {v : VV} {S : Nat → Nat} (h : RSt 1 v S) : RSt 1 (up2 v 1 10 (v 1 10 + 1)) (refS S) := by
  have h0 := h
  obtain ⟨a1, a2, a3, a4, a5, a6, a7, a8, a9, a10, a11, a12, -⟩ := h
  refine h0.cell ?_ ?_ ?_ ?_ ?_ ?_ ?_ ?_ ?_ ?_ ?_ ?_ (fun k k1 k2 => up2_k _ (by omega)) (fun j hj => upN_n _ _ (by omega))
  · simpa [up2, refS, upN] using a1
  · simpa [up2, refS, upN] using a2
  · simpa [up2, refS, upN] using a3
  · simpa [up2, refS, upN] using a4
  · simpa [up2, refS, upN] using a5
  · simpa [up2, refS, upN] using a6
  · simpa [up2, refS, upN] using a7
  · simp [up2, refS, upN, a8]
  · simpa [up2, refS, upN] using a9
  · simpa [up2, refS, upN] using a10
  · simpa [up2, refS, upN] using a11
  · simpa [up2, refS, upN] using a12
set_option maxHeartbeats 8000000 in
theorem m7_bidR {G : GT} {v : VV} {L : LL} {a : AS} (g : GH G) (h : IC v a) (w : WA a) {x y : Int32} (hn : rbN (sS a) x y ≠ 0) : CC G MX7_bid [.ref (gB G 0), .int x, .int y] v L (gI (PC v L (stA (svA a) (refS (sS a))) (nI (rbN (sS a) x y)))) := by
  refine cc_of g [some (.ref (gB G 0)), some (.int x), some (.int y), none, none] rfl rfl rfl rfl (fun K F => ?_)
  have hlt : rbN (sS a) x y < 5 := by unfold rbN; split; decide; split; decide; split; decide; split <;> decide
  refine r_aload_n F dX7_bid_0 rfl ?_
  refine r_get (x := .ref (gB G 64)) (T := TX7) (n := 1) F uw7 rfl rfl tw_275 (Or.inl rfl) dX7_bid_1 (kd_lt (rfl : kd 0 = (6,0,0)) (by decide)) (ce6 rfl) rfl ?_
  refine r_aload_n F dX7_bid_4 rfl ?_
  refine r_get (x := .ref (gB G 1)) (T := TX7) (n := 0) F uw7 rfl rfl tw_274 (Or.inl rfl) dX7_bid_5 (kd_lt (rfl : kd 0 = (6,0,0)) (by decide)) (ce6 rfl) rfl ?_
  refine r_callN1w F fMX4_push tw_304 rfl rfl rfl rfl dX7_bid_8 rfl rfl z0 (m4_push g h.1 w.1 h.2.1.1) ?_
  rintro v1 L1 ⟨rfl, f1, f2⟩
  have hi := ip_of h f1 f2
  refine r_aload_n F dX7_bid_11 rfl ?_
  refine r_iload_n F dX7_bid_12 rfl ?_
  refine r_iload_n F dX7_bid_13 rfl ?_
  refine r_callV2i F fMX7_reasonAgainstBids tw_344 rfl rfl rfl rfl dX7_bid_14 rfl rfl z0 (m7_reasonAgainstBids g hi.1 w.1 x y) ?_
  refine r_ist3 F dX7_bid_17 rfl rfl ?_
  refine r_iload_n F dX7_bid_18 rfl ?_
  refine r_ifeq F dX7_bid_19 (by omega) (fun h19 => ?_) (fun h19 => ?_)
  · exact absurd h19 hn
  · refine r_aload_n F dX7_bid_22 rfl ?_
    refine r_get (x := .ref (gB G 1)) (T := TX7) (n := 0) F uw7 rfl rfl tw_274 (Or.inl rfl) dX7_bid_23 (kd_lt (rfl : kd 0 = (6,0,0)) (by decide)) (ce6 rfl) rfl ?_
    refine r_dup F dX7_bid_26 rfl ?_
    refine r_getN (T := TX5) (n := 10) F uw5 rfl rfl tw_153 (Or.inl rfl) dX7_bid_27 (kd_lt (rfl : kd 1 = (4,0,0)) (by decide)) (ce4 rfl) rfl ?_
    refine r_iconst (x := 1) F dX7_bid_30 rfl ?_
    refine r_iadd F dX7_bid_31 ?_
    refine r_putN (T := TX5) (n := 10) (ty0 := tyX5) (ty := .int) F uw5 tyX5_ok nmX5 rfl rfl tw_153 (Or.inl rfl) rfl rfl rfl rfl dX7_bid_32 (kd_lt (rfl : kd 1 = (4,0,0)) (by decide)) (ce4 rfl) rfl (pe4_10 rfl) up2_ce ?_
    refine r_iload_n F dX7_bid_35 rfl ?_
    exact r_iret F rfl rfl dX7_bid_36 ⟨_, rfl, rfl, rfl, hi.to hi.1.ref (fun k hk => up2_k _ (by omega)) (refS_b _)⟩
theorem hm_to {S : Nat → Nat} (w : WB S) {p : Nat} (hp : p < 8) {to : Int32} (h : hm S p to = true) : ∃ q, q < 8 ∧ to = nI q := by
  unfold hm at h
  by_cases hx : ∃ i, i < S (13 + 6 * p) ∧ nI (S (14 + 6 * p + i)) = to
  · obtain ⟨i, hi, e⟩ := hx
    exact ⟨_, (w p hp).2.2 i hi, e.symm⟩
  · rw [anyB_no (fun i hi => by
      rw [decide_eq_false_iff_not]
      exact fun e => hx ⟨i, hi, e⟩)] at h
    cases h
def movS (S : Nat → Nat) (q : Nat) : Nat → Nat := upN (upN S 4 q) 5 0
theorem movS_b (S : Nat → Nat) (q : Nat) : sameB S (movS S q) := ⟨by simp [movS, upN], fun j hj => by unfold movS; rw [upN_n _ _ (by omega), upN_n _ _ (by omega)]⟩
theorem WS.mov {S : Nat → Nat} (w : WS S) {q : Nat} (hq : q < 8) : WS (movS S q) := by
  obtain ⟨w1, w2, w3, w4, w5, w6, w7⟩ := w
  exact ⟨by simpa [movS, upN] using w1, by simpa [movS, upN] using w2, by simpa [movS, upN] using w3, by simpa [movS, upN] using w4, by simpa [movS, upN] using hq, by simp [movS, upN], w7.cell (fun j hj => (movS_b S q).2 j hj)⟩
set_option maxHeartbeats 8000000 in
theorem m7_moveR {G : GT} {v : VV} {L : LL} {a : AS} (g : GH G) (h : IC v a) (w : WA a) {x : Int32} (hn : rmN (sS a) x ≠ 0) : CC G MX7_move [.ref (gB G 0), .int x] v L (gI (PC v L (stA (svA a) (refS (sS a))) (nI (rmN (sS a) x)))) := by
  refine cc_of g [some (.ref (gB G 0)), some (.int x), none] rfl rfl rfl rfl (fun K F => ?_)
  have hlt : rmN (sS a) x < 5 := by unfold rmN; split; decide; split; decide; split <;> decide
  refine r_aload_n F dX7_move_0 rfl ?_
  refine r_get (x := .ref (gB G 64)) (T := TX7) (n := 1) F uw7 rfl rfl tw_275 (Or.inl rfl) dX7_move_1 (kd_lt (rfl : kd 0 = (6,0,0)) (by decide)) (ce6 rfl) rfl ?_
  refine r_aload_n F dX7_move_4 rfl ?_
  refine r_get (x := .ref (gB G 1)) (T := TX7) (n := 0) F uw7 rfl rfl tw_274 (Or.inl rfl) dX7_move_5 (kd_lt (rfl : kd 0 = (6,0,0)) (by decide)) (ce6 rfl) rfl ?_
  refine r_callN1w F fMX4_push tw_304 rfl rfl rfl rfl dX7_move_8 rfl rfl z0 (m4_push g h.1 w.1 h.2.1.1) ?_
  rintro v1 L1 ⟨rfl, f1, f2⟩
  have hi := ip_of h f1 f2
  refine r_aload_n F dX7_move_11 rfl ?_
  refine r_iload_n F dX7_move_12 rfl ?_
  refine r_callV1i F fMX7_reasonAgainstMove tw_371 rfl rfl rfl rfl dX7_move_13 rfl rfl z0 (m7_reasonAgainstMove g hi.1 w.1 x) ?_
  refine r_ist2 F dX7_move_16 rfl rfl ?_
  refine r_iload_n F dX7_move_17 rfl ?_
  refine r_ifeq F dX7_move_18 (by omega) (fun h18 => ?_) (fun h18 => ?_)
  · exact absurd h18 hn
  · refine r_aload_n F dX7_move_21 rfl ?_
    refine r_get (x := .ref (gB G 1)) (T := TX7) (n := 0) F uw7 rfl rfl tw_274 (Or.inl rfl) dX7_move_22 (kd_lt (rfl : kd 0 = (6,0,0)) (by decide)) (ce6 rfl) rfl ?_
    refine r_dup F dX7_move_25 rfl ?_
    refine r_getN (T := TX5) (n := 10) F uw5 rfl rfl tw_153 (Or.inl rfl) dX7_move_26 (kd_lt (rfl : kd 1 = (4,0,0)) (by decide)) (ce4 rfl) rfl ?_
    refine r_iconst (x := 1) F dX7_move_29 rfl ?_
    refine r_iadd F dX7_move_30 ?_
    refine r_putN (T := TX5) (n := 10) (ty0 := tyX5) (ty := .int) F uw5 tyX5_ok nmX5 rfl rfl tw_153 (Or.inl rfl) rfl rfl rfl rfl dX7_move_31 (kd_lt (rfl : kd 1 = (4,0,0)) (by decide)) (ce4 rfl) rfl (pe4_10 rfl) up2_ce ?_
    refine r_iload_n F dX7_move_34 rfl ?_
    exact r_iret F rfl rfl dX7_move_35 ⟨_, rfl, rfl, rfl, hi.to hi.1.ref (fun k hk => up2_k _ (by omega)) (refS_b _)⟩
set_option maxHeartbeats 8000000 in
theorem m7_moveY {G : GT} {v : VV} {L : LL} {a : AS} (g : GH G) (h : IC v a) (w : WA a) {q : Nat} (hq : q < 8) (hn : rmN (sS a) (nI q) = 0) : CC G MX7_move [.ref (gB G 0), .int (nI q)] v L (gI (PC v L (stA (svA a) (movS (sS a) q)) (nI (if ovr (sS a) q = true then 11 else 10)))) := by
  refine cc_of g [some (.ref (gB G 0)), some (.int (nI q)), none] rfl rfl rfl rfl (fun K F => ?_)
  have eo : ovr (movS (sS a) q) (movS (sS a) q 4) = ovr (sS a) q := by
    rw [show movS (sS a) q 4 = q by simp [movS, upN]]
    exact ovr_cong (movS_b _ _) q
  refine r_aload_n F dX7_move_0 rfl ?_
  refine r_get (x := .ref (gB G 64)) (T := TX7) (n := 1) F uw7 rfl rfl tw_275 (Or.inl rfl) dX7_move_1 (kd_lt (rfl : kd 0 = (6,0,0)) (by decide)) (ce6 rfl) rfl ?_
  refine r_aload_n F dX7_move_4 rfl ?_
  refine r_get (x := .ref (gB G 1)) (T := TX7) (n := 0) F uw7 rfl rfl tw_274 (Or.inl rfl) dX7_move_5 (kd_lt (rfl : kd 0 = (6,0,0)) (by decide)) (ce6 rfl) rfl ?_
  refine r_callN1w F fMX4_push tw_304 rfl rfl rfl rfl dX7_move_8 rfl rfl z0 (m4_push g h.1 w.1 h.2.1.1) ?_
  rintro v1 L1 ⟨rfl, f1, f2⟩
  have hi := ip_of h f1 f2
  have hr := hi.1
  obtain ⟨a1, a2, a3, a4, a5, a6, a7, a8, a9, a10, a11, a12, -⟩ := hi.1
  refine r_aload_n F dX7_move_11 rfl ?_
  refine r_iload_n F dX7_move_12 rfl ?_
  refine r_callV1i F fMX7_reasonAgainstMove tw_371 rfl rfl rfl rfl dX7_move_13 rfl rfl z0 (m7_reasonAgainstMove g hi.1 w.1 (nI q)) ?_
  refine r_ist2 F dX7_move_16 rfl rfl ?_
  refine r_iload_n F dX7_move_17 rfl ?_
  refine r_ifeq F dX7_move_18 (by omega) (fun h18 => ?_) (fun h18 => ?_)
  · refine r_aload_n F dX7_move_36 rfl ?_
    refine r_get (x := .ref (gB G 1)) (T := TX7) (n := 0) F uw7 rfl rfl tw_274 (Or.inl rfl) dX7_move_37 (kd_lt (rfl : kd 0 = (6,0,0)) (by decide)) (ce6 rfl) rfl ?_
    refine r_iload_n F dX7_move_40 rfl ?_
    refine r_putN (T := TX5) (n := 3) (ty0 := tyX5) (ty := .int) F uw5 tyX5_ok nmX5 rfl rfl tw_138 (Or.inl rfl) rfl rfl rfl rfl dX7_move_41 (kd_lt (rfl : kd 1 = (4,0,0)) (by decide)) (ce4 rfl) rfl (pe4_3 rfl) up2_ce ?_
    refine r_aload_n F dX7_move_44 rfl ?_
    refine r_get (x := .ref (gB G 1)) (T := TX7) (n := 0) F uw7 rfl rfl tw_274 (Or.inl rfl) dX7_move_45 (kd_lt (rfl : kd 0 = (6,0,0)) (by decide)) (ce6 rfl) rfl ?_
    refine r_iconst (x := 4294967295) F dX7_move_48 rfl ?_
    refine r_putN (T := TX5) (n := 6) (ty0 := tyX5) (ty := .int) F uw5 tyX5_ok nmX5 rfl rfl tw_145 (Or.inl rfl) rfl rfl rfl rfl dX7_move_49 (kd_lt (rfl : kd 1 = (4,0,0)) (by decide)) (ce4 rfl) rfl (pe4_6 rfl) up2_ce ?_
    obtain ⟨v2, hv2⟩ : ∃ v2, v2 = up2 (up2 v1 1 3 q) 1 6 4294967295 := ⟨_, rfl⟩
    have hr2 : RSt 1 v2 (movS (sS a) q) := by
      rw [hv2]
      refine hr.cell ?_ ?_ ?_ ?_ ?_ ?_ ?_ ?_ ?_ ?_ ?_ ?_ (fun k k1 k2 => ?_) (fun j hj => (movS_b _ _).2 j hj)
      · simpa [up2, movS, upN] using a1
      · simpa [up2, movS, upN] using a2
      · simp [up2, movS, upN]
      · simpa [up2, movS, upN] using a4
      · simpa [up2, movS, upN] using a5
      · simp [up2, movS, upN, bq]
      · simpa [up2, movS, upN] using a7
      · simpa [up2, movS, upN] using a8
      · simpa [up2, movS, upN] using a9
      · simpa [up2, movS, upN] using a10
      · simpa [up2, movS, upN] using a11
      · simpa [up2, movS, upN] using a12
      · rw [up2_k _ (by omega), up2_k _ (by omega)]
    have ho : ∀ k, 8 ≤ k → v2 k = v1 k := fun k hk => by rw [hv2, up2_k _ (by omega), up2_k _ (by omega)]
    rw [← hv2]
    refine r_aload_n F dX7_move_52 rfl ?_
    refine r_get (x := .ref (gB G 1)) (T := TX7) (n := 0) F uw7 rfl rfl tw_274 (Or.inl rfl) dX7_move_53 (kd_lt (rfl : kd 0 = (6,0,0)) (by decide)) (ce6 rfl) rfl ?_
    refine r_callN0i F fMX5_isOver tw_348 rfl rfl rfl rfl dX7_move_56 rfl rfl z0 (m5_isOver g st1 hr2 (w.1.mov hq)) ?_
    refine r_Beq F dX7_move_59 (fun h59 => ?_) (fun h59 => ?_)
    · refine r_bipush (x := 10) F dX7_move_67 rfl ?_
      first
        | exact r_iret F rfl rfl dX7_move_69 ⟨_, rfl, by rw [eo] at h59; rw [if_pos h59], rfl, hi.to hr2 ho (movS_b _ _)⟩
        | exact r_iret F rfl rfl dX7_move_69 ⟨_, rfl, by rw [eo] at h59; rw [if_neg (by rw [h59]; decide)], rfl, hi.to hr2 ho (movS_b _ _)⟩
    · refine r_bipush (x := 11) F dX7_move_62 rfl ?_
      refine r_goto F dX7_move_64 ?_
      first
        | exact r_iret F rfl rfl dX7_move_69 ⟨_, rfl, by rw [eo] at h59; rw [if_pos h59], rfl, hi.to hr2 ho (movS_b _ _)⟩
        | exact r_iret F rfl rfl dX7_move_69 ⟨_, rfl, by rw [eo] at h59; rw [if_neg (by rw [h59]; decide)], rfl, hi.to hr2 ho (movS_b _ _)⟩
  · exact absurd hn h18
