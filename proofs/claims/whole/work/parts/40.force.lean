theorem cw_l0 {G : GT} {K : KT} {nL c s : Nat} {Q : State → Prop} {v : VV} {L : LL} {pc : Nat} {r : List (Option Value)} {st : List Value} {x y : Int32} (h : x = y) (k : CW G K nL c s Q v L pc (some (.int y) :: r) st) : CW G K nL c s Q v L pc (some (.int x) :: r) st := h ▸ k
def us (i : Int32) (k : Nat) : Int32 := (i.toUInt32 >>> ((nI k).toUInt32 &&& Int32.toUInt32 31)).toInt32
def bc1 (i : Int32) : Int32 := i - (us i 1 &&& 1431655765)
def bc2 (i : Int32) : Int32 := (i &&& 858993459) + (us i 2 &&& 858993459)
def bc3 (i : Int32) : Int32 := (i + us i 4) &&& 252645135
def bc4 (i : Int32) : Int32 := i + us i 8
def bc5 (i : Int32) : Int32 := i + us i 16
def bcF (i : Int32) : Int32 := bc5 (bc4 (bc3 (bc2 (bc1 i)))) &&& nI 63
def pcN (x c : Nat) : Nat := if x ≤ c then c + 1 - x else 0
theorem bc_ok : ∀ c, c < 21 → ∀ x, x < 22 → bcF (nI (mk x c)) = nI (pcN x c) := by decide +kernel
theorem pcN_tq {x c : Nat} (hc : c ≤ 20) : pcN x c = pcN (tq x) c := by
  unfold pcN tq
  by_cases h : x ≤ 20
  · rw [if_pos h]
  · rw [if_neg h, if_neg (by omega), if_neg (by omega)]
set_option maxHeartbeats 4000000 in
theorem mJ_bitCount {G : GT} {v : VV} {L : LL} (g : GH G) {x c : Nat} (hc : c ≤ 20) : CC G MJ6_bitCount_0f7a4 [.int (nI (mk x c))] v L (rI (pcN x c) v L) := by
  refine cc_of g [some (.int (nI (mk x c)))] rfl rfl rfl rfl (fun K F => ?_)
  obtain ⟨i, hi⟩ : ∃ i, i = nI (mk x c) := ⟨_, rfl⟩
  have hb : bcF i = nI (pcN x c) := by rw [hi, mk_tq hc, pcN_tq hc]; exact bc_ok c (by omega) _ (tq_lt x)
  rw [← hi]
  refine r_iload_n F dJ6_bitCount_0f7a4_0 rfl ?_
  refine r_iload_n F dJ6_bitCount_0f7a4_1 rfl ?_
  refine r_iconst (x := 1) F dJ6_bitCount_0f7a4_2 rfl ?_
  refine R_iushr F dJ6_bitCount_0f7a4_3 rfl ?_
  refine r_ldcw F dJ6_bitCount_0f7a4_4 tw_531 ?_
  refine R_iand F dJ6_bitCount_0f7a4_7 rfl ?_
  refine R_isub F dJ6_bitCount_0f7a4_8 rfl ?_
  refine r_ist0 F dJ6_bitCount_0f7a4_9 rfl rfl ?_
  refine cw_l0 (y := bc1 i) rfl ?_
  refine r_iload_n F dJ6_bitCount_0f7a4_10 rfl ?_
  refine r_ldcw F dJ6_bitCount_0f7a4_11 tw_532 ?_
  refine R_iand F dJ6_bitCount_0f7a4_14 rfl ?_
  refine r_iload_n F dJ6_bitCount_0f7a4_15 rfl ?_
  refine r_iconst (x := 2) F dJ6_bitCount_0f7a4_16 rfl ?_
  refine R_iushr F dJ6_bitCount_0f7a4_17 rfl ?_
  refine r_ldcw F dJ6_bitCount_0f7a4_18 tw_532 ?_
  refine R_iand F dJ6_bitCount_0f7a4_21 rfl ?_
  refine R_iadd F dJ6_bitCount_0f7a4_22 rfl ?_
  refine r_ist0 F dJ6_bitCount_0f7a4_23 rfl rfl ?_
  refine cw_l0 (y := bc2 (bc1 i)) rfl ?_
  refine r_iload_n F dJ6_bitCount_0f7a4_24 rfl ?_
  refine r_iload_n F dJ6_bitCount_0f7a4_25 rfl ?_
  refine r_iconst (x := 4) F dJ6_bitCount_0f7a4_26 rfl ?_
  refine R_iushr F dJ6_bitCount_0f7a4_27 rfl ?_
  refine R_iadd F dJ6_bitCount_0f7a4_28 rfl ?_
  refine r_ldcw F dJ6_bitCount_0f7a4_29 tw_533 ?_
  refine R_iand F dJ6_bitCount_0f7a4_32 rfl ?_
  refine r_ist0 F dJ6_bitCount_0f7a4_33 rfl rfl ?_
  refine cw_l0 (y := bc3 (bc2 (bc1 i))) rfl ?_
  refine r_iload_n F dJ6_bitCount_0f7a4_34 rfl ?_
  refine r_iload_n F dJ6_bitCount_0f7a4_35 rfl ?_
  refine r_bipush (x := 8) F dJ6_bitCount_0f7a4_36 rfl ?_
  refine R_iushr F dJ6_bitCount_0f7a4_38 rfl ?_
  refine R_iadd F dJ6_bitCount_0f7a4_39 rfl ?_
  refine r_ist0 F dJ6_bitCount_0f7a4_40 rfl rfl ?_
  refine cw_l0 (y := bc4 (bc3 (bc2 (bc1 i)))) rfl ?_
  refine r_iload_n F dJ6_bitCount_0f7a4_41 rfl ?_
  refine r_iload_n F dJ6_bitCount_0f7a4_42 rfl ?_
  refine r_bipush (x := 16) F dJ6_bitCount_0f7a4_43 rfl ?_
  refine R_iushr F dJ6_bitCount_0f7a4_45 rfl ?_
  refine R_iadd F dJ6_bitCount_0f7a4_46 rfl ?_
  refine r_ist0 F dJ6_bitCount_0f7a4_47 rfl rfl ?_
  refine cw_l0 (y := bc5 (bc4 (bc3 (bc2 (bc1 i))))) rfl ?_
  refine r_iload_n F dJ6_bitCount_0f7a4_48 rfl ?_
  refine r_bipush (x := 63) F dJ6_bitCount_0f7a4_49 rfl ?_
  refine R_iand F dJ6_bitCount_0f7a4_51 rfl ?_
  exact r_iret F rfl rfl dJ6_bitCount_0f7a4_52 ⟨by rw [← hb]; rfl, rfl, rfl⟩
/-- a threshold as it is told -/
def thV (x : Nat) : Int32 := if x = 99 then -1 else nI x
theorem lbud_c {so ea : Nat → Nat} {c pl st : Nat} : lbud so ea c pl st ≤ c ∨ lbud so ea c pl st = 99 := by
  unfold lbud
  split
  · rename_i h; exact Or.inl h
  · exact Or.inr rfl
theorem thr_c (S : Nat → Nat) (t pl p st : Nat) : thr S t pl p st ≤ S 0 ∨ thr S t pl p st = 99 := by
  cases t with
  | zero =>
    show (if won S pl p then 0 else 99) ≤ S 0 ∨ (if won S pl p then 0 else 99) = 99
    split
    · exact Or.inl (Nat.zero_le _)
    · exact Or.inr rfl
  | succ t =>
    rw [thr_s]
    split
    · exact Or.inl (Nat.zero_le _)
    · split
      · exact Or.inr rfl
      · exact lbud_c
set_option maxHeartbeats 4000000 in
theorem m7_leastOf {G : GT} {v : VV} {L : LL} (g : GH G) {x c : Nat} (hc : c ≤ 20) (hx : x ≤ c ∨ x = 99) : CC G MX7_leastOf [.int (nI (mk x c))] v L (rR (thV x) v L) := by
  obtain ⟨c', hc', he, hx'⟩ : ∃ c', c' ≤ 20 ∧ mk x c = mk x c' ∧ (x ≤ c' ∨ (c' = 20 ∧ x = 99)) := by
    rcases hx with h | h
    · exact ⟨c, hc, rfl, Or.inl h⟩
    · exact ⟨20, by decide, by unfold mk; rw [if_neg (by omega), if_neg (by omega)], Or.inr ⟨rfl, h⟩⟩
  rw [he]
  refine cc_of g [some (.int (nI (mk x c'))), none] rfl rfl rfl rfl (fun K F => ?_)
  have loop : ∀ (n i : Nat), 21 < i + n → i ≤ 21 → i ≤ x → CW G K 2 0 0 (MQ (kb K) (Qn G (rR (thV x) v L)) (ka K) (ks K) 0 0 (gA G)) v L 2 [some (.int (nI (mk x c'))), some (.int (nI i))] [] := by
    intro n
    induction n with
    | zero => intro i a1 a2 a3; omega
    | succ n ih =>
      intro i a1 a2 a3
      refine r_iload_n F dX7_leastOf_2 rfl ?_
      refine r_bipush (x := 20) F dX7_leastOf_3 rfl ?_
      refine r_icgt F dX7_leastOf_5 (by omega) (by omega) (fun h5 => ?_) (fun h5 => ?_)
      · refine R_iconst (x := -1) F dX7_leastOf_24 rfl ?_
        first
          | exact r_iret F rfl rfl dX7_leastOf_25 ⟨by unfold thV; rw [if_neg (by omega), show x = i by omega], rfl, rfl⟩
          | exact r_iret F rfl rfl dX7_leastOf_25 ⟨by unfold thV; rw [if_pos (by omega)], rfl, rfl⟩
      · refine r_iload_n F dX7_leastOf_8 rfl ?_
        refine r_iload_n F dX7_leastOf_9 rfl ?_
        refine r_callS2i F fMX7_holds tw_659 rfl dX7_leastOf_10 rfl rfl z0 (m7_holds g hc' (y := i) (by omega)) ?_
        refine r_beq F dX7_leastOf_13 (fun h13 => ?_) (fun h13 => ?_)
        · refine r_iinc1 (y := 1) F dX7_leastOf_18 rfl rfl rfl rfl ?_
          refine r_goto F dX7_leastOf_21 ?_
          exact ih (i + 1) (by omega) (by omega) (by omega)
        · refine r_iload_n F dX7_leastOf_16 rfl ?_
          first
            | exact r_iret F rfl rfl dX7_leastOf_17 ⟨by unfold thV; rw [if_neg (by omega), show x = i by omega], rfl, rfl⟩
            | exact r_iret F rfl rfl dX7_leastOf_17 ⟨by unfold thV; rw [if_pos (by omega)], rfl, rfl⟩
  refine r_iconst (x := 0) F dX7_leastOf_0 rfl ?_
  refine r_ist1 F dX7_leastOf_1 rfl rfl ?_
  exact loop 22 0 (by omega) (by omega) (by omega)
set_option maxHeartbeats 8000000 in
theorem m7_force {G : GT} {v : VV} {L : LL} {a : AS} (g : GH G) (h : IC v a) (w : WA a) {pl p b st t : Nat} (h1 : pl ≤ 1) (h2 : p < 8) (h3 : b ≤ sS a 0) (h4 : st ≤ 1) (h5 : t ≤ 12) : CC G MX7_force [.ref (gB G 0), .int (nI pl), .int (nI p), .int (nI b), .int (nI st), .int (nI t)] v L (gI (PC v L a (nI (b01 (thr (sS a) t pl p st ≤ b))))) := by
  refine cc_of g [some (.ref (gB G 0)), some (.int (nI pl)), some (.int (nI p)), some (.int (nI b)), some (.int (nI st)), some (.int (nI t))] rfl rfl rfl rfl (fun K F => ?_)
  have w0 : sS a 0 ≤ 20 := w.1.1
  have c0 : v 1 1 = sS a 0 := h.1.1
  refine r_iload_n F dX7_force_0 rfl ?_
  refine r_callS1v F fMX7_needPlayer tw_652 rfl dX7_force_1 rfl rfl z0 (m7_needPlayer g h1) ?_
  refine r_iload_n F dX7_force_4 rfl ?_
  refine r_callS1v F fMX7_needPosition tw_623 rfl dX7_force_5 rfl rfl z0 (m7_needPosition g (p := p) (by omega)) ?_
  refine r_iload_n F dX7_force_8 rfl ?_
  refine r_aload_n F dX7_force_9 rfl ?_
  refine r_get (x := .ref (gB G 1)) (T := TX7) (n := 0) F uw7 rfl rfl tw_274 (Or.inl rfl) dX7_force_10 (kd_lt (rfl : kd 0 = (6,0,0)) (by decide)) (ce6 rfl) rfl ?_
  refine r_getN (T := TX5) (n := 1) F uw5 rfl rfl tw_132 (Or.inl rfl) dX7_force_13 (kd_lt (rfl : kd 1 = (4,0,0)) (by decide)) (ce4 rfl) rfl ?_
  rw [c0]
  refine r_callS2v F fMX7_needUpTo tw_544 rfl dX7_force_16 rfl rfl z0 (m7_needUpTo g h3 (by omega)) ?_
  refine r_iload F dX7_force_19 rfl ?_
  refine r_iconst (x := 1) F dX7_force_21 rfl ?_
  refine r_callS2v F fMX7_needUpTo tw_544 rfl dX7_force_22 rfl rfl z0 (m7_needUpTo g h4 (by decide)) ?_
  refine r_iload F dX7_force_25 rfl ?_
  refine r_bipush (x := 12) F dX7_force_27 rfl ?_
  refine r_callS2v F fMX7_needUpTo tw_544 rfl dX7_force_29 rfl rfl z0 (m7_needUpTo g h5 (by decide)) ?_
  refine r_aload_n F dX7_force_32 rfl ?_
  refine r_get (x := .ref (gB G 75)) (T := TX7) (n := 5) F uw7 rfl rfl tw_279 (Or.inl rfl) dX7_force_33 (kd_lt (rfl : kd 0 = (6,0,0)) (by decide)) (ce6 rfl) rfl ?_
  refine r_aload_n F dX7_force_36 rfl ?_
  refine r_get (x := .ref (gB G 1)) (T := TX7) (n := 0) F uw7 rfl rfl tw_274 (Or.inl rfl) dX7_force_37 (kd_lt (rfl : kd 0 = (6,0,0)) (by decide)) (ce6 rfl) rfl ?_
  refine r_iload F dX7_force_40 rfl ?_
  refine r_callU2w F fMX2_tell tw_427 tw_428 (Or.inl tw_429) (by decide) tw_430 tw_431 rfl rfl rfl rfl rfl dX7_force_42 rfl rfl z0 (m2_tellA g h w (by omega)) ?_
  rintro v1 L1 ⟨rfl, ht⟩
  refine r_aload_n F dX7_force_45 rfl ?_
  refine r_get (x := .ref (gB G 75)) (T := TX7) (n := 5) F uw7 rfl rfl tw_279 (Or.inl rfl) dX7_force_46 (kd_lt (rfl : kd 0 = (6,0,0)) (by decide)) (ce6 rfl) rfl ?_
  refine r_iload F dX7_force_49 rfl ?_
  refine r_iload_n F dX7_force_51 rfl ?_
  refine r_iload_n F dX7_force_52 rfl ?_
  refine r_iload F dX7_force_53 rfl ?_
  refine r_callU4i F fMX2_entry tw_524 tw_525 (Or.inl tw_526) (by decide) tw_527 tw_474 rfl rfl rfl rfl rfl dX7_force_55 rfl rfl z0 (m2_entry2 g (by omega) (by omega) h2 (by omega)) ?_
  rw [ht.at (Nat.le_refl t) (by omega) h2 (by omega)]
  refine r_iload_n F dX7_force_58 rfl ?_
  refine r_callS2i F fMX7_holds tw_659 rfl dX7_force_59 rfl rfl z0 (m7_holds g w0 h3) ?_
  refine r_beq F dX7_force_62 (fun h62 => ?_) (fun h62 => ?_)
  · refine r_iconst (x := 0) F dX7_force_69 rfl ?_
    first
      | exact r_iret F rfl rfl dX7_force_70 ⟨_, rfl, by rw [b01_y h62], rfl, ht.2.1, ht.1⟩
      | exact r_iret F rfl rfl dX7_force_70 ⟨_, rfl, by rw [b01_n h62], rfl, ht.2.1, ht.1⟩
  · refine r_iconst (x := 1) F dX7_force_65 rfl ?_
    refine r_goto F dX7_force_66 ?_
    first
      | exact r_iret F rfl rfl dX7_force_70 ⟨_, rfl, by rw [b01_y h62], rfl, ht.2.1, ht.1⟩
      | exact r_iret F rfl rfl dX7_force_70 ⟨_, rfl, by rw [b01_n h62], rfl, ht.2.1, ht.1⟩
set_option maxHeartbeats 4000000 in
theorem x7_force1 {G : GT} {v : VV} {L : LL} {Φ : VV → LL → Prop} (g : GH G) {x1 : Int32} {x2 : Int32} {x3 : Int32} {x4 : Int32} {x5 : Int32} (hx : oor x1 1) (h : Φ v L) : CX G MX7_force [.ref (gB G 0), .int x1, .int x2, .int x3, .int x4, .int x5] v L eIX Φ := by
  refine cx_of g [some (.ref (gB G 0)), some (.int x1), some (.int x2), some (.int x3), some (.int x4), some (.int x5)] rfl rfl rfl rfl (fun K F he => ?_)
  refine r_iload_n F dX7_force_0 rfl ?_
  exact r_outS1 F he fMX7_needPlayer tw_652 rfl dX7_force_1 rfl rfl (x7_needPlayer g hx h)
set_option maxHeartbeats 4000000 in
theorem x7_force2 {G : GT} {v : VV} {L : LL} {Φ : VV → LL → Prop} (g : GH G) {n1 : Nat} {x2 : Int32} {x3 : Int32} {x4 : Int32} {x5 : Int32} (h1 : n1 ≤ 1) (hx : oor x2 7) (h : Φ v L) : CX G MX7_force [.ref (gB G 0), .int (nI n1), .int x2, .int x3, .int x4, .int x5] v L eIX Φ := by
  refine cx_of g [some (.ref (gB G 0)), some (.int (nI n1)), some (.int x2), some (.int x3), some (.int x4), some (.int x5)] rfl rfl rfl rfl (fun K F he => ?_)
  refine r_iload_n F dX7_force_0 rfl ?_
  refine r_callS1v F fMX7_needPlayer tw_652 rfl dX7_force_1 rfl rfl z16 (m7_needPlayer g (p := n1) (by omega)) ?_
  refine r_iload_n F dX7_force_4 rfl ?_
  exact r_outS1 F he fMX7_needPosition tw_623 rfl dX7_force_5 rfl rfl (x7_needPosition g hx h)
set_option maxHeartbeats 4000000 in
theorem x7_force3 {G : GT} {v : VV} {L : LL} {Φ : VV → LL → Prop} {a : AS} (g : GH G) (hi : IC v a) (w : WA a) {n1 : Nat} {n2 : Nat} {x3 : Int32} {x4 : Int32} {x5 : Int32} (h1 : n1 ≤ 1) (h2 : n2 < 8) (hx : oor x3 (sS a 0)) (h : Φ v L) : CX G MX7_force [.ref (gB G 0), .int (nI n1), .int (nI n2), .int x3, .int x4, .int x5] v L eIA Φ := by
  refine cx_of g [some (.ref (gB G 0)), some (.int (nI n1)), some (.int (nI n2)), some (.int x3), some (.int x4), some (.int x5)] rfl rfl rfl rfl (fun K F he => ?_)
  have w0 : sS a 0 ≤ 20 := w.1.1
  have c0 : v 1 1 = sS a 0 := hi.1.1
  have hbud : ∀ pl, bud (sS a) pl ≤ 20 := fun pl => by have := w.1.2.2.1; unfold bud; split <;> omega
  refine r_iload_n F dX7_force_0 rfl ?_
  refine r_callS1v F fMX7_needPlayer tw_652 rfl dX7_force_1 rfl rfl z16 (m7_needPlayer g (p := n1) (by omega)) ?_
  refine r_iload_n F dX7_force_4 rfl ?_
  refine r_callS1v F fMX7_needPosition tw_623 rfl dX7_force_5 rfl rfl z16 (m7_needPosition g (p := n2) (by omega)) ?_
  refine r_iload_n F dX7_force_8 rfl ?_
  refine r_aload_n F dX7_force_9 rfl ?_
  refine r_get (x := .ref (gB G 1)) (T := TX7) (n := 0) F uw7 rfl rfl tw_274 (Or.inl rfl) dX7_force_10 (kd_lt (rfl : kd 0 = (6,0,0)) (by decide)) (ce6 rfl) rfl ?_
  refine r_getN (T := TX5) (n := 1) F uw5 rfl rfl tw_132 (Or.inl rfl) dX7_force_13 (kd_lt (rfl : kd 1 = (4,0,0)) (by decide)) (ce4 rfl) rfl ?_
  rw [c0]
  exact r_outS2 F he fMX7_needUpTo tw_544 rfl dX7_force_16 rfl rfl (x7_needUpTo g (n := sS a 0) hx h)
set_option maxHeartbeats 4000000 in
theorem x7_force4 {G : GT} {v : VV} {L : LL} {Φ : VV → LL → Prop} {a : AS} (g : GH G) (hi : IC v a) (w : WA a) {n1 : Nat} {n2 : Nat} {n3 : Nat} {x4 : Int32} {x5 : Int32} (h1 : n1 ≤ 1) (h2 : n2 < 8) (h3 : n3 ≤ sS a 0) (hx : oor x4 1) (h : Φ v L) : CX G MX7_force [.ref (gB G 0), .int (nI n1), .int (nI n2), .int (nI n3), .int x4, .int x5] v L eIA Φ := by
  refine cx_of g [some (.ref (gB G 0)), some (.int (nI n1)), some (.int (nI n2)), some (.int (nI n3)), some (.int x4), some (.int x5)] rfl rfl rfl rfl (fun K F he => ?_)
  have w0 : sS a 0 ≤ 20 := w.1.1
  have c0 : v 1 1 = sS a 0 := hi.1.1
  have hbud : ∀ pl, bud (sS a) pl ≤ 20 := fun pl => by have := w.1.2.2.1; unfold bud; split <;> omega
  refine r_iload_n F dX7_force_0 rfl ?_
  refine r_callS1v F fMX7_needPlayer tw_652 rfl dX7_force_1 rfl rfl z16 (m7_needPlayer g (p := n1) (by omega)) ?_
  refine r_iload_n F dX7_force_4 rfl ?_
  refine r_callS1v F fMX7_needPosition tw_623 rfl dX7_force_5 rfl rfl z16 (m7_needPosition g (p := n2) (by omega)) ?_
  refine r_iload_n F dX7_force_8 rfl ?_
  refine r_aload_n F dX7_force_9 rfl ?_
  refine r_get (x := .ref (gB G 1)) (T := TX7) (n := 0) F uw7 rfl rfl tw_274 (Or.inl rfl) dX7_force_10 (kd_lt (rfl : kd 0 = (6,0,0)) (by decide)) (ce6 rfl) rfl ?_
  refine r_getN (T := TX5) (n := 1) F uw5 rfl rfl tw_132 (Or.inl rfl) dX7_force_13 (kd_lt (rfl : kd 1 = (4,0,0)) (by decide)) (ce4 rfl) rfl ?_
  rw [c0]
  refine r_callS2v F fMX7_needUpTo tw_544 rfl dX7_force_16 rfl rfl z16 (m7_needUpTo g h3 (by omega)) ?_
  refine r_iload F dX7_force_19 rfl ?_
  refine r_iconst (x := 1) F dX7_force_21 rfl ?_
  exact r_outS2 F he fMX7_needUpTo tw_544 rfl dX7_force_22 rfl rfl (x7_needUpTo g (n := 1) hx h)
set_option maxHeartbeats 4000000 in
theorem x7_force5 {G : GT} {v : VV} {L : LL} {Φ : VV → LL → Prop} {a : AS} (g : GH G) (hi : IC v a) (w : WA a) {n1 : Nat} {n2 : Nat} {n3 : Nat} {n4 : Nat} {x5 : Int32} (h1 : n1 ≤ 1) (h2 : n2 < 8) (h3 : n3 ≤ sS a 0) (h4 : n4 ≤ 1) (hx : oor x5 12) (h : Φ v L) : CX G MX7_force [.ref (gB G 0), .int (nI n1), .int (nI n2), .int (nI n3), .int (nI n4), .int x5] v L eIA Φ := by
  refine cx_of g [some (.ref (gB G 0)), some (.int (nI n1)), some (.int (nI n2)), some (.int (nI n3)), some (.int (nI n4)), some (.int x5)] rfl rfl rfl rfl (fun K F he => ?_)
  have w0 : sS a 0 ≤ 20 := w.1.1
  have c0 : v 1 1 = sS a 0 := hi.1.1
  have hbud : ∀ pl, bud (sS a) pl ≤ 20 := fun pl => by have := w.1.2.2.1; unfold bud; split <;> omega
  refine r_iload_n F dX7_force_0 rfl ?_
  refine r_callS1v F fMX7_needPlayer tw_652 rfl dX7_force_1 rfl rfl z16 (m7_needPlayer g (p := n1) (by omega)) ?_
  refine r_iload_n F dX7_force_4 rfl ?_
  refine r_callS1v F fMX7_needPosition tw_623 rfl dX7_force_5 rfl rfl z16 (m7_needPosition g (p := n2) (by omega)) ?_
  refine r_iload_n F dX7_force_8 rfl ?_
  refine r_aload_n F dX7_force_9 rfl ?_
  refine r_get (x := .ref (gB G 1)) (T := TX7) (n := 0) F uw7 rfl rfl tw_274 (Or.inl rfl) dX7_force_10 (kd_lt (rfl : kd 0 = (6,0,0)) (by decide)) (ce6 rfl) rfl ?_
  refine r_getN (T := TX5) (n := 1) F uw5 rfl rfl tw_132 (Or.inl rfl) dX7_force_13 (kd_lt (rfl : kd 1 = (4,0,0)) (by decide)) (ce4 rfl) rfl ?_
  rw [c0]
  refine r_callS2v F fMX7_needUpTo tw_544 rfl dX7_force_16 rfl rfl z16 (m7_needUpTo g h3 (by omega)) ?_
  refine r_iload F dX7_force_19 rfl ?_
  refine r_iconst (x := 1) F dX7_force_21 rfl ?_
  refine r_callS2v F fMX7_needUpTo tw_544 rfl dX7_force_22 rfl rfl z16 (m7_needUpTo g h4 (by decide)) ?_
  refine r_iload F dX7_force_25 rfl ?_
  refine r_bipush (x := 12) F dX7_force_27 rfl ?_
  exact r_outS2 F he fMX7_needUpTo tw_544 rfl dX7_force_29 rfl rfl (x7_needUpTo g (n := 12) hx h)
set_option maxHeartbeats 4000000 in
theorem x7_threshold1 {G : GT} {v : VV} {L : LL} {Φ : VV → LL → Prop} (g : GH G) {x1 : Int32} {x2 : Int32} {x3 : Int32} {x4 : Int32} (hx : oor x1 1) (h : Φ v L) : CX G MX7_threshold [.ref (gB G 0), .int x1, .int x2, .int x3, .int x4] v L eIX Φ := by
  refine cx_of g [some (.ref (gB G 0)), some (.int x1), some (.int x2), some (.int x3), some (.int x4), none] rfl rfl rfl rfl (fun K F he => ?_)
  refine r_iload_n F dX7_threshold_0 rfl ?_
  exact r_outS1 F he fMX7_needPlayer tw_652 rfl dX7_threshold_1 rfl rfl (x7_needPlayer g hx h)
set_option maxHeartbeats 4000000 in
theorem x7_threshold2 {G : GT} {v : VV} {L : LL} {Φ : VV → LL → Prop} (g : GH G) {n1 : Nat} {x2 : Int32} {x3 : Int32} {x4 : Int32} (h1 : n1 ≤ 1) (hx : oor x2 7) (h : Φ v L) : CX G MX7_threshold [.ref (gB G 0), .int (nI n1), .int x2, .int x3, .int x4] v L eIX Φ := by
  refine cx_of g [some (.ref (gB G 0)), some (.int (nI n1)), some (.int x2), some (.int x3), some (.int x4), none] rfl rfl rfl rfl (fun K F he => ?_)
  refine r_iload_n F dX7_threshold_0 rfl ?_
  refine r_callS1v F fMX7_needPlayer tw_652 rfl dX7_threshold_1 rfl rfl z16 (m7_needPlayer g (p := n1) (by omega)) ?_
  refine r_iload_n F dX7_threshold_4 rfl ?_
  exact r_outS1 F he fMX7_needPosition tw_623 rfl dX7_threshold_5 rfl rfl (x7_needPosition g hx h)
set_option maxHeartbeats 4000000 in
theorem x7_threshold3 {G : GT} {v : VV} {L : LL} {Φ : VV → LL → Prop} (g : GH G) {n1 : Nat} {n2 : Nat} {x3 : Int32} {x4 : Int32} (h1 : n1 ≤ 1) (h2 : n2 < 8) (hx : oor x3 1) (h : Φ v L) : CX G MX7_threshold [.ref (gB G 0), .int (nI n1), .int (nI n2), .int x3, .int x4] v L eIA Φ := by
  refine cx_of g [some (.ref (gB G 0)), some (.int (nI n1)), some (.int (nI n2)), some (.int x3), some (.int x4), none] rfl rfl rfl rfl (fun K F he => ?_)
  refine r_iload_n F dX7_threshold_0 rfl ?_
  refine r_callS1v F fMX7_needPlayer tw_652 rfl dX7_threshold_1 rfl rfl z16 (m7_needPlayer g (p := n1) (by omega)) ?_
  refine r_iload_n F dX7_threshold_4 rfl ?_
  refine r_callS1v F fMX7_needPosition tw_623 rfl dX7_threshold_5 rfl rfl z16 (m7_needPosition g (p := n2) (by omega)) ?_
  refine r_iload_n F dX7_threshold_8 rfl ?_
  refine r_iconst (x := 1) F dX7_threshold_9 rfl ?_
  exact r_outS2 F he fMX7_needUpTo tw_544 rfl dX7_threshold_10 rfl rfl (x7_needUpTo g (n := 1) hx h)
set_option maxHeartbeats 4000000 in
theorem x7_threshold4 {G : GT} {v : VV} {L : LL} {Φ : VV → LL → Prop} (g : GH G) {n1 : Nat} {n2 : Nat} {n3 : Nat} {x4 : Int32} (h1 : n1 ≤ 1) (h2 : n2 < 8) (h3 : n3 ≤ 1) (hx : oor x4 1) (h : Φ v L) : CX G MX7_threshold [.ref (gB G 0), .int (nI n1), .int (nI n2), .int (nI n3), .int x4] v L eIA Φ := by
  refine cx_of g [some (.ref (gB G 0)), some (.int (nI n1)), some (.int (nI n2)), some (.int (nI n3)), some (.int x4), none] rfl rfl rfl rfl (fun K F he => ?_)
  refine r_iload_n F dX7_threshold_0 rfl ?_
  refine r_callS1v F fMX7_needPlayer tw_652 rfl dX7_threshold_1 rfl rfl z16 (m7_needPlayer g (p := n1) (by omega)) ?_
  refine r_iload_n F dX7_threshold_4 rfl ?_
  refine r_callS1v F fMX7_needPosition tw_623 rfl dX7_threshold_5 rfl rfl z16 (m7_needPosition g (p := n2) (by omega)) ?_
  refine r_iload_n F dX7_threshold_8 rfl ?_
  refine r_iconst (x := 1) F dX7_threshold_9 rfl ?_
  refine r_callS2v F fMX7_needUpTo tw_544 rfl dX7_threshold_10 rfl rfl z16 (m7_needUpTo g h3 (by decide)) ?_
  refine r_iload F dX7_threshold_13 rfl ?_
  refine r_iconst (x := 1) F dX7_threshold_15 rfl ?_
  exact r_outS2 F he fMX7_needUpTo tw_544 rfl dX7_threshold_16 rfl rfl (x7_needUpTo g (n := 1) hx h)
set_option maxHeartbeats 4000000 in
theorem x7_advice1 {G : GT} {v : VV} {L : LL} {Φ : VV → LL → Prop} (g : GH G) {x1 : Int32} (hx : oor x1 1) (h : Φ v L) : CX G MX7_advice [.ref (gB G 0), .int x1] v L eIX Φ := by
  refine cx_of g [some (.ref (gB G 0)), some (.int x1)] rfl rfl rfl rfl (fun K F he => ?_)
  refine r_iload_n F dX7_advice_0 rfl ?_
  exact r_outS1 F he fMX7_needPlayer tw_652 rfl dX7_advice_1 rfl rfl (x7_needPlayer g hx h)
set_option maxHeartbeats 4000000 in
theorem x7_refuted1 {G : GT} {v : VV} {L : LL} {Φ : VV → LL → Prop} (g : GH G) {x1 : Int32} {x2 : Int32} (hx : oor x1 1) (h : Φ v L) : CX G MX7_refuted [.ref (gB G 0), .int x1, .int x2] v L eIX Φ := by
  refine cx_of g [some (.ref (gB G 0)), some (.int x1), some (.int x2)] rfl rfl rfl rfl (fun K F he => ?_)
  refine r_iload_n F dX7_refuted_0 rfl ?_
  exact r_outS1 F he fMX7_needPlayer tw_652 rfl dX7_refuted_1 rfl rfl (x7_needPlayer g hx h)
set_option maxHeartbeats 4000000 in
theorem x7_refuted2 {G : GT} {v : VV} {L : LL} {Φ : VV → LL → Prop} {a : AS} (g : GH G) (hi : IC v a) (w : WA a) {n1 : Nat} {x2 : Int32} (h1 : n1 ≤ 1) (hx : oor x2 (bud (sS a) n1)) (h : Φ v L) : CX G MX7_refuted [.ref (gB G 0), .int (nI n1), .int x2] v L eIA Φ := by
  refine cx_of g [some (.ref (gB G 0)), some (.int (nI n1)), some (.int x2)] rfl rfl rfl rfl (fun K F he => ?_)
  have w0 : sS a 0 ≤ 20 := w.1.1
  have c0 : v 1 1 = sS a 0 := hi.1.1
  have hbud : ∀ pl, bud (sS a) pl ≤ 20 := fun pl => by have := w.1.2.2.1; unfold bud; split <;> omega
  refine r_iload_n F dX7_refuted_0 rfl ?_
  refine r_callS1v F fMX7_needPlayer tw_652 rfl dX7_refuted_1 rfl rfl z16 (m7_needPlayer g (p := n1) (by omega)) ?_
  refine r_iload_n F dX7_refuted_4 rfl ?_
  refine r_aload_n F dX7_refuted_5 rfl ?_
  refine r_get (x := .ref (gB G 1)) (T := TX7) (n := 0) F uw7 rfl rfl tw_274 (Or.inl rfl) dX7_refuted_6 (kd_lt (rfl : kd 0 = (6,0,0)) (by decide)) (ce6 rfl) rfl ?_
  refine r_iload_n F dX7_refuted_9 rfl ?_
  refine r_callN1i F fMX5_budgetOf tw_356 rfl rfl rfl rfl dX7_refuted_10 rfl rfl z16 (m5_budgetOf g st1 hi.1 w.1 (pl := n1) (by omega)) ?_
  exact r_outS2 F he fMX7_needUpTo tw_544 rfl dX7_refuted_13 rfl rfl (x7_needUpTo g (n := bud (sS a) n1) hx h)
set_option maxHeartbeats 4000000 in
theorem x7_bestMove1 {G : GT} {v : VV} {L : LL} {Φ : VV → LL → Prop} (g : GH G) {x1 : Int32} {x2 : Int32} (hx : oor x1 1) (h : Φ v L) : CX G MX7_bestMove [.ref (gB G 0), .int x1, .int x2] v L eIX Φ := by
  refine cx_of g [some (.ref (gB G 0)), some (.int x1), some (.int x2), none, none, none] rfl rfl rfl rfl (fun K F he => ?_)
  refine r_iload_n F dX7_bestMove_0 rfl ?_
  exact r_outS1 F he fMX7_needPlayer tw_652 rfl dX7_bestMove_1 rfl rfl (x7_needPlayer g hx h)
set_option maxHeartbeats 4000000 in
theorem x7_bestMove2 {G : GT} {v : VV} {L : LL} {Φ : VV → LL → Prop} {a : AS} (g : GH G) (hi : IC v a) (w : WA a) {n1 : Nat} {x2 : Int32} (h1 : n1 ≤ 1) (hx : oor x2 (bud (sS a) n1)) (h : Φ v L) : CX G MX7_bestMove [.ref (gB G 0), .int (nI n1), .int x2] v L eIA Φ := by
  refine cx_of g [some (.ref (gB G 0)), some (.int (nI n1)), some (.int x2), none, none, none] rfl rfl rfl rfl (fun K F he => ?_)
  have w0 : sS a 0 ≤ 20 := w.1.1
  have c0 : v 1 1 = sS a 0 := hi.1.1
  have hbud : ∀ pl, bud (sS a) pl ≤ 20 := fun pl => by have := w.1.2.2.1; unfold bud; split <;> omega
  refine r_iload_n F dX7_bestMove_0 rfl ?_
  refine r_callS1v F fMX7_needPlayer tw_652 rfl dX7_bestMove_1 rfl rfl z16 (m7_needPlayer g (p := n1) (by omega)) ?_
  refine r_iload_n F dX7_bestMove_4 rfl ?_
  refine r_aload_n F dX7_bestMove_5 rfl ?_
  refine r_get (x := .ref (gB G 1)) (T := TX7) (n := 0) F uw7 rfl rfl tw_274 (Or.inl rfl) dX7_bestMove_6 (kd_lt (rfl : kd 0 = (6,0,0)) (by decide)) (ce6 rfl) rfl ?_
  refine r_iload_n F dX7_bestMove_9 rfl ?_
  refine r_callN1i F fMX5_budgetOf tw_356 rfl rfl rfl rfl dX7_bestMove_10 rfl rfl z16 (m5_budgetOf g st1 hi.1 w.1 (pl := n1) (by omega)) ?_
  exact r_outS2 F he fMX7_needUpTo tw_544 rfl dX7_bestMove_13 rfl rfl (x7_needUpTo g (n := bud (sS a) n1) hx h)
set_option maxHeartbeats 4000000 in
theorem x7_winIn1 {G : GT} {v : VV} {L : LL} {Φ : VV → LL → Prop} (g : GH G) {x1 : Int32} (hx : oor x1 1) (h : Φ v L) : CX G MX7_winIn [.ref (gB G 0), .int x1] v L eIX Φ := by
  refine cx_of g [some (.ref (gB G 0)), some (.int x1), none, none] rfl rfl rfl rfl (fun K F he => ?_)
  refine r_iload_n F dX7_winIn_0 rfl ?_
  exact r_outS1 F he fMX7_needPlayer tw_652 rfl dX7_winIn_1 rfl rfl (x7_needPlayer g hx h)
set_option maxHeartbeats 4000000 in
theorem x7_playerOf1 {G : GT} {v : VV} {L : LL} {Φ : VV → LL → Prop} (g : GH G) {x1 : Int32} {x2 : Int32} (hx : oor x1 1) (h : Φ v L) : CX G MX7_playerOf [.ref (gB G 0), .int x1, .int x2] v L eIX Φ := by
  refine cx_of g [some (.ref (gB G 0)), some (.int x1), some (.int x2)] rfl rfl rfl rfl (fun K F he => ?_)
  refine r_iload_n F dX7_playerOf_0 rfl ?_
  exact r_outS1 F he fMX7_needPlayer tw_652 rfl dX7_playerOf_1 rfl rfl (x7_needPlayer g hx h)
set_option maxHeartbeats 4000000 in
theorem x7_playerOf2 {G : GT} {v : VV} {L : LL} {Φ : VV → LL → Prop} (g : GH G) {n1 : Nat} {x2 : Int32} (h1 : n1 ≤ 1) (hx : oor x2 5) (h : Φ v L) : CX G MX7_playerOf [.ref (gB G 0), .int (nI n1), .int x2] v L eIA Φ := by
  refine cx_of g [some (.ref (gB G 0)), some (.int (nI n1)), some (.int x2)] rfl rfl rfl rfl (fun K F he => ?_)
  refine r_iload_n F dX7_playerOf_0 rfl ?_
  refine r_callS1v F fMX7_needPlayer tw_652 rfl dX7_playerOf_1 rfl rfl z16 (m7_needPlayer g (p := n1) (by omega)) ?_
  refine r_iload_n F dX7_playerOf_4 rfl ?_
  refine r_iconst (x := 5) F dX7_playerOf_5 rfl ?_
  exact r_outS2 F he fMX7_needUpTo tw_544 rfl dX7_playerOf_6 rfl rfl (x7_needUpTo g (n := 5) hx h)
/-! the values that are told -/
theorem bud_le {S : Nat → Nat} (w : WS S) (pl : Nat) : bud S pl ≤ S 0 := by
  have := w.2.2.1
  unfold bud
  split <;> omega
theorem m2_tellB {G : GT} {v : VV} {L : LL} {a : AS} (g : GH G) (h : IC v a) (w : WA a) {m : Nat} (hm : m < 13) : CC G MX2_tell [.ref (gB G 79), .ref (gB G 1), .int (nI m)] v L (gV fun v' L' => L' = L ∧ IC v' a ∧ FrC v v' ∧ ∀ t pl p st, t ≤ m → pl < 2 → p < 8 → st < 2 → v' 82 (ix t pl p + st) = tq (thr (sS a) t pl p st)) := by
  obtain ⟨n, h1, h2, h3⟩ := h.2.2.2
  refine cc_mono (m2_tell5 g h.1 w.1 hm h1 h2 h3) ?_
  rintro r v' L' ⟨rfl, rfl, c, n1, e1, e2, e3, e4⟩
  exact ⟨rfl, rfl, h.tell5 c e1 e3 e4, fun k hk => c k (by omega) (by omega) (by omega) (by omega), fun t pl p st ht h2 h3 h4 => e4 t (by omega) pl h2 p h3 st h4⟩
set_option maxHeartbeats 8000000 in
theorem m7_threshold {G : GT} {v : VV} {L : LL} {a : AS} (g : GH G) (h : IC v a) (w : WA a) {pl p st i : Nat} (h1 : pl ≤ 1) (h2 : p < 8) (h4 : st ≤ 1) (h5 : i ≤ 1) : CC G MX7_threshold [.ref (gB G 0), .int (nI pl), .int (nI p), .int (nI st), .int (nI i)] v L (gI (PC v L a (thV (thr (sS a) (sS a 1) pl p st)))) := by
  refine cc_of g [some (.ref (gB G 0)), some (.int (nI pl)), some (.int (nI p)), some (.int (nI st)), some (.int (nI i)), none] rfl rfl rfl rfl (fun K F => ?_)
  have w0 : sS a 0 ≤ 20 := w.1.1
  have w1 : sS a 1 ≤ 12 := w.1.2.1
  have c2 : v 1 2 = sS a 1 := h.1.2.1
  have tc := thr_c (sS a) (sS a 1) pl p st
  refine r_iload_n F dX7_threshold_0 rfl ?_
  refine r_callS1v F fMX7_needPlayer tw_652 rfl dX7_threshold_1 rfl rfl z0 (m7_needPlayer g h1) ?_
  refine r_iload_n F dX7_threshold_4 rfl ?_
  refine r_callS1v F fMX7_needPosition tw_623 rfl dX7_threshold_5 rfl rfl z0 (m7_needPosition g (p := p) (by omega)) ?_
  refine r_iload_n F dX7_threshold_8 rfl ?_
  refine r_iconst (x := 1) F dX7_threshold_9 rfl ?_
  refine r_callS2v F fMX7_needUpTo tw_544 rfl dX7_threshold_10 rfl rfl z0 (m7_needUpTo g h4 (by decide)) ?_
  refine r_iload F dX7_threshold_13 rfl ?_
  refine r_iconst (x := 1) F dX7_threshold_15 rfl ?_
  refine r_callS2v F fMX7_needUpTo tw_544 rfl dX7_threshold_16 rfl rfl z0 (m7_needUpTo g h5 (by decide)) ?_
  refine r_iload F dX7_threshold_19 rfl ?_
  refine r_ifne F dX7_threshold_21 (by omega) (fun h21 => ?_) (fun h21 => ?_)
  · refine r_aload_n F dX7_threshold_63 rfl ?_
    refine r_get (x := .ref (gB G 79)) (T := TX7) (n := 6) F uw7 rfl rfl tw_280 (Or.inl rfl) dX7_threshold_64 (kd_lt (rfl : kd 0 = (6,0,0)) (by decide)) (ce6 rfl) rfl ?_
    refine r_aload_n F dX7_threshold_67 rfl ?_
    refine r_get (x := .ref (gB G 1)) (T := TX7) (n := 0) F uw7 rfl rfl tw_274 (Or.inl rfl) dX7_threshold_68 (kd_lt (rfl : kd 0 = (6,0,0)) (by decide)) (ce6 rfl) rfl ?_
    refine r_aload_n F dX7_threshold_71 rfl ?_
    refine r_get (x := .ref (gB G 1)) (T := TX7) (n := 0) F uw7 rfl rfl tw_274 (Or.inl rfl) dX7_threshold_72 (kd_lt (rfl : kd 0 = (6,0,0)) (by decide)) (ce6 rfl) rfl ?_
    refine r_getN (T := TX5) (n := 2) F uw5 rfl rfl tw_135 (Or.inl rfl) dX7_threshold_75 (kd_lt (rfl : kd 1 = (4,0,0)) (by decide)) (ce4 rfl) rfl ?_
    rw [c2]
    refine r_callU2w F fMX2_tell tw_660 tw_661 (Or.inl tw_429) (by decide) tw_662 tw_431 rfl rfl rfl rfl rfl dX7_threshold_78 rfl rfl z0 (m2_tellB g h w (by omega)) ?_
    rintro v1 L1 ⟨rfl, hi1, hf1, ht⟩
    have d2 : v1 1 2 = sS a 1 := hi1.1.2.1
    have d1 : v1 1 1 = sS a 0 := hi1.1.1
    refine r_aload_n F dX7_threshold_81 rfl ?_
    refine r_get (x := .ref (gB G 79)) (T := TX7) (n := 6) F uw7 rfl rfl tw_280 (Or.inl rfl) dX7_threshold_82 (kd_lt (rfl : kd 0 = (6,0,0)) (by decide)) (ce6 rfl) rfl ?_
    refine r_aload_n F dX7_threshold_85 rfl ?_
    refine r_get (x := .ref (gB G 1)) (T := TX7) (n := 0) F uw7 rfl rfl tw_274 (Or.inl rfl) dX7_threshold_86 (kd_lt (rfl : kd 0 = (6,0,0)) (by decide)) (ce6 rfl) rfl ?_
    refine r_getN (T := TX5) (n := 2) F uw5 rfl rfl tw_135 (Or.inl rfl) dX7_threshold_89 (kd_lt (rfl : kd 1 = (4,0,0)) (by decide)) (ce4 rfl) rfl ?_
    refine r_iload_n F dX7_threshold_92 rfl ?_
    refine r_iload_n F dX7_threshold_93 rfl ?_
    refine r_iload_n F dX7_threshold_94 rfl ?_
    rw [d2]
    refine r_callU4i F fMX2_entry tw_663 tw_664 (Or.inl tw_526) (by decide) tw_665 tw_474 rfl rfl rfl rfl rfl dX7_threshold_95 rfl rfl z0 (m2_entry5 g (by omega) (by omega) h2 (by omega)) ?_
    rw [ht _ _ _ _ (Nat.le_refl _) (by omega) h2 (by omega)]
    have htl := tq_lt (thr (sS a) (sS a 1) pl p st)
    refine r_ist5 F dX7_threshold_98 rfl rfl ?_
    refine r_iload F dX7_threshold_100 rfl ?_
    refine r_aload_n F dX7_threshold_102 rfl ?_
    refine r_get (x := .ref (gB G 1)) (T := TX7) (n := 0) F uw7 rfl rfl tw_274 (Or.inl rfl) dX7_threshold_103 (kd_lt (rfl : kd 0 = (6,0,0)) (by decide)) (ce6 rfl) rfl ?_
    refine r_getN (T := TX5) (n := 1) F uw5 rfl rfl tw_132 (Or.inl rfl) dX7_threshold_106 (kd_lt (rfl : kd 1 = (4,0,0)) (by decide)) (ce4 rfl) rfl ?_
    rw [d1]
    refine r_icgt F dX7_threshold_109 (by omega) (by omega) (fun h109 => ?_) (fun h109 => ?_)
    · refine R_iconst (x := -1) F dX7_threshold_117 rfl ?_
      first
        | (have he : thr (sS a) (sS a 1) pl p st = 99 := by rcases tc with z | z; (exact absurd ((tq_le w0).mpr z) (by omega)); exact z
           exact r_iret F rfl rfl dX7_threshold_118 ⟨_, rfl, by unfold thV; rw [if_pos he], rfl, hf1, hi1⟩)
        | (have he := (tq_le w0).mp h109
           exact r_iret F rfl rfl dX7_threshold_118 ⟨_, rfl, by unfold thV tq; rw [if_pos (show thr (sS a) (sS a 1) pl p st ≤ 20 by omega), if_neg (show ¬ thr (sS a) (sS a 1) pl p st = 99 by omega)], rfl, hf1, hi1⟩)
    · refine r_iload F dX7_threshold_112 rfl ?_
      refine r_goto F dX7_threshold_114 ?_
      first
        | (have he : thr (sS a) (sS a 1) pl p st = 99 := by rcases tc with z | z; (exact absurd ((tq_le w0).mpr z) (by omega)); exact z
           exact r_iret F rfl rfl dX7_threshold_118 ⟨_, rfl, by unfold thV; rw [if_pos he], rfl, hf1, hi1⟩)
        | (have he := (tq_le w0).mp h109
           exact r_iret F rfl rfl dX7_threshold_118 ⟨_, rfl, by unfold thV tq; rw [if_pos (show thr (sS a) (sS a 1) pl p st ≤ 20 by omega), if_neg (show ¬ thr (sS a) (sS a 1) pl p st = 99 by omega)], rfl, hf1, hi1⟩)
  · refine r_aload_n F dX7_threshold_24 rfl ?_
    refine r_get (x := .ref (gB G 75)) (T := TX7) (n := 5) F uw7 rfl rfl tw_279 (Or.inl rfl) dX7_threshold_25 (kd_lt (rfl : kd 0 = (6,0,0)) (by decide)) (ce6 rfl) rfl ?_
    refine r_aload_n F dX7_threshold_28 rfl ?_
    refine r_get (x := .ref (gB G 1)) (T := TX7) (n := 0) F uw7 rfl rfl tw_274 (Or.inl rfl) dX7_threshold_29 (kd_lt (rfl : kd 0 = (6,0,0)) (by decide)) (ce6 rfl) rfl ?_
    refine r_aload_n F dX7_threshold_32 rfl ?_
    refine r_get (x := .ref (gB G 1)) (T := TX7) (n := 0) F uw7 rfl rfl tw_274 (Or.inl rfl) dX7_threshold_33 (kd_lt (rfl : kd 0 = (6,0,0)) (by decide)) (ce6 rfl) rfl ?_
    refine r_getN (T := TX5) (n := 2) F uw5 rfl rfl tw_135 (Or.inl rfl) dX7_threshold_36 (kd_lt (rfl : kd 1 = (4,0,0)) (by decide)) (ce4 rfl) rfl ?_
    rw [c2]
    refine r_callU2w F fMX2_tell tw_427 tw_428 (Or.inl tw_429) (by decide) tw_430 tw_431 rfl rfl rfl rfl rfl dX7_threshold_39 rfl rfl z0 (m2_tellA g h w (by omega)) ?_
    rintro v1 L1 ⟨rfl, ht⟩
    have d2 : v1 1 2 = sS a 1 := ht.1.1.2.1
    refine r_aload_n F dX7_threshold_42 rfl ?_
    refine r_get (x := .ref (gB G 75)) (T := TX7) (n := 5) F uw7 rfl rfl tw_279 (Or.inl rfl) dX7_threshold_43 (kd_lt (rfl : kd 0 = (6,0,0)) (by decide)) (ce6 rfl) rfl ?_
    refine r_aload_n F dX7_threshold_46 rfl ?_
    refine r_get (x := .ref (gB G 1)) (T := TX7) (n := 0) F uw7 rfl rfl tw_274 (Or.inl rfl) dX7_threshold_47 (kd_lt (rfl : kd 0 = (6,0,0)) (by decide)) (ce6 rfl) rfl ?_
    refine r_getN (T := TX5) (n := 2) F uw5 rfl rfl tw_135 (Or.inl rfl) dX7_threshold_50 (kd_lt (rfl : kd 1 = (4,0,0)) (by decide)) (ce4 rfl) rfl ?_
    refine r_iload_n F dX7_threshold_53 rfl ?_
    refine r_iload_n F dX7_threshold_54 rfl ?_
    refine r_iload_n F dX7_threshold_55 rfl ?_
    rw [d2]
    refine r_callU4i F fMX2_entry tw_524 tw_525 (Or.inl tw_526) (by decide) tw_527 tw_474 rfl rfl rfl rfl rfl dX7_threshold_56 rfl rfl z0 (m2_entry2 g (by omega) (by omega) h2 (by omega)) ?_
    rw [ht.at (Nat.le_refl _) (by omega) h2 (by omega)]
    refine r_callS1q F fMX7_leastOf tw_656 rfl dX7_threshold_59 rfl rfl z0 (m7_leastOf g w0 tc) ?_
    exact r_iret F rfl rfl dX7_threshold_62 ⟨_, rfl, rfl, rfl, ht.2.1, ht.1⟩
def adV (S : Nat → Nat) (pl : Nat) : Int32 := if ovr S (S 4) = true ∨ S 1 = 0 then -1 else orM (lbid (soT S (S 1 - 1) pl (S 4)) (eaT S (S 1 - 1) pl (S 4)) (S 0) pl (S 3) (bud S pl)) (bud S pl)
def reV (S : Nat → Nat) (pl b : Nat) : Int32 := if won S pl (S 4) = true then -1 else if ovr S (S 4) = true ∨ S 1 = 0 then nI 0 else orM (refu (soT S (S 1 - 1) pl (S 4)) (eaT S (S 1 - 1) pl (S 4)) (S 0) pl (S 3) (bud S pl) b) (S 0 - bud S pl)
/-- told, and looked behind -/
def LB (v v' : VV) (a : AS) (t pl p : Nat) : Prop := IC v' a ∧ FrC v v' ∧ Bh v' (soT (sS a) t pl p) (eaT (sS a) t pl p) (sS a 0)
theorem lb_of {v v1 v2 : VV} {a : AS} {t pl p : Nat} (h : TL v v1 a t) (c : ∀ k, k ≠ 76 → k ≠ 77 → v2 k = v1 k) (hb : Bh v2 (soT (sS a) t pl p) (eaT (sS a) t pl p) (sS a 0)) : LB v v2 a t pl p := by
  obtain ⟨hi, hf, -⟩ := h
  obtain ⟨n, h1, h2, h3⟩ := hi.2.2.1
  refine ⟨hi.tell2 (fun k a b d e => c k b d) h1 (by rw [c 75 (by decide) (by decide)]; exact h2) (fun t ht pl hp p hq st hs => by rw [c 78 (by decide) (by decide)]; exact h3 t ht pl hp p hq st hs), hf.trans (fun k hk => c k (by omega) (by omega)), hb⟩
theorem m2_behA {G : GT} {v v1 : VV} {L : LL} {a : AS} (g : GH G) (h : TL v v1 a (sS a 1 - 1)) (w : WA a) (h1 : sS a 1 ≠ 0) {pl : Nat} (h2 : pl < 2) : CC G MX2_lookBehind [.ref (gB G 75), .ref (gB G 1), .int (nI (sS a 1)), .int (nI pl), .int (nI (sS a 4))] v1 L (gV fun v' L' => L' = L ∧ LB v v' a (sS a 1 - 1) pl (sS a 4)) := by
  have w1 : sS a 1 ≤ 12 := w.1.2.1
  have w4 : sS a 4 < 8 := w.1.2.2.2.2.1
  have hm := m2_lookBehind2 (v := v1) (L := L) g h.1.1 w.1 (t := sS a 1 - 1) (pl := pl) (p := sS a 4) (by omega) h2 w4 (fun q hq σ hσ => h.at (Nat.le_refl _) h2 hq hσ)
  rw [show sS a 1 - 1 + 1 = sS a 1 by omega] at hm
  refine cc_mono hm ?_
  rintro r v' L' ⟨rfl, rfl, c, e⟩
  exact ⟨rfl, rfl, lb_of h c e⟩
set_option maxHeartbeats 8000000 in
theorem m7_advice {G : GT} {v : VV} {L : LL} {a : AS} (g : GH G) (h : IC v a) (w : WA a) {pl : Nat} (h1 : pl ≤ 1) : CC G MX7_advice [.ref (gB G 0), .int (nI pl)] v L (gI (PC v L a (adV (sS a) pl))) := by
  refine cc_of g [some (.ref (gB G 0)), some (.int (nI pl))] rfl rfl rfl rfl (fun K F => ?_)
  have w0 : sS a 0 ≤ 20 := w.1.1
  have w1 : sS a 1 ≤ 12 := w.1.2.1
  have w3 : sS a 3 ≤ 1 := w.1.2.2.2.1
  have c2 : v 1 2 = sS a 1 := h.1.2.1
  refine r_iload_n F dX7_advice_0 rfl ?_
  refine r_callS1v F fMX7_needPlayer tw_652 rfl dX7_advice_1 rfl rfl z0 (m7_needPlayer g h1) ?_
  refine r_aload_n F dX7_advice_4 rfl ?_
  refine r_get (x := .ref (gB G 1)) (T := TX7) (n := 0) F uw7 rfl rfl tw_274 (Or.inl rfl) dX7_advice_5 (kd_lt (rfl : kd 0 = (6,0,0)) (by decide)) (ce6 rfl) rfl ?_
  refine r_callN0i F fMX5_isOver tw_348 rfl rfl rfl rfl dX7_advice_8 rfl rfl z0 (m5_isOver g st1 h.1 w.1) ?_
  refine r_Bne F dX7_advice_11 (fun h11 => ?_) (fun h11 => ?_)
  · refine R_iconst (x := -1) F dX7_advice_24 rfl ?_
    first
      | exact r_iret F rfl rfl dX7_advice_25 ⟨_, rfl, by unfold adV; rw [if_pos (Or.inl h11)], rfl, FrC.rf v, h⟩
      | exact r_iret F rfl rfl dX7_advice_25 ⟨_, rfl, by unfold adV; rw [if_pos (Or.inr h21)], rfl, FrC.rf v, h⟩
  · refine r_aload_n F dX7_advice_14 rfl ?_
    refine r_get (x := .ref (gB G 1)) (T := TX7) (n := 0) F uw7 rfl rfl tw_274 (Or.inl rfl) dX7_advice_15 (kd_lt (rfl : kd 0 = (6,0,0)) (by decide)) (ce6 rfl) rfl ?_
    refine r_getN (T := TX5) (n := 2) F uw5 rfl rfl tw_135 (Or.inl rfl) dX7_advice_18 (kd_lt (rfl : kd 1 = (4,0,0)) (by decide)) (ce4 rfl) rfl ?_
    rw [c2]
    refine r_ifne F dX7_advice_21 (by omega) (fun h21 => ?_) (fun h21 => ?_)
    · refine r_aload_n F dX7_advice_26 rfl ?_
      refine r_get (x := .ref (gB G 75)) (T := TX7) (n := 5) F uw7 rfl rfl tw_279 (Or.inl rfl) dX7_advice_27 (kd_lt (rfl : kd 0 = (6,0,0)) (by decide)) (ce6 rfl) rfl ?_
      refine r_aload_n F dX7_advice_30 rfl ?_
      refine r_get (x := .ref (gB G 1)) (T := TX7) (n := 0) F uw7 rfl rfl tw_274 (Or.inl rfl) dX7_advice_31 (kd_lt (rfl : kd 0 = (6,0,0)) (by decide)) (ce6 rfl) rfl ?_
      refine r_aload_n F dX7_advice_34 rfl ?_
      refine r_get (x := .ref (gB G 1)) (T := TX7) (n := 0) F uw7 rfl rfl tw_274 (Or.inl rfl) dX7_advice_35 (kd_lt (rfl : kd 0 = (6,0,0)) (by decide)) (ce6 rfl) rfl ?_
      refine r_getN (T := TX5) (n := 2) F uw5 rfl rfl tw_135 (Or.inl rfl) dX7_advice_38 (kd_lt (rfl : kd 1 = (4,0,0)) (by decide)) (ce4 rfl) rfl ?_
      refine r_iconst (x := 1) F dX7_advice_41 rfl ?_
      rw [c2]
      refine r_isub F dX7_advice_42 (by omega) ?_
      refine r_callU2w F fMX2_tell tw_427 tw_428 (Or.inl tw_429) (by decide) tw_430 tw_431 rfl rfl rfl rfl rfl dX7_advice_43 rfl rfl z0 (m2_tellA g h w (by omega)) ?_
      rintro v1 L1 ⟨rfl, ht⟩
      have d2 : v1 1 2 = sS a 1 := ht.1.1.2.1
      have d3 : v1 1 3 = sS a 4 := ht.1.1.2.2.1
      refine r_aload_n F dX7_advice_46 rfl ?_
      refine r_get (x := .ref (gB G 75)) (T := TX7) (n := 5) F uw7 rfl rfl tw_279 (Or.inl rfl) dX7_advice_47 (kd_lt (rfl : kd 0 = (6,0,0)) (by decide)) (ce6 rfl) rfl ?_
      refine r_aload_n F dX7_advice_50 rfl ?_
      refine r_get (x := .ref (gB G 1)) (T := TX7) (n := 0) F uw7 rfl rfl tw_274 (Or.inl rfl) dX7_advice_51 (kd_lt (rfl : kd 0 = (6,0,0)) (by decide)) (ce6 rfl) rfl ?_
      refine r_aload_n F dX7_advice_54 rfl ?_
      refine r_get (x := .ref (gB G 1)) (T := TX7) (n := 0) F uw7 rfl rfl tw_274 (Or.inl rfl) dX7_advice_55 (kd_lt (rfl : kd 0 = (6,0,0)) (by decide)) (ce6 rfl) rfl ?_
      refine r_getN (T := TX5) (n := 2) F uw5 rfl rfl tw_135 (Or.inl rfl) dX7_advice_58 (kd_lt (rfl : kd 1 = (4,0,0)) (by decide)) (ce4 rfl) rfl ?_
      refine r_iload_n F dX7_advice_61 rfl ?_
      refine r_aload_n F dX7_advice_62 rfl ?_
      refine r_get (x := .ref (gB G 1)) (T := TX7) (n := 0) F uw7 rfl rfl tw_274 (Or.inl rfl) dX7_advice_63 (kd_lt (rfl : kd 0 = (6,0,0)) (by decide)) (ce6 rfl) rfl ?_
      refine r_getN (T := TX5) (n := 3) F uw5 rfl rfl tw_138 (Or.inl rfl) dX7_advice_66 (kd_lt (rfl : kd 1 = (4,0,0)) (by decide)) (ce4 rfl) rfl ?_
      rw [d2, d3]
      refine r_callU4w F fMX2_lookBehind tw_685 tw_686 (Or.inl tw_687) (by decide) tw_688 tw_464 rfl rfl rfl rfl rfl dX7_advice_69 rfl rfl z0 (m2_behA g ht w h21 (by omega)) ?_
      rintro v2 L2 ⟨rfl, hl⟩
      have f1 : v2 1 1 = sS a 0 := hl.1.1.1
      have f5 : v2 1 5 = sS a 3 := hl.1.1.2.2.2.2.1
      refine r_aload_n F dX7_advice_72 rfl ?_
      refine r_get (x := .ref (gB G 75)) (T := TX7) (n := 5) F uw7 rfl rfl tw_279 (Or.inl rfl) dX7_advice_73 (kd_lt (rfl : kd 0 = (6,0,0)) (by decide)) (ce6 rfl) rfl ?_
      refine r_aload_n F dX7_advice_76 rfl ?_
      refine r_get (x := .ref (gB G 1)) (T := TX7) (n := 0) F uw7 rfl rfl tw_274 (Or.inl rfl) dX7_advice_77 (kd_lt (rfl : kd 0 = (6,0,0)) (by decide)) (ce6 rfl) rfl ?_
      refine r_getN (T := TX5) (n := 1) F uw5 rfl rfl tw_132 (Or.inl rfl) dX7_advice_80 (kd_lt (rfl : kd 1 = (4,0,0)) (by decide)) (ce4 rfl) rfl ?_
      refine r_iload_n F dX7_advice_83 rfl ?_
      refine r_aload_n F dX7_advice_84 rfl ?_
      refine r_get (x := .ref (gB G 1)) (T := TX7) (n := 0) F uw7 rfl rfl tw_274 (Or.inl rfl) dX7_advice_85 (kd_lt (rfl : kd 0 = (6,0,0)) (by decide)) (ce6 rfl) rfl ?_
      refine r_iload_n F dX7_advice_88 rfl ?_
      refine r_callN1i F fMX5_budgetOf tw_356 rfl rfl rfl rfl dX7_advice_89 rfl rfl z0 (m5_budgetOf g st1 hl.1.1 w.1 (by omega)) ?_
      refine r_aload_n F dX7_advice_92 rfl ?_
      refine r_get (x := .ref (gB G 1)) (T := TX7) (n := 0) F uw7 rfl rfl tw_274 (Or.inl rfl) dX7_advice_93 (kd_lt (rfl : kd 0 = (6,0,0)) (by decide)) (ce6 rfl) rfl ?_
      refine r_getN (T := TX5) (n := 5) F uw5 rfl rfl tw_142 (Or.inl rfl) dX7_advice_96 (kd_lt (rfl : kd 1 = (4,0,0)) (by decide)) (ce4 rfl) rfl ?_
      rw [f1, f5]
      refine r_callN4q F fMX3_leastWinningBid tw_689 rfl rfl rfl rfl dX7_advice_99 rfl rfl z0 (m3_leastWinningBid g hl.2.2 w0 (by omega) (by omega) (bud_le w.1 pl)) ?_
      exact r_iret F rfl rfl dX7_advice_102 ⟨_, rfl, by unfold adV; rw [if_neg (fun z => z.elim (fun z => by rw [z] at h11; cases h11) h21)], rfl, hl.2.1, hl.1⟩
    · refine R_iconst (x := -1) F dX7_advice_24 rfl ?_
      first
        | exact r_iret F rfl rfl dX7_advice_25 ⟨_, rfl, by unfold adV; rw [if_pos (Or.inl h11)], rfl, FrC.rf v, h⟩
        | exact r_iret F rfl rfl dX7_advice_25 ⟨_, rfl, by unfold adV; rw [if_pos (Or.inr h21)], rfl, FrC.rf v, h⟩
set_option maxHeartbeats 8000000 in
theorem m7_refuted {G : GT} {v : VV} {L : LL} {a : AS} (g : GH G) (h : IC v a) (w : WA a) {pl b : Nat} (h1 : pl ≤ 1) (hb : b ≤ bud (sS a) pl) : CC G MX7_refuted [.ref (gB G 0), .int (nI pl), .int (nI b)] v L (gI (PC v L a (reV (sS a) pl b))) := by
  refine cc_of g [some (.ref (gB G 0)), some (.int (nI pl)), some (.int (nI b))] rfl rfl rfl rfl (fun K F => ?_)
  have w0 : sS a 0 ≤ 20 := w.1.1
  have w1 : sS a 1 ≤ 12 := w.1.2.1
  have w3 : sS a 3 ≤ 1 := w.1.2.2.2.1
  have w4 : sS a 4 < 8 := w.1.2.2.2.2.1
  have wb := bud_le w.1 pl
  have c2 : v 1 2 = sS a 1 := h.1.2.1
  have c3 : v 1 3 = sS a 4 := h.1.2.2.1
  refine r_iload_n F dX7_refuted_0 rfl ?_
  refine r_callS1v F fMX7_needPlayer tw_652 rfl dX7_refuted_1 rfl rfl z0 (m7_needPlayer g h1) ?_
  refine r_iload_n F dX7_refuted_4 rfl ?_
  refine r_aload_n F dX7_refuted_5 rfl ?_
  refine r_get (x := .ref (gB G 1)) (T := TX7) (n := 0) F uw7 rfl rfl tw_274 (Or.inl rfl) dX7_refuted_6 (kd_lt (rfl : kd 0 = (6,0,0)) (by decide)) (ce6 rfl) rfl ?_
  refine r_iload_n F dX7_refuted_9 rfl ?_
  refine r_callN1i F fMX5_budgetOf tw_356 rfl rfl rfl rfl dX7_refuted_10 rfl rfl z0 (m5_budgetOf g st1 h.1 w.1 (by omega)) ?_
  refine r_callS2v F fMX7_needUpTo tw_544 rfl dX7_refuted_13 rfl rfl z0 (m7_needUpTo g hb (by omega)) ?_
  refine r_aload_n F dX7_refuted_16 rfl ?_
  refine r_get (x := .ref (gB G 1)) (T := TX7) (n := 0) F uw7 rfl rfl tw_274 (Or.inl rfl) dX7_refuted_17 (kd_lt (rfl : kd 0 = (6,0,0)) (by decide)) (ce6 rfl) rfl ?_
  refine r_getN (x := .ref (gB G 2)) (T := TX5) (n := 0) F uw5 rfl rfl tw_129 (Or.inl rfl) dX7_refuted_20 (kd_lt (rfl : kd 1 = (4,0,0)) (by decide)) (ce4 rfl) rfl ?_
  refine r_iload_n F dX7_refuted_23 rfl ?_
  refine r_aload_n F dX7_refuted_24 rfl ?_
  refine r_get (x := .ref (gB G 1)) (T := TX7) (n := 0) F uw7 rfl rfl tw_274 (Or.inl rfl) dX7_refuted_25 (kd_lt (rfl : kd 0 = (6,0,0)) (by decide)) (ce6 rfl) rfl ?_
  refine r_getN (T := TX5) (n := 3) F uw5 rfl rfl tw_138 (Or.inl rfl) dX7_refuted_28 (kd_lt (rfl : kd 1 = (4,0,0)) (by decide)) (ce4 rfl) rfl ?_
  rw [c3]
  refine r_callN2i F fMX0_isWonFor tw_694 rfl rfl rfl rfl dX7_refuted_31 rfl rfl z0 (m0_isWonFor g bd2 h.1.b w.1.b w4 (by omega)) ?_
  refine r_Beq F dX7_refuted_34 (fun h34 => ?_) (fun h34 => ?_)
  · refine r_aload_n F dX7_refuted_39 rfl ?_
    refine r_get (x := .ref (gB G 1)) (T := TX7) (n := 0) F uw7 rfl rfl tw_274 (Or.inl rfl) dX7_refuted_40 (kd_lt (rfl : kd 0 = (6,0,0)) (by decide)) (ce6 rfl) rfl ?_
    refine r_callN0i F fMX5_isOver tw_348 rfl rfl rfl rfl dX7_refuted_43 rfl rfl z0 (m5_isOver g st1 h.1 w.1) ?_
    refine r_Bne F dX7_refuted_46 (fun h46 => ?_) (fun h46 => ?_)
    · refine r_iconst (x := 0) F dX7_refuted_59 rfl ?_
      first
        | exact r_iret F rfl rfl dX7_refuted_60 ⟨_, rfl, by unfold reV; rw [if_neg (by rw [h34]; decide), if_pos (Or.inl h46)], rfl, FrC.rf v, h⟩
        | exact r_iret F rfl rfl dX7_refuted_60 ⟨_, rfl, by unfold reV; rw [if_neg (by rw [h34]; decide), if_pos (Or.inr h56)], rfl, FrC.rf v, h⟩
    · refine r_aload_n F dX7_refuted_49 rfl ?_
      refine r_get (x := .ref (gB G 1)) (T := TX7) (n := 0) F uw7 rfl rfl tw_274 (Or.inl rfl) dX7_refuted_50 (kd_lt (rfl : kd 0 = (6,0,0)) (by decide)) (ce6 rfl) rfl ?_
      refine r_getN (T := TX5) (n := 2) F uw5 rfl rfl tw_135 (Or.inl rfl) dX7_refuted_53 (kd_lt (rfl : kd 1 = (4,0,0)) (by decide)) (ce4 rfl) rfl ?_
      rw [c2]
      refine r_ifne F dX7_refuted_56 (by omega) (fun h56 => ?_) (fun h56 => ?_)
      · refine r_aload_n F dX7_refuted_61 rfl ?_
        refine r_get (x := .ref (gB G 75)) (T := TX7) (n := 5) F uw7 rfl rfl tw_279 (Or.inl rfl) dX7_refuted_62 (kd_lt (rfl : kd 0 = (6,0,0)) (by decide)) (ce6 rfl) rfl ?_
        refine r_aload_n F dX7_refuted_65 rfl ?_
        refine r_get (x := .ref (gB G 1)) (T := TX7) (n := 0) F uw7 rfl rfl tw_274 (Or.inl rfl) dX7_refuted_66 (kd_lt (rfl : kd 0 = (6,0,0)) (by decide)) (ce6 rfl) rfl ?_
        refine r_aload_n F dX7_refuted_69 rfl ?_
        refine r_get (x := .ref (gB G 1)) (T := TX7) (n := 0) F uw7 rfl rfl tw_274 (Or.inl rfl) dX7_refuted_70 (kd_lt (rfl : kd 0 = (6,0,0)) (by decide)) (ce6 rfl) rfl ?_
        refine r_getN (T := TX5) (n := 2) F uw5 rfl rfl tw_135 (Or.inl rfl) dX7_refuted_73 (kd_lt (rfl : kd 1 = (4,0,0)) (by decide)) (ce4 rfl) rfl ?_
        refine r_iconst (x := 1) F dX7_refuted_76 rfl ?_
        rw [c2]
        refine r_isub F dX7_refuted_77 (by omega) ?_
        refine r_callU2w F fMX2_tell tw_427 tw_428 (Or.inl tw_429) (by decide) tw_430 tw_431 rfl rfl rfl rfl rfl dX7_refuted_78 rfl rfl z0 (m2_tellA g h w (by omega)) ?_
        rintro v1 L1 ⟨rfl, ht⟩
        have d2 : v1 1 2 = sS a 1 := ht.1.1.2.1
        have d3 : v1 1 3 = sS a 4 := ht.1.1.2.2.1
        refine r_aload_n F dX7_refuted_81 rfl ?_
        refine r_get (x := .ref (gB G 75)) (T := TX7) (n := 5) F uw7 rfl rfl tw_279 (Or.inl rfl) dX7_refuted_82 (kd_lt (rfl : kd 0 = (6,0,0)) (by decide)) (ce6 rfl) rfl ?_
        refine r_aload_n F dX7_refuted_85 rfl ?_
        refine r_get (x := .ref (gB G 1)) (T := TX7) (n := 0) F uw7 rfl rfl tw_274 (Or.inl rfl) dX7_refuted_86 (kd_lt (rfl : kd 0 = (6,0,0)) (by decide)) (ce6 rfl) rfl ?_
        refine r_aload_n F dX7_refuted_89 rfl ?_
        refine r_get (x := .ref (gB G 1)) (T := TX7) (n := 0) F uw7 rfl rfl tw_274 (Or.inl rfl) dX7_refuted_90 (kd_lt (rfl : kd 0 = (6,0,0)) (by decide)) (ce6 rfl) rfl ?_
        refine r_getN (T := TX5) (n := 2) F uw5 rfl rfl tw_135 (Or.inl rfl) dX7_refuted_93 (kd_lt (rfl : kd 1 = (4,0,0)) (by decide)) (ce4 rfl) rfl ?_
        refine r_iload_n F dX7_refuted_96 rfl ?_
        refine r_aload_n F dX7_refuted_97 rfl ?_
        refine r_get (x := .ref (gB G 1)) (T := TX7) (n := 0) F uw7 rfl rfl tw_274 (Or.inl rfl) dX7_refuted_98 (kd_lt (rfl : kd 0 = (6,0,0)) (by decide)) (ce6 rfl) rfl ?_
        refine r_getN (T := TX5) (n := 3) F uw5 rfl rfl tw_138 (Or.inl rfl) dX7_refuted_101 (kd_lt (rfl : kd 1 = (4,0,0)) (by decide)) (ce4 rfl) rfl ?_
        rw [d2, d3]
        refine r_callU4w F fMX2_lookBehind tw_685 tw_686 (Or.inl tw_687) (by decide) tw_688 tw_464 rfl rfl rfl rfl rfl dX7_refuted_104 rfl rfl z0 (m2_behA g ht w h56 (by omega)) ?_
        rintro v2 L2 ⟨rfl, hl⟩
        have f1 : v2 1 1 = sS a 0 := hl.1.1.1
        have f5 : v2 1 5 = sS a 3 := hl.1.1.2.2.2.2.1
        refine r_aload_n F dX7_refuted_107 rfl ?_
        refine r_get (x := .ref (gB G 75)) (T := TX7) (n := 5) F uw7 rfl rfl tw_279 (Or.inl rfl) dX7_refuted_108 (kd_lt (rfl : kd 0 = (6,0,0)) (by decide)) (ce6 rfl) rfl ?_
        refine r_aload_n F dX7_refuted_111 rfl ?_
        refine r_get (x := .ref (gB G 1)) (T := TX7) (n := 0) F uw7 rfl rfl tw_274 (Or.inl rfl) dX7_refuted_112 (kd_lt (rfl : kd 0 = (6,0,0)) (by decide)) (ce6 rfl) rfl ?_
        refine r_getN (T := TX5) (n := 1) F uw5 rfl rfl tw_132 (Or.inl rfl) dX7_refuted_115 (kd_lt (rfl : kd 1 = (4,0,0)) (by decide)) (ce4 rfl) rfl ?_
        refine r_iload_n F dX7_refuted_118 rfl ?_
        refine r_aload_n F dX7_refuted_119 rfl ?_
        refine r_get (x := .ref (gB G 1)) (T := TX7) (n := 0) F uw7 rfl rfl tw_274 (Or.inl rfl) dX7_refuted_120 (kd_lt (rfl : kd 0 = (6,0,0)) (by decide)) (ce6 rfl) rfl ?_
        refine r_iload_n F dX7_refuted_123 rfl ?_
        refine r_callN1i F fMX5_budgetOf tw_356 rfl rfl rfl rfl dX7_refuted_124 rfl rfl z0 (m5_budgetOf g st1 hl.1.1 w.1 (by omega)) ?_
        refine r_aload_n F dX7_refuted_127 rfl ?_
        refine r_get (x := .ref (gB G 1)) (T := TX7) (n := 0) F uw7 rfl rfl tw_274 (Or.inl rfl) dX7_refuted_128 (kd_lt (rfl : kd 0 = (6,0,0)) (by decide)) (ce6 rfl) rfl ?_
        refine r_getN (T := TX5) (n := 5) F uw5 rfl rfl tw_142 (Or.inl rfl) dX7_refuted_131 (kd_lt (rfl : kd 1 = (4,0,0)) (by decide)) (ce4 rfl) rfl ?_
        refine r_iload_n F dX7_refuted_134 rfl ?_
        rw [f1, f5]
        refine r_callN5q F fMX3_leastRefutation tw_695 rfl rfl rfl rfl dX7_refuted_135 rfl rfl z0 (m3_leastRefutation g hl.2.2 w0 (by omega) (by omega) wb hb) ?_
        exact r_iret F rfl rfl dX7_refuted_138 ⟨_, rfl, by unfold reV; rw [if_neg (by rw [h34]; decide), if_neg (fun z => z.elim (fun z => by rw [z] at h46; cases h46) h56)], rfl, hl.2.1, hl.1⟩
      · refine r_iconst (x := 0) F dX7_refuted_59 rfl ?_
        first
          | exact r_iret F rfl rfl dX7_refuted_60 ⟨_, rfl, by unfold reV; rw [if_neg (by rw [h34]; decide), if_pos (Or.inl h46)], rfl, FrC.rf v, h⟩
          | exact r_iret F rfl rfl dX7_refuted_60 ⟨_, rfl, by unfold reV; rw [if_neg (by rw [h34]; decide), if_pos (Or.inr h56)], rfl, FrC.rf v, h⟩
  · refine R_iconst (x := -1) F dX7_refuted_37 rfl ?_
    exact r_iret F rfl rfl dX7_refuted_38 ⟨_, rfl, by unfold reV; rw [if_pos h34], rfl, FrC.rf v, h⟩
def bmV (S : Nat → Nat) (pl b : Nat) : Int32 := if ovr S (S 4) = true ∨ S 1 = 0 then -1 else if fsN (fun i => decide (thr S (S 1 - 1) pl (S (14 + 6 * S 4 + i)) (S 3) ≤ bud S pl - b)) (S (13 + 6 * S 4)) < S (13 + 6 * S 4) then nI (S (14 + 6 * S 4 + fsN (fun i => decide (thr S (S 1 - 1) pl (S (14 + 6 * S 4 + i)) (S 3) ≤ bud S pl - b)) (S (13 + 6 * S 4)))) else -1
set_option maxHeartbeats 8000000 in
theorem m7_bestMove {G : GT} {v : VV} {L : LL} {a : AS} (g : GH G) (h : IC v a) (w : WA a) {pl b : Nat} (h1 : pl ≤ 1) (hb : b ≤ bud (sS a) pl) : CC G MX7_bestMove [.ref (gB G 0), .int (nI pl), .int (nI b)] v L (gI (PC v L a (bmV (sS a) pl b))) := by
  refine cc_of g [some (.ref (gB G 0)), some (.int (nI pl)), some (.int (nI b)), none, none, none] rfl rfl rfl rfl (fun K F => ?_)
  have w0 : sS a 0 ≤ 20 := w.1.1
  have w1 : sS a 1 ≤ 12 := w.1.2.1
  have w3 : sS a 3 ≤ 1 := w.1.2.2.2.1
  have w4 : sS a 4 < 8 := w.1.2.2.2.2.1
  have wb := bud_le w.1 pl
  have wc := (w.1.b _ w4).2.1
  have c2 : v 1 2 = sS a 1 := h.1.2.1
  obtain ⟨f, hf⟩ : ∃ f : Nat → Bool, f = fun i => decide (thr (sS a) (sS a 1 - 1) pl (sS a (14 + 6 * sS a 4 + i)) (sS a 3) ≤ bud (sS a) pl - b) := ⟨_, rfl⟩
  have loop : ¬ (ovr (sS a) (sS a 4) = true ∨ sS a 1 = 0) → ∀ (v1 : VV), TL v v1 a (sS a 1 - 1) → ∀ (n i : Nat) (u : Option Value), sS a (13 + 6 * sS a 4) < i + n → i ≤ sS a (13 + 6 * sS a 4) → (∀ j, j < i → f j = false) → CW G K 6 0 0 (MQ (kb K) (Qn G (gI (PC v L a (bmV (sS a) pl b)))) (ka K) (ks K) 0 0 (gA G)) v1 L 72 [some (.ref (gB G 0)), some (.int (nI pl)), some (.int (nI b)), some (.int (nI (bud (sS a) pl - b))), some (.int (nI i)), none] [] := by
    intro hno v1 ht n
    have d2 : v1 1 2 = sS a 1 := ht.1.1.2.1
    have d3 : v1 1 3 = sS a 4 := ht.1.1.2.2.1
    have d5 : v1 1 5 = sS a 3 := ht.1.1.2.2.2.2.1
    have d4 : v1 4 (sS a 4) = sS a (13 + 6 * sS a 4) := (ht.1.1.b _ w4).2.1
    induction n with
    | zero => intro i u a1 a2; omega
    | succ n ih =>
      intro i u a1 a2 a3
      have hm : i < sS a (13 + 6 * sS a 4) → mvA (sS a) (sS a 4) i = nI (sS a (14 + 6 * sS a 4 + i)) := fun z => by unfold mvA; rw [if_pos z]
      have hq : i < sS a (13 + 6 * sS a 4) → sS a (14 + 6 * sS a 4 + i) < 8 := fun z => (w.1.b _ w4).2.2 i z
      refine r_iload F dX7_bestMove_72 rfl ?_
      refine r_aload_n F dX7_bestMove_74 rfl ?_
      refine r_get (x := .ref (gB G 1)) (T := TX7) (n := 0) F uw7 rfl rfl tw_274 (Or.inl rfl) dX7_bestMove_75 (kd_lt (rfl : kd 0 = (6,0,0)) (by decide)) (ce6 rfl) rfl ?_
      refine r_getN (x := .ref (gB G 2)) (T := TX5) (n := 0) F uw5 rfl rfl tw_129 (Or.inl rfl) dX7_bestMove_78 (kd_lt (rfl : kd 1 = (4,0,0)) (by decide)) (ce4 rfl) rfl ?_
      refine r_getN (x := .ref (gB G 4)) (T := TX0) (n := 1) F uw0 rfl rfl tw_116 (Or.inl rfl) dX7_bestMove_81 (kd_lt (rfl : kd 2 = (0,0,0)) (by decide)) (ce0 rfl) rfl ?_
      refine r_aload_n F dX7_bestMove_84 rfl ?_
      refine r_get (x := .ref (gB G 1)) (T := TX7) (n := 0) F uw7 rfl rfl tw_274 (Or.inl rfl) dX7_bestMove_85 (kd_lt (rfl : kd 0 = (6,0,0)) (by decide)) (ce6 rfl) rfl ?_
      refine r_getN (T := TX5) (n := 3) F uw5 rfl rfl tw_138 (Or.inl rfl) dX7_bestMove_88 (kd_lt (rfl : kd 1 = (4,0,0)) (by decide)) (ce4 rfl) rfl ?_
      rw [d3]
      refine r_iald F dX7_bestMove_91 rfl (show sS a 4 < 8 by omega) ?_
      rw [show v1 4 (sS a 4) = sS a (13 + 6 * sS a 4) from d4]
      refine r_icge F dX7_bestMove_92 (by omega) (by omega) (fun h92 => ?_) (fun h92 => ?_)
      · refine R_iconst (x := -1) F dX7_bestMove_158 rfl ?_
        first
          | (have he : fsN f (sS a (13 + 6 * sS a 4)) = i := fsN_eq h92 (by rw [hf]; exact decide_eq_true h146) a3
             exact r_iret F rfl rfl dX7_bestMove_159 ⟨_, rfl, by unfold bmV; rw [if_neg hno, ← hf, he, if_pos h92], rfl, ht.2.1, ht.1⟩)
          | (have he : fsN f (sS a (13 + 6 * sS a 4)) = sS a (13 + 6 * sS a 4) := fsN_none (fun j hj => a3 j (by omega))
             exact r_iret F rfl rfl dX7_bestMove_159 ⟨_, rfl, by unfold bmV; rw [if_neg hno, ← hf, he, if_neg (Nat.lt_irrefl _)], rfl, ht.2.1, ht.1⟩)
      · refine r_aload_n F dX7_bestMove_95 rfl ?_
        refine r_get (x := .ref (gB G 1)) (T := TX7) (n := 0) F uw7 rfl rfl tw_274 (Or.inl rfl) dX7_bestMove_96 (kd_lt (rfl : kd 0 = (6,0,0)) (by decide)) (ce6 rfl) rfl ?_
        refine r_getN (x := .ref (gB G 2)) (T := TX5) (n := 0) F uw5 rfl rfl tw_129 (Or.inl rfl) dX7_bestMove_99 (kd_lt (rfl : kd 1 = (4,0,0)) (by decide)) (ce4 rfl) rfl ?_
        refine r_aload_n F dX7_bestMove_102 rfl ?_
        refine r_get (x := .ref (gB G 1)) (T := TX7) (n := 0) F uw7 rfl rfl tw_274 (Or.inl rfl) dX7_bestMove_103 (kd_lt (rfl : kd 0 = (6,0,0)) (by decide)) (ce6 rfl) rfl ?_
        refine r_getN (T := TX5) (n := 3) F uw5 rfl rfl tw_138 (Or.inl rfl) dX7_bestMove_106 (kd_lt (rfl : kd 1 = (4,0,0)) (by decide)) (ce4 rfl) rfl ?_
        refine r_iload F dX7_bestMove_109 rfl ?_
        rw [d3]
        refine r_callN2q F fMX0_moveAt tw_647 rfl rfl rfl rfl dX7_bestMove_111 rfl rfl z0 (m0_moveAt g bd2 ht.1.1.b w.1.b w4 (i := i) (by omega)) ?_
        rw [hm h92]
        refine r_ist5 F dX7_bestMove_114 rfl rfl ?_
        refine r_aload_n F dX7_bestMove_116 rfl ?_
        refine r_get (x := .ref (gB G 75)) (T := TX7) (n := 5) F uw7 rfl rfl tw_279 (Or.inl rfl) dX7_bestMove_117 (kd_lt (rfl : kd 0 = (6,0,0)) (by decide)) (ce6 rfl) rfl ?_
        refine r_aload_n F dX7_bestMove_120 rfl ?_
        refine r_get (x := .ref (gB G 1)) (T := TX7) (n := 0) F uw7 rfl rfl tw_274 (Or.inl rfl) dX7_bestMove_121 (kd_lt (rfl : kd 0 = (6,0,0)) (by decide)) (ce6 rfl) rfl ?_
        refine r_getN (T := TX5) (n := 2) F uw5 rfl rfl tw_135 (Or.inl rfl) dX7_bestMove_124 (kd_lt (rfl : kd 1 = (4,0,0)) (by decide)) (ce4 rfl) rfl ?_
        refine r_iconst (x := 1) F dX7_bestMove_127 rfl ?_
        refine r_isub F dX7_bestMove_128 (by omega) ?_
        refine r_iload_n F dX7_bestMove_129 rfl ?_
        refine r_iload F dX7_bestMove_130 rfl ?_
        refine r_aload_n F dX7_bestMove_132 rfl ?_
        refine r_get (x := .ref (gB G 1)) (T := TX7) (n := 0) F uw7 rfl rfl tw_274 (Or.inl rfl) dX7_bestMove_133 (kd_lt (rfl : kd 0 = (6,0,0)) (by decide)) (ce6 rfl) rfl ?_
        refine r_getN (T := TX5) (n := 5) F uw5 rfl rfl tw_142 (Or.inl rfl) dX7_bestMove_136 (kd_lt (rfl : kd 1 = (4,0,0)) (by decide)) (ce4 rfl) rfl ?_
        rw [d2, d5]
        refine r_callU4i F fMX2_entry tw_524 tw_525 (Or.inl tw_526) (by decide) tw_527 tw_474 rfl rfl rfl rfl rfl dX7_bestMove_139 rfl rfl z0 (m2_entry2 g (by omega) (by omega) (hq h92) (by omega)) ?_
        rw [ht.at (Nat.le_refl _) (by omega) (hq h92) (by omega)]
        refine r_iload_n F dX7_bestMove_142 rfl ?_
        refine r_callS2i F fMX7_holds tw_659 rfl dX7_bestMove_143 rfl rfl z0 (m7_holds g w0 (by omega)) ?_
        refine r_beq F dX7_bestMove_146 (fun h146 => ?_) (fun h146 => ?_)
        · refine r_iinc4 (y := 1) F dX7_bestMove_152 rfl rfl rfl rfl ?_
          refine r_goto F dX7_bestMove_155 ?_
          refine r_dr5 ?_
          refine ih (i + 1) u (by omega) (by omega) (fun j hj => ?_)
          rcases Nat.lt_or_ge j i with z | z
          · exact a3 j z
          · rw [show j = i by omega, hf]
            exact decide_eq_false h146
        · refine r_iload F dX7_bestMove_149 rfl ?_
          first
            | (have he : fsN f (sS a (13 + 6 * sS a 4)) = i := fsN_eq h92 (by rw [hf]; exact decide_eq_true h146) a3
               exact r_iret F rfl rfl dX7_bestMove_151 ⟨_, rfl, by unfold bmV; rw [if_neg hno, ← hf, he, if_pos h92], rfl, ht.2.1, ht.1⟩)
            | (have he : fsN f (sS a (13 + 6 * sS a 4)) = sS a (13 + 6 * sS a 4) := fsN_none (fun j hj => a3 j (by omega))
               exact r_iret F rfl rfl dX7_bestMove_151 ⟨_, rfl, by unfold bmV; rw [if_neg hno, ← hf, he, if_neg (Nat.lt_irrefl _)], rfl, ht.2.1, ht.1⟩)
  refine r_iload_n F dX7_bestMove_0 rfl ?_
  refine r_callS1v F fMX7_needPlayer tw_652 rfl dX7_bestMove_1 rfl rfl z0 (m7_needPlayer g h1) ?_
  refine r_iload_n F dX7_bestMove_4 rfl ?_
  refine r_aload_n F dX7_bestMove_5 rfl ?_
  refine r_get (x := .ref (gB G 1)) (T := TX7) (n := 0) F uw7 rfl rfl tw_274 (Or.inl rfl) dX7_bestMove_6 (kd_lt (rfl : kd 0 = (6,0,0)) (by decide)) (ce6 rfl) rfl ?_
  refine r_iload_n F dX7_bestMove_9 rfl ?_
  refine r_callN1i F fMX5_budgetOf tw_356 rfl rfl rfl rfl dX7_bestMove_10 rfl rfl z0 (m5_budgetOf g st1 h.1 w.1 (by omega)) ?_
  refine r_callS2v F fMX7_needUpTo tw_544 rfl dX7_bestMove_13 rfl rfl z0 (m7_needUpTo g hb (by omega)) ?_
  refine r_aload_n F dX7_bestMove_16 rfl ?_
  refine r_get (x := .ref (gB G 1)) (T := TX7) (n := 0) F uw7 rfl rfl tw_274 (Or.inl rfl) dX7_bestMove_17 (kd_lt (rfl : kd 0 = (6,0,0)) (by decide)) (ce6 rfl) rfl ?_
  refine r_callN0i F fMX5_isOver tw_348 rfl rfl rfl rfl dX7_bestMove_20 rfl rfl z0 (m5_isOver g st1 h.1 w.1) ?_
  refine r_Bne F dX7_bestMove_23 (fun h23 => ?_) (fun h23 => ?_)
  · refine R_iconst (x := -1) F dX7_bestMove_36 rfl ?_
    first
      | exact r_iret F rfl rfl dX7_bestMove_37 ⟨_, rfl, by unfold bmV; rw [if_pos (Or.inl h23)], rfl, FrC.rf v, h⟩
      | exact r_iret F rfl rfl dX7_bestMove_37 ⟨_, rfl, by unfold bmV; rw [if_pos (Or.inr h33)], rfl, FrC.rf v, h⟩
  · refine r_aload_n F dX7_bestMove_26 rfl ?_
    refine r_get (x := .ref (gB G 1)) (T := TX7) (n := 0) F uw7 rfl rfl tw_274 (Or.inl rfl) dX7_bestMove_27 (kd_lt (rfl : kd 0 = (6,0,0)) (by decide)) (ce6 rfl) rfl ?_
    refine r_getN (T := TX5) (n := 2) F uw5 rfl rfl tw_135 (Or.inl rfl) dX7_bestMove_30 (kd_lt (rfl : kd 1 = (4,0,0)) (by decide)) (ce4 rfl) rfl ?_
    rw [c2]
    refine r_ifne F dX7_bestMove_33 (by omega) (fun h33 => ?_) (fun h33 => ?_)
    · refine r_aload_n F dX7_bestMove_38 rfl ?_
      refine r_get (x := .ref (gB G 75)) (T := TX7) (n := 5) F uw7 rfl rfl tw_279 (Or.inl rfl) dX7_bestMove_39 (kd_lt (rfl : kd 0 = (6,0,0)) (by decide)) (ce6 rfl) rfl ?_
      refine r_aload_n F dX7_bestMove_42 rfl ?_
      refine r_get (x := .ref (gB G 1)) (T := TX7) (n := 0) F uw7 rfl rfl tw_274 (Or.inl rfl) dX7_bestMove_43 (kd_lt (rfl : kd 0 = (6,0,0)) (by decide)) (ce6 rfl) rfl ?_
      refine r_aload_n F dX7_bestMove_46 rfl ?_
      refine r_get (x := .ref (gB G 1)) (T := TX7) (n := 0) F uw7 rfl rfl tw_274 (Or.inl rfl) dX7_bestMove_47 (kd_lt (rfl : kd 0 = (6,0,0)) (by decide)) (ce6 rfl) rfl ?_
      refine r_getN (T := TX5) (n := 2) F uw5 rfl rfl tw_135 (Or.inl rfl) dX7_bestMove_50 (kd_lt (rfl : kd 1 = (4,0,0)) (by decide)) (ce4 rfl) rfl ?_
      refine r_iconst (x := 1) F dX7_bestMove_53 rfl ?_
      rw [c2]
      refine r_isub F dX7_bestMove_54 (by omega) ?_
      refine r_callU2w F fMX2_tell tw_427 tw_428 (Or.inl tw_429) (by decide) tw_430 tw_431 rfl rfl rfl rfl rfl dX7_bestMove_55 rfl rfl z0 (m2_tellA g h w (by omega)) ?_
      rintro v1 L1 ⟨rfl, ht⟩
      refine r_aload_n F dX7_bestMove_58 rfl ?_
      refine r_get (x := .ref (gB G 1)) (T := TX7) (n := 0) F uw7 rfl rfl tw_274 (Or.inl rfl) dX7_bestMove_59 (kd_lt (rfl : kd 0 = (6,0,0)) (by decide)) (ce6 rfl) rfl ?_
      refine r_iload_n F dX7_bestMove_62 rfl ?_
      refine r_callN1i F fMX5_budgetOf tw_356 rfl rfl rfl rfl dX7_bestMove_63 rfl rfl z0 (m5_budgetOf g st1 ht.1.1 w.1 (by omega)) ?_
      refine r_iload_n F dX7_bestMove_66 rfl ?_
      refine r_isub F dX7_bestMove_67 (by omega) ?_
      refine r_ist3 F dX7_bestMove_68 rfl rfl ?_
      refine r_iconst (x := 0) F dX7_bestMove_69 rfl ?_
      refine r_ist4 F dX7_bestMove_70 rfl rfl ?_
      exact loop (fun z => z.elim (fun z => by rw [z] at h23; cases h23) h33) v1 ht (sS a (13 + 6 * sS a 4) + 1) 0 none (by omega) (Nat.zero_le _) (fun j hj => absurd hj (Nat.not_lt_zero j))
    · refine R_iconst (x := -1) F dX7_bestMove_36 rfl ?_
      first
        | exact r_iret F rfl rfl dX7_bestMove_37 ⟨_, rfl, by unfold bmV; rw [if_pos (Or.inl h23)], rfl, FrC.rf v, h⟩
        | exact r_iret F rfl rfl dX7_bestMove_37 ⟨_, rfl, by unfold bmV; rw [if_pos (Or.inr h33)], rfl, FrC.rf v, h⟩
def wiV (S : Nat → Nat) (pl : Nat) : Int32 := orM (fsN (fun t => decide (thr S t pl (S 4) (S 3) ≤ bud S pl)) 13) 12
set_option maxHeartbeats 8000000 in
theorem m7_winIn {G : GT} {v : VV} {L : LL} {a : AS} (g : GH G) (h : IC v a) (w : WA a) {pl : Nat} (h1 : pl ≤ 1) : CC G MX7_winIn [.ref (gB G 0), .int (nI pl)] v L (gI (PC v L a (wiV (sS a) pl))) := by
  refine cc_of g [some (.ref (gB G 0)), some (.int (nI pl)), none, none] rfl rfl rfl rfl (fun K F => ?_)
  have w0 : sS a 0 ≤ 20 := w.1.1
  have w3 : sS a 3 ≤ 1 := w.1.2.2.2.1
  have w4 : sS a 4 < 8 := w.1.2.2.2.2.1
  have wb := bud_le w.1 pl
  obtain ⟨f, hf⟩ : ∃ f : Nat → Bool, f = fun t => decide (thr (sS a) t pl (sS a 4) (sS a 3) ≤ bud (sS a) pl) := ⟨_, rfl⟩
  have loop : ∀ (n i : Nat) (v1 : VV), 13 < i + n → i ≤ 13 → IC v1 a → FrC v v1 → (∀ j, j < i → f j = false) → CW G K 4 0 0 (MQ (kb K) (Qn G (gI (PC v L a (wiV (sS a) pl)))) (ka K) (ks K) 0 0 (gA G)) v1 L 15 [some (.ref (gB G 0)), some (.int (nI pl)), some (.int (nI (bud (sS a) pl))), some (.int (nI i))] [] := by
    intro n
    induction n with
    | zero => intro i v1 a1 a2; omega
    | succ n ih =>
      intro i v1 a1 a2 b1 b2 a3
      refine r_iload_n F dX7_winIn_15 rfl ?_
      refine r_bipush (x := 12) F dX7_winIn_16 rfl ?_
      refine r_icgt F dX7_winIn_18 (by omega) (by omega) (fun h18 => ?_) (fun h18 => ?_)
      · refine R_iconst (x := -1) F dX7_winIn_71 rfl ?_
        first
          | (have he : fsN f 13 = i := fsN_eq (by omega) (by rw [hf]; exact decide_eq_true h60) a3
             exact r_iret F rfl rfl dX7_winIn_72 ⟨_, rfl, by unfold wiV orM; rw [← hf, he, if_pos (by omega)], rfl, b2.trans ht.2.1, ht.1⟩)
          | (have he : fsN f 13 = 13 := fsN_none (fun j hj => a3 j (by omega))
             exact r_iret F rfl rfl dX7_winIn_72 ⟨_, rfl, by unfold wiV orM; rw [← hf, he, if_neg (by decide)], rfl, b2, b1⟩)
      · refine r_aload_n F dX7_winIn_21 rfl ?_
        refine r_get (x := .ref (gB G 75)) (T := TX7) (n := 5) F uw7 rfl rfl tw_279 (Or.inl rfl) dX7_winIn_22 (kd_lt (rfl : kd 0 = (6,0,0)) (by decide)) (ce6 rfl) rfl ?_
        refine r_aload_n F dX7_winIn_25 rfl ?_
        refine r_get (x := .ref (gB G 1)) (T := TX7) (n := 0) F uw7 rfl rfl tw_274 (Or.inl rfl) dX7_winIn_26 (kd_lt (rfl : kd 0 = (6,0,0)) (by decide)) (ce6 rfl) rfl ?_
        refine r_iload_n F dX7_winIn_29 rfl ?_
        refine r_callU2w F fMX2_tell tw_427 tw_428 (Or.inl tw_429) (by decide) tw_430 tw_431 rfl rfl rfl rfl rfl dX7_winIn_30 rfl rfl z0 (m2_tellA g b1 w (by omega)) ?_
        rintro v2 L2 ⟨rfl, ht⟩
        have d3 : v2 1 3 = sS a 4 := ht.1.1.2.2.1
        have d5 : v2 1 5 = sS a 3 := ht.1.1.2.2.2.2.1
        refine r_aload_n F dX7_winIn_33 rfl ?_
        refine r_get (x := .ref (gB G 75)) (T := TX7) (n := 5) F uw7 rfl rfl tw_279 (Or.inl rfl) dX7_winIn_34 (kd_lt (rfl : kd 0 = (6,0,0)) (by decide)) (ce6 rfl) rfl ?_
        refine r_iload_n F dX7_winIn_37 rfl ?_
        refine r_iload_n F dX7_winIn_38 rfl ?_
        refine r_aload_n F dX7_winIn_39 rfl ?_
        refine r_get (x := .ref (gB G 1)) (T := TX7) (n := 0) F uw7 rfl rfl tw_274 (Or.inl rfl) dX7_winIn_40 (kd_lt (rfl : kd 0 = (6,0,0)) (by decide)) (ce6 rfl) rfl ?_
        refine r_getN (T := TX5) (n := 3) F uw5 rfl rfl tw_138 (Or.inl rfl) dX7_winIn_43 (kd_lt (rfl : kd 1 = (4,0,0)) (by decide)) (ce4 rfl) rfl ?_
        refine r_aload_n F dX7_winIn_46 rfl ?_
        refine r_get (x := .ref (gB G 1)) (T := TX7) (n := 0) F uw7 rfl rfl tw_274 (Or.inl rfl) dX7_winIn_47 (kd_lt (rfl : kd 0 = (6,0,0)) (by decide)) (ce6 rfl) rfl ?_
        refine r_getN (T := TX5) (n := 5) F uw5 rfl rfl tw_142 (Or.inl rfl) dX7_winIn_50 (kd_lt (rfl : kd 1 = (4,0,0)) (by decide)) (ce4 rfl) rfl ?_
        rw [d3, d5]
        refine r_callU4i F fMX2_entry tw_524 tw_525 (Or.inl tw_526) (by decide) tw_527 tw_474 rfl rfl rfl rfl rfl dX7_winIn_53 rfl rfl z0 (m2_entry2 g (by omega) (by omega) w4 (by omega)) ?_
        rw [ht.at (Nat.le_refl _) (by omega) w4 (by omega)]
        refine r_iload_n F dX7_winIn_56 rfl ?_
        refine r_callS2i F fMX7_holds tw_659 rfl dX7_winIn_57 rfl rfl z0 (m7_holds g w0 wb) ?_
        refine r_beq F dX7_winIn_60 (fun h60 => ?_) (fun h60 => ?_)
        · refine r_iinc3 (y := 1) F dX7_winIn_65 rfl rfl rfl rfl ?_
          refine r_goto F dX7_winIn_68 ?_
          refine ih (i + 1) v2 (by omega) (by omega) ht.1 (b2.trans ht.2.1) (fun j hj => ?_)
          rcases Nat.lt_or_ge j i with z | z
          · exact a3 j z
          · rw [show j = i by omega, hf]
            exact decide_eq_false h60
        · refine r_iload_n F dX7_winIn_63 rfl ?_
          first
            | (have he : fsN f 13 = i := fsN_eq (by omega) (by rw [hf]; exact decide_eq_true h60) a3
               exact r_iret F rfl rfl dX7_winIn_64 ⟨_, rfl, by unfold wiV orM; rw [← hf, he, if_pos (by omega)], rfl, b2.trans ht.2.1, ht.1⟩)
            | (have he : fsN f 13 = 13 := fsN_none (fun j hj => a3 j (by omega))
               exact r_iret F rfl rfl dX7_winIn_64 ⟨_, rfl, by unfold wiV orM; rw [← hf, he, if_neg (by decide)], rfl, b2, b1⟩)
  refine r_iload_n F dX7_winIn_0 rfl ?_
  refine r_callS1v F fMX7_needPlayer tw_652 rfl dX7_winIn_1 rfl rfl z0 (m7_needPlayer g h1) ?_
  refine r_aload_n F dX7_winIn_4 rfl ?_
  refine r_get (x := .ref (gB G 1)) (T := TX7) (n := 0) F uw7 rfl rfl tw_274 (Or.inl rfl) dX7_winIn_5 (kd_lt (rfl : kd 0 = (6,0,0)) (by decide)) (ce6 rfl) rfl ?_
  refine r_iload_n F dX7_winIn_8 rfl ?_
  refine r_callN1i F fMX5_budgetOf tw_356 rfl rfl rfl rfl dX7_winIn_9 rfl rfl z0 (m5_budgetOf g st1 h.1 w.1 (by omega)) ?_
  refine r_ist2 F dX7_winIn_12 rfl rfl ?_
  refine r_iconst (x := 0) F dX7_winIn_13 rfl ?_
  refine r_ist3 F dX7_winIn_14 rfl rfl ?_
  exact loop 14 0 v (by omega) (by omega) h (FrC.rf v) (fun j hj => absurd hj (Nat.not_lt_zero j))
def shN (S : Nat → Nat) (n : Nat) : Nat := smN (fun k => pcN (thr S (S 1) 0 (k / 2) (k % 2)) (S 0)) n
theorem shN_le {S : Nat → Nat} {n : Nat} (hn : n ≤ 16) : shN S n ≤ 16 * (S 0 + 1) := by
  have := smN_le (f := fun k => pcN (thr S (S 1) 0 (k / 2) (k % 2)) (S 0)) (c := S 0 + 1) (n := n) (fun i _ => by unfold pcN; split <;> omega)
  have h2 : n * (S 0 + 1) ≤ 16 * (S 0 + 1) := Nat.mul_le_mul_right _ hn
  unfold shN
  omega
set_option maxHeartbeats 8000000 in
theorem m7_forcedShare {G : GT} {v : VV} {L : LL} {a : AS} (g : GH G) (h : IC v a) (w : WA a) : CC G MX7_forcedShare [.ref (gB G 0)] v L (gDd fun y v' L' => y = shV (shN (sS a) 16) (sS a 0) ∧ L' = L ∧ FrC v v' ∧ IC v' a) := by
  refine cc_of g [some (.ref (gB G 0)), none, none, none] rfl rfl rfl rfl (fun K F => ?_)
  have w0 : sS a 0 ≤ 20 := w.1.1
  have w1 : sS a 1 ≤ 12 := w.1.2.1
  have c2 : v 1 2 = sS a 1 := h.1.2.1
  have loop : ∀ (v1 : VV), TL v v1 a (sS a 1) → ∀ (n i : Nat), 8 < i + n → i ≤ 8 → CW G K 4 0 0 (MQ (kb K) (Qn G (gDd fun y v' L' => y = shV (shN (sS a) 16) (sS a 0) ∧ L' = L ∧ FrC v v' ∧ IC v' a)) (ka K) (ks K) 0 0 (gA G)) v1 L 22 [some (.ref (gB G 0)), some (.int (nI (shN (sS a) (2 * i)))), some (.int (nI i)), none] [] := by
    intro v1 ht n
    have d2 : v1 1 2 = sS a 1 := ht.1.1.2.1
    have d1 : v1 1 1 = sS a 0 := ht.1.1.1
    induction n with
    | zero => intro i a1 a2; omega
    | succ n ih =>
      intro i a1 a2
      have inner : i < 8 → ∀ (m j : Nat), 2 < j + m → j ≤ 2 → CW G K 4 0 0 (MQ (kb K) (Qn G (gDd fun y v' L' => y = shV (shN (sS a) 16) (sS a 0) ∧ L' = L ∧ FrC v v' ∧ IC v' a)) (ka K) (ks K) 0 0 (gA G)) v1 L 30 [some (.ref (gB G 0)), some (.int (nI (shN (sS a) (2 * i + j)))), some (.int (nI i)), some (.int (nI j))] [] := by
        intro hi m
        induction m with
        | zero => intro j b1 b2; omega
        | succ m ihm =>
          intro j b1 b2
          have es : j < 2 → shN (sS a) (2 * i + j) + pcN (thr (sS a) (sS a 1) 0 i j) (sS a 0) = shN (sS a) (2 * i + (j + 1)) := fun z => by
            show _ = shN (sS a) (2 * i + j) + pcN (thr (sS a) (sS a 1) 0 ((2 * i + j) / 2) ((2 * i + j) % 2)) (sS a 0)
            rw [show (2 * i + j) / 2 = i by omega, show (2 * i + j) % 2 = j by omega]
          refine r_iload_n F dX7_forcedShare_30 rfl ?_
          refine r_iconst (x := 2) F dX7_forcedShare_31 rfl ?_
          refine r_icge F dX7_forcedShare_32 (by omega) (by omega) (fun h32 => ?_) (fun h32 => ?_)
          · refine r_iinc2 (y := 1) F dX7_forcedShare_64 rfl rfl rfl rfl ?_
            refine r_goto F dX7_forcedShare_67 ?_
            refine r_dr3 ?_
            have := ih (i + 1) (by omega) (by omega)
            rw [show 2 * (i + 1) = 2 * i + j by omega] at this
            exact this
          · refine r_iload_n F dX7_forcedShare_35 rfl ?_
            refine r_aload_n F dX7_forcedShare_36 rfl ?_
            refine r_get (x := .ref (gB G 75)) (T := TX7) (n := 5) F uw7 rfl rfl tw_279 (Or.inl rfl) dX7_forcedShare_37 (kd_lt (rfl : kd 0 = (6,0,0)) (by decide)) (ce6 rfl) rfl ?_
            refine r_aload_n F dX7_forcedShare_40 rfl ?_
            refine r_get (x := .ref (gB G 1)) (T := TX7) (n := 0) F uw7 rfl rfl tw_274 (Or.inl rfl) dX7_forcedShare_41 (kd_lt (rfl : kd 0 = (6,0,0)) (by decide)) (ce6 rfl) rfl ?_
            refine r_getN (T := TX5) (n := 2) F uw5 rfl rfl tw_135 (Or.inl rfl) dX7_forcedShare_44 (kd_lt (rfl : kd 1 = (4,0,0)) (by decide)) (ce4 rfl) rfl ?_
            refine r_iconst (x := 0) F dX7_forcedShare_47 rfl ?_
            refine r_iload_n F dX7_forcedShare_48 rfl ?_
            refine r_iload_n F dX7_forcedShare_49 rfl ?_
            rw [d2]
            refine r_callU4i F fMX2_entry tw_524 tw_525 (Or.inl tw_526) (by decide) tw_527 tw_474 rfl rfl rfl rfl rfl dX7_forcedShare_50 rfl rfl z0 (m2_entry2 g (by omega) (by omega) hi (by omega)) ?_
            rw [ht.at (Nat.le_refl _) (by omega) hi (by omega)]
            refine r_callS1i F fMJ6_bitCount_0f7a4 tw_528 rfl dX7_forcedShare_53 rfl rfl z0 (mJ_bitCount g w0) ?_
            refine r_iadd F dX7_forcedShare_56 ?_
            rw [es (by omega)]
            refine r_ist1 F dX7_forcedShare_57 rfl rfl ?_
            refine r_iinc3 (y := 1) F dX7_forcedShare_58 rfl rfl rfl rfl ?_
            refine r_goto F dX7_forcedShare_61 ?_
            exact ihm (j + 1) (by omega) (by omega)
      refine r_iload_n F dX7_forcedShare_22 rfl ?_
      refine r_bipush (x := 8) F dX7_forcedShare_23 rfl ?_
      refine r_icge F dX7_forcedShare_25 (by omega) (by omega) (fun h25 => ?_) (fun h25 => ?_)
      · refine r_bipush (x := 16) F dX7_forcedShare_70 rfl ?_
        refine r_aload_n F dX7_forcedShare_72 rfl ?_
        refine r_get (x := .ref (gB G 1)) (T := TX7) (n := 0) F uw7 rfl rfl tw_274 (Or.inl rfl) dX7_forcedShare_73 (kd_lt (rfl : kd 0 = (6,0,0)) (by decide)) (ce6 rfl) rfl ?_
        refine r_getN (T := TX5) (n := 1) F uw5 rfl rfl tw_132 (Or.inl rfl) dX7_forcedShare_76 (kd_lt (rfl : kd 1 = (4,0,0)) (by decide)) (ce4 rfl) rfl ?_
        refine r_iconst (x := 1) F dX7_forcedShare_79 rfl ?_
        refine r_iadd F dX7_forcedShare_80 ?_
        refine r_imul F dX7_forcedShare_81 ?_
        rw [d1]
        refine r_i2d F dX7_forcedShare_82 ?_
        refine r_dst2 F dX7_forcedShare_83 rfl rfl ?_
        refine r_iload_n F dX7_forcedShare_84 rfl ?_
        refine r_i2d F dX7_forcedShare_85 ?_
        refine r_dload_n F dX7_forcedShare_86 rfl ?_
        refine r_ddiv F dX7_forcedShare_87 (by rw [show 2 * i = 16 by omega]; exact sh_n64 w0 (shN_le (Nat.le_refl 16))) ?_
        exact r_dret F rfl dX7_forcedShare_88 ⟨_, rfl, by rw [show 2 * i = 16 by omega]; rfl, rfl, ht.2.1, ht.1⟩
      · refine r_iconst (x := 0) F dX7_forcedShare_28 rfl ?_
        refine r_ist3 F dX7_forcedShare_29 rfl rfl ?_
        exact inner (by omega) 3 0 (by omega) (by omega)
  refine r_aload_n F dX7_forcedShare_0 rfl ?_
  refine r_get (x := .ref (gB G 75)) (T := TX7) (n := 5) F uw7 rfl rfl tw_279 (Or.inl rfl) dX7_forcedShare_1 (kd_lt (rfl : kd 0 = (6,0,0)) (by decide)) (ce6 rfl) rfl ?_
  refine r_aload_n F dX7_forcedShare_4 rfl ?_
  refine r_get (x := .ref (gB G 1)) (T := TX7) (n := 0) F uw7 rfl rfl tw_274 (Or.inl rfl) dX7_forcedShare_5 (kd_lt (rfl : kd 0 = (6,0,0)) (by decide)) (ce6 rfl) rfl ?_
  refine r_aload_n F dX7_forcedShare_8 rfl ?_
  refine r_get (x := .ref (gB G 1)) (T := TX7) (n := 0) F uw7 rfl rfl tw_274 (Or.inl rfl) dX7_forcedShare_9 (kd_lt (rfl : kd 0 = (6,0,0)) (by decide)) (ce6 rfl) rfl ?_
  refine r_getN (T := TX5) (n := 2) F uw5 rfl rfl tw_135 (Or.inl rfl) dX7_forcedShare_12 (kd_lt (rfl : kd 1 = (4,0,0)) (by decide)) (ce4 rfl) rfl ?_
  rw [c2]
  refine r_callU2w F fMX2_tell tw_427 tw_428 (Or.inl tw_429) (by decide) tw_430 tw_431 rfl rfl rfl rfl rfl dX7_forcedShare_15 rfl rfl z0 (m2_tellA g h w (by omega)) ?_
  rintro v1 L1 ⟨rfl, ht⟩
  refine r_iconst (x := 0) F dX7_forcedShare_18 rfl ?_
  refine r_ist1 F dX7_forcedShare_19 rfl rfl ?_
  refine r_iconst (x := 0) F dX7_forcedShare_20 rfl ?_
  refine r_ist2 F dX7_forcedShare_21 rfl rfl ?_
  exact loop v1 ht 9 0 (by omega) (by omega)
def plV (S : Nat → Nat) (pl w : Nat) : Int32 := if w = 0 then nI (bud S pl) else if w = 1 then nI (b01 (S 3 = pl)) else if w = 2 then nI (S (6 + pl)) else if w = 3 then nI (S (8 + pl)) else if w = 4 then nI (cntB (fun p => won S pl p) 8) else nI (cntB (fun p => decide (thr S (S 1) pl p (S 3) ≤ bud S pl)) 8)
set_option maxHeartbeats 8000000 in
theorem m7_playerOf {G : GT} {v : VV} {L : LL} {a : AS} (g : GH G) (h : IC v a) (w : WA a) {pl i : Nat} (h1 : pl ≤ 1) (hi : i ≤ 5) : CC G MX7_playerOf [.ref (gB G 0), .int (nI pl), .int (nI i)] v L (gI (PC v L a (plV (sS a) pl i))) := by
  refine cc_of g [some (.ref (gB G 0)), some (.int (nI pl)), some (.int (nI i))] rfl rfl rfl rfl (fun K F => ?_)
  obtain ⟨a1, a2, a3, a4, a5, a6, a7, a8, a9, a10, a11, a12, -⟩ := h.1
  have w1 : sS a 1 ≤ 12 := w.1.2.1
  have w3 : sS a 3 ≤ 1 := w.1.2.2.2.1
  have e6 : v 6 pl = sS a (6 + pl) := by
    have : pl = 0 ∨ pl = 1 := by omega
    rcases this with rfl | rfl
    · exact a9
    · exact a10
  have e7 : v 7 pl = sS a (8 + pl) := by
    have : pl = 0 ∨ pl = 1 := by omega
    rcases this with rfl | rfl
    · exact a11
    · exact a12
  have hq : i = 0 ∨ i = 1 ∨ i = 2 ∨ i = 3 ∨ i = 4 ∨ i = 5 := by omega
  refine r_iload_n F dX7_playerOf_0 rfl ?_
  refine r_callS1v F fMX7_needPlayer tw_652 rfl dX7_playerOf_1 rfl rfl z0 (m7_needPlayer g h1) ?_
  refine r_iload_n F dX7_playerOf_4 rfl ?_
  refine r_iconst (x := 5) F dX7_playerOf_5 rfl ?_
  refine r_callS2v F fMX7_needUpTo tw_544 rfl dX7_playerOf_6 rfl rfl z0 (m7_needUpTo g hi (by decide)) ?_
  refine r_iload_n F dX7_playerOf_9 rfl ?_
  skip
  rcases hq with rfl | rfl | rfl | rfl | rfl | rfl
  · refine R_tab F dX7_playerOf_10 (by decide) (by decide) rfl rfl ?_
    refine r_aload_n F dX7_playerOf_44 rfl ?_
    refine r_get (x := .ref (gB G 1)) (T := TX7) (n := 0) F uw7 rfl rfl tw_274 (Or.inl rfl) dX7_playerOf_45 (kd_lt (rfl : kd 0 = (6,0,0)) (by decide)) (ce6 rfl) rfl ?_
    refine r_iload_n F dX7_playerOf_48 rfl ?_
    refine r_callN1i F fMX5_budgetOf tw_356 rfl rfl rfl rfl dX7_playerOf_49 rfl rfl z0 (m5_budgetOf g st1 h.1 w.1 (by omega)) ?_
    exact r_iret F rfl rfl dX7_playerOf_52 ⟨_, rfl, rfl, rfl, FrC.rf v, h⟩
  · refine R_tab F dX7_playerOf_10 (by decide) (by decide) rfl rfl ?_
    refine r_aload_n F dX7_playerOf_53 rfl ?_
    refine r_get (x := .ref (gB G 1)) (T := TX7) (n := 0) F uw7 rfl rfl tw_274 (Or.inl rfl) dX7_playerOf_54 (kd_lt (rfl : kd 0 = (6,0,0)) (by decide)) (ce6 rfl) rfl ?_
    refine r_getN (T := TX5) (n := 5) F uw5 rfl rfl tw_142 (Or.inl rfl) dX7_playerOf_57 (kd_lt (rfl : kd 1 = (4,0,0)) (by decide)) (ce4 rfl) rfl ?_
    refine r_iload_n F dX7_playerOf_60 rfl ?_
    rw [a5]
    refine r_icne F dX7_playerOf_61 (by omega) (by omega) (fun h61 => ?_) (fun h61 => ?_)
    · refine r_iconst (x := 0) F dX7_playerOf_68 rfl ?_
      first
        | exact r_iret F rfl rfl dX7_playerOf_69 ⟨_, rfl, by show _ = nI (b01 (sS a 3 = pl)); rw [b01_y h61], rfl, FrC.rf v, h⟩
        | exact r_iret F rfl rfl dX7_playerOf_69 ⟨_, rfl, by show _ = nI (b01 (sS a 3 = pl)); rw [b01_n h61], rfl, FrC.rf v, h⟩
    · refine r_iconst (x := 1) F dX7_playerOf_64 rfl ?_
      refine r_goto F dX7_playerOf_65 ?_
      first
        | exact r_iret F rfl rfl dX7_playerOf_69 ⟨_, rfl, by show _ = nI (b01 (sS a 3 = pl)); rw [b01_y h61], rfl, FrC.rf v, h⟩
        | exact r_iret F rfl rfl dX7_playerOf_69 ⟨_, rfl, by show _ = nI (b01 (sS a 3 = pl)); rw [b01_n h61], rfl, FrC.rf v, h⟩
  · refine R_tab F dX7_playerOf_10 (by decide) (by decide) rfl rfl ?_
    refine r_aload_n F dX7_playerOf_70 rfl ?_
    refine r_get (x := .ref (gB G 1)) (T := TX7) (n := 0) F uw7 rfl rfl tw_274 (Or.inl rfl) dX7_playerOf_71 (kd_lt (rfl : kd 0 = (6,0,0)) (by decide)) (ce6 rfl) rfl ?_
    refine r_getN (x := .ref (gB G 6)) (T := TX5) (n := 7) F uw5 rfl rfl tw_147 (Or.inl rfl) dX7_playerOf_74 (kd_lt (rfl : kd 1 = (4,0,0)) (by decide)) (ce4 rfl) rfl ?_
    refine r_iload_n F dX7_playerOf_77 rfl ?_
    refine r_iald F dX7_playerOf_78 rfl (show pl < 2 by omega) ?_
    exact r_iret F rfl rfl dX7_playerOf_79 ⟨_, rfl, by rw [e6]; rfl, rfl, FrC.rf v, h⟩
  · refine R_tab F dX7_playerOf_10 (by decide) (by decide) rfl rfl ?_
    refine r_aload_n F dX7_playerOf_80 rfl ?_
    refine r_get (x := .ref (gB G 1)) (T := TX7) (n := 0) F uw7 rfl rfl tw_274 (Or.inl rfl) dX7_playerOf_81 (kd_lt (rfl : kd 0 = (6,0,0)) (by decide)) (ce6 rfl) rfl ?_
    refine r_getN (x := .ref (gB G 7)) (T := TX5) (n := 8) F uw5 rfl rfl tw_149 (Or.inl rfl) dX7_playerOf_84 (kd_lt (rfl : kd 1 = (4,0,0)) (by decide)) (ce4 rfl) rfl ?_
    refine r_iload_n F dX7_playerOf_87 rfl ?_
    refine r_iald F dX7_playerOf_88 rfl (show pl < 2 by omega) ?_
    exact r_iret F rfl rfl dX7_playerOf_89 ⟨_, rfl, by rw [e7]; rfl, rfl, FrC.rf v, h⟩
  · refine R_tab F dX7_playerOf_10 (by decide) (by decide) rfl rfl ?_
    refine r_aload_n F dX7_playerOf_90 rfl ?_
    refine r_get (x := .ref (gB G 1)) (T := TX7) (n := 0) F uw7 rfl rfl tw_274 (Or.inl rfl) dX7_playerOf_91 (kd_lt (rfl : kd 0 = (6,0,0)) (by decide)) (ce6 rfl) rfl ?_
    refine r_getN (x := .ref (gB G 2)) (T := TX5) (n := 0) F uw5 rfl rfl tw_129 (Or.inl rfl) dX7_playerOf_94 (kd_lt (rfl : kd 1 = (4,0,0)) (by decide)) (ce4 rfl) rfl ?_
    refine r_iload_n F dX7_playerOf_97 rfl ?_
    refine r_callN1i F fMX0_wonFor tw_670 rfl rfl rfl rfl dX7_playerOf_98 rfl rfl z0 (m0_wonFor g bd2 h.1.b w.1.b (by omega)) ?_
    exact r_iret F rfl rfl dX7_playerOf_101 ⟨_, rfl, rfl, rfl, FrC.rf v, h⟩
  · refine R_tabO F dX7_playerOf_10 (by decide) rfl ?_
    refine r_aload_n F dX7_playerOf_102 rfl ?_
    refine r_get (x := .ref (gB G 75)) (T := TX7) (n := 5) F uw7 rfl rfl tw_279 (Or.inl rfl) dX7_playerOf_103 (kd_lt (rfl : kd 0 = (6,0,0)) (by decide)) (ce6 rfl) rfl ?_
    refine r_aload_n F dX7_playerOf_106 rfl ?_
    refine r_get (x := .ref (gB G 1)) (T := TX7) (n := 0) F uw7 rfl rfl tw_274 (Or.inl rfl) dX7_playerOf_107 (kd_lt (rfl : kd 0 = (6,0,0)) (by decide)) (ce6 rfl) rfl ?_
    refine r_aload_n F dX7_playerOf_110 rfl ?_
    refine r_get (x := .ref (gB G 1)) (T := TX7) (n := 0) F uw7 rfl rfl tw_274 (Or.inl rfl) dX7_playerOf_111 (kd_lt (rfl : kd 0 = (6,0,0)) (by decide)) (ce6 rfl) rfl ?_
    refine r_getN (T := TX5) (n := 2) F uw5 rfl rfl tw_135 (Or.inl rfl) dX7_playerOf_114 (kd_lt (rfl : kd 1 = (4,0,0)) (by decide)) (ce4 rfl) rfl ?_
    rw [a2]
    refine r_callU2w F fMX2_tell tw_427 tw_428 (Or.inl tw_429) (by decide) tw_430 tw_431 rfl rfl rfl rfl rfl dX7_playerOf_117 rfl rfl z0 (m2_tellA g h w (by omega)) ?_
    rintro v1 L1 ⟨rfl, ht⟩
    obtain ⟨n1, n2, n3, n4⟩ := ht.2.2
    refine r_aload_n F dX7_playerOf_120 rfl ?_
    refine r_get (x := .ref (gB G 75)) (T := TX7) (n := 5) F uw7 rfl rfl tw_279 (Or.inl rfl) dX7_playerOf_121 (kd_lt (rfl : kd 0 = (6,0,0)) (by decide)) (ce6 rfl) rfl ?_
    refine r_aload_n F dX7_playerOf_124 rfl ?_
    refine r_get (x := .ref (gB G 1)) (T := TX7) (n := 0) F uw7 rfl rfl tw_274 (Or.inl rfl) dX7_playerOf_125 (kd_lt (rfl : kd 0 = (6,0,0)) (by decide)) (ce6 rfl) rfl ?_
    refine r_iload_n F dX7_playerOf_128 rfl ?_
    refine r_callN2i F fMX3_positionsOf tw_675 rfl rfl rfl rfl dX7_playerOf_129 rfl rfl z0 (m3_positionsOf g ht.1.1 w.1 (by omega) n3 n4) ?_
    exact r_iret F rfl rfl dX7_playerOf_132 ⟨_, rfl, rfl, rfl, ht.2.1, ht.1⟩
