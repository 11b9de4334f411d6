/-! the model: its row of numbers, the same runs -/
def RM (v : VV) (S : Nat → Nat) : Prop := ∀ j, j < 60 → v 84 j = S j
def inn (x lo hi : Int32) : Bool := decide (lo ≤ x) && decide (x ≤ hi)
theorem inn_y {x lo hi : Int32} (h1 : lo ≤ x) (h2 : x ≤ hi) : inn x lo hi = true := by unfold inn; rw [decide_eq_true h1, decide_eq_true h2]; rfl
theorem inn_n1 {x lo hi : Int32} (h : x < lo) : inn x lo hi = false := by unfold inn; rw [decide_eq_false (Int32.not_le.mpr h)]; rfl
theorem inn_n2 {x lo hi : Int32} (h : hi < x) : inn x lo hi = false := by unfold inn; rw [decide_eq_false (Int32.not_le.mpr h)]; exact Bool.and_false _
theorem inn_o {x : Int32} {n : Nat} (h : oor x n) : inn x (nI 0) (nI n) = false := h.elim (fun z => inn_n1 z) (fun z => inn_n2 z)
theorem inn_i {k n : Nat} (hn : n < 2147483648) (h : k ≤ n) : inn (nI k) (nI 0) (nI n) = true := inn_y (nI_pos' (by omega)) ((nI_leI (by omega) hn).mpr h)
set_option maxHeartbeats 4000000 in
theorem m8_in {G : GT} {v : VV} {L : LL} (g : GH G) (x lo hi : Int32) : CC G MX8_in [.int x, .int lo, .int hi] v L (rI (inn x lo hi).toNat v L) := by
  refine cc_of g [some (.int x), some (.int lo), some (.int hi)] rfl rfl rfl rfl (fun K F => ?_)
  refine r_iload_n F dX8_in_0 rfl ?_
  refine r_iload_n F dX8_in_1 rfl ?_
  refine R_iclt F dX8_in_2 (fun h2 => ?_) (fun h2 => ?_)
  · refine r_iconst (x := 0) F dX8_in_14 rfl ?_
    first
      | exact b_iret F rfl dX8_in_15 (by decide) (by rw [inn_y (Int32.not_lt.mp h2) (Int32.not_lt.mp h7)]; rfl) rfl rfl
      | exact b_iret F rfl dX8_in_15 (by decide) (by rw [inn_n1 h2]; rfl) rfl rfl
      | exact b_iret F rfl dX8_in_15 (by decide) (by rw [inn_n2 h7]; rfl) rfl rfl
  · refine r_iload_n F dX8_in_5 rfl ?_
    refine r_iload_n F dX8_in_6 rfl ?_
    refine R_icgt F dX8_in_7 (fun h7 => ?_) (fun h7 => ?_)
    · refine r_iconst (x := 0) F dX8_in_14 rfl ?_
      first
        | exact b_iret F rfl dX8_in_15 (by decide) (by rw [inn_y (Int32.not_lt.mp h2) (Int32.not_lt.mp h7)]; rfl) rfl rfl
        | exact b_iret F rfl dX8_in_15 (by decide) (by rw [inn_n1 h2]; rfl) rfl rfl
        | exact b_iret F rfl dX8_in_15 (by decide) (by rw [inn_n2 h7]; rfl) rfl rfl
    · refine r_iconst (x := 1) F dX8_in_10 rfl ?_
      refine r_goto F dX8_in_11 ?_
      first
        | exact b_iret F rfl dX8_in_15 (by decide) (by rw [inn_y (Int32.not_lt.mp h2) (Int32.not_lt.mp h7)]; rfl) rfl rfl
        | exact b_iret F rfl dX8_in_15 (by decide) (by rw [inn_n1 h2]; rfl) rfl rfl
        | exact b_iret F rfl dX8_in_15 (by decide) (by rw [inn_n2 h7]; rfl) rfl rfl
theorem nb_b {b : Bool} : narrow .boolean (.int (nI b.toNat)) = .int (nI b.toNat) := nb01 (Bool.toNat_le b)
set_option maxHeartbeats 4000000 in
theorem m8_isPosition {G : GT} {v : VV} {L : LL} (g : GH G) (x : Int32) : CC G MX8_isPosition [.int x] v L (rI (inn x (nI 0) (nI 7)).toNat v L) := by
  refine cc_of g [some (.int x)] rfl rfl rfl rfl (fun K F => ?_)
  refine r_iload_n F dX8_isPosition_0 rfl ?_
  refine r_iconst (x := 0) F dX8_isPosition_1 rfl ?_
  refine r_bipush (x := 7) F dX8_isPosition_2 rfl ?_
  refine r_callS3i F fMX8_in tw_931 rfl dX8_isPosition_4 rfl rfl z0 (m8_in g x (nI 0) (nI 7)) ?_
  exact r_iret F rfl nb_b dX8_isPosition_7 ⟨rfl, rfl, rfl⟩
set_option maxHeartbeats 4000000 in
theorem m8_isOneOfTwo {G : GT} {v : VV} {L : LL} (g : GH G) (x : Int32) : CC G MX8_isOneOfTwo [.int x] v L (rI (inn x (nI 0) (nI 1)).toNat v L) := by
  refine cc_of g [some (.int x)] rfl rfl rfl rfl (fun K F => ?_)
  refine r_iload_n F dX8_isOneOfTwo_0 rfl ?_
  refine r_iconst (x := 0) F dX8_isOneOfTwo_1 rfl ?_
  refine r_iconst (x := 1) F dX8_isOneOfTwo_2 rfl ?_
  refine r_callS3i F fMX8_in tw_931 rfl dX8_isOneOfTwo_3 rfl rfl z0 (m8_in g x (nI 0) (nI 1)) ?_
  exact r_iret F rfl nb_b dX8_isOneOfTwo_6 ⟨rfl, rfl, rfl⟩
set_option maxHeartbeats 4000000 in
theorem m8_of {G : GT} {v : VV} {L : LL} (g : GH G) {p w : Nat} (h : 12 + 6 * p + w < 60) : CC G MX8_of [.ref (gB G 83), .int (nI p), .int (nI w)] v L (rI (v 84 (12 + 6 * p + w)) v L) := by
  refine cc_of g [some (.ref (gB G 83)), some (.int (nI p)), some (.int (nI w))] rfl rfl rfl rfl (fun K F => ?_)
  refine r_aload_n F dX8_of_0 rfl ?_
  refine r_get (x := .ref (gB G 84)) (T := TX8) (n := 0) F uw8 rfl rfl tw_877 (Or.inl rfl) dX8_of_1 (kd_lt (rfl : kd 83 = (7,0,0)) (by decide)) (ce7 rfl) rfl ?_
  refine r_bipush (x := 12) F dX8_of_4 rfl ?_
  refine r_bipush (x := 6) F dX8_of_6 rfl ?_
  refine r_iload_n F dX8_of_8 rfl ?_
  refine r_imul F dX8_of_9 ?_
  refine r_iadd F dX8_of_10 ?_
  refine r_iload_n F dX8_of_11 rfl ?_
  refine r_iadd F dX8_of_12 ?_
  refine r_iald F dX8_of_13 rfl (by omega) ?_
  exact i_iret F rfl dX8_of_14 rfl rfl rfl
set_option maxHeartbeats 4000000 in
theorem m8_put {G : GT} {v : VV} {L : LL} (g : GH G) {p w x : Nat} (h : 12 + 6 * p + w < 60) : CC G MX8_put [.ref (gB G 83), .int (nI p), .int (nI w), .int (nI x)] v L (rV (up2 v 84 (12 + 6 * p + w) x) L) := by
  refine cc_of g [some (.ref (gB G 83)), some (.int (nI p)), some (.int (nI w)), some (.int (nI x))] rfl rfl rfl rfl (fun K F => ?_)
  refine r_aload_n F dX8_put_0 rfl ?_
  refine r_get (x := .ref (gB G 84)) (T := TX8) (n := 0) F uw8 rfl rfl tw_877 (Or.inl rfl) dX8_put_1 (kd_lt (rfl : kd 83 = (7,0,0)) (by decide)) (ce7 rfl) rfl ?_
  refine r_bipush (x := 12) F dX8_put_4 rfl ?_
  refine r_bipush (x := 6) F dX8_put_6 rfl ?_
  refine r_iload_n F dX8_put_8 rfl ?_
  refine r_imul F dX8_put_9 ?_
  refine r_iadd F dX8_put_10 ?_
  refine r_iload_n F dX8_put_11 rfl ?_
  refine r_iadd F dX8_put_12 ?_
  refine r_iload_n F dX8_put_13 rfl ?_
  refine r_iast F dX8_put_14 rfl (by omega) ?_
  exact v_vret F rfl dX8_put_15 rfl rfl
set_option maxHeartbeats 4000000 in
theorem m8_holds {G : GT} {v : VV} {L : LL} (g : GH G) {x : Nat} (hx : x < 9) : CC G MX8_holds [.ref (gB G 83), .int (nI x)] v L (rI (decide (x = 0)).toNat (up2 v 83 7 x) L) := by
  refine cc_of g [some (.ref (gB G 83)), some (.int (nI x))] rfl rfl rfl rfl (fun K F => ?_)
  refine r_aload_n F dX8_holds_0 rfl ?_
  refine r_iload_n F dX8_holds_1 rfl ?_
  refine r_put (T := TX8) (n := 7) (ty0 := tyX8) (ty := .int) F uw8 tyX8_ok nmX8 rfl rfl tw_884 (Or.inl rfl) rfl rfl rfl rfl dX8_holds_2 (kd_lt (rfl : kd 83 = (7,0,0)) (by decide)) (ce7 rfl) rfl (pe7_7 rfl) up2_ce ?_
  refine r_iload_n F dX8_holds_5 rfl ?_
  refine r_ifne F dX8_holds_6 (by omega) (fun h6 => ?_) (fun h6 => ?_)
  · refine r_iconst (x := 0) F dX8_holds_13 rfl ?_
    first
      | exact b_iret F rfl dX8_holds_14 (by decide) (by rw [decide_eq_true h6]; rfl) rfl rfl
      | exact b_iret F rfl dX8_holds_14 (by decide) (by rw [decide_eq_false h6]; rfl) rfl rfl
  · refine r_iconst (x := 1) F dX8_holds_9 rfl ?_
    refine r_goto F dX8_holds_10 ?_
    first
      | exact b_iret F rfl dX8_holds_14 (by decide) (by rw [decide_eq_true h6]; rfl) rfl rfl
      | exact b_iret F rfl dX8_holds_14 (by decide) (by rw [decide_eq_false h6]; rfl) rfl rfl
set_option maxHeartbeats 4000000 in
theorem m8_thrown {G : GT} {v : VV} {L : LL} (g : GH G) : CC G MX8_thrown [.ref (gB G 83)] v L (rI (v 83 7) v L) := by
  refine cc_of g [some (.ref (gB G 83))] rfl rfl rfl rfl (fun K F => ?_)
  refine r_aload_n F dX8_thrown_0 rfl ?_
  refine r_get (T := TX8) (n := 7) F uw8 rfl rfl tw_884 (Or.inl rfl) dX8_thrown_1 (kd_lt (rfl : kd 83 = (7,0,0)) (by decide)) (ce7 rfl) rfl ?_
  exact i_iret F rfl dX8_thrown_4 rfl rfl rfl
theorem RM.at {v : VV} {S : Nat → Nat} (h : RM v S) (w : WB S) {p : Nat} (hp : p < 8) : v 84 (12 + 6 * p) = S (12 + 6 * p) ∧ v 84 (13 + 6 * p) = S (13 + 6 * p) ∧ S (12 + 6 * p) ≤ 2 ∧ S (13 + 6 * p) ≤ 4 ∧ ∀ i, i < 4 → v 84 (14 + 6 * p + i) = S (14 + 6 * p + i) := ⟨h _ (by omega), h _ (by omega), (w p hp).1, (w p hp).2.1, fun i hi => h _ (by omega)⟩
theorem m8_mark0 {G : GT} {v : VV} {L : LL} (g : GH G) {S : Nat → Nat} (hr : RM v S) {p : Nat} (hp : p < 8) : CC G MX8_of [.ref (gB G 83), .int (nI p), .int (nI 0)] v L (rI (S (12 + 6 * p)) v L) := by
  have := m8_of (v := v) (L := L) g (p := p) (w := 0) (by omega)
  rw [show 12 + 6 * p + 0 = 12 + 6 * p by omega, hr _ (by omega)] at this
  exact this
theorem m8_many {G : GT} {v : VV} {L : LL} (g : GH G) {S : Nat → Nat} (hr : RM v S) {p : Nat} (hp : p < 8) : CC G MX8_of [.ref (gB G 83), .int (nI p), .int (nI 1)] v L (rI (S (13 + 6 * p)) v L) := by
  have := m8_of (v := v) (L := L) g (p := p) (w := 1) (by omega)
  rw [show 12 + 6 * p + 1 = 13 + 6 * p by omega, hr _ (by omega)] at this
  exact this
theorem m8_move0 {G : GT} {v : VV} {L : LL} (g : GH G) {S : Nat → Nat} (hr : RM v S) {p i : Nat} (hp : p < 8) (hi : i < 4) : CC G MX8_of [.ref (gB G 83), .int (nI p), .int (nI (2 + i))] v L (rI (S (14 + 6 * p + i)) v L) := by
  have := m8_of (v := v) (L := L) g (p := p) (w := 2 + i) (by omega)
  rw [show 12 + 6 * p + (2 + i) = 14 + 6 * p + i by omega, hr _ (by omega)] at this
  exact this
set_option maxHeartbeats 8000000 in
theorem m8_hasMove {G : GT} {v : VV} {L : LL} (g : GH G) {S : Nat → Nat} (hr : RM v S) (w : WB S) {p : Nat} (hp : p < 8) (to : Int32) : CC G MX8_hasMove [.ref (gB G 83), .int (nI p), .int to] v L (rI (hm S p to).toNat v L) := by
  refine cc_of g [some (.ref (gB G 83)), some (.int (nI p)), some (.int to), none, none] rfl rfl rfl rfl (fun K F => ?_)
  obtain ⟨f, hf⟩ : ∃ f : Nat → Bool, f = fun i => decide (nI (S (14 + 6 * p + i)) = to) := ⟨_, rfl⟩
  have wc := (w p hp).2.1
  have eh : hm S p to = anyB f (S (13 + 6 * p)) := by unfold hm; rw [hf]
  have loop : ∀ (n i : Nat), S (13 + 6 * p) < i + n → i ≤ S (13 + 6 * p) → CW G K 5 0 0 (MQ (kb K) (Qn G (rI (hm S p to).toNat v L)) (ka K) (ks K) 0 0 (gA G)) v L 5 [some (.ref (gB G 83)), some (.int (nI p)), some (.int to), some (.int (nI (anyB f i).toNat)), some (.int (nI i))] [] := by
    intro n
    induction n with
    | zero => intro i a1 a2; omega
    | succ n ih =>
      intro i a1 a2
      have es : anyB f (i + 1) = (anyB f i || f i) := rfl
      refine r_iload F dX8_hasMove_5 rfl ?_
      refine r_aload_n F dX8_hasMove_7 rfl ?_
      refine r_iload_n F dX8_hasMove_8 rfl ?_
      refine r_iconst (x := 1) F dX8_hasMove_9 rfl ?_
      refine r_callV2i F fMX8_of tw_938 rfl rfl rfl rfl dX8_hasMove_10 rfl rfl z0 (m8_many g hr hp) ?_
      refine r_icge F dX8_hasMove_13 (by omega) (by omega) (fun h13 => ?_) (fun h13 => ?_)
      · refine r_iload_n F dX8_hasMove_45 rfl ?_
        exact r_iret F rfl nb_b dX8_hasMove_46 ⟨by rw [eh, show S (13 + 6 * p) = i by omega], rfl, rfl⟩
      · refine r_iload_n F dX8_hasMove_16 rfl ?_
        refine r_Bne F dX8_hasMove_17 (fun h17 => ?_) (fun h17 => ?_)
        · refine r_iconst (x := 1) F dX8_hasMove_33 rfl ?_
          refine r_goto F dX8_hasMove_34 ?_
          refine r_ist3 F dX8_hasMove_38 rfl rfl ?_
          refine r_iinc4 (y := 1) F dX8_hasMove_39 rfl rfl rfl rfl ?_
          refine r_goto F dX8_hasMove_42 ?_
          have := ih (i + 1) (by omega) (by omega)
          first
            | (rw [es, h17, Bool.true_or] at this; exact this)
            | (rw [es, h17, Bool.false_or, show f i = true from (by rw [hf]; exact decide_eq_true h30)] at this; exact this)
            | (rw [es, h17, Bool.false_or, show f i = false from (by rw [hf]; exact decide_eq_false h30)] at this; exact this)
        · refine r_aload_n F dX8_hasMove_20 rfl ?_
          refine r_iload_n F dX8_hasMove_21 rfl ?_
          refine r_iconst (x := 2) F dX8_hasMove_22 rfl ?_
          refine r_iload F dX8_hasMove_23 rfl ?_
          refine r_iadd F dX8_hasMove_25 ?_
          refine r_callV2i F fMX8_of tw_938 rfl rfl rfl rfl dX8_hasMove_26 rfl rfl z0 (m8_move0 g hr hp (i := i) (by omega)) ?_
          refine r_iload_n F dX8_hasMove_29 rfl ?_
          refine R_icne F dX8_hasMove_30 (fun h30 => ?_) (fun h30 => ?_)
          · refine r_iconst (x := 0) F dX8_hasMove_37 rfl ?_
            refine r_ist3 F dX8_hasMove_38 rfl rfl ?_
            refine r_iinc4 (y := 1) F dX8_hasMove_39 rfl rfl rfl rfl ?_
            refine r_goto F dX8_hasMove_42 ?_
            have := ih (i + 1) (by omega) (by omega)
            first
              | (rw [es, h17, Bool.true_or] at this; exact this)
              | (rw [es, h17, Bool.false_or, show f i = true from (by rw [hf]; exact decide_eq_true h30)] at this; exact this)
              | (rw [es, h17, Bool.false_or, show f i = false from (by rw [hf]; exact decide_eq_false h30)] at this; exact this)
          · refine r_iconst (x := 1) F dX8_hasMove_33 rfl ?_
            refine r_goto F dX8_hasMove_34 ?_
            refine r_ist3 F dX8_hasMove_38 rfl rfl ?_
            refine r_iinc4 (y := 1) F dX8_hasMove_39 rfl rfl rfl rfl ?_
            refine r_goto F dX8_hasMove_42 ?_
            have := ih (i + 1) (by omega) (by omega)
            first
              | (rw [es, h17, Bool.true_or] at this; exact this)
              | (rw [es, h17, Bool.false_or, show f i = true from (by rw [hf]; exact decide_eq_true h30)] at this; exact this)
              | (rw [es, h17, Bool.false_or, show f i = false from (by rw [hf]; exact decide_eq_false h30)] at this; exact this)
  refine r_iconst (x := 0) F dX8_hasMove_0 rfl ?_
  refine r_ist3 F dX8_hasMove_1 rfl rfl ?_
  refine r_iconst (x := 0) F dX8_hasMove_2 rfl ?_
  refine r_ist4 F dX8_hasMove_3 rfl rfl ?_
  exact loop (S (13 + 6 * p) + 1) 0 (by omega) (Nat.zero_le _)
set_option maxHeartbeats 4000000 in
theorem m8_isOver {G : GT} {v : VV} {L : LL} (g : GH G) {S : Nat → Nat} (hr : RM v S) (w : WB S) {p : Nat} (hp : p < 8) : CC G MX8_isOver [.ref (gB G 83), .int (nI p)] v L (rI (ovr S p).toNat v L) := by
  refine cc_of g [some (.ref (gB G 83)), some (.int (nI p))] rfl rfl rfl rfl (fun K F => ?_)
  have wm := (w p hp).1
  have wc := (w p hp).2.1
  refine r_aload_n F dX8_isOver_0 rfl ?_
  refine r_iload_n F dX8_isOver_1 rfl ?_
  refine r_iconst (x := 0) F dX8_isOver_2 rfl ?_
  refine r_callV2i F fMX8_of tw_938 rfl rfl rfl rfl dX8_isOver_3 rfl rfl z0 (m8_mark0 g hr hp) ?_
  refine r_ifgt F dX8_isOver_6 (by omega) (fun h6 => ?_) (fun h6 => ?_)
  · refine r_iconst (x := 1) F dX8_isOver_18 rfl ?_
    refine r_goto F dX8_isOver_19 ?_
    first
      | exact b_iret F rfl dX8_isOver_23 (by decide) (by unfold ovr; rw [decide_eq_true (show S (12 + 6 * p) ≠ 0 by omega), Bool.true_or]; rfl) rfl rfl
      | exact b_iret F rfl dX8_isOver_23 (by decide) (by unfold ovr; rw [decide_eq_true (show S (13 + 6 * p) = 0 by omega), Bool.or_true]; rfl) rfl rfl
      | exact b_iret F rfl dX8_isOver_23 (by decide) (by unfold ovr; rw [decide_eq_false (show ¬ S (12 + 6 * p) ≠ 0 by omega), decide_eq_false (show ¬ S (13 + 6 * p) = 0 by omega)]; rfl) rfl rfl
  · refine r_aload_n F dX8_isOver_9 rfl ?_
    refine r_iload_n F dX8_isOver_10 rfl ?_
    refine r_iconst (x := 1) F dX8_isOver_11 rfl ?_
    refine r_callV2i F fMX8_of tw_938 rfl rfl rfl rfl dX8_isOver_12 rfl rfl z0 (m8_many g hr hp) ?_
    refine r_ifne F dX8_isOver_15 (by omega) (fun h15 => ?_) (fun h15 => ?_)
    · refine r_iconst (x := 0) F dX8_isOver_22 rfl ?_
      first
        | exact b_iret F rfl dX8_isOver_23 (by decide) (by unfold ovr; rw [decide_eq_true (show S (12 + 6 * p) ≠ 0 by omega), Bool.true_or]; rfl) rfl rfl
        | exact b_iret F rfl dX8_isOver_23 (by decide) (by unfold ovr; rw [decide_eq_true (show S (13 + 6 * p) = 0 by omega), Bool.or_true]; rfl) rfl rfl
        | exact b_iret F rfl dX8_isOver_23 (by decide) (by unfold ovr; rw [decide_eq_false (show ¬ S (12 + 6 * p) ≠ 0 by omega), decide_eq_false (show ¬ S (13 + 6 * p) = 0 by omega)]; rfl) rfl rfl
    · refine r_iconst (x := 1) F dX8_isOver_18 rfl ?_
      refine r_goto F dX8_isOver_19 ?_
      first
        | exact b_iret F rfl dX8_isOver_23 (by decide) (by unfold ovr; rw [decide_eq_true (show S (12 + 6 * p) ≠ 0 by omega), Bool.true_or]; rfl) rfl rfl
        | exact b_iret F rfl dX8_isOver_23 (by decide) (by unfold ovr; rw [decide_eq_true (show S (13 + 6 * p) = 0 by omega), Bool.or_true]; rfl) rfl rfl
        | exact b_iret F rfl dX8_isOver_23 (by decide) (by unfold ovr; rw [decide_eq_false (show ¬ S (12 + 6 * p) ≠ 0 by omega), decide_eq_false (show ¬ S (13 + 6 * p) = 0 by omega)]; rfl) rfl rfl
set_option maxHeartbeats 4000000 in
theorem m8_isWonFor {G : GT} {v : VV} {L : LL} (g : GH G) {S : Nat → Nat} (hr : RM v S) (w : WB S) {pl p : Nat} (hp : p < 8) (h1 : pl < 2) : CC G MX8_isWonFor [.ref (gB G 83), .int (nI pl), .int (nI p)] v L (rI (won S pl p).toNat v L) := by
  refine cc_of g [some (.ref (gB G 83)), some (.int (nI pl)), some (.int (nI p))] rfl rfl rfl rfl (fun K F => ?_)
  have wm := (w p hp).1
  refine r_aload_n F dX8_isWonFor_0 rfl ?_
  refine r_iload_n F dX8_isWonFor_1 rfl ?_
  refine r_iconst (x := 0) F dX8_isWonFor_2 rfl ?_
  refine r_callV2i F fMX8_of tw_938 rfl rfl rfl rfl dX8_isWonFor_3 rfl rfl z0 (m8_mark0 g hr hp) ?_
  refine r_iload_n F dX8_isWonFor_6 rfl ?_
  refine r_iconst (x := 1) F dX8_isWonFor_7 rfl ?_
  refine r_iadd F dX8_isWonFor_8 ?_
  refine r_icne F dX8_isWonFor_9 (by omega) (by omega) (fun h9 => ?_) (fun h9 => ?_)
  · refine r_iconst (x := 0) F dX8_isWonFor_16 rfl ?_
    first
      | exact b_iret F rfl dX8_isWonFor_17 (by decide) (by unfold won; rw [decide_eq_true (show S (12 + 6 * p) = pl + 1 by omega)]; rfl) rfl rfl
      | exact b_iret F rfl dX8_isWonFor_17 (by decide) (by unfold won; rw [decide_eq_false (show ¬ S (12 + 6 * p) = pl + 1 by omega)]; rfl) rfl rfl
  · refine r_iconst (x := 1) F dX8_isWonFor_12 rfl ?_
    refine r_goto F dX8_isWonFor_13 ?_
    first
      | exact b_iret F rfl dX8_isWonFor_17 (by decide) (by unfold won; rw [decide_eq_true (show S (12 + 6 * p) = pl + 1 by omega)]; rfl) rfl rfl
      | exact b_iret F rfl dX8_isWonFor_17 (by decide) (by unfold won; rw [decide_eq_false (show ¬ S (12 + 6 * p) = pl + 1 by omega)]; rfl) rfl rfl
set_option maxHeartbeats 4000000 in
theorem m8_budgetOf {G : GT} {v : VV} {L : LL} (g : GH G) {S : Nat → Nat} (hr : RM v S) (w : WS S) {pl : Nat} (h1 : pl < 2) : CC G MX8_budgetOf [.ref (gB G 83), .int (nI pl)] v L (rI (bud S pl) v L) := by
  refine cc_of g [some (.ref (gB G 83)), some (.int (nI pl))] rfl rfl rfl rfl (fun K F => ?_)
  have w2 : S 2 ≤ S 0 := w.2.2.1
  have e0 := hr 0 (by decide)
  have e2 := hr 2 (by decide)
  refine r_iload_n F dX8_budgetOf_0 rfl ?_
  refine r_ifne F dX8_budgetOf_1 (by omega) (fun h1 => ?_) (fun h1 => ?_)
  · refine r_aload_n F dX8_budgetOf_13 rfl ?_
    refine r_get (x := .ref (gB G 84)) (T := TX8) (n := 0) F uw8 rfl rfl tw_877 (Or.inl rfl) dX8_budgetOf_14 (kd_lt (rfl : kd 83 = (7,0,0)) (by decide)) (ce7 rfl) rfl ?_
    refine r_iconst (x := 0) F dX8_budgetOf_17 rfl ?_
    refine r_iald F dX8_budgetOf_18 rfl (by omega) ?_
    refine r_aload_n F dX8_budgetOf_19 rfl ?_
    refine r_get (x := .ref (gB G 84)) (T := TX8) (n := 0) F uw8 rfl rfl tw_877 (Or.inl rfl) dX8_budgetOf_20 (kd_lt (rfl : kd 83 = (7,0,0)) (by decide)) (ce7 rfl) rfl ?_
    refine r_iconst (x := 2) F dX8_budgetOf_23 rfl ?_
    refine r_iald F dX8_budgetOf_24 rfl (by omega) ?_
    refine r_isub F dX8_budgetOf_25 (by rw [e0, e2]; exact w2) ?_
    exact i_iret F rfl dX8_budgetOf_26 (by unfold bud; first | (rw [if_pos (by omega), e2]) | (rw [if_neg (by omega), e0, e2])) rfl rfl
  · refine r_aload_n F dX8_budgetOf_4 rfl ?_
    refine r_get (x := .ref (gB G 84)) (T := TX8) (n := 0) F uw8 rfl rfl tw_877 (Or.inl rfl) dX8_budgetOf_5 (kd_lt (rfl : kd 83 = (7,0,0)) (by decide)) (ce7 rfl) rfl ?_
    refine r_iconst (x := 2) F dX8_budgetOf_8 rfl ?_
    refine r_iald F dX8_budgetOf_9 rfl (by omega) ?_
    refine r_goto F dX8_budgetOf_10 ?_
    exact i_iret F rfl dX8_budgetOf_26 (by unfold bud; first | (rw [if_pos (by omega), e2]) | (rw [if_neg (by omega), e0, e2])) rfl rfl
