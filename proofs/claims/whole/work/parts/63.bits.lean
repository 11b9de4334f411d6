theorem r_lcmp {G : GT} {K : KT} {M : MD} {c s cells slots : Nat} {Q : State → Prop} {v : VV} {L : LL} {pc q : Nat} {lv : List (Option Value)} {st : List Value} {x y : Int64} (F : Fx G K M c s) (d : DD (mb M) pc .lcmp 1 q) (k : CW G K (ml M) cells slots Q v L q lv (.int (lg_cmp x y) :: st)) : CW G K (ml M) cells slots Q v L pc lv (.long y :: .long x :: st) := by
  intro H locs ls hP hS hl
  obtain ⟨d1, rfl⟩ := d
  exact W.lcmp F.1 F.2.1 d1 (k H locs ls hP hS hl)
def pj (j : Nat) : Int64 := 1023 - Int64.ofNat j
theorem pj_s : ∀ j, j < 12 → pj j - 1 = pj (j + 1) := by decide +kernel
theorem pj_c : ∀ j, j < 13 → 0 < lg_cmp (pj j) 1 := by decide +kernel
theorem pj_m : ∀ j, j < 13 → pj j <<< ((nI 52).toInt64 &&& 63) = pj j * 4503599627370496 := by decide +kernel
def biR : Nat → Nat → UInt64 → Int64
  | 0, _, _ => 0
  | k + 1, j, r => if ltD r FP.dconst1 = true then biR k (j + 1) (FP.dmul r 4611686018427387904) else pj j * 4503599627370496 + FP.d2l (FP.dmul (FP.dsub r FP.dconst1) 4841369599423283200)
/-- the bits of a share -/
def biV (n c : Nat) : Int64 := if n = 0 then 0 else biR 12 0 (shV n c)
theorem ltD_y {r : UInt64} (h : ltD r FP.dconst1 = true) : Op.cmpValue (FP.dcmp r FP.dconst1) .g < 0 := of_decide_eq_true h
set_option maxHeartbeats 8000000 in
theorem m7_bitsOf {G : GT} {v : VV} {L : LL} (g : GH G) {n c : Nat} (hc : c ≤ 20) (hn : n ≤ 16 * (c + 1)) : CC G MX7_bitsOf [.double (shV n c)] v L (gJ fun x v' L' => x = biV n c ∧ v' = v ∧ L' = L) := by
  refine cc_of g [some (.double (shV n c)), none, none, none, none, none, none, none] rfl rfl rfl rfl (fun K F => ?_)
  have ps := ps_ok hc hn
  have so := sh_ok hc hn
  have loop : ∀ (k j : Nat) (r : UInt64), j + k = 12 → bitsOk k r = true → CW G K 8 0 0 (MQ (kb K) (Qn G (gJ fun x v' L' => x = biR k j r ∧ v' = v ∧ L' = L)) (ka K) (ks K) 0 0 (gA G)) v L 15 [some (.double (shV n c)), none, some (.double r), none, some (.long (pj j)), none, none, none] [] := by
    intro k
    induction k with
    | zero => intro j r hj hr; cases hr
    | succ k ih =>
      intro j r hj hr
      unfold bitsOk at hr
      cases hl : ltD r FP.dconst1 with
      | true =>
        rw [if_pos hl, Bool.and_eq_true] at hr
        have e : biR (k + 1) j r = biR k (j + 1) (FP.dmul r 4611686018427387904) := by show (if _ then _ else _) = _; rw [if_pos hl]
        rw [e]
        refine r_dload_n F dX7_bitsOf_15 rfl ?_
        refine r_dconst1 F dX7_bitsOf_16 ?_
        refine r_dcmp F dX7_bitsOf_17 ?_
        refine R_ifge F dX7_bitsOf_18 (fun h18 => ?_) (fun h18 => ?_)
        · exact absurd h18 (Int32.not_le.mpr (ltD_y hl))
        · refine r_lload F dX7_bitsOf_21 rfl ?_
          refine r_lconst (x := 1) F dX7_bitsOf_23 rfl ?_
          refine r_lcmp F dX7_bitsOf_24 ?_
          refine R_ifle F dX7_bitsOf_25 (fun h25 => ?_) (fun h25 => ?_)
          · exact absurd h25 (Int32.not_le.mpr (pj_c j (by omega)))
          · refine r_dload_n F dX7_bitsOf_28 rfl ?_
            refine r_ldc2d F dX7_bitsOf_29 tw_709 ?_
            refine r_dmul F dX7_bitsOf_32 (n64_of hr.1) ?_
            refine r_dst2 F dX7_bitsOf_33 rfl rfl ?_
            refine r_lload F dX7_bitsOf_34 rfl ?_
            refine r_lconst (x := 1) F dX7_bitsOf_36 rfl ?_
            refine r_lsub F dX7_bitsOf_37 ?_
            rw [pj_s j (by omega)]
            refine r_lst4 F dX7_bitsOf_38 rfl rfl ?_
            refine r_goto F dX7_bitsOf_40 ?_
            exact ih (j + 1) _ (by omega) hr.2
      | false =>
        rw [if_neg (by rw [hl]; decide), Bool.and_eq_true] at hr
        have e : biR (k + 1) j r = pj j * 4503599627370496 + FP.d2l (FP.dmul (FP.dsub r FP.dconst1) 4841369599423283200) := by show (if _ then _ else _) = _; rw [if_neg (by rw [hl]; decide)]
        rw [e]
        have sp := n64_of hr.1
        refine r_dload_n F dX7_bitsOf_15 rfl ?_
        refine r_dconst1 F dX7_bitsOf_16 ?_
        refine r_dcmp F dX7_bitsOf_17 ?_
        refine R_ifge F dX7_bitsOf_18 (fun h18 => ?_) (fun h18 => ?_)
        · refine r_dload_n F dX7_bitsOf_43 rfl ?_
          refine r_dconst1 F dX7_bitsOf_44 ?_
          refine r_dsub F dX7_bitsOf_45 sp ?_
          refine r_ldc2d F dX7_bitsOf_46 tw_710 ?_
          refine r_dmul F dX7_bitsOf_49 (n64_of hr.2) ?_
          refine r_d2l F dX7_bitsOf_50 ?_
          refine r_lst6 F dX7_bitsOf_51 rfl rfl ?_
          refine r_lload F dX7_bitsOf_53 rfl ?_
          refine r_bipush (x := 52) F dX7_bitsOf_55 rfl ?_
          refine r_lshl F dX7_bitsOf_57 (pj_m j (by omega)) ?_
          refine r_lload F dX7_bitsOf_58 rfl ?_
          refine r_ladd F dX7_bitsOf_60 ?_
          exact r_lret F rfl dX7_bitsOf_61 ⟨_, rfl, rfl, rfl, rfl⟩
        · exact absurd (Int32.not_le.mp h18) (fun z => by unfold ltD at hl; rw [decide_eq_true z] at hl; cases hl)
  unfold psOk at ps
  by_cases n0 : n = 0
  · rw [if_pos n0, Bool.and_eq_true] at ps
    have p1 := of_decide_eq_true ps.1
    refine r_dload_n F dX7_bitsOf_0 rfl ?_
    refine r_dconst0 F dX7_bitsOf_1 ?_
    refine r_dcmp F dX7_bitsOf_2 ?_
    refine R_ifgt F dX7_bitsOf_3 (fun h3 => ?_) (fun h3 => ?_)
    · exact absurd h3 p1
    · refine r_lconst (x := 0) F dX7_bitsOf_6 rfl ?_
      exact r_lret F rfl dX7_bitsOf_7 ⟨_, rfl, by unfold biV; rw [if_pos n0], rfl, rfl⟩
  · rw [if_neg n0, Bool.and_eq_true] at ps
    have p1 := of_decide_eq_true ps.1
    have hb : bitsOk 12 (shV n c) = true := by
      unfold shOk at so
      rw [Bool.and_eq_true, Bool.or_eq_true] at so
      rcases so.2 with z | z
      · exact absurd (Nat.eq_of_beq_eq_true z) n0
      · exact z
    have eb : biV n c = biR 12 0 (shV n c) := if_neg n0
    rw [eb]
    refine r_dload_n F dX7_bitsOf_0 rfl ?_
    refine r_dconst0 F dX7_bitsOf_1 ?_
    refine r_dcmp F dX7_bitsOf_2 ?_
    refine R_ifgt F dX7_bitsOf_3 (fun h3 => ?_) (fun h3 => ?_)
    · refine r_dload_n F dX7_bitsOf_8 rfl ?_
      refine r_dst2 F dX7_bitsOf_9 rfl rfl ?_
      refine r_ldc2 F dX7_bitsOf_10 tw_708 ?_
      refine r_lst4 F dX7_bitsOf_13 rfl rfl ?_
      exact loop 12 0 _ rfl hb
    · exact absurd p1 h3
set_option maxHeartbeats 8000000 in
theorem m8_bitsOf {G : GT} {v : VV} {L : LL} (g : GH G) {n c : Nat} (hc : c ≤ 20) (hn : n ≤ 16 * (c + 1)) : CC G MX8_bitsOf [.double (shV n c)] v L (gJ fun x v' L' => x = biV n c ∧ v' = v ∧ L' = L) := by
  refine cc_of g [some (.double (shV n c)), none, none, none, none, none] rfl rfl rfl rfl (fun K F => ?_)
  have ps := ps_ok hc hn
  have so := sh_ok hc hn
  have loop : ∀ (k j : Nat) (r : UInt64), j + k = 12 → bitsOk k r = true → CW G K 6 0 0 (MQ (kb K) (Qn G (gJ fun x v' L' => x = biR k j r ∧ v' = v ∧ L' = L)) (ka K) (ks K) 0 0 (gA G)) v L 15 [some (.double (shV n c)), none, some (.long (pj j)), none, some (.double r), none] [] := by
    intro k
    induction k with
    | zero => intro j r hj hr; cases hr
    | succ k ih =>
      intro j r hj hr
      unfold bitsOk at hr
      cases hl : ltD r FP.dconst1 with
      | true =>
        rw [if_pos hl, Bool.and_eq_true] at hr
        have e : biR (k + 1) j r = biR k (j + 1) (FP.dmul r 4611686018427387904) := by show (if _ then _ else _) = _; rw [if_pos hl]
        rw [e]
        refine r_dload F dX8_bitsOf_15 rfl ?_
        refine r_dconst1 F dX8_bitsOf_17 ?_
        refine r_dcmp F dX8_bitsOf_18 ?_
        refine R_ifge F dX8_bitsOf_19 (fun h19 => ?_) (fun h19 => ?_)
        · exact absurd h19 (Int32.not_le.mpr (ltD_y hl))
        · refine r_dload F dX8_bitsOf_22 rfl ?_
          refine r_ldc2d F dX8_bitsOf_24 tw_1203 ?_
          refine r_dmul F dX8_bitsOf_27 (n64_of hr.1) ?_
          refine r_dst4 F dX8_bitsOf_28 rfl rfl ?_
          refine r_lload_n F dX8_bitsOf_30 rfl ?_
          refine r_lconst (x := 1) F dX8_bitsOf_31 rfl ?_
          refine r_lsub F dX8_bitsOf_32 ?_
          rw [pj_s j (by omega)]
          refine r_lst2 F dX8_bitsOf_33 rfl rfl ?_
          refine r_goto F dX8_bitsOf_34 ?_
          exact ih (j + 1) _ (by omega) hr.2
      | false =>
        rw [if_neg (by rw [hl]; decide), Bool.and_eq_true] at hr
        have e : biR (k + 1) j r = pj j * 4503599627370496 + FP.d2l (FP.dmul (FP.dsub r FP.dconst1) 4841369599423283200) := by show (if _ then _ else _) = _; rw [if_neg (by rw [hl]; decide)]
        rw [e]
        refine r_dload F dX8_bitsOf_15 rfl ?_
        refine r_dconst1 F dX8_bitsOf_17 ?_
        refine r_dcmp F dX8_bitsOf_18 ?_
        refine R_ifge F dX8_bitsOf_19 (fun h19 => ?_) (fun h19 => ?_)
        · refine r_lload_n F dX8_bitsOf_37 rfl ?_
          refine r_ldc2 F dX8_bitsOf_38 tw_1204 ?_
          refine r_lmul F dX8_bitsOf_41 ?_
          refine r_dload F dX8_bitsOf_42 rfl ?_
          refine r_dconst1 F dX8_bitsOf_44 ?_
          refine r_dsub F dX8_bitsOf_45 (n64_of hr.1) ?_
          refine r_ldc2d F dX8_bitsOf_46 tw_1205 ?_
          refine r_dmul F dX8_bitsOf_49 (n64_of hr.2) ?_
          refine r_d2l F dX8_bitsOf_50 ?_
          refine r_ladd F dX8_bitsOf_51 ?_
          exact r_lret F rfl dX8_bitsOf_52 ⟨_, rfl, rfl, rfl, rfl⟩
        · exact absurd (Int32.not_le.mp h19) (fun z => by unfold ltD at hl; rw [decide_eq_true z] at hl; cases hl)
  unfold psOk at ps
  by_cases n0 : n = 0
  · rw [if_pos n0, Bool.and_eq_true] at ps
    have p1 := of_decide_eq_true ps.2
    refine r_dload_n F dX8_bitsOf_0 rfl ?_
    refine r_dconst0 F dX8_bitsOf_1 ?_
    refine r_dcmp F dX8_bitsOf_2 ?_
    refine R_ifne F dX8_bitsOf_3 (fun h3 => ?_) (fun h3 => ?_)
    · exact absurd p1 h3
    · refine r_lconst (x := 0) F dX8_bitsOf_6 rfl ?_
      exact r_lret F rfl dX8_bitsOf_7 ⟨_, rfl, by unfold biV; rw [if_pos n0], rfl, rfl⟩
  · rw [if_neg n0, Bool.and_eq_true] at ps
    have p1 := of_decide_eq_true ps.2
    have hb : bitsOk 12 (shV n c) = true := by
      unfold shOk at so
      rw [Bool.and_eq_true, Bool.or_eq_true] at so
      rcases so.2 with z | z
      · exact absurd (Nat.eq_of_beq_eq_true z) n0
      · exact z
    have eb : biV n c = biR 12 0 (shV n c) := if_neg n0
    rw [eb]
    refine r_dload_n F dX8_bitsOf_0 rfl ?_
    refine r_dconst0 F dX8_bitsOf_1 ?_
    refine r_dcmp F dX8_bitsOf_2 ?_
    refine R_ifne F dX8_bitsOf_3 (fun h3 => ?_) (fun h3 => ?_)
    · refine r_ldc2 F dX8_bitsOf_8 tw_1202 ?_
      refine r_lst2 F dX8_bitsOf_11 rfl rfl ?_
      refine r_dload_n F dX8_bitsOf_12 rfl ?_
      refine r_dst4 F dX8_bitsOf_13 rfl rfl ?_
      exact loop 12 0 _ rfl hb
    · exact absurd h3 p1
