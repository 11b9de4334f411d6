/-! the digest -/
def mx (h x : Int64) : Int64 := 31 * h + x
def fd (f : Nat → Int64) : Nat → Int64 → Int64
  | 0, h => h
  | n + 1, h => mx (fd f n h) (f n)
def posD (S : Nat → Nat) (p : Nat) (h : Int64) : Int64 := fd (fun k => (thV (thr S (S 1) (k / 4) p (k / 2 % 2))).toInt64) 8 (fd (fun w => (posV S p w).toInt64) 7 h)
def allP (S : Nat → Nat) : Nat → Int64 → Int64
  | 0, h => h
  | n + 1, h => posD S n (allP S n h)
def plD (S : Nat → Nat) (pl : Nat) (h : Int64) : Int64 := mx (mx (mx (mx (fd (fun w => (plV S pl w).toInt64) 6 h) (adV S pl).toInt64) (reV S pl 0).toInt64) (bmV S pl 0).toInt64) (wiV S pl).toInt64
def dg0 (a : AS) : Int64 := mx (mx (fd (fun w => (cnV a w).toInt64) 11 3433) (nI (sS a 0)).toInt64) (nI (sS a 1)).toInt64
def dg1 (a : AS) : Int64 := mx (plD (sS a) 1 (plD (sS a) 0 (allP (sS a) 8 (dg0 a)))) (biV (shN (sS a) 16) (sS a 0))
def dgV (a : AS) : Int64 := fd (fun i => (nI (sT a i)).toInt64) (sL a) (mx (fd (fun i => (nI (sKp a i).toNat).toInt64) 2 (dg1 a)) (nI (sL a)).toInt64)
theorem up1_up (L : LL) (x y : Int64) : up1 (up1 L 0 x) 0 y = up1 L 0 y := by
  funext i
  unfold up1
  by_cases h : i = 0
  · rw [if_pos h, if_pos h]
  · rw [if_neg h, if_neg h, if_neg h]
theorem up1_s0 (L : LL) (x : Int64) : up1 L 0 x 0 = x := if_pos rfl
theorem up1_id (L : LL) : up1 L 0 (L 0) = L := by
  funext i
  unfold up1
  by_cases h : i = 0
  · rw [if_pos h, h]
  · rw [if_neg h]
theorem up1_ce0 {G : GT} {v : VV} {L : LL} {x : Int64} : ∀ i, i ≠ 83 → ce G v (up1 L 0 x) i = ce G v L i := fun i hi => by
  have h7 : (kd i).1 ≠ 7 := by
    rcases Nat.lt_or_ge i 92 with z | z
    · exact (show ∀ i, i < 92 → i ≠ 83 → (kd i).1 ≠ 7 by decide +kernel) i z hi
    · unfold kd
      rw [List.getD_eq_getElem?_getD, List.getElem?_eq_none (by exact z)]
      decide
  simp [ce, h7, up1]
set_option maxHeartbeats 4000000 in
theorem m8_mix {G : GT} {v : VV} {L : LL} (g : GH G) (x : Int64) : CC G MX8_mix [.ref (gB G 83), .long x] v L (rV v (up1 L 0 (mx (L 0) x))) := by
  refine cc_of g [some (.ref (gB G 83)), some (.long x), none] rfl rfl rfl rfl (fun K F => ?_)
  refine r_aload_n F dX8_mix_0 rfl ?_
  refine r_ldc2 F dX8_mix_1 tw_1190 ?_
  refine r_aload_n F dX8_mix_4 rfl ?_
  refine r_get (T := TX8) (n := 13) F uw8 rfl rfl tw_890 (Or.inl rfl) dX8_mix_5 (kd_lt (rfl : kd 83 = (7,0,0)) (by decide)) (ce7 rfl) rfl ?_
  refine r_lmul F dX8_mix_8 ?_
  refine r_lload_n F dX8_mix_9 rfl ?_
  refine r_ladd F dX8_mix_10 ?_
  refine r_put (T := TX8) (n := 13) (ty0 := tyX8) (ty := .long) F uw8 tyX8_ok nmX8 rfl rfl tw_890 (Or.inl rfl) rfl rfl rfl rfl dX8_mix_11 (kd_lt (rfl : kd 83 = (7,0,0)) (by decide)) (ce7 rfl) rfl (pe7_13 rfl) up1_ce0 ?_
  exact v_vret F rfl dX8_mix_14 rfl rfl
theorem m8_mixh {G : GT} {v : VV} {L : LL} (g : GH G) (h x : Int64) : CC G MX8_mix [.ref (gB G 83), .long x] v (up1 L 0 h) (rV v (up1 L 0 (mx h x))) := by
  have := m8_mix (v := v) (L := up1 L 0 h) g x
  rw [up1_s0, up1_up] at this
  exact this
set_option maxHeartbeats 8000000 in
theorem m8_mixPosition {G : GT} {v : VV} {L : LL} (g : GH G) {S : Nat → Nat} (hr : RM v S) (w : WS S) {p : Nat} (hp : p < 8) (hL : ∀ t, t < 13 → HL v S t) (h : Int64) : CC G MX8_mixPosition [.ref (gB G 83), .int (nI p)] v (up1 L 0 h) (rV v (up1 L 0 (posD S p h))) := by
  refine cc_of g [some (.ref (gB G 83)), some (.int (nI p)), none] rfl rfl rfl rfl (fun K F => ?_)
  have w1 : S 1 ≤ 12 := w.2.1
  have l2 : ∀ (n j : Nat), 8 < j + n → j ≤ 8 → CW G K 3 0 0 (MQ (kb K) (Qn G (rV v (up1 L 0 (posD S p h)))) (ka K) (ks K) 0 0 (gA G)) v (up1 L 0 (fd (fun k => (thV (thr S (S 1) (k / 4) p (k / 2 % 2))).toInt64) j (fd (fun w => (posV S p w).toInt64) 7 h))) 27 [some (.ref (gB G 83)), some (.int (nI p)), some (.int (nI j))] [] := by
    intro n
    induction n with
    | zero => intro j a1 a2; omega
    | succ n ih =>
      intro j a1 a2
      refine r_iload_n F dX8_mixPosition_27 rfl ?_
      refine r_bipush (x := 8) F dX8_mixPosition_28 rfl ?_
      refine r_icge F dX8_mixPosition_30 (by omega) (by omega) (fun h30 => ?_) (fun h30 => ?_)
      · exact v_vret F rfl dX8_mixPosition_57 rfl (by rw [show j = 8 by omega]; rfl)
      · refine r_aload_n F dX8_mixPosition_33 rfl ?_
        refine r_aload_n F dX8_mixPosition_34 rfl ?_
        refine r_iload_n F dX8_mixPosition_35 rfl ?_
        refine r_iconst (x := 4) F dX8_mixPosition_36 rfl ?_
        refine r_idiv F dX8_mixPosition_37 (by omega) (by omega) (by omega) ?_
        refine r_iload_n F dX8_mixPosition_38 rfl ?_
        refine r_iload_n F dX8_mixPosition_39 rfl ?_
        refine r_iconst (x := 2) F dX8_mixPosition_40 rfl ?_
        refine r_idiv F dX8_mixPosition_41 (by omega) (by omega) (by omega) ?_
        refine r_iconst (x := 2) F dX8_mixPosition_42 rfl ?_
        refine r_irem F dX8_mixPosition_43 (by omega) (by omega) (by omega) ?_
        refine r_callV3q F fMX8_thresholdTold tw_1133 rfl rfl rfl rfl dX8_mixPosition_44 rfl rfl z0 (m8_thresholdTold g hr w (by omega) hp (by omega) (hL _ (by omega))) ?_
        refine r_i2l F dX8_mixPosition_47 rfl ?_
        refine r_callV1v F fMX8_mix tw_1186 rfl rfl rfl rfl dX8_mixPosition_48 rfl rfl z0 (m8_mixh g _ _) ?_
        refine r_iinc2 (y := 1) F dX8_mixPosition_51 rfl rfl rfl rfl ?_
        refine r_goto F dX8_mixPosition_54 ?_
        exact ih (j + 1) (by omega) (by omega)
  have l1 : ∀ (n j : Nat), 7 < j + n → j ≤ 7 → CW G K 3 0 0 (MQ (kb K) (Qn G (rV v (up1 L 0 (posD S p h)))) (ka K) (ks K) 0 0 (gA G)) v (up1 L 0 (fd (fun w => (posV S p w).toInt64) j h)) 2 [some (.ref (gB G 83)), some (.int (nI p)), some (.int (nI j))] [] := by
    intro n
    induction n with
    | zero => intro j a1 a2; omega
    | succ n ih =>
      intro j a1 a2
      refine r_iload_n F dX8_mixPosition_2 rfl ?_
      refine r_bipush (x := 7) F dX8_mixPosition_3 rfl ?_
      refine r_icge F dX8_mixPosition_5 (by omega) (by omega) (fun h5 => ?_) (fun h5 => ?_)
      · refine r_iconst (x := 0) F dX8_mixPosition_25 rfl ?_
        refine r_ist2 F dX8_mixPosition_26 rfl rfl ?_
        rw [show j = 7 by omega]; exact l2 9 0 (by omega) (by omega)
      · refine r_aload_n F dX8_mixPosition_8 rfl ?_
        refine r_aload_n F dX8_mixPosition_9 rfl ?_
        refine r_iload_n F dX8_mixPosition_10 rfl ?_
        refine r_iload_n F dX8_mixPosition_11 rfl ?_
        refine r_callV2q F fMX8_positionTold tw_1053 rfl rfl rfl rfl dX8_mixPosition_12 rfl rfl z0 (m8_positionTold g hr w.b hp (i := j) (by omega)) ?_
        refine r_i2l F dX8_mixPosition_15 rfl ?_
        refine r_callV1v F fMX8_mix tw_1186 rfl rfl rfl rfl dX8_mixPosition_16 rfl rfl z0 (m8_mixh g _ _) ?_
        refine r_iinc2 (y := 1) F dX8_mixPosition_19 rfl rfl rfl rfl ?_
        refine r_goto F dX8_mixPosition_22 ?_
        exact ih (j + 1) (by omega) (by omega)
  refine r_iconst (x := 0) F dX8_mixPosition_0 rfl ?_
  refine r_ist2 F dX8_mixPosition_1 rfl rfl ?_
  exact l1 8 0 (by omega) (by omega)
set_option maxHeartbeats 8000000 in
theorem m8_mixPlayer {G : GT} {v : VV} {L : LL} (g : GH G) {S : Nat → Nat} (hr : RM v S) (w : WS S) {pl : Nat} (hpl : pl ≤ 1) (hL : ∀ t, t < 13 → HL v S t) (h : Int64) : CC G MX8_mixPlayer [.ref (gB G 83), .int (nI pl)] v (up1 L 0 h) (rV v (up1 L 0 (plD S pl h))) := by
  refine cc_of g [some (.ref (gB G 83)), some (.int (nI pl)), none] rfl rfl rfl rfl (fun K F => ?_)
  have w1 : S 1 ≤ 12 := w.2.1
  have l1 : ∀ (n j : Nat), 6 < j + n → j ≤ 6 → CW G K 3 0 0 (MQ (kb K) (Qn G (rV v (up1 L 0 (plD S pl h)))) (ka K) (ks K) 0 0 (gA G)) v (up1 L 0 (fd (fun w => (plV S pl w).toInt64) j h)) 2 [some (.ref (gB G 83)), some (.int (nI pl)), some (.int (nI j))] [] := by
    intro n
    induction n with
    | zero => intro j a1 a2; omega
    | succ n ih =>
      intro j a1 a2
      refine r_iload_n F dX8_mixPlayer_2 rfl ?_
      refine r_bipush (x := 6) F dX8_mixPlayer_3 rfl ?_
      refine r_icge F dX8_mixPlayer_5 (by omega) (by omega) (fun h5 => ?_) (fun h5 => ?_)
      · rw [show j = 6 by omega]
        refine r_aload_n F dX8_mixPlayer_25 rfl ?_
        refine r_aload_n F dX8_mixPlayer_26 rfl ?_
        refine r_iload_n F dX8_mixPlayer_27 rfl ?_
        refine r_callV1q F fMX8_adviceTold tw_1141 rfl rfl rfl rfl dX8_mixPlayer_28 rfl rfl z0 (m8_adviceTold g hr w (by omega) hL) ?_
        refine r_i2l F dX8_mixPlayer_31 rfl ?_
        refine r_callV1v F fMX8_mix tw_1186 rfl rfl rfl rfl dX8_mixPlayer_32 rfl rfl z0 (m8_mixh g _ _) ?_
        refine r_aload_n F dX8_mixPlayer_35 rfl ?_
        refine r_aload_n F dX8_mixPlayer_36 rfl ?_
        refine r_iload_n F dX8_mixPlayer_37 rfl ?_
        refine r_iconst (x := 0) F dX8_mixPlayer_38 rfl ?_
        refine r_callV2q F fMX8_refutedTold tw_1153 rfl rfl rfl rfl dX8_mixPlayer_39 rfl rfl z0 (m8_refutedTold g hr w (b := 0) (by omega) (Nat.zero_le _) hL) ?_
        refine r_i2l F dX8_mixPlayer_42 rfl ?_
        refine r_callV1v F fMX8_mix tw_1186 rfl rfl rfl rfl dX8_mixPlayer_43 rfl rfl z0 (m8_mixh g _ _) ?_
        refine r_aload_n F dX8_mixPlayer_46 rfl ?_
        refine r_aload_n F dX8_mixPlayer_47 rfl ?_
        refine r_iload_n F dX8_mixPlayer_48 rfl ?_
        refine r_iconst (x := 0) F dX8_mixPlayer_49 rfl ?_
        refine r_callV2q F fMX8_bestMoveTold tw_1161 rfl rfl rfl rfl dX8_mixPlayer_50 rfl rfl z0 (m8_bestMoveTold g hr w (b := 0) (by omega) (Nat.zero_le _) hL) ?_
        refine r_i2l F dX8_mixPlayer_53 rfl ?_
        refine r_callV1v F fMX8_mix tw_1186 rfl rfl rfl rfl dX8_mixPlayer_54 rfl rfl z0 (m8_mixh g _ _) ?_
        refine r_aload_n F dX8_mixPlayer_57 rfl ?_
        refine r_aload_n F dX8_mixPlayer_58 rfl ?_
        refine r_iload_n F dX8_mixPlayer_59 rfl ?_
        refine r_callV1q F fMX8_winInTold tw_1169 rfl rfl rfl rfl dX8_mixPlayer_60 rfl rfl z0 (m8_winInTold g hr w (by omega) hL) ?_
        refine r_i2l F dX8_mixPlayer_63 rfl ?_
        refine r_callV1v F fMX8_mix tw_1186 rfl rfl rfl rfl dX8_mixPlayer_64 rfl rfl z0 (m8_mixh g _ _) ?_
        exact v_vret F rfl dX8_mixPlayer_67 rfl rfl
      · refine r_aload_n F dX8_mixPlayer_8 rfl ?_
        refine r_aload_n F dX8_mixPlayer_9 rfl ?_
        refine r_iload_n F dX8_mixPlayer_10 rfl ?_
        refine r_iload_n F dX8_mixPlayer_11 rfl ?_
        refine r_callV2q F fMX8_playerTold tw_1097 rfl rfl rfl rfl dX8_mixPlayer_12 rfl rfl z0 (m8_playerTold g hr w hpl (i := j) (by omega) (hL _ (by omega))) ?_
        refine r_i2l F dX8_mixPlayer_15 rfl ?_
        refine r_callV1v F fMX8_mix tw_1186 rfl rfl rfl rfl dX8_mixPlayer_16 rfl rfl z0 (m8_mixh g _ _) ?_
        refine r_iinc2 (y := 1) F dX8_mixPlayer_19 rfl rfl rfl rfl ?_
        refine r_goto F dX8_mixPlayer_22 ?_
        exact ih (j + 1) (by omega) (by omega)
  refine r_iconst (x := 0) F dX8_mixPlayer_0 rfl ?_
  refine r_ist2 F dX8_mixPlayer_1 rfl rfl ?_
  exact l1 7 0 (by omega) (by omega)
