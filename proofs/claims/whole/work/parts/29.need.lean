theorem oor_lt {x : Int32} {n : Nat} (h : oor x n) (hn : n + 1 < 2147483648) (h1 : ¬ x < 0) (h2 : ¬ nI (n + 1) ≤ x) : False := by
  rcases h with h | h
  · exact h1 h
  · apply h2
    rw [Int32.lt_iff_toInt_lt] at h
    rw [Int32.le_iff_toInt_le]
    have e1 : (nI n).toInt = n := by unfold nI; exact Int32.toInt_ofNat_of_lt (by omega)
    have e2 : (nI (n + 1)).toInt = n + 1 := by unfold nI; rw [Int32.toInt_ofNat_of_lt (by omega)]; rfl
    rw [e1] at h
    rw [e2]
    omega
theorem oor_le {x : Int32} {n : Nat} (h : oor x n) (h1 : ¬ x < 0) (h2 : x ≤ nI n) : False := by
  rcases h with h | h
  · exact h1 h
  · exact absurd h (Int32.not_lt.mpr h2)
set_option maxHeartbeats 4000000 in
theorem m7_needPosition {G : GT} {v : VV} {L : LL} (g : GH G) {p : Nat} (hp : p ≤ 7) : CC G MX7_needPosition [.int (nI p)] v L (rV v L) := by
  refine cc_of g [some (.int (nI p))] rfl rfl rfl rfl (fun K F => ?_)
  refine r_iload_n F dX7_needPosition_0 rfl ?_
  refine r_iflt F dX7_needPosition_1 (by omega) ?_
  refine r_iload_n F dX7_needPosition_4 rfl ?_
  refine r_bipush (x := 8) F dX7_needPosition_5 rfl ?_
  refine r_iclt F dX7_needPosition_7 (by omega) (by omega) (fun h7 => ?_) (fun h7 => ?_)
  · exact v_vret F rfl dX7_needPosition_21 rfl rfl
  · omega
set_option maxHeartbeats 4000000 in
theorem x7_needPosition {G : GT} {v : VV} {L : LL} {Φ : VV → LL → Prop} (g : GH G) {x : Int32} (hx : oor x 7) (h : Φ v L) : CX G MX7_needPosition [.int x] v L eIX Φ := by
  refine cx_of g [some (.int x)] rfl rfl rfl rfl (fun K F he => ?_)
  refine r_iload_n F dX7_needPosition_0 rfl ?_
  refine R_iflt F dX7_needPosition_1 (fun h1 => ?_) (fun h1 => ?_)
  · exact r_throwW (i := 1) F he efIX efN ewIX egIX rfl dX7_needPosition_10 dX7_needPosition_13 dX7_needPosition_14 dX7_needPosition_17 dX7_needPosition_20 rfl h
  · refine r_iload_n F dX7_needPosition_4 rfl ?_
    refine r_bipush (x := 8) F dX7_needPosition_5 rfl ?_
    refine R_iclt F dX7_needPosition_7 (fun h7 => ?_) (fun h7 => ?_)
    · first | exact (oor_lt hx (by decide) h1 (by assumption)).elim | exact (oor_le hx h1 (by assumption)).elim | exact (oor_lt hx (by decide) h1 (Int32.not_le.mpr (by assumption))).elim | exact (oor_le hx h1 (Int32.not_lt.mp (by assumption))).elim
    · exact r_throwW (i := 1) F he efIX efN ewIX egIX rfl dX7_needPosition_10 dX7_needPosition_13 dX7_needPosition_14 dX7_needPosition_17 dX7_needPosition_20 rfl h
set_option maxHeartbeats 4000000 in
theorem m7_needPlayer {G : GT} {v : VV} {L : LL} (g : GH G) {p : Nat} (hp : p ≤ 1) : CC G MX7_needPlayer [.int (nI p)] v L (rV v L) := by
  refine cc_of g [some (.int (nI p))] rfl rfl rfl rfl (fun K F => ?_)
  refine r_iload_n F dX7_needPlayer_0 rfl ?_
  refine r_iflt F dX7_needPlayer_1 (by omega) ?_
  refine r_iload_n F dX7_needPlayer_4 rfl ?_
  refine r_iconst (x := 2) F dX7_needPlayer_5 rfl ?_
  refine r_iclt F dX7_needPlayer_6 (by omega) (by omega) (fun h6 => ?_) (fun h6 => ?_)
  · exact v_vret F rfl dX7_needPlayer_20 rfl rfl
  · omega
set_option maxHeartbeats 4000000 in
theorem x7_needPlayer {G : GT} {v : VV} {L : LL} {Φ : VV → LL → Prop} (g : GH G) {x : Int32} (hx : oor x 1) (h : Φ v L) : CX G MX7_needPlayer [.int x] v L eIX Φ := by
  refine cx_of g [some (.int x)] rfl rfl rfl rfl (fun K F he => ?_)
  refine r_iload_n F dX7_needPlayer_0 rfl ?_
  refine R_iflt F dX7_needPlayer_1 (fun h1 => ?_) (fun h1 => ?_)
  · exact r_throwW (i := 2) F he efIX efN ewIX egIX rfl dX7_needPlayer_9 dX7_needPlayer_12 dX7_needPlayer_13 dX7_needPlayer_16 dX7_needPlayer_19 rfl h
  · refine r_iload_n F dX7_needPlayer_4 rfl ?_
    refine r_iconst (x := 2) F dX7_needPlayer_5 rfl ?_
    refine R_iclt F dX7_needPlayer_6 (fun h6 => ?_) (fun h6 => ?_)
    · first | exact (oor_lt hx (by decide) h1 (by assumption)).elim | exact (oor_le hx h1 (by assumption)).elim | exact (oor_lt hx (by decide) h1 (Int32.not_le.mpr (by assumption))).elim | exact (oor_le hx h1 (Int32.not_lt.mp (by assumption))).elim
    · exact r_throwW (i := 2) F he efIX efN ewIX egIX rfl dX7_needPlayer_9 dX7_needPlayer_12 dX7_needPlayer_13 dX7_needPlayer_16 dX7_needPlayer_19 rfl h
set_option maxHeartbeats 4000000 in
theorem m7_needSetting {G : GT} {v : VV} {L : LL} (g : GH G) {p : Nat} (hp : p ≤ 1) : CC G MX7_needSetting [.int (nI p)] v L (rV v L) := by
  refine cc_of g [some (.int (nI p))] rfl rfl rfl rfl (fun K F => ?_)
  refine r_iload_n F dX7_needSetting_0 rfl ?_
  refine r_iflt F dX7_needSetting_1 (by omega) ?_
  refine r_iload_n F dX7_needSetting_4 rfl ?_
  refine r_iconst (x := 1) F dX7_needSetting_5 rfl ?_
  refine r_icle F dX7_needSetting_6 (by omega) (by omega) (fun h6 => ?_) (fun h6 => ?_)
  · exact v_vret F rfl dX7_needSetting_20 rfl rfl
  · omega
set_option maxHeartbeats 4000000 in
theorem x7_needSetting {G : GT} {v : VV} {L : LL} {Φ : VV → LL → Prop} (g : GH G) {x : Int32} (hx : oor x 1) (h : Φ v L) : CX G MX7_needSetting [.int x] v L eIX Φ := by
  refine cx_of g [some (.int x)] rfl rfl rfl rfl (fun K F he => ?_)
  refine r_iload_n F dX7_needSetting_0 rfl ?_
  refine R_iflt F dX7_needSetting_1 (fun h1 => ?_) (fun h1 => ?_)
  · exact r_throwW (i := 5) F he efIX efN ewIX egIX rfl dX7_needSetting_9 dX7_needSetting_12 dX7_needSetting_13 dX7_needSetting_16 dX7_needSetting_19 rfl h
  · refine r_iload_n F dX7_needSetting_4 rfl ?_
    refine r_iconst (x := 1) F dX7_needSetting_5 rfl ?_
    refine R_icle F dX7_needSetting_6 (fun h6 => ?_) (fun h6 => ?_)
    · first | exact (oor_lt hx (by decide) h1 (by assumption)).elim | exact (oor_le hx h1 (by assumption)).elim | exact (oor_lt hx (by decide) h1 (Int32.not_le.mpr (by assumption))).elim | exact (oor_le hx h1 (Int32.not_lt.mp (by assumption))).elim
    · exact r_throwW (i := 5) F he efIX efN ewIX egIX rfl dX7_needSetting_9 dX7_needSetting_12 dX7_needSetting_13 dX7_needSetting_16 dX7_needSetting_19 rfl h
set_option maxHeartbeats 4000000 in
theorem m7_needUpTo {G : GT} {v : VV} {L : LL} (g : GH G) {p n : Nat} (hp : p ≤ n) (hn : n < 2147483648) : CC G MX7_needUpTo [.int (nI p), .int (nI n)] v L (rV v L) := by
  refine cc_of g [some (.int (nI p)), some (.int (nI n))] rfl rfl rfl rfl (fun K F => ?_)
  refine r_iload_n F dX7_needUpTo_0 rfl ?_
  refine r_iflt F dX7_needUpTo_1 (by omega) ?_
  refine r_iload_n F dX7_needUpTo_4 rfl ?_
  refine r_iload_n F dX7_needUpTo_5 rfl ?_
  refine r_icle F dX7_needUpTo_6 (by omega) (by omega) (fun h6 => ?_) (fun h6 => ?_)
  · exact v_vret F rfl dX7_needUpTo_20 rfl rfl
  · omega
set_option maxHeartbeats 4000000 in
theorem x7_needUpTo {G : GT} {v : VV} {L : LL} {Φ : VV → LL → Prop} (g : GH G) {x : Int32} {n : Nat} (hx : oor x n) (h : Φ v L) : CX G MX7_needUpTo [.int x, .int (nI n)] v L eIA Φ := by
  refine cx_of g [some (.int x), some (.int (nI n))] rfl rfl rfl rfl (fun K F he => ?_)
  refine r_iload_n F dX7_needUpTo_0 rfl ?_
  refine R_iflt F dX7_needUpTo_1 (fun h1 => ?_) (fun h1 => ?_)
  · exact r_throwW (i := 0) F he efIA efN ewIA egIA rfl dX7_needUpTo_9 dX7_needUpTo_12 dX7_needUpTo_13 dX7_needUpTo_16 dX7_needUpTo_19 rfl h
  · refine r_iload_n F dX7_needUpTo_4 rfl ?_
    refine r_iload_n F dX7_needUpTo_5 rfl ?_
    refine R_icle F dX7_needUpTo_6 (fun h6 => ?_) (fun h6 => ?_)
    · first | exact (oor_le hx h1 (by assumption)).elim | exact (oor_le hx h1 (Int32.not_lt.mp (by assumption))).elim
    · exact r_throwW (i := 0) F he efIA efN ewIA egIA rfl dX7_needUpTo_9 dX7_needUpTo_12 dX7_needUpTo_13 dX7_needUpTo_16 dX7_needUpTo_19 rfl h
