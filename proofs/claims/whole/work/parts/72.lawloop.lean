theorem and31 (x : Int32) : ∃ n, n < 32 ∧ x &&& nI 31 = nI n := by
  refine ⟨(x.toBitVec &&& 31#32).toNat, ?_, ?_⟩
  · rw [BitVec.toNat_and]
    exact Nat.lt_of_le_of_lt Nat.and_le_right (by decide)
  · apply Int32.toBitVec_inj.1
    show x.toBitVec &&& BitVec.ofNat 32 31 = BitVec.ofNat 32 (x.toBitVec &&& 31#32).toNat
    rw [BitVec.ofNat_toNat, BitVec.setWidth_eq]
theorem more6 {Ls i : Nat} (hL : Ls ≤ 3072) (hi : i ≤ Ls) (h : ¬ nI Ls - nI 6 < nI i) : i + 6 ≤ Ls := by
  rcases Nat.lt_or_ge Ls 6 with z | z
  · exact absurd ((show ∀ Ls, Ls < 6 → ∀ i, i < 6 → nI Ls - nI 6 < nI i by decide +kernel) Ls z i (by omega)) h
  · rw [pk_sub z, nI_ltI (by omega) (by omega)] at h
    omega
set_option maxHeartbeats 16000000 in
theorem law_case {G : GT} {K : KT} {b Ls i cells slots : Nat} {xs : Nat → Int32} {Q : State → Prop} {v : VV} {L : LL} {a : AS} (g : GH G) (F : Fx G K ML_law 601024 7293034) (hX : SX G K b Ls xs) (z : cells + 1 ≤ 601024 ∧ slots + 6 ≤ 7293034) (hi : i + 6 ≤ Ls) (ic : IC v a) (im : IM v a) (w : WA a) (kk : KK G K b i (cells + 1) (slots + 6) Q) {n : Nat} (hn : n < 32) : CW G K 9 cells slots Q v L 40 (lwv G b i) [.int (nI n)] := by
  have hd : 27 ≤ n → CW G K 9 cells slots Q v L 1608 (lwv G b i) [] := fun _ => cw_widen (M := ML_law) (Nat.le_succ cells) (Nat.le_add_right slots 6) (kk v L a ic im w)
  have : n = 0 ∨ n = 1 ∨ n = 2 ∨ n = 3 ∨ n = 4 ∨ n = 5 ∨ n = 6 ∨ n = 7 ∨ n = 8 ∨ n = 9 ∨ n = 10 ∨ n = 11 ∨ n = 12 ∨ n = 13 ∨ n = 14 ∨ n = 15 ∨ n = 16 ∨ n = 17 ∨ n = 18 ∨ n = 19 ∨ n = 20 ∨ n = 21 ∨ n = 22 ∨ n = 23 ∨ n = 24 ∨ n = 25 ∨ n = 26 ∨ n = 27 ∨ n = 28 ∨ n = 29 ∨ n = 30 ∨ n = 31 := by omega
  rcases this with rfl | rfl | rfl | rfl | rfl | rfl | rfl | rfl | rfl | rfl | rfl | rfl | rfl | rfl | rfl | rfl | rfl | rfl | rfl | rfl | rfl | rfl | rfl | rfl | rfl | rfl | rfl | rfl | rfl | rfl | rfl | rfl
  · exact R_tab (M := ML_law) F dL_law_40 (by decide) (by decide) (off := 124) (tgt := 164) (by decide +kernel) rfl (lc_addMove g F hX z hi ic im w kk)
  · exact R_tab (M := ML_law) F dL_law_40 (by decide) (by decide) (off := 192) (tgt := 232) (by decide +kernel) rfl (lc_clearMoves g F hX z hi ic im w kk)
  · exact R_tab (M := ML_law) F dL_law_40 (by decide) (by decide) (off := 248) (tgt := 288) (by decide +kernel) rfl (lc_mark g F hX z hi ic im w kk)
  · exact R_tab (M := ML_law) F dL_law_40 (by decide) (by decide) (off := 316) (tgt := 356) (by decide +kernel) rfl (lc_reverse g F hX z hi ic im w kk)
  · exact R_tab (M := ML_law) F dL_law_40 (by decide) (by decide) (off := 329) (tgt := 369) (by decide +kernel) rfl (lc_set g F hX z hi ic im w kk)
  · exact R_tab (M := ML_law) F dL_law_40 (by decide) (by decide) (off := 397) (tgt := 437) (by decide +kernel) rfl (lc_place g F hX z hi ic im w kk)
  · exact R_tab (M := ML_law) F dL_law_40 (by decide) (by decide) (off := 477) (tgt := 517) (by decide +kernel) rfl (lc_bid g F hX z hi ic im w kk)
  · exact R_tab (M := ML_law) F dL_law_40 (by decide) (by decide) (off := 514) (tgt := 554) (by decide +kernel) rfl (lc_move g F hX z hi ic im w kk)
  · exact R_tab (M := ML_law) F dL_law_40 (by decide) (by decide) (off := 539) (tgt := 579) (by decide +kernel) rfl (lc_append g F hX z hi ic im w kk)
  · exact R_tab (M := ML_law) F dL_law_40 (by decide) (by decide) (off := 595) (tgt := 635) (by decide +kernel) rfl (lc_clearBuffer g F hX z hi ic im w kk)
  · exact R_tab (M := ML_law) F dL_law_40 (by decide) (by decide) (off := 608) (tgt := 648) (by decide +kernel) rfl (lc_firstError g F hX z hi ic im w kk)
  · exact R_tab (M := ML_law) F dL_law_40 (by decide) (by decide) (off := 621) (tgt := 661) (by decide +kernel) rfl (lc_load g F hX z hi ic im w kk)
  · exact R_tab (M := ML_law) F dL_law_40 (by decide) (by decide) (off := 665) (tgt := 705) (by decide +kernel) rfl (lc_keep g F hX z hi ic im w kk)
  · exact R_tab (M := ML_law) F dL_law_40 (by decide) (by decide) (off := 721) (tgt := 761) (by decide +kernel) rfl (lc_goBack g F hX z hi ic im w kk)
  · exact R_tab (M := ML_law) F dL_law_40 (by decide) (by decide) (off := 777) (tgt := 817) (by decide +kernel) rfl (lc_undo g F hX z hi ic im w kk)
  · exact R_tab (M := ML_law) F dL_law_40 (by decide) (by decide) (off := 821) (tgt := 861) (by decide +kernel) rfl (lc_positionOf g F hX z hi ic im w kk)
  · exact R_tab (M := ML_law) F dL_law_40 (by decide) (by decide) (off := 889) (tgt := 929) (by decide +kernel) rfl (lc_playerOf g F hX z hi ic im w kk)
  · exact R_tab (M := ML_law) F dL_law_40 (by decide) (by decide) (off := 957) (tgt := 997) (by decide +kernel) rfl (lc_count g F hX z hi ic im w kk)
  · exact R_tab (M := ML_law) F dL_law_40 (by decide) (by decide) (off := 1013) (tgt := 1053) (by decide +kernel) rfl (lc_setting g F hX z hi ic im w kk)
  · exact R_tab (M := ML_law) F dL_law_40 (by decide) (by decide) (off := 1069) (tgt := 1109) (by decide +kernel) rfl (lc_force g F hX z hi ic im w kk)
  · exact R_tab (M := ML_law) F dL_law_40 (by decide) (by decide) (off := 1173) (tgt := 1213) (by decide +kernel) rfl (lc_threshold g F hX z hi ic im w kk)
  · exact R_tab (M := ML_law) F dL_law_40 (by decide) (by decide) (off := 1265) (tgt := 1305) (by decide +kernel) rfl (lc_advice g F hX z hi ic im w kk)
  · exact R_tab (M := ML_law) F dL_law_40 (by decide) (by decide) (off := 1321) (tgt := 1361) (by decide +kernel) rfl (lc_refuted g F hX z hi ic im w kk)
  · exact R_tab (M := ML_law) F dL_law_40 (by decide) (by decide) (off := 1389) (tgt := 1429) (by decide +kernel) rfl (lc_bestMove g F hX z hi ic im w kk)
  · exact R_tab (M := ML_law) F dL_law_40 (by decide) (by decide) (off := 1457) (tgt := 1497) (by decide +kernel) rfl (lc_winIn g F hX z hi ic im w kk)
  · exact R_tab (M := ML_law) F dL_law_40 (by decide) (by decide) (off := 1513) (tgt := 1553) (by decide +kernel) rfl (lc_forcedShare g F hX z hi ic im w kk)
  · exact R_tab (M := ML_law) F dL_law_40 (by decide) (by decide) (off := 1554) (tgt := 1594) (by decide +kernel) rfl (lc_digest g F hX z hi ic im w kk)
  · exact R_tabO (M := ML_law) F dL_law_40 (tgt := 1608) (by decide) rfl (hd (by decide))
  · exact R_tabO (M := ML_law) F dL_law_40 (tgt := 1608) (by decide) rfl (hd (by decide))
  · exact R_tabO (M := ML_law) F dL_law_40 (tgt := 1608) (by decide) rfl (hd (by decide))
  · exact R_tabO (M := ML_law) F dL_law_40 (tgt := 1608) (by decide) rfl (hd (by decide))
  · exact R_tabO (M := ML_law) F dL_law_40 (tgt := 1608) (by decide) rfl (hd (by decide))
set_option maxHeartbeats 16000000 in
theorem law_loop {G : GT} {K : KT} {b Ls : Nat} {xs : Nat → Int32} {Q : State → Prop} (g : GH G) (F : Fx G K ML_law 601024 7293034) (hX : SX G K b Ls xs) (ke : ∀ (v : VV) (L : LL) (i : Nat), CW G K 9 601024 7293034 Q v L 1614 (lwv G b i) []) : ∀ (n i cells slots : Nat) (v : VV) (L : LL) (a : AS), Ls < i + 6 * n → i ≤ Ls → cells + n ≤ 601024 → slots + 6 * n ≤ 7293034 → IC v a → IM v a → WA a → CW G K 9 cells slots Q v L 23 (lwv G b i) [] := by
  intro n
  have hl3 : Ls ≤ 3072 := hX.2.2.2
  induction n with
  | zero => intro i cells slots v L a h1 h2; omega
  | succ n ih =>
    intro i cells slots v L a h1 h2 h3 h4 ic im w
    have hk : i + 6 ≤ Ls → KK G K b i (cells + 1) (slots + 6) Q := by
      intro hi v1 L1 a1 ic1 im1 w1
      refine r_iinc4 (y := 6) F dL_law_1608 rfl rfl rfl rfl ?_
      refine r_goto F dL_law_1611 ?_
      exact ih (i + 6) (cells + 1) (slots + 6) v1 L1 a1 (by omega) (by omega) (by omega) (by omega) ic1 im1 w1
    refine r_iload F dL_law_23 rfl ?_
    refine r_aload_n F dL_law_25 rfl ?_
    refine r_slen F hX dL_law_26 ?_
    refine r_bipush (x := 6) F dL_law_27 rfl ?_
    refine R_isub F dL_law_29 rfl ?_
    refine R_icgt F dL_law_30 (fun h30 => ?_) (fun h30 => ?_)
    · exact cw_widen (M := ML_law) (by omega) (by omega) (ke v L i)
    · have hi : i + 6 ≤ Ls := more6 hl3 h2 h30
      refine r_aload_n F dL_law_33 rfl ?_
      refine r_iload F dL_law_34 rfl ?_
      refine r_sld F hX dL_law_36 (by omega) ?_
      refine r_bipush (x := 31) F dL_law_37 rfl ?_
      refine R_iand F dL_law_39 rfl ?_
      obtain ⟨m, hm, e⟩ := and31 (xs i)
      rw [e]
      exact law_case g F hX ⟨by omega, by omega⟩ hi ic im w (hk hi) hm
