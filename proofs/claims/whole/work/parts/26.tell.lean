theorem thr_end {S : Nat → Nat} {t pl p st : Nat} (h : t = 0 ∨ ovr S p = true) : thr S t pl p st = if won S pl p then 0 else 99 := by
  cases t with
  | zero => rfl
  | succ t =>
    rcases h with h | h
    · omega
    · rw [thr_s, h]; rfl
theorem won_ovr {S : Nat → Nat} {pl p : Nat} (h : ovr S p = false) : won S pl p = false := by
  unfold ovr at h
  unfold won
  simp at *
  omega
theorem thr_go {S : Nat → Nat} {t pl p st : Nat} (h : ovr S p = false) : thr S (t + 1) pl p st = lbud (soT S t pl p) (eaT S t pl p) (S 0) pl st := by rw [thr_s, won_ovr h, h]; rfl
set_option maxHeartbeats 8000000 in
theorem m2_tellPosition2 {G : GT} {v : VV} {L : LL} (g : GH G) {S : Nat → Nat} (hr : RSt 1 v S) (w : WS S) {t pl p : Nat} (h1 : t < 13) (h2 : pl < 2) (h3 : p < 8) (hE : ∀ t', t = t' + 1 → ∀ q, q < 8 → ∀ σ, σ < 2 → v 78 (ix t' pl q + σ) = mk (thr S t' pl q σ) (S 0)) : CC G MX2_tellPosition [.ref (gB G 75), .ref (gB G 1), .int (nI t), .int (nI pl), .int (nI p)] v L (gV fun v' L' => L' = L ∧ (∀ k, k ≠ 76 → k ≠ 77 → k ≠ 78 → v' k = v k) ∧ (∀ st, st < 2 → v' 78 (ix t pl p + st) = mk (thr S t pl p st) (S 0)) ∧ ∀ j, j ≠ ix t pl p → j ≠ ix t pl p + 1 → v' 78 j = v 78 j) := by
  refine cc_of g [some (.ref (gB G 75)), some (.ref (gB G 1)), some (.int (nI t)), some (.int (nI pl)), some (.int (nI p)), none, none] rfl rfl rfl rfl (fun K F => ?_)
  have hc : S 0 ≤ 20 := w.1
  have hx : ix t pl p + 1 < 416 := ix_lt h1 h2 h3 (by decide)
  have c0 : v 1 1 = S 0 := hr.1
  have K25 : (t = 0 ∨ ovr S p = true) → CW G K 7 0 0 (MQ (kb K) (Qn G (gV fun v' L' => L' = L ∧ (∀ k, k ≠ 76 → k ≠ 77 → k ≠ 78 → v' k = v k) ∧ (∀ st, st < 2 → v' 78 (ix t pl p + st) = mk (thr S t pl p st) (S 0)) ∧ ∀ j, j ≠ ix t pl p → j ≠ ix t pl p + 1 → v' 78 j = v 78 j)) (ka K) (ks K) 0 0 (gA G)) v L 25 [some (.ref (gB G 75)), some (.ref (gB G 1)), some (.int (nI t)), some (.int (nI pl)), some (.int (nI p)), some (.int (nI (ix t pl p))), none] [] := by
    intro h9
    have e0 : ∀ st, thr S t pl p st = if won S pl p then 0 else 99 := fun st => thr_end h9
    refine r_aload_n F dX2_tellPosition_25 rfl ?_
    refine r_getN (x := .ref (gB G 2)) (T := TX5) (n := 0) F uw5 rfl rfl tw_130 (Or.inl rfl) dX2_tellPosition_26 (kd_lt (rfl : kd 1 = (4,0,0)) (by decide)) (ce4 rfl) rfl ?_
    refine r_iload_n F dX2_tellPosition_29 rfl ?_
    refine r_iload F dX2_tellPosition_30 rfl ?_
    refine r_callN2i F fMX0_isWonFor tw_441 rfl rfl rfl rfl dX2_tellPosition_32 rfl rfl z0 (m0_isWonFor g bd2 hr.b w.b h3 h2) ?_
    refine r_Beq F dX2_tellPosition_35 (fun h35 => ?_) (fun h35 => ?_)
    · refine r_aload_n F dX2_tellPosition_49 rfl ?_
      refine r_callU0i F fMX3_nothing tw_454 tw_456 (Or.inl tw_455) (by decide) tw_457 tw_458 rfl rfl rfl rfl rfl dX2_tellPosition_50 rfl rfl z0 (m3_nothing g hc) ?_
      refine r_ist6 F dX2_tellPosition_53 rfl rfl ?_
      refine r_aload_n F dX2_tellPosition_55 rfl ?_
      refine r_get (x := .ref (gB G 78)) (T := TX3) (n := 2) F uw3 rfl rfl tw_252 (Or.inl rfl) dX2_tellPosition_56 (kd_lt (rfl : kd 75 = (2,0,0)) (by decide)) (ce2 rfl) rfl ?_
      refine r_iload F dX2_tellPosition_59 rfl ?_
      refine r_iload F dX2_tellPosition_61 rfl ?_
      refine r_iast F dX2_tellPosition_63 rfl (by omega) ?_
      refine r_aload_n F dX2_tellPosition_64 rfl ?_
      refine r_get (x := .ref (gB G 78)) (T := TX3) (n := 2) F uw3 rfl rfl tw_252 (Or.inl rfl) dX2_tellPosition_65 (kd_lt (rfl : kd 75 = (2,0,0)) (by decide)) (ce2 rfl) rfl ?_
      refine r_iload F dX2_tellPosition_68 rfl ?_
      refine r_iconst (x := 1) F dX2_tellPosition_70 rfl ?_
      refine r_iadd F dX2_tellPosition_71 ?_
      refine r_iload F dX2_tellPosition_72 rfl ?_
      refine r_iast F dX2_tellPosition_74 rfl (by omega) ?_
      refine r_vret F rfl dX2_tellPosition_75 ⟨rfl, rfl, fun k k1 k2 k3 => ?_, fun st hst => ?_, fun j j1 j2 => ?_⟩
      · rw [up2_k _ k3, up2_k _ k3]
      · rw [e0, h35]
        have : st = 0 ∨ st = 1 := by omega
        rcases this with rfl | rfl
        · rw [up2_j _ (by omega), Nat.add_zero, up2_s]; rfl
        · rw [up2_s]; rfl
      · rw [up2_j _ j2, up2_j _ j1]
    · refine r_aload_n F dX2_tellPosition_38 rfl ?_
      refine r_aload_n F dX2_tellPosition_39 rfl ?_
      refine r_getN (T := TX5) (n := 1) F uw5 rfl rfl tw_133 (Or.inl rfl) dX2_tellPosition_40 (kd_lt (rfl : kd 1 = (4,0,0)) (by decide)) (ce4 rfl) rfl ?_
      rw [c0]
      refine r_callU1i F fMX3_everything tw_445 tw_447 (Or.inl tw_446) (by decide) tw_448 tw_449 rfl rfl rfl rfl rfl dX2_tellPosition_43 rfl rfl z0 (m3_everything g hc) ?_
      refine r_goto F dX2_tellPosition_46 ?_
      refine r_ist6 F dX2_tellPosition_53 rfl rfl ?_
      refine r_aload_n F dX2_tellPosition_55 rfl ?_
      refine r_get (x := .ref (gB G 78)) (T := TX3) (n := 2) F uw3 rfl rfl tw_252 (Or.inl rfl) dX2_tellPosition_56 (kd_lt (rfl : kd 75 = (2,0,0)) (by decide)) (ce2 rfl) rfl ?_
      refine r_iload F dX2_tellPosition_59 rfl ?_
      refine r_iload F dX2_tellPosition_61 rfl ?_
      refine r_iast F dX2_tellPosition_63 rfl (by omega) ?_
      refine r_aload_n F dX2_tellPosition_64 rfl ?_
      refine r_get (x := .ref (gB G 78)) (T := TX3) (n := 2) F uw3 rfl rfl tw_252 (Or.inl rfl) dX2_tellPosition_65 (kd_lt (rfl : kd 75 = (2,0,0)) (by decide)) (ce2 rfl) rfl ?_
      refine r_iload F dX2_tellPosition_68 rfl ?_
      refine r_iconst (x := 1) F dX2_tellPosition_70 rfl ?_
      refine r_iadd F dX2_tellPosition_71 ?_
      refine r_iload F dX2_tellPosition_72 rfl ?_
      refine r_iast F dX2_tellPosition_74 rfl (by omega) ?_
      refine r_vret F rfl dX2_tellPosition_75 ⟨rfl, rfl, fun k k1 k2 k3 => ?_, fun st hst => ?_, fun j j1 j2 => ?_⟩
      · rw [up2_k _ k3, up2_k _ k3]
      · rw [e0, h35]
        have : st = 0 ∨ st = 1 := by omega
        rcases this with rfl | rfl
        · rw [up2_j _ (by omega), Nat.add_zero, up2_s]; rfl
        · rw [up2_s]; rfl
      · rw [up2_j _ j2, up2_j _ j1]
  refine r_iload_n F dX2_tellPosition_0 rfl ?_
  refine r_iload_n F dX2_tellPosition_1 rfl ?_
  refine r_iload F dX2_tellPosition_2 rfl ?_
  refine r_callS3i F fMX2_indexOf tw_437 rfl dX2_tellPosition_4 rfl rfl z0 (m2_indexOf g) ?_
  refine r_ist5 F dX2_tellPosition_7 rfl rfl ?_
  refine r_iload_n F dX2_tellPosition_9 rfl ?_
  refine r_ifeq F dX2_tellPosition_10 (by omega) (fun h10 => ?_) (fun h10 => ?_)
  · first | exact K25 (Or.inl h10) | exact K25 (Or.inr h22)
  · refine r_aload_n F dX2_tellPosition_13 rfl ?_
    refine r_getN (x := .ref (gB G 2)) (T := TX5) (n := 0) F uw5 rfl rfl tw_130 (Or.inl rfl) dX2_tellPosition_14 (kd_lt (rfl : kd 1 = (4,0,0)) (by decide)) (ce4 rfl) rfl ?_
    refine r_iload F dX2_tellPosition_17 rfl ?_
    refine r_callN1i F fMX0_isEnd tw_440 rfl rfl rfl rfl dX2_tellPosition_19 rfl rfl z0 (m0_isEnd g bd2 hr.b w.b h3) ?_
    refine r_Beq F dX2_tellPosition_22 (fun h22 => ?_) (fun h22 => ?_)
    · obtain ⟨t', rfl⟩ : ∃ t', t = t' + 1 := ⟨t - 1, by omega⟩
      refine r_aload_n F dX2_tellPosition_76 rfl ?_
      refine r_aload_n F dX2_tellPosition_77 rfl ?_
      refine r_iload_n F dX2_tellPosition_78 rfl ?_
      refine r_iload_n F dX2_tellPosition_79 rfl ?_
      refine r_iload F dX2_tellPosition_80 rfl ?_
      refine r_callU4w F fMX2_lookBehind tw_463 tw_465 (Or.inl tw_687) (by decide) tw_466 tw_464 rfl rfl rfl rfl rfl dX2_tellPosition_82 rfl rfl z0 (m2_lookBehind2 g hr w (by omega) h2 h3 (hE t' rfl)) ?_
      rintro v1 L1 ⟨rfl, hk, hb⟩
      have c1 : v1 1 1 = S 0 := by rw [hk 1 (by decide) (by decide)]; exact c0
      refine r_aload_n F dX2_tellPosition_85 rfl ?_
      refine r_get (x := .ref (gB G 78)) (T := TX3) (n := 2) F uw3 rfl rfl tw_252 (Or.inl rfl) dX2_tellPosition_86 (kd_lt (rfl : kd 75 = (2,0,0)) (by decide)) (ce2 rfl) rfl ?_
      refine r_iload F dX2_tellPosition_89 rfl ?_
      refine r_aload_n F dX2_tellPosition_91 rfl ?_
      refine r_aload_n F dX2_tellPosition_92 rfl ?_
      refine r_getN (T := TX5) (n := 1) F uw5 rfl rfl tw_133 (Or.inl rfl) dX2_tellPosition_93 (kd_lt (rfl : kd 1 = (4,0,0)) (by decide)) (ce4 rfl) rfl ?_
      refine r_iload_n F dX2_tellPosition_96 rfl ?_
      rw [c1]
      refine r_iconst (x := 0) F dX2_tellPosition_97 rfl ?_
      refine r_callU3i F fMX3_tellTurn tw_499 tw_501 (Or.inl tw_500) (by decide) tw_502 tw_503 rfl rfl rfl rfl rfl dX2_tellPosition_98 rfl rfl z0 (m3_tellTurn g hb hc h2 (by decide)) ?_
      refine r_iast F dX2_tellPosition_101 rfl (by omega) ?_
      refine r_aload_n F dX2_tellPosition_102 rfl ?_
      refine r_get (x := .ref (gB G 78)) (T := TX3) (n := 2) F uw3 rfl rfl tw_252 (Or.inl rfl) dX2_tellPosition_103 (kd_lt (rfl : kd 75 = (2,0,0)) (by decide)) (ce2 rfl) rfl ?_
      refine r_iload F dX2_tellPosition_106 rfl ?_
      refine r_iconst (x := 1) F dX2_tellPosition_108 rfl ?_
      refine r_iadd F dX2_tellPosition_109 ?_
      refine r_aload_n F dX2_tellPosition_110 rfl ?_
      refine r_aload_n F dX2_tellPosition_111 rfl ?_
      refine r_getN (T := TX5) (n := 1) F uw5 rfl rfl tw_133 (Or.inl rfl) dX2_tellPosition_112 (kd_lt (rfl : kd 1 = (4,0,0)) (by decide)) (ce4 rfl) rfl ?_
      refine r_iload_n F dX2_tellPosition_115 rfl ?_
      have e1 : ∀ z, up2 v1 78 (ix (t' + 1) pl p) z 1 1 = S 0 := fun z => by rw [up2_k _ (by decide)]; exact c1
      rw [e1]
      refine r_iconst (x := 1) F dX2_tellPosition_116 rfl ?_
      refine r_callU3i F fMX3_tellTurn tw_499 tw_501 (Or.inl tw_500) (by decide) tw_502 tw_503 rfl rfl rfl rfl rfl dX2_tellPosition_117 rfl rfl z0 (m3_tellTurn g (so := soT S t' pl p) (ea := eaT S t' pl p) (fun σ hσ => by rw [up2_k _ (by decide), up2_k _ (by decide)]; exact hb σ hσ) hc h2 (by decide)) ?_
      refine r_iast F dX2_tellPosition_120 rfl (by omega) ?_
      refine r_vret F rfl dX2_tellPosition_121 ⟨rfl, rfl, fun k k1 k2 k3 => ?_, fun st hst => ?_, fun j j1 j2 => ?_⟩
      · rw [up2_k _ k3, up2_k _ k3, hk k k1 k2]
      · rw [thr_go h22]
        have : st = 0 ∨ st = 1 := by omega
        rcases this with rfl | rfl
        · rw [up2_j _ (by omega)]
          exact up2_s _ _ _ _
        · exact up2_s _ _ _ _
      · rw [up2_j _ j2, up2_j _ j1, hk 78 (by decide) (by decide)]
    · first | exact K25 (Or.inl h10) | exact K25 (Or.inr h22)
set_option maxHeartbeats 8000000 in
theorem m2_tell2 {G : GT} {v : VV} {L : LL} (g : GH G) {S : Nat → Nat} (hr : RSt 1 v S) (w : WS S) {n0 most : Nat} (h1 : most < 13) (h2 : n0 ≤ 13) (e0 : v 75 3 = n0) (hE : En2 v S n0) : CC G MX2_tell [.ref (gB G 75), .ref (gB G 1), .int (nI most)] v L (gV fun v' L' => L' = L ∧ (∀ k, k ≠ 75 → k ≠ 76 → k ≠ 77 → k ≠ 78 → v' k = v k) ∧ ∃ n1, n1 ≤ 13 ∧ most < n1 ∧ v' 75 3 = n1 ∧ En2 v' S n1) := by
  refine cc_of g [some (.ref (gB G 75)), some (.ref (gB G 1)), some (.int (nI most)), none, none, none] rfl rfl rfl rfl (fun K F => ?_)
  have loop : ∀ (n t : Nat) (v' : VV), most + 1 < t + n → n0 ≤ t → (t ≤ n0 ∨ t ≤ most + 1) → (∀ k, k ≠ 76 → k ≠ 77 → k ≠ 78 → v' k = v k) → En2 v' S t → CW G K 6 0 0 (MQ (kb K) (Qn G (gV fun v' L' => L' = L ∧ (∀ k, k ≠ 75 → k ≠ 76 → k ≠ 77 → k ≠ 78 → v' k = v k) ∧ ∃ n1, n1 ≤ 13 ∧ most < n1 ∧ v' 75 3 = n1 ∧ En2 v' S n1)) (ka K) (ks K) 0 0 (gA G)) v' L 5 [some (.ref (gB G 75)), some (.ref (gB G 1)), some (.int (nI most)), some (.int (nI t)), none, none] [] := by
    have fin : ∀ (t : Nat) (v' : VV), most < t → n0 ≤ t → (t ≤ n0 ∨ t ≤ most + 1) → (∀ k, k ≠ 76 → k ≠ 77 → k ≠ 78 → v' k = v k) → En2 v' S t → CW G K 6 0 0 (MQ (kb K) (Qn G (gV fun v' L' => L' = L ∧ (∀ k, k ≠ 75 → k ≠ 76 → k ≠ 77 → k ≠ 78 → v' k = v k) ∧ ∃ n1, n1 ≤ 13 ∧ most < n1 ∧ v' 75 3 = n1 ∧ En2 v' S n1)) (ka K) (ks K) 0 0 (gA G)) v' L 57 [some (.ref (gB G 75)), some (.ref (gB G 1)), some (.int (nI most)), some (.int (nI t)), none, none] [] := by
      intro t v' a1 a2 a3 a4 a5
      have f0 : v' 75 3 = n0 := by rw [a4 75 (by decide) (by decide) (by decide)]; exact e0
      refine r_aload_n F dX2_tell_57 rfl ?_
      refine r_aload_n F dX2_tell_58 rfl ?_
      refine r_get (T := TX3) (n := 3) F uw3 rfl rfl tw_253 (Or.inl rfl) dX2_tell_59 (kd_lt (rfl : kd 75 = (2,0,0)) (by decide)) (ce2 rfl) rfl ?_
      refine r_iload_n F dX2_tell_62 rfl ?_
      refine r_iconst (x := 1) F dX2_tell_63 rfl ?_
      refine r_iadd F dX2_tell_64 ?_
      rw [f0]
      refine r_max F tw_523 rfl z0 (by omega) (by omega) dX2_tell_65 ?_
      refine r_put (T := TX3) (n := 3) (ty0 := tyX3) (ty := .int) F uw3 tyX3_ok nmX3 rfl rfl tw_253 (Or.inl rfl) rfl rfl rfl rfl dX2_tell_68 (kd_lt (rfl : kd 75 = (2,0,0)) (by decide)) (ce2 rfl) rfl (pe2_3 rfl) up2_ce ?_
      refine r_vret F rfl dX2_tell_71 ⟨rfl, rfl, fun k k0 k1 k2 k3 => by rw [up2_k _ k0, a4 k k1 k2 k3], t, by omega, a1, ?_, fun t1 q1 pl q2 p q3 st q4 => ?_⟩
      · rw [up2_s]; split <;> omega
      · rw [up2_k _ (by decide)]; exact a5 t1 q1 pl q2 p q3 st q4
    intro n
    induction n with
    | zero =>
      intro t v' a1 a2 a3 a4 a5
      refine r_iload_n F dX2_tell_5 rfl ?_
      refine r_iload_n F dX2_tell_6 rfl ?_
      refine r_icgt F dX2_tell_7 (by omega) (by omega) (fun h7 => ?_) (fun h7 => ?_)
      · exact fin t v' (by omega) a2 a3 a4 a5
      · omega
    | succ n ih =>
      intro t v' a1 a2 a3 a4 a5
      have mid : t ≤ most → ∀ (m q : Nat) (v' : VV), 2 < q + m → q ≤ 2 → (∀ k, k ≠ 76 → k ≠ 77 → k ≠ 78 → v' k = v k) → En2 v' S t → (∀ pl, pl < q → ∀ p, p < 8 → ∀ st, st < 2 → v' 78 (ix t pl p + st) = mk (thr S t pl p st) (S 0)) → CW G K 6 0 0 (MQ (kb K) (Qn G (gV fun v' L' => L' = L ∧ (∀ k, k ≠ 75 → k ≠ 76 → k ≠ 77 → k ≠ 78 → v' k = v k) ∧ ∃ n1, n1 ≤ 13 ∧ most < n1 ∧ v' 75 3 = n1 ∧ En2 v' S n1)) (ka K) (ks K) 0 0 (gA G)) v' L 13 [some (.ref (gB G 75)), some (.ref (gB G 1)), some (.int (nI most)), some (.int (nI t)), some (.int (nI q)), none] [] := by
        intro ht m
        induction m with
        | zero => intro q v' b1 b2; omega
        | succ m ihm =>
          intro q v' b1 b2 b3 b4 b5
          have inner : q < 2 → ∀ (i p : Nat) (v' : VV), 8 < p + i → p ≤ 8 → (∀ k, k ≠ 76 → k ≠ 77 → k ≠ 78 → v' k = v k) → En2 v' S t → (∀ pl, pl < q → ∀ p, p < 8 → ∀ st, st < 2 → v' 78 (ix t pl p + st) = mk (thr S t pl p st) (S 0)) → (∀ r, r < p → ∀ st, st < 2 → v' 78 (ix t q r + st) = mk (thr S t q r st) (S 0)) → CW G K 6 0 0 (MQ (kb K) (Qn G (gV fun v' L' => L' = L ∧ (∀ k, k ≠ 75 → k ≠ 76 → k ≠ 77 → k ≠ 78 → v' k = v k) ∧ ∃ n1, n1 ≤ 13 ∧ most < n1 ∧ v' 75 3 = n1 ∧ En2 v' S n1)) (ka K) (ks K) 0 0 (gA G)) v' L 22 [some (.ref (gB G 75)), some (.ref (gB G 1)), some (.int (nI most)), some (.int (nI t)), some (.int (nI q)), some (.int (nI p))] [] := by
            intro hq i
            induction i with
            | zero => intro p v' d1 d2; omega
            | succ i ihi =>
              intro p v' d1 d2 d3 d4 d5 d6
              have hr' : RSt 1 v' S := hr.kept (fun k _ _ => d3 k (by omega) (by omega) (by omega))
              refine r_iload F dX2_tell_22 rfl ?_
              refine r_bipush (x := 8) F dX2_tell_24 rfl ?_
              refine r_icge F dX2_tell_26 (by omega) (by omega) (fun h26 => ?_) (fun h26 => ?_)
              · refine r_iinc4 (y := 1) F dX2_tell_45 rfl rfl rfl rfl ?_
                refine r_goto F dX2_tell_48 ?_
                refine r_dr5 ?_
                refine ihm (q + 1) v' (by omega) (by omega) d3 d4 (fun pl z2 r z3 st z4 => ?_)
                rcases Nat.lt_or_ge pl q with z | z
                · exact d5 pl z r z3 st z4
                · rw [show pl = q by omega]
                  exact d6 r (by omega) st z4
              · refine r_aload_n F dX2_tell_29 rfl ?_
                refine r_aload_n F dX2_tell_30 rfl ?_
                refine r_iload_n F dX2_tell_31 rfl ?_
                refine r_iload F dX2_tell_32 rfl ?_
                refine r_iload F dX2_tell_34 rfl ?_
                refine r_callU4w F fMX2_tellPosition tw_433 tw_1207 (Or.inr rfl) (by decide) tw_1209 tw_435 rfl rfl rfl rfl rfl dX2_tell_36 rfl rfl z0 (m2_tellPosition2 g hr' w (by omega) hq h26 (fun t' et r hr st hst => d4 t' (by omega) q hq r hr st hst)) ?_
                rintro v1 L1 ⟨rfl, o1, o2, o3⟩
                refine r_iinc5 (y := 1) F dX2_tell_39 rfl rfl rfl rfl ?_
                refine r_goto F dX2_tell_42 ?_
                refine ihi (p + 1) v1 (by omega) (by omega) (fun k k1 k2 k3 => by rw [o1 k k1 k2 k3, d3 k k1 k2 k3]) (fun t1 z1 pl z2 r z3 st z4 => ?_) (fun pl z2 r z3 st z4 => ?_) (fun r z3 st z4 => ?_)
                · rw [o3 _ (fun z => by have := ix_inj (t := t1) (pl := pl) (p := r) (st := st) (t' := t) (pl' := q) (p' := p) (st' := 0) z2 z3 z4 hq h26 (by decide) z; omega) (fun z => by have := ix_inj (t := t1) (pl := pl) (p := r) (st := st) (t' := t) (pl' := q) (p' := p) (st' := 1) z2 z3 z4 hq h26 (by decide) z; omega)]
                  exact d4 t1 z1 pl z2 r z3 st z4
                · rw [o3 _ (fun z => by have := ix_inj (t := t) (pl := pl) (p := r) (st := st) (t' := t) (pl' := q) (p' := p) (st' := 0) (by omega) z3 z4 hq h26 (by decide) z; omega) (fun z => by have := ix_inj (t := t) (pl := pl) (p := r) (st := st) (t' := t) (pl' := q) (p' := p) (st' := 1) (by omega) z3 z4 hq h26 (by decide) z; omega)]
                  exact d5 pl z2 r z3 st z4
                · rcases Nat.lt_or_ge r p with z | z
                  · rw [o3 _ (fun z => by have := ix_inj (t := t) (pl := q) (p := r) (st := st) (t' := t) (pl' := q) (p' := p) (st' := 0) hq (by omega) z4 hq h26 (by decide) z; omega) (fun z => by have := ix_inj (t := t) (pl := q) (p := r) (st := st) (t' := t) (pl' := q) (p' := p) (st' := 1) hq (by omega) z4 hq h26 (by decide) z; omega)]
                    exact d6 r z st z4
                  · rw [show r = p by omega]
                    exact o2 st z4
          refine r_iload F dX2_tell_13 rfl ?_
          refine r_iconst (x := 2) F dX2_tell_15 rfl ?_
          refine r_icge F dX2_tell_16 (by omega) (by omega) (fun h16 => ?_) (fun h16 => ?_)
          · refine r_iinc3 (y := 1) F dX2_tell_51 rfl rfl rfl rfl ?_
            refine r_goto F dX2_tell_54 ?_
            refine r_dr4 ?_
            refine ih (t + 1) v' (by omega) (by omega) (by omega) b3 (fun t1 z1 pl z2 r z3 st z4 => ?_)
            rcases Nat.lt_or_ge t1 t with z | z
            · exact b4 t1 z pl z2 r z3 st z4
            · rw [show t1 = t by omega]
              exact b5 pl (by omega) r z3 st z4
          · refine r_iconst (x := 0) F dX2_tell_19 rfl ?_
            refine r_ist5 F dX2_tell_20 rfl rfl ?_
            exact inner (by omega) 9 0 v' (by omega) (by omega) b3 b4 b5 (fun r hr => absurd hr (Nat.not_lt_zero r))
      refine r_iload_n F dX2_tell_5 rfl ?_
      refine r_iload_n F dX2_tell_6 rfl ?_
      refine r_icgt F dX2_tell_7 (by omega) (by omega) (fun h7 => ?_) (fun h7 => ?_)
      · exact fin t v' (by omega) a2 a3 a4 a5
      · refine r_iconst (x := 0) F dX2_tell_10 rfl ?_
        refine r_ist4 F dX2_tell_11 rfl rfl ?_
        exact mid (by omega) 3 0 v' (by omega) (by omega) a4 a5 (fun pl hpl => absurd hpl (Nat.not_lt_zero pl))
  refine r_aload_n F dX2_tell_0 rfl ?_
  refine r_get (T := TX3) (n := 3) F uw3 rfl rfl tw_253 (Or.inl rfl) dX2_tell_1 (kd_lt (rfl : kd 75 = (2,0,0)) (by decide)) (ce2 rfl) rfl ?_
  rw [e0]
  refine r_ist3 F dX2_tell_4 rfl rfl ?_
  exact loop (most + 2) n0 v (by omega) (by omega) (by omega) (fun _ _ _ _ => rfl) hE
set_option maxHeartbeats 8000000 in
theorem m2_tellPosition5 {G : GT} {v : VV} {L : LL} (g : GH G) {S : Nat → Nat} (hr : RSt 1 v S) (w : WS S) {t pl p : Nat} (h1 : t < 13) (h2 : pl < 2) (h3 : p < 8) (hE : ∀ t', t = t' + 1 → ∀ q, q < 8 → ∀ σ, σ < 2 → v 82 (ix t' pl q + σ) = tq (thr S t' pl q σ) ) : CC G MX2_tellPosition [.ref (gB G 79), .ref (gB G 1), .int (nI t), .int (nI pl), .int (nI p)] v L (gV fun v' L' => L' = L ∧ (∀ k, k ≠ 80 → k ≠ 81 → k ≠ 82 → v' k = v k) ∧ (∀ st, st < 2 → v' 82 (ix t pl p + st) = tq (thr S t pl p st) ) ∧ ∀ j, j ≠ ix t pl p → j ≠ ix t pl p + 1 → v' 82 j = v 82 j) := by
  refine cc_of g [some (.ref (gB G 79)), some (.ref (gB G 1)), some (.int (nI t)), some (.int (nI pl)), some (.int (nI p)), none, none] rfl rfl rfl rfl (fun K F => ?_)
  have hc : S 0 ≤ 20 := w.1
  have hx : ix t pl p + 1 < 416 := ix_lt h1 h2 h3 (by decide)
  have c0 : v 1 1 = S 0 := hr.1
  have K25 : (t = 0 ∨ ovr S p = true) → CW G K 7 0 0 (MQ (kb K) (Qn G (gV fun v' L' => L' = L ∧ (∀ k, k ≠ 80 → k ≠ 81 → k ≠ 82 → v' k = v k) ∧ (∀ st, st < 2 → v' 82 (ix t pl p + st) = tq (thr S t pl p st) ) ∧ ∀ j, j ≠ ix t pl p → j ≠ ix t pl p + 1 → v' 82 j = v 82 j)) (ka K) (ks K) 0 0 (gA G)) v L 25 [some (.ref (gB G 79)), some (.ref (gB G 1)), some (.int (nI t)), some (.int (nI pl)), some (.int (nI p)), some (.int (nI (ix t pl p))), none] [] := by
    intro h9
    have e0 : ∀ st, thr S t pl p st = if won S pl p then 0 else 99 := fun st => thr_end h9
    refine r_aload_n F dX2_tellPosition_25 rfl ?_
    refine r_getN (x := .ref (gB G 2)) (T := TX5) (n := 0) F uw5 rfl rfl tw_130 (Or.inl rfl) dX2_tellPosition_26 (kd_lt (rfl : kd 1 = (4,0,0)) (by decide)) (ce4 rfl) rfl ?_
    refine r_iload_n F dX2_tellPosition_29 rfl ?_
    refine r_iload F dX2_tellPosition_30 rfl ?_
    refine r_callN2i F fMX0_isWonFor tw_441 rfl rfl rfl rfl dX2_tellPosition_32 rfl rfl z0 (m0_isWonFor g bd2 hr.b w.b h3 h2) ?_
    refine r_Beq F dX2_tellPosition_35 (fun h35 => ?_) (fun h35 => ?_)
    · refine r_aload_n F dX2_tellPosition_49 rfl ?_
      refine r_callU0i F fMX6_nothing tw_454 tw_456 (Or.inl tw_455) (by decide) tw_460 tw_461 rfl rfl rfl rfl rfl dX2_tellPosition_50 rfl rfl z0 (m6_nothing g) ?_
      refine r_ist6 F dX2_tellPosition_53 rfl rfl ?_
      refine r_aload_n F dX2_tellPosition_55 rfl ?_
      refine r_get (x := .ref (gB G 82)) (T := TX6) (n := 2) F uw6 rfl rfl tw_252 (Or.inl rfl) dX2_tellPosition_56 (kd_lt (rfl : kd 79 = (5,0,0)) (by decide)) (ce5 rfl) rfl ?_
      refine r_iload F dX2_tellPosition_59 rfl ?_
      refine r_iload F dX2_tellPosition_61 rfl ?_
      refine r_iast F dX2_tellPosition_63 rfl (by omega) ?_
      refine r_aload_n F dX2_tellPosition_64 rfl ?_
      refine r_get (x := .ref (gB G 82)) (T := TX6) (n := 2) F uw6 rfl rfl tw_252 (Or.inl rfl) dX2_tellPosition_65 (kd_lt (rfl : kd 79 = (5,0,0)) (by decide)) (ce5 rfl) rfl ?_
      refine r_iload F dX2_tellPosition_68 rfl ?_
      refine r_iconst (x := 1) F dX2_tellPosition_70 rfl ?_
      refine r_iadd F dX2_tellPosition_71 ?_
      refine r_iload F dX2_tellPosition_72 rfl ?_
      refine r_iast F dX2_tellPosition_74 rfl (by omega) ?_
      refine r_vret F rfl dX2_tellPosition_75 ⟨rfl, rfl, fun k k1 k2 k3 => ?_, fun st hst => ?_, fun j j1 j2 => ?_⟩
      · rw [up2_k _ k3, up2_k _ k3]
      · rw [e0, h35]
        have : st = 0 ∨ st = 1 := by omega
        rcases this with rfl | rfl
        · rw [up2_j _ (by omega), Nat.add_zero, up2_s]; rfl
        · rw [up2_s]; rfl
      · rw [up2_j _ j2, up2_j _ j1]
    · refine r_aload_n F dX2_tellPosition_38 rfl ?_
      refine r_aload_n F dX2_tellPosition_39 rfl ?_
      refine r_getN (T := TX5) (n := 1) F uw5 rfl rfl tw_133 (Or.inl rfl) dX2_tellPosition_40 (kd_lt (rfl : kd 1 = (4,0,0)) (by decide)) (ce4 rfl) rfl ?_
      rw [c0]
      refine r_callU1i F fMX6_everything tw_445 tw_447 (Or.inl tw_446) (by decide) tw_451 tw_452 rfl rfl rfl rfl rfl dX2_tellPosition_43 rfl rfl z0 (m6_everything g) ?_
      refine r_goto F dX2_tellPosition_46 ?_
      refine r_ist6 F dX2_tellPosition_53 rfl rfl ?_
      refine r_aload_n F dX2_tellPosition_55 rfl ?_
      refine r_get (x := .ref (gB G 82)) (T := TX6) (n := 2) F uw6 rfl rfl tw_252 (Or.inl rfl) dX2_tellPosition_56 (kd_lt (rfl : kd 79 = (5,0,0)) (by decide)) (ce5 rfl) rfl ?_
      refine r_iload F dX2_tellPosition_59 rfl ?_
      refine r_iload F dX2_tellPosition_61 rfl ?_
      refine r_iast F dX2_tellPosition_63 rfl (by omega) ?_
      refine r_aload_n F dX2_tellPosition_64 rfl ?_
      refine r_get (x := .ref (gB G 82)) (T := TX6) (n := 2) F uw6 rfl rfl tw_252 (Or.inl rfl) dX2_tellPosition_65 (kd_lt (rfl : kd 79 = (5,0,0)) (by decide)) (ce5 rfl) rfl ?_
      refine r_iload F dX2_tellPosition_68 rfl ?_
      refine r_iconst (x := 1) F dX2_tellPosition_70 rfl ?_
      refine r_iadd F dX2_tellPosition_71 ?_
      refine r_iload F dX2_tellPosition_72 rfl ?_
      refine r_iast F dX2_tellPosition_74 rfl (by omega) ?_
      refine r_vret F rfl dX2_tellPosition_75 ⟨rfl, rfl, fun k k1 k2 k3 => ?_, fun st hst => ?_, fun j j1 j2 => ?_⟩
      · rw [up2_k _ k3, up2_k _ k3]
      · rw [e0, h35]
        have : st = 0 ∨ st = 1 := by omega
        rcases this with rfl | rfl
        · rw [up2_j _ (by omega), Nat.add_zero, up2_s]; rfl
        · rw [up2_s]; rfl
      · rw [up2_j _ j2, up2_j _ j1]
  refine r_iload_n F dX2_tellPosition_0 rfl ?_
  refine r_iload_n F dX2_tellPosition_1 rfl ?_
  refine r_iload F dX2_tellPosition_2 rfl ?_
  refine r_callS3i F fMX2_indexOf tw_437 rfl dX2_tellPosition_4 rfl rfl z0 (m2_indexOf g) ?_
  refine r_ist5 F dX2_tellPosition_7 rfl rfl ?_
  refine r_iload_n F dX2_tellPosition_9 rfl ?_
  refine r_ifeq F dX2_tellPosition_10 (by omega) (fun h10 => ?_) (fun h10 => ?_)
  · first | exact K25 (Or.inl h10) | exact K25 (Or.inr h22)
  · refine r_aload_n F dX2_tellPosition_13 rfl ?_
    refine r_getN (x := .ref (gB G 2)) (T := TX5) (n := 0) F uw5 rfl rfl tw_130 (Or.inl rfl) dX2_tellPosition_14 (kd_lt (rfl : kd 1 = (4,0,0)) (by decide)) (ce4 rfl) rfl ?_
    refine r_iload F dX2_tellPosition_17 rfl ?_
    refine r_callN1i F fMX0_isEnd tw_440 rfl rfl rfl rfl dX2_tellPosition_19 rfl rfl z0 (m0_isEnd g bd2 hr.b w.b h3) ?_
    refine r_Beq F dX2_tellPosition_22 (fun h22 => ?_) (fun h22 => ?_)
    · obtain ⟨t', rfl⟩ : ∃ t', t = t' + 1 := ⟨t - 1, by omega⟩
      refine r_aload_n F dX2_tellPosition_76 rfl ?_
      refine r_aload_n F dX2_tellPosition_77 rfl ?_
      refine r_iload_n F dX2_tellPosition_78 rfl ?_
      refine r_iload_n F dX2_tellPosition_79 rfl ?_
      refine r_iload F dX2_tellPosition_80 rfl ?_
      refine r_callU4w F fMX2_lookBehind tw_463 tw_465 (Or.inl tw_687) (by decide) tw_467 tw_464 rfl rfl rfl rfl rfl dX2_tellPosition_82 rfl rfl z0 (m2_lookBehind5 g hr w (by omega) h2 h3 (hE t' rfl)) ?_
      rintro v1 L1 ⟨rfl, hk, hb⟩
      have c1 : v1 1 1 = S 0 := by rw [hk 1 (by decide) (by decide)]; exact c0
      refine r_aload_n F dX2_tellPosition_85 rfl ?_
      refine r_get (x := .ref (gB G 82)) (T := TX6) (n := 2) F uw6 rfl rfl tw_252 (Or.inl rfl) dX2_tellPosition_86 (kd_lt (rfl : kd 79 = (5,0,0)) (by decide)) (ce5 rfl) rfl ?_
      refine r_iload F dX2_tellPosition_89 rfl ?_
      refine r_aload_n F dX2_tellPosition_91 rfl ?_
      refine r_aload_n F dX2_tellPosition_92 rfl ?_
      refine r_getN (T := TX5) (n := 1) F uw5 rfl rfl tw_133 (Or.inl rfl) dX2_tellPosition_93 (kd_lt (rfl : kd 1 = (4,0,0)) (by decide)) (ce4 rfl) rfl ?_
      refine r_iload_n F dX2_tellPosition_96 rfl ?_
      rw [c1]
      refine r_iconst (x := 0) F dX2_tellPosition_97 rfl ?_
      refine r_callU3i F fMX6_tellTurn tw_499 tw_501 (Or.inl tw_500) (by decide) tw_516 tw_517 rfl rfl rfl rfl rfl dX2_tellPosition_98 rfl rfl z0 (m6_tellTurn g hb hc h2 (by decide)) ?_
      refine r_iast F dX2_tellPosition_101 rfl (by omega) ?_
      refine r_aload_n F dX2_tellPosition_102 rfl ?_
      refine r_get (x := .ref (gB G 82)) (T := TX6) (n := 2) F uw6 rfl rfl tw_252 (Or.inl rfl) dX2_tellPosition_103 (kd_lt (rfl : kd 79 = (5,0,0)) (by decide)) (ce5 rfl) rfl ?_
      refine r_iload F dX2_tellPosition_106 rfl ?_
      refine r_iconst (x := 1) F dX2_tellPosition_108 rfl ?_
      refine r_iadd F dX2_tellPosition_109 ?_
      refine r_aload_n F dX2_tellPosition_110 rfl ?_
      refine r_aload_n F dX2_tellPosition_111 rfl ?_
      refine r_getN (T := TX5) (n := 1) F uw5 rfl rfl tw_133 (Or.inl rfl) dX2_tellPosition_112 (kd_lt (rfl : kd 1 = (4,0,0)) (by decide)) (ce4 rfl) rfl ?_
      refine r_iload_n F dX2_tellPosition_115 rfl ?_
      have e1 : ∀ z, up2 v1 82 (ix (t' + 1) pl p) z 1 1 = S 0 := fun z => by rw [up2_k _ (by decide)]; exact c1
      rw [e1]
      refine r_iconst (x := 1) F dX2_tellPosition_116 rfl ?_
      refine r_callU3i F fMX6_tellTurn tw_499 tw_501 (Or.inl tw_500) (by decide) tw_516 tw_517 rfl rfl rfl rfl rfl dX2_tellPosition_117 rfl rfl z0 (m6_tellTurn g (so := soT S t' pl p) (ea := eaT S t' pl p) (fun σ hσ => by rw [up2_k _ (by decide), up2_k _ (by decide)]; exact hb σ hσ) hc h2 (by decide)) ?_
      refine r_iast F dX2_tellPosition_120 rfl (by omega) ?_
      refine r_vret F rfl dX2_tellPosition_121 ⟨rfl, rfl, fun k k1 k2 k3 => ?_, fun st hst => ?_, fun j j1 j2 => ?_⟩
      · rw [up2_k _ k3, up2_k _ k3, hk k k1 k2]
      · rw [thr_go h22]
        have : st = 0 ∨ st = 1 := by omega
        rcases this with rfl | rfl
        · rw [up2_j _ (by omega)]
          exact up2_s _ _ _ _
        · exact up2_s _ _ _ _
      · rw [up2_j _ j2, up2_j _ j1, hk 82 (by decide) (by decide)]
    · first | exact K25 (Or.inl h10) | exact K25 (Or.inr h22)
set_option maxHeartbeats 8000000 in
theorem m2_tell5 {G : GT} {v : VV} {L : LL} (g : GH G) {S : Nat → Nat} (hr : RSt 1 v S) (w : WS S) {n0 most : Nat} (h1 : most < 13) (h2 : n0 ≤ 13) (e0 : v 79 3 = n0) (hE : En5 v S n0) : CC G MX2_tell [.ref (gB G 79), .ref (gB G 1), .int (nI most)] v L (gV fun v' L' => L' = L ∧ (∀ k, k ≠ 79 → k ≠ 80 → k ≠ 81 → k ≠ 82 → v' k = v k) ∧ ∃ n1, n1 ≤ 13 ∧ most < n1 ∧ v' 79 3 = n1 ∧ En5 v' S n1) := by
  refine cc_of g [some (.ref (gB G 79)), some (.ref (gB G 1)), some (.int (nI most)), none, none, none] rfl rfl rfl rfl (fun K F => ?_)
  have loop : ∀ (n t : Nat) (v' : VV), most + 1 < t + n → n0 ≤ t → (t ≤ n0 ∨ t ≤ most + 1) → (∀ k, k ≠ 80 → k ≠ 81 → k ≠ 82 → v' k = v k) → En5 v' S t → CW G K 6 0 0 (MQ (kb K) (Qn G (gV fun v' L' => L' = L ∧ (∀ k, k ≠ 79 → k ≠ 80 → k ≠ 81 → k ≠ 82 → v' k = v k) ∧ ∃ n1, n1 ≤ 13 ∧ most < n1 ∧ v' 79 3 = n1 ∧ En5 v' S n1)) (ka K) (ks K) 0 0 (gA G)) v' L 5 [some (.ref (gB G 79)), some (.ref (gB G 1)), some (.int (nI most)), some (.int (nI t)), none, none] [] := by
    have fin : ∀ (t : Nat) (v' : VV), most < t → n0 ≤ t → (t ≤ n0 ∨ t ≤ most + 1) → (∀ k, k ≠ 80 → k ≠ 81 → k ≠ 82 → v' k = v k) → En5 v' S t → CW G K 6 0 0 (MQ (kb K) (Qn G (gV fun v' L' => L' = L ∧ (∀ k, k ≠ 79 → k ≠ 80 → k ≠ 81 → k ≠ 82 → v' k = v k) ∧ ∃ n1, n1 ≤ 13 ∧ most < n1 ∧ v' 79 3 = n1 ∧ En5 v' S n1)) (ka K) (ks K) 0 0 (gA G)) v' L 57 [some (.ref (gB G 79)), some (.ref (gB G 1)), some (.int (nI most)), some (.int (nI t)), none, none] [] := by
      intro t v' a1 a2 a3 a4 a5
      have f0 : v' 79 3 = n0 := by rw [a4 79 (by decide) (by decide) (by decide)]; exact e0
      refine r_aload_n F dX2_tell_57 rfl ?_
      refine r_aload_n F dX2_tell_58 rfl ?_
      refine r_get (T := TX6) (n := 3) F uw6 rfl rfl tw_253 (Or.inl rfl) dX2_tell_59 (kd_lt (rfl : kd 79 = (5,0,0)) (by decide)) (ce5 rfl) rfl ?_
      refine r_iload_n F dX2_tell_62 rfl ?_
      refine r_iconst (x := 1) F dX2_tell_63 rfl ?_
      refine r_iadd F dX2_tell_64 ?_
      rw [f0]
      refine r_max F tw_523 rfl z0 (by omega) (by omega) dX2_tell_65 ?_
      refine r_put (T := TX6) (n := 3) (ty0 := tyX6) (ty := .int) F uw6 tyX6_ok nmX6 rfl rfl tw_253 (Or.inl rfl) rfl rfl rfl rfl dX2_tell_68 (kd_lt (rfl : kd 79 = (5,0,0)) (by decide)) (ce5 rfl) rfl (pe5_3 rfl) up2_ce ?_
      refine r_vret F rfl dX2_tell_71 ⟨rfl, rfl, fun k k0 k1 k2 k3 => by rw [up2_k _ k0, a4 k k1 k2 k3], t, by omega, a1, ?_, fun t1 q1 pl q2 p q3 st q4 => ?_⟩
      · rw [up2_s]; split <;> omega
      · rw [up2_k _ (by decide)]; exact a5 t1 q1 pl q2 p q3 st q4
    intro n
    induction n with
    | zero =>
      intro t v' a1 a2 a3 a4 a5
      refine r_iload_n F dX2_tell_5 rfl ?_
      refine r_iload_n F dX2_tell_6 rfl ?_
      refine r_icgt F dX2_tell_7 (by omega) (by omega) (fun h7 => ?_) (fun h7 => ?_)
      · exact fin t v' (by omega) a2 a3 a4 a5
      · omega
    | succ n ih =>
      intro t v' a1 a2 a3 a4 a5
      have mid : t ≤ most → ∀ (m q : Nat) (v' : VV), 2 < q + m → q ≤ 2 → (∀ k, k ≠ 80 → k ≠ 81 → k ≠ 82 → v' k = v k) → En5 v' S t → (∀ pl, pl < q → ∀ p, p < 8 → ∀ st, st < 2 → v' 82 (ix t pl p + st) = tq (thr S t pl p st) ) → CW G K 6 0 0 (MQ (kb K) (Qn G (gV fun v' L' => L' = L ∧ (∀ k, k ≠ 79 → k ≠ 80 → k ≠ 81 → k ≠ 82 → v' k = v k) ∧ ∃ n1, n1 ≤ 13 ∧ most < n1 ∧ v' 79 3 = n1 ∧ En5 v' S n1)) (ka K) (ks K) 0 0 (gA G)) v' L 13 [some (.ref (gB G 79)), some (.ref (gB G 1)), some (.int (nI most)), some (.int (nI t)), some (.int (nI q)), none] [] := by
        intro ht m
        induction m with
        | zero => intro q v' b1 b2; omega
        | succ m ihm =>
          intro q v' b1 b2 b3 b4 b5
          have inner : q < 2 → ∀ (i p : Nat) (v' : VV), 8 < p + i → p ≤ 8 → (∀ k, k ≠ 80 → k ≠ 81 → k ≠ 82 → v' k = v k) → En5 v' S t → (∀ pl, pl < q → ∀ p, p < 8 → ∀ st, st < 2 → v' 82 (ix t pl p + st) = tq (thr S t pl p st) ) → (∀ r, r < p → ∀ st, st < 2 → v' 82 (ix t q r + st) = tq (thr S t q r st) ) → CW G K 6 0 0 (MQ (kb K) (Qn G (gV fun v' L' => L' = L ∧ (∀ k, k ≠ 79 → k ≠ 80 → k ≠ 81 → k ≠ 82 → v' k = v k) ∧ ∃ n1, n1 ≤ 13 ∧ most < n1 ∧ v' 79 3 = n1 ∧ En5 v' S n1)) (ka K) (ks K) 0 0 (gA G)) v' L 22 [some (.ref (gB G 79)), some (.ref (gB G 1)), some (.int (nI most)), some (.int (nI t)), some (.int (nI q)), some (.int (nI p))] [] := by
            intro hq i
            induction i with
            | zero => intro p v' d1 d2; omega
            | succ i ihi =>
              intro p v' d1 d2 d3 d4 d5 d6
              have hr' : RSt 1 v' S := hr.kept (fun k _ _ => d3 k (by omega) (by omega) (by omega))
              refine r_iload F dX2_tell_22 rfl ?_
              refine r_bipush (x := 8) F dX2_tell_24 rfl ?_
              refine r_icge F dX2_tell_26 (by omega) (by omega) (fun h26 => ?_) (fun h26 => ?_)
              · refine r_iinc4 (y := 1) F dX2_tell_45 rfl rfl rfl rfl ?_
                refine r_goto F dX2_tell_48 ?_
                refine r_dr5 ?_
                refine ihm (q + 1) v' (by omega) (by omega) d3 d4 (fun pl z2 r z3 st z4 => ?_)
                rcases Nat.lt_or_ge pl q with z | z
                · exact d5 pl z r z3 st z4
                · rw [show pl = q by omega]
                  exact d6 r (by omega) st z4
              · refine r_aload_n F dX2_tell_29 rfl ?_
                refine r_aload_n F dX2_tell_30 rfl ?_
                refine r_iload_n F dX2_tell_31 rfl ?_
                refine r_iload F dX2_tell_32 rfl ?_
                refine r_iload F dX2_tell_34 rfl ?_
                refine r_callU4w F fMX2_tellPosition tw_433 tw_1207 (Or.inr rfl) (by decide) tw_1210 tw_435 rfl rfl rfl rfl rfl dX2_tell_36 rfl rfl z0 (m2_tellPosition5 g hr' w (by omega) hq h26 (fun t' et r hr st hst => d4 t' (by omega) q hq r hr st hst)) ?_
                rintro v1 L1 ⟨rfl, o1, o2, o3⟩
                refine r_iinc5 (y := 1) F dX2_tell_39 rfl rfl rfl rfl ?_
                refine r_goto F dX2_tell_42 ?_
                refine ihi (p + 1) v1 (by omega) (by omega) (fun k k1 k2 k3 => by rw [o1 k k1 k2 k3, d3 k k1 k2 k3]) (fun t1 z1 pl z2 r z3 st z4 => ?_) (fun pl z2 r z3 st z4 => ?_) (fun r z3 st z4 => ?_)
                · rw [o3 _ (fun z => by have := ix_inj (t := t1) (pl := pl) (p := r) (st := st) (t' := t) (pl' := q) (p' := p) (st' := 0) z2 z3 z4 hq h26 (by decide) z; omega) (fun z => by have := ix_inj (t := t1) (pl := pl) (p := r) (st := st) (t' := t) (pl' := q) (p' := p) (st' := 1) z2 z3 z4 hq h26 (by decide) z; omega)]
                  exact d4 t1 z1 pl z2 r z3 st z4
                · rw [o3 _ (fun z => by have := ix_inj (t := t) (pl := pl) (p := r) (st := st) (t' := t) (pl' := q) (p' := p) (st' := 0) (by omega) z3 z4 hq h26 (by decide) z; omega) (fun z => by have := ix_inj (t := t) (pl := pl) (p := r) (st := st) (t' := t) (pl' := q) (p' := p) (st' := 1) (by omega) z3 z4 hq h26 (by decide) z; omega)]
                  exact d5 pl z2 r z3 st z4
                · rcases Nat.lt_or_ge r p with z | z
                  · rw [o3 _ (fun z => by have := ix_inj (t := t) (pl := q) (p := r) (st := st) (t' := t) (pl' := q) (p' := p) (st' := 0) hq (by omega) z4 hq h26 (by decide) z; omega) (fun z => by have := ix_inj (t := t) (pl := q) (p := r) (st := st) (t' := t) (pl' := q) (p' := p) (st' := 1) hq (by omega) z4 hq h26 (by decide) z; omega)]
                    exact d6 r z st z4
                  · rw [show r = p by omega]
                    exact o2 st z4
          refine r_iload F dX2_tell_13 rfl ?_
          refine r_iconst (x := 2) F dX2_tell_15 rfl ?_
          refine r_icge F dX2_tell_16 (by omega) (by omega) (fun h16 => ?_) (fun h16 => ?_)
          · refine r_iinc3 (y := 1) F dX2_tell_51 rfl rfl rfl rfl ?_
            refine r_goto F dX2_tell_54 ?_
            refine r_dr4 ?_
            refine ih (t + 1) v' (by omega) (by omega) (by omega) b3 (fun t1 z1 pl z2 r z3 st z4 => ?_)
            rcases Nat.lt_or_ge t1 t with z | z
            · exact b4 t1 z pl z2 r z3 st z4
            · rw [show t1 = t by omega]
              exact b5 pl (by omega) r z3 st z4
          · refine r_iconst (x := 0) F dX2_tell_19 rfl ?_
            refine r_ist5 F dX2_tell_20 rfl rfl ?_
            exact inner (by omega) 9 0 v' (by omega) (by omega) b3 b4 b5 (fun r hr => absurd hr (Nat.not_lt_zero r))
      refine r_iload_n F dX2_tell_5 rfl ?_
      refine r_iload_n F dX2_tell_6 rfl ?_
      refine r_icgt F dX2_tell_7 (by omega) (by omega) (fun h7 => ?_) (fun h7 => ?_)
      · exact fin t v' (by omega) a2 a3 a4 a5
      · refine r_iconst (x := 0) F dX2_tell_10 rfl ?_
        refine r_ist4 F dX2_tell_11 rfl rfl ?_
        exact mid (by omega) 3 0 v' (by omega) (by omega) a4 a5 (fun pl hpl => absurd hpl (Nat.not_lt_zero pl))
  refine r_aload_n F dX2_tell_0 rfl ?_
  refine r_get (T := TX6) (n := 3) F uw6 rfl rfl tw_253 (Or.inl rfl) dX2_tell_1 (kd_lt (rfl : kd 79 = (5,0,0)) (by decide)) (ce5 rfl) rfl ?_
  rw [e0]
  refine r_ist3 F dX2_tell_4 rfl rfl ?_
  exact loop (most + 2) n0 v (by omega) (by omega) (by omega) (fun _ _ _ _ => rfl) hE
set_option maxHeartbeats 4000000 in
theorem m3_positionsOf {G : GT} {v : VV} {L : LL} (g : GH G) {S : Nat → Nat} (hr : RSt 1 v S) (w : WS S) {pl n : Nat} (h2 : pl < 2) (hn : S 1 < n) (hE : En2 v S n) : CC G MX3_positionsOf [.ref (gB G 75), .ref (gB G 1), .int (nI pl)] v L (rI (cntB (fun p => decide (thr S (S 1) pl p (S 3) ≤ bud S pl)) 8) v L) := by
  refine cc_of g [some (.ref (gB G 75)), some (.ref (gB G 1)), some (.int (nI pl)), none, none] rfl rfl rfl rfl (fun K F => ?_)
  have w1 : S 1 ≤ 12 := w.2.1
  have w3 : S 3 < 2 := Nat.lt_succ_of_le w.2.2.2.1
  have hc : S 0 ≤ 20 := w.1
  have hb : bud S pl ≤ S 0 := by unfold bud; have := w.2.2.1; split <;> omega
  have e1 : v 1 2 = S 1 := hr.2.1
  have e3 : v 1 5 = S 3 := hr.2.2.2.2.1
  have loop : ∀ (n i : Nat), 8 < i + n → i ≤ 8 → CW G K 5 0 0 (MQ (kb K) (Qn G (rI (cntB (fun p => decide (thr S (S 1) pl p (S 3) ≤ bud S pl)) 8) v L)) (ka K) (ks K) 0 0 (gA G)) v L 5 [some (.ref (gB G 75)), some (.ref (gB G 1)), some (.int (nI pl)), some (.int (nI (cntB (fun p => decide (thr S (S 1) pl p (S 3) ≤ bud S pl)) i))), some (.int (nI i))] [] := by
    intro n
    induction n with
    | zero => intro i a1 a2; omega
    | succ n ih =>
      intro i a1 a2
      have ec : cntB (fun p => decide (thr S (S 1) pl p (S 3) ≤ bud S pl)) (i + 1) = cntB (fun p => decide (thr S (S 1) pl p (S 3) ≤ bud S pl)) i + (decide (thr S (S 1) pl i (S 3) ≤ bud S pl)).toNat := rfl
      refine r_iload F dX3_positionsOf_5 rfl ?_
      refine r_bipush (x := 8) F dX3_positionsOf_7 rfl ?_
      refine r_icge F dX3_positionsOf_9 (by omega) (by omega) (fun h9 => ?_) (fun h9 => ?_)
      · refine r_iload_n F dX3_positionsOf_47 rfl ?_
        exact i_iret F rfl dX3_positionsOf_48 (by rw [show i = 8 by omega]) rfl rfl
      · refine r_aload_n F dX3_positionsOf_12 rfl ?_
        refine r_aload_n F dX3_positionsOf_13 rfl ?_
        refine r_getN (T := TX5) (n := 2) F uw5 rfl rfl tw_136 (Or.inl rfl) dX3_positionsOf_14 (kd_lt (rfl : kd 1 = (4,0,0)) (by decide)) (ce4 rfl) rfl ?_
        refine r_iload_n F dX3_positionsOf_17 rfl ?_
        refine r_iload F dX3_positionsOf_18 rfl ?_
        refine r_aload_n F dX3_positionsOf_20 rfl ?_
        refine r_getN (T := TX5) (n := 5) F uw5 rfl rfl tw_143 (Or.inl rfl) dX3_positionsOf_21 (kd_lt (rfl : kd 1 = (4,0,0)) (by decide)) (ce4 rfl) rfl ?_
        rw [e1, e3]
        refine r_callU4i F fMX2_entry tw_679 tw_525 (Or.inl tw_526) (by decide) tw_527 tw_474 rfl rfl rfl rfl rfl dX3_positionsOf_24 rfl rfl z0 (m2_entry2 g (by omega) h2 h9 w3) ?_
        rw [hE _ hn _ h2 _ h9 _ w3]
        refine r_aload_n F dX3_positionsOf_27 rfl ?_
        refine r_iload_n F dX3_positionsOf_28 rfl ?_
        refine r_callN1i F fMX5_budgetOf tw_680 rfl rfl rfl rfl dX3_positionsOf_29 rfl rfl z0 (m5_budgetOf g st1 hr w h2) ?_
        refine r_callT2i F fMX7_holds tw_513 rfl dX3_positionsOf_32 rfl rfl z0 (m7_holds g hc hb) ?_
        refine r_beq F dX3_positionsOf_35 (fun h35 => ?_) (fun h35 => ?_)
        · refine r_iinc4 (y := 1) F dX3_positionsOf_41 rfl rfl rfl rfl ?_
          refine r_goto F dX3_positionsOf_44 ?_
          have := ih (i + 1) (by omega) (by omega)
          rw [ec] at this
          first
            | (rw [show (decide (thr S (S 1) pl i (S 3) ≤ bud S pl)).toNat = 1 from (by simp [h35])] at this; exact this)
            | (rw [show (decide (thr S (S 1) pl i (S 3) ≤ bud S pl)).toNat = 0 from (by simp [h35])] at this; exact this)
        · refine r_iinc3 (y := 1) F dX3_positionsOf_38 rfl rfl rfl rfl ?_
          refine r_iinc4 (y := 1) F dX3_positionsOf_41 rfl rfl rfl rfl ?_
          refine r_goto F dX3_positionsOf_44 ?_
          have := ih (i + 1) (by omega) (by omega)
          rw [ec] at this
          first
            | (rw [show (decide (thr S (S 1) pl i (S 3) ≤ bud S pl)).toNat = 1 from (by simp [h35])] at this; exact this)
            | (rw [show (decide (thr S (S 1) pl i (S 3) ≤ bud S pl)).toNat = 0 from (by simp [h35])] at this; exact this)
  refine r_iconst (x := 0) F dX3_positionsOf_0 rfl ?_
  refine r_ist3 F dX3_positionsOf_1 rfl rfl ?_
  refine r_iconst (x := 0) F dX3_positionsOf_2 rfl ?_
  refine r_ist4 F dX3_positionsOf_3 rfl rfl ?_
  exact loop 9 0 (by omega) (by omega)
