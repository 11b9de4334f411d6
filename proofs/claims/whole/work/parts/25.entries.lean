def ix (t pl p : Nat) : Nat := ((t * 2 + pl) * 8 + p) * 2
theorem ix_lt {t pl p st : Nat} (h1 : t < 13) (h2 : pl < 2) (h3 : p < 8) (h4 : st < 2) : ix t pl p + st < 416 := by unfold ix; omega
theorem ix_inj {t pl p st t' pl' p' st' : Nat} (h2 : pl < 2) (h3 : p < 8) (h4 : st < 2) (h2' : pl' < 2) (h3' : p' < 8) (h4' : st' < 2) (e : ix t pl p + st = ix t' pl' p' + st') : t = t' ∧ pl = pl' ∧ p = p' ∧ st = st' := by unfold ix at e; omega
theorem m2_indexOf {G : GT} {v : VV} {L : LL} (g : GH G) {t pl p : Nat} : CC G MX2_indexOf [.int (nI t), .int (nI pl), .int (nI p)] v L (rI (ix t pl p) v L) := by
  refine cc_of g [some (.int (nI t)), some (.int (nI pl)), some (.int (nI p))] rfl rfl rfl rfl (fun K F => ?_)
  refine r_iload_n F dX2_indexOf_0 rfl ?_
  refine r_iconst (x := 2) F dX2_indexOf_1 rfl ?_
  refine r_imul F dX2_indexOf_2 ?_
  refine r_iload_n F dX2_indexOf_3 rfl ?_
  refine r_iadd F dX2_indexOf_4 ?_
  refine r_bipush (x := 8) F dX2_indexOf_5 rfl ?_
  refine r_imul F dX2_indexOf_7 ?_
  refine r_iload_n F dX2_indexOf_8 rfl ?_
  refine r_iadd F dX2_indexOf_9 ?_
  refine r_iconst (x := 2) F dX2_indexOf_10 rfl ?_
  refine r_imul F dX2_indexOf_11 ?_
  exact i_iret F rfl dX2_indexOf_12 rfl rfl rfl
/-- entries that are told: of the turns below n -/
def En2 (v : VV) (S : Nat → Nat) (n : Nat) : Prop := ∀ t, t < n → ∀ pl, pl < 2 → ∀ p, p < 8 → ∀ st, st < 2 → v 78 (ix t pl p + st) = mk (thr S t pl p st) (S 0)
def En5 (v : VV) (S : Nat → Nat) (n : Nat) : Prop := ∀ t, t < n → ∀ pl, pl < 2 → ∀ p, p < 8 → ∀ st, st < 2 → v 82 (ix t pl p + st) = tq (thr S t pl p st)
def Bx2 (v : VV) (so ea : Nat → Nat) (c : Nat) : Prop := Bh v so ea c
def Bx5 (v : VV) (so ea : Nat → Nat) (_ : Nat) : Prop := Bt v so ea
theorem m2_entry2 {G : GT} {v : VV} {L : LL} (g : GH G) {t pl p st : Nat} (h1 : t < 13) (h2 : pl < 2) (h3 : p < 8) (h4 : st < 2) : CC G MX2_entry [.ref (gB G 75), .int (nI t), .int (nI pl), .int (nI p), .int (nI st)] v L (rI (v 78 (ix t pl p + st)) v L) := by
  refine cc_of g [some (.ref (gB G 75)), some (.int (nI t)), some (.int (nI pl)), some (.int (nI p)), some (.int (nI st))] rfl rfl rfl rfl (fun K F => ?_)
  have h := ix_lt h1 h2 h3 h4
  refine r_aload_n F dX2_entry_0 rfl ?_
  refine r_get (x := .ref (gB G 78)) (T := TX3) (n := 2) F uw3 rfl rfl tw_252 (Or.inl rfl) dX2_entry_1 (kd_lt (rfl : kd 75 = (2,0,0)) (by decide)) (ce2 rfl) rfl ?_
  refine r_iload_n F dX2_entry_4 rfl ?_
  refine r_iload_n F dX2_entry_5 rfl ?_
  refine r_iload_n F dX2_entry_6 rfl ?_
  refine r_callS3i F fMX2_indexOf tw_437 rfl dX2_entry_7 rfl rfl z0 (m2_indexOf g) ?_
  refine r_iload F dX2_entry_10 rfl ?_
  refine r_iadd F dX2_entry_12 ?_
  refine r_iald F dX2_entry_13 rfl (by omega) ?_
  exact i_iret F rfl dX2_entry_14 rfl rfl rfl
theorem m2_forget2 {G : GT} {v : VV} {L : LL} (g : GH G) : CC G MX2_forget [.ref (gB G 75)] v L (rV (up2 v 75 3 0) L) := by
  refine cc_of g [some (.ref (gB G 75))] rfl rfl rfl rfl (fun K F => ?_)
  refine r_aload_n F dX2_forget_0 rfl ?_
  refine r_iconst (x := 0) F dX2_forget_1 rfl ?_
  refine r_put (T := TX3) (n := 3) (ty0 := tyX3) (ty := .int) F uw3 tyX3_ok nmX3 rfl rfl tw_253 (Or.inl rfl) rfl rfl rfl rfl dX2_forget_2 (kd_lt (rfl : kd 75 = (2,0,0)) (by decide)) (ce2 rfl) rfl (pe2_3 rfl) up2_ce ?_
  exact v_vret F rfl dX2_forget_5 rfl rfl
set_option maxHeartbeats 8000000 in
theorem m2_lookBehind2 {G : GT} {v : VV} {L : LL} (g : GH G) {S : Nat → Nat} (hr : RSt 1 v S) (w : WS S) {t pl p : Nat} (h1 : t < 12) (h2 : pl < 2) (h3 : p < 8) (hE : ∀ q, q < 8 → ∀ σ, σ < 2 → v 78 (ix t pl q + σ) = mk (thr S t pl q σ) (S 0)) : CC G MX2_lookBehind [.ref (gB G 75), .ref (gB G 1), .int (nI (t + 1)), .int (nI pl), .int (nI p)] v L (gV fun v' L' => L' = L ∧ (∀ k, k ≠ 76 → k ≠ 77 → v' k = v k) ∧ Bx2 v' (soT S t pl p) (eaT S t pl p) (S 0)) := by
  refine cc_of g [some (.ref (gB G 75)), some (.ref (gB G 1)), some (.int (nI (t + 1))), some (.int (nI pl)), some (.int (nI p)), none, none, none] rfl rfl rfl rfl (fun K F => ?_)
  have hc : S 0 ≤ 20 := w.1
  have hwp := w.b p h3
  have loop : ∀ (n i : Nat) (v' : VV), 2 < i + n → i ≤ 2 → (∀ k, k ≠ 76 → k ≠ 77 → v' k = v k) → (∀ τ, τ < i → v' 76 τ = mk (soT S t pl p τ) (S 0) ∧ v' 77 τ = mk (eaT S t pl p τ) (S 0)) → CW G K 8 0 0 (MQ (kb K) (Qn G (gV fun v' L' => L' = L ∧ (∀ k, k ≠ 76 → k ≠ 77 → v' k = v k) ∧ Bx2 v' (soT S t pl p) (eaT S t pl p) (S 0))) (ka K) (ks K) 0 0 (gA G)) v' L 3 [some (.ref (gB G 75)), some (.ref (gB G 1)), some (.int (nI (t + 1))), some (.int (nI pl)), some (.int (nI p)), some (.int (nI i)), none, none] [] := by
    intro n
    induction n with
    | zero => intro i v' a1 a2; omega
    | succ n ih =>
      intro i v' a1 a2 a3 a4
      have inner : i < 2 → ∀ (m j : Nat) (v' : VV), S (13 + 6 * p) < j + m → j ≤ S (13 + 6 * p) → (∀ k, k ≠ 76 → k ≠ 77 → v' k = v k) → (∀ τ, τ < i → v' 76 τ = mk (soT S t pl p τ) (S 0) ∧ v' 77 τ = mk (eaT S t pl p τ) (S 0)) → v' 76 i = mk (eaz (fun q => thr S t pl q i) S p j) (S 0) → v' 77 i = mk (haz (fun q => thr S t pl q i) S p j) (S 0) → CW G K 8 0 0 (MQ (kb K) (Qn G (gV fun v' L' => L' = L ∧ (∀ k, k ≠ 76 → k ≠ 77 → v' k = v k) ∧ Bx2 v' (soT S t pl p) (eaT S t pl p) (S 0))) (ka K) (ks K) 0 0 (gA G)) v' L 38 [some (.ref (gB G 75)), some (.ref (gB G 1)), some (.int (nI (t + 1))), some (.int (nI pl)), some (.int (nI p)), some (.int (nI i)), some (.int (nI j)), none] [] := by
        intro hi m
        induction m with
        | zero => intro j v' b1 b2; omega
        | succ m ihm =>
          intro j v' b1 b2 b3 b4 b5 b6
          have hr' : RSt 1 v' S := hr.kept (fun k _ _ => b3 k (by omega) (by omega))
          have hcnt : v' 4 p = S (13 + 6 * p) := (hr'.b p h3).2.1
          refine r_iload F dX2_lookBehind_38 rfl ?_
          refine r_aload_n F dX2_lookBehind_40 rfl ?_
          refine r_getN (x := .ref (gB G 2)) (T := TX5) (n := 0) F uw5 rfl rfl tw_130 (Or.inl rfl) dX2_lookBehind_41 (kd_lt (rfl : kd 1 = (4,0,0)) (by decide)) (ce4 rfl) rfl ?_
          refine r_getN (x := .ref (gB G 4)) (T := TX0) (n := 1) F uw0 rfl rfl tw_118 (Or.inl rfl) dX2_lookBehind_44 (kd_lt (rfl : kd 2 = (0,0,0)) (by decide)) (ce0 rfl) rfl ?_
          refine r_iload F dX2_lookBehind_47 rfl ?_
          refine r_iald F dX2_lookBehind_49 rfl (by omega) ?_
          refine r_icge F dX2_lookBehind_50 (by omega) (by omega) (fun h50 => ?_) (fun h50 => ?_)
          · refine r_iinc5 (y := 1) F dX2_lookBehind_122 rfl rfl rfl rfl ?_
            refine r_goto F dX2_lookBehind_125 ?_
            refine r_dr6 ?_
            refine ih (i + 1) _ (by omega) (by omega) b3 (fun τ hτ => ?_)
            rcases Nat.lt_or_ge τ i with z | z
            · exact b4 τ z
            · rw [show τ = i by omega, b5, b6, show j = S (13 + 6 * p) by omega]
              exact ⟨rfl, rfl⟩
          · refine r_aload_n F dX2_lookBehind_53 rfl ?_
            refine r_iload_n F dX2_lookBehind_54 rfl ?_
            refine r_iconst (x := 1) F dX2_lookBehind_55 rfl ?_
            refine r_isub F dX2_lookBehind_56 (by omega) ?_
            refine r_iload_n F dX2_lookBehind_57 rfl ?_
            refine r_aload_n F dX2_lookBehind_58 rfl ?_
            refine r_getN (x := .ref (gB G 2)) (T := TX5) (n := 0) F uw5 rfl rfl tw_130 (Or.inl rfl) dX2_lookBehind_59 (kd_lt (rfl : kd 1 = (4,0,0)) (by decide)) (ce4 rfl) rfl ?_
            refine r_iload F dX2_lookBehind_62 rfl ?_
            refine r_iload F dX2_lookBehind_64 rfl ?_
            refine r_callN2q F fMX0_moveAt tw_469 rfl rfl rfl rfl dX2_lookBehind_66 rfl rfl z0 (m0_moveAt g bd2 hr'.b w.b h3 (i := j) (by omega)) ?_
            rw [show mvA S p j = nI (S (14 + 6 * p + j)) from if_pos (by omega), show t + 1 - 1 = t from rfl]
            have hq : S (14 + 6 * p + j) < 8 := hwp.2.2 j (by omega)
            refine r_iload F dX2_lookBehind_69 rfl ?_
            refine r_callU4i F fMX2_entry tw_473 tw_475 (Or.inl tw_526) (by decide) tw_476 tw_474 rfl rfl rfl rfl rfl dX2_lookBehind_71 rfl rfl z0 (m2_entry2 g (t := t) (by omega) h2 hq hi) ?_
            rw [show v' 78 (ix t pl (S (14 + 6 * p + j)) + i) = mk (thr S t pl (S (14 + 6 * p + j)) i) (S 0) by rw [b3 78 (by decide) (by decide)]; exact hE _ hq _ hi]
            refine r_ist7 F dX2_lookBehind_74 rfl rfl ?_
            refine r_aload_n F dX2_lookBehind_76 rfl ?_
            refine r_get (x := .ref (gB G 76)) (T := TX3) (n := 0) F uw3 rfl rfl tw_242 (Or.inl rfl) dX2_lookBehind_77 (kd_lt (rfl : kd 75 = (2,0,0)) (by decide)) (ce2 rfl) rfl ?_
            refine r_iload F dX2_lookBehind_80 rfl ?_
            refine r_aload_n F dX2_lookBehind_82 rfl ?_
            refine r_aload_n F dX2_lookBehind_83 rfl ?_
            refine r_get (x := .ref (gB G 76)) (T := TX3) (n := 0) F uw3 rfl rfl tw_242 (Or.inl rfl) dX2_lookBehind_84 (kd_lt (rfl : kd 75 = (2,0,0)) (by decide)) (ce2 rfl) rfl ?_
            refine r_iload F dX2_lookBehind_87 rfl ?_
            refine r_iald F dX2_lookBehind_89 rfl (by omega) ?_
            rw [b5]
            refine r_iload F dX2_lookBehind_90 rfl ?_
            refine r_callU2i F fMX3_either tw_479 tw_481 (Or.inl tw_480) (by decide) tw_482 tw_483 rfl rfl rfl rfl rfl dX2_lookBehind_92 rfl rfl z0 (m3_either g hc) ?_
            refine r_iast F dX2_lookBehind_95 rfl (by omega) ?_
            refine r_aload_n F dX2_lookBehind_96 rfl ?_
            refine r_get (x := .ref (gB G 77)) (T := TX3) (n := 1) F uw3 rfl rfl tw_247 (Or.inl rfl) dX2_lookBehind_97 (kd_lt (rfl : kd 75 = (2,0,0)) (by decide)) (ce2 rfl) rfl ?_
            refine r_iload F dX2_lookBehind_100 rfl ?_
            refine r_aload_n F dX2_lookBehind_102 rfl ?_
            refine r_aload_n F dX2_lookBehind_103 rfl ?_
            refine r_get (x := .ref (gB G 77)) (T := TX3) (n := 1) F uw3 rfl rfl tw_247 (Or.inl rfl) dX2_lookBehind_104 (kd_lt (rfl : kd 75 = (2,0,0)) (by decide)) (ce2 rfl) rfl ?_
            refine r_iload F dX2_lookBehind_107 rfl ?_
            refine r_iald F dX2_lookBehind_109 rfl (by omega) ?_
            have e77 : ∀ z, up2 v' 76 i z 77 i = mk (haz (fun q => thr S t pl q i) S p j) (S 0) := fun z => by rw [up2_k _ (by decide)]; exact b6
            rw [e77]
            refine r_iload F dX2_lookBehind_110 rfl ?_
            refine r_callU2i F fMX3_both tw_489 tw_491 (Or.inl tw_490) (by decide) tw_492 tw_493 rfl rfl rfl rfl rfl dX2_lookBehind_112 rfl rfl z0 (m3_both g hc) ?_
            refine r_iast F dX2_lookBehind_115 rfl (by omega) ?_
            refine r_iinc6 (y := 1) F dX2_lookBehind_116 rfl rfl rfl rfl ?_
            refine r_goto F dX2_lookBehind_119 ?_
            refine r_dr7 ?_
            refine ihm (j + 1) _ (by omega) (by omega) (fun k k1 k2 => ?_) (fun τ hτ => ⟨?_, ?_⟩) ?_ ?_
            · rw [up2_k _ k2, up2_k _ k1, b3 k k1 k2]
            · rw [up2_k _ (by decide), up2_j _ (by omega), (b4 τ hτ).1]
            · rw [up2_j _ (by omega), up2_k _ (by decide), (b4 τ hτ).2]
            · rw [up2_k _ (by decide), up2_s]; rfl
            · rw [up2_s]; rfl
      have hr1 : RSt 1 v' S := hr.kept (fun k _ _ => a3 k (by omega) (by omega))
      have ch : v' 1 1 = S 0 := hr1.1
      refine r_iload F dX2_lookBehind_3 rfl ?_
      refine r_iconst (x := 2) F dX2_lookBehind_5 rfl ?_
      refine r_icge F dX2_lookBehind_6 (by omega) (by omega) (fun h6 => ?_) (fun h6 => ?_)
      · exact r_vret F rfl dX2_lookBehind_128 ⟨rfl, rfl, a3, fun σ hσ => a4 σ (by omega)⟩
      · refine r_aload_n F dX2_lookBehind_9 rfl ?_
        refine r_get (x := .ref (gB G 76)) (T := TX3) (n := 0) F uw3 rfl rfl tw_242 (Or.inl rfl) dX2_lookBehind_10 (kd_lt (rfl : kd 75 = (2,0,0)) (by decide)) (ce2 rfl) rfl ?_
        refine r_iload F dX2_lookBehind_13 rfl ?_
        refine r_aload_n F dX2_lookBehind_15 rfl ?_
        refine r_callU0i F fMX3_nothing tw_454 tw_456 (Or.inl tw_455) (by decide) tw_457 tw_458 rfl rfl rfl rfl rfl dX2_lookBehind_16 rfl rfl z0 (m3_nothing g hc) ?_
        refine r_iast F dX2_lookBehind_19 rfl (by omega) ?_
        refine r_aload_n F dX2_lookBehind_20 rfl ?_
        refine r_get (x := .ref (gB G 77)) (T := TX3) (n := 1) F uw3 rfl rfl tw_247 (Or.inl rfl) dX2_lookBehind_21 (kd_lt (rfl : kd 75 = (2,0,0)) (by decide)) (ce2 rfl) rfl ?_
        refine r_iload F dX2_lookBehind_24 rfl ?_
        refine r_aload_n F dX2_lookBehind_26 rfl ?_
        refine r_aload_n F dX2_lookBehind_27 rfl ?_
        refine r_getN (T := TX5) (n := 1) F uw5 rfl rfl tw_133 (Or.inl rfl) dX2_lookBehind_28 (kd_lt (rfl : kd 1 = (4,0,0)) (by decide)) (ce4 rfl) rfl ?_
        have e1 : ∀ z, up2 v' 76 i z 1 1 = S 0 := fun z => by rw [up2_k _ (by decide)]; exact ch
        rw [e1]
        refine r_callU1i F fMX3_everything tw_445 tw_447 (Or.inl tw_446) (by decide) tw_448 tw_449 rfl rfl rfl rfl rfl dX2_lookBehind_31 rfl rfl z0 (m3_everything g hc) ?_
        refine r_iast F dX2_lookBehind_34 rfl (by omega) ?_
        refine r_iconst (x := 0) F dX2_lookBehind_35 rfl ?_
        refine r_ist6 F dX2_lookBehind_36 rfl rfl ?_
        refine inner (by omega) (S (13 + 6 * p) + 1) 0 _ (by omega) (by omega) (fun k k1 k2 => ?_) (fun τ hτ => ⟨?_, ?_⟩) ?_ ?_
        · rw [up2_k _ k2, up2_k _ k1, a3 k k1 k2]
        · rw [up2_k _ (by decide), up2_j _ (by omega), (a4 τ hτ).1]
        · rw [up2_j _ (by omega), up2_k _ (by decide), (a4 τ hτ).2]
        · rw [up2_k _ (by decide), up2_s]; rfl
        · rw [up2_s]; rfl
  refine r_iconst (x := 0) F dX2_lookBehind_0 rfl ?_
  refine r_ist5 F dX2_lookBehind_1 rfl rfl ?_
  exact loop 3 0 v (by omega) (by omega) (fun _ _ _ => rfl) (fun τ hτ => absurd hτ (Nat.not_lt_zero τ))
theorem m2_entry5 {G : GT} {v : VV} {L : LL} (g : GH G) {t pl p st : Nat} (h1 : t < 13) (h2 : pl < 2) (h3 : p < 8) (h4 : st < 2) : CC G MX2_entry [.ref (gB G 79), .int (nI t), .int (nI pl), .int (nI p), .int (nI st)] v L (rI (v 82 (ix t pl p + st)) v L) := by
  refine cc_of g [some (.ref (gB G 79)), some (.int (nI t)), some (.int (nI pl)), some (.int (nI p)), some (.int (nI st))] rfl rfl rfl rfl (fun K F => ?_)
  have h := ix_lt h1 h2 h3 h4
  refine r_aload_n F dX2_entry_0 rfl ?_
  refine r_get (x := .ref (gB G 82)) (T := TX6) (n := 2) F uw6 rfl rfl tw_252 (Or.inl rfl) dX2_entry_1 (kd_lt (rfl : kd 79 = (5,0,0)) (by decide)) (ce5 rfl) rfl ?_
  refine r_iload_n F dX2_entry_4 rfl ?_
  refine r_iload_n F dX2_entry_5 rfl ?_
  refine r_iload_n F dX2_entry_6 rfl ?_
  refine r_callS3i F fMX2_indexOf tw_437 rfl dX2_entry_7 rfl rfl z0 (m2_indexOf g) ?_
  refine r_iload F dX2_entry_10 rfl ?_
  refine r_iadd F dX2_entry_12 ?_
  refine r_iald F dX2_entry_13 rfl (by omega) ?_
  exact i_iret F rfl dX2_entry_14 rfl rfl rfl
theorem m2_forget5 {G : GT} {v : VV} {L : LL} (g : GH G) : CC G MX2_forget [.ref (gB G 79)] v L (rV (up2 v 79 3 0) L) := by
  refine cc_of g [some (.ref (gB G 79))] rfl rfl rfl rfl (fun K F => ?_)
  refine r_aload_n F dX2_forget_0 rfl ?_
  refine r_iconst (x := 0) F dX2_forget_1 rfl ?_
  refine r_put (T := TX6) (n := 3) (ty0 := tyX6) (ty := .int) F uw6 tyX6_ok nmX6 rfl rfl tw_253 (Or.inl rfl) rfl rfl rfl rfl dX2_forget_2 (kd_lt (rfl : kd 79 = (5,0,0)) (by decide)) (ce5 rfl) rfl (pe5_3 rfl) up2_ce ?_
  exact v_vret F rfl dX2_forget_5 rfl rfl
set_option maxHeartbeats 8000000 in
theorem m2_lookBehind5 {G : GT} {v : VV} {L : LL} (g : GH G) {S : Nat → Nat} (hr : RSt 1 v S) (w : WS S) {t pl p : Nat} (h1 : t < 12) (h2 : pl < 2) (h3 : p < 8) (hE : ∀ q, q < 8 → ∀ σ, σ < 2 → v 82 (ix t pl q + σ) = tq (thr S t pl q σ) ) : CC G MX2_lookBehind [.ref (gB G 79), .ref (gB G 1), .int (nI (t + 1)), .int (nI pl), .int (nI p)] v L (gV fun v' L' => L' = L ∧ (∀ k, k ≠ 80 → k ≠ 81 → v' k = v k) ∧ Bx5 v' (soT S t pl p) (eaT S t pl p) (S 0)) := by
  refine cc_of g [some (.ref (gB G 79)), some (.ref (gB G 1)), some (.int (nI (t + 1))), some (.int (nI pl)), some (.int (nI p)), none, none, none] rfl rfl rfl rfl (fun K F => ?_)
  have hc : S 0 ≤ 20 := w.1
  have hwp := w.b p h3
  have loop : ∀ (n i : Nat) (v' : VV), 2 < i + n → i ≤ 2 → (∀ k, k ≠ 80 → k ≠ 81 → v' k = v k) → (∀ τ, τ < i → v' 80 τ = tq (soT S t pl p τ)  ∧ v' 81 τ = tq (eaT S t pl p τ) ) → CW G K 8 0 0 (MQ (kb K) (Qn G (gV fun v' L' => L' = L ∧ (∀ k, k ≠ 80 → k ≠ 81 → v' k = v k) ∧ Bx5 v' (soT S t pl p) (eaT S t pl p) (S 0))) (ka K) (ks K) 0 0 (gA G)) v' L 3 [some (.ref (gB G 79)), some (.ref (gB G 1)), some (.int (nI (t + 1))), some (.int (nI pl)), some (.int (nI p)), some (.int (nI i)), none, none] [] := by
    intro n
    induction n with
    | zero => intro i v' a1 a2; omega
    | succ n ih =>
      intro i v' a1 a2 a3 a4
      have inner : i < 2 → ∀ (m j : Nat) (v' : VV), S (13 + 6 * p) < j + m → j ≤ S (13 + 6 * p) → (∀ k, k ≠ 80 → k ≠ 81 → v' k = v k) → (∀ τ, τ < i → v' 80 τ = tq (soT S t pl p τ)  ∧ v' 81 τ = tq (eaT S t pl p τ) ) → v' 80 i = tq (eaz (fun q => thr S t pl q i) S p j)  → v' 81 i = tq (haz (fun q => thr S t pl q i) S p j)  → CW G K 8 0 0 (MQ (kb K) (Qn G (gV fun v' L' => L' = L ∧ (∀ k, k ≠ 80 → k ≠ 81 → v' k = v k) ∧ Bx5 v' (soT S t pl p) (eaT S t pl p) (S 0))) (ka K) (ks K) 0 0 (gA G)) v' L 38 [some (.ref (gB G 79)), some (.ref (gB G 1)), some (.int (nI (t + 1))), some (.int (nI pl)), some (.int (nI p)), some (.int (nI i)), some (.int (nI j)), none] [] := by
        intro hi m
        induction m with
        | zero => intro j v' b1 b2; omega
        | succ m ihm =>
          intro j v' b1 b2 b3 b4 b5 b6
          have hr' : RSt 1 v' S := hr.kept (fun k _ _ => b3 k (by omega) (by omega))
          have hcnt : v' 4 p = S (13 + 6 * p) := (hr'.b p h3).2.1
          refine r_iload F dX2_lookBehind_38 rfl ?_
          refine r_aload_n F dX2_lookBehind_40 rfl ?_
          refine r_getN (x := .ref (gB G 2)) (T := TX5) (n := 0) F uw5 rfl rfl tw_130 (Or.inl rfl) dX2_lookBehind_41 (kd_lt (rfl : kd 1 = (4,0,0)) (by decide)) (ce4 rfl) rfl ?_
          refine r_getN (x := .ref (gB G 4)) (T := TX0) (n := 1) F uw0 rfl rfl tw_118 (Or.inl rfl) dX2_lookBehind_44 (kd_lt (rfl : kd 2 = (0,0,0)) (by decide)) (ce0 rfl) rfl ?_
          refine r_iload F dX2_lookBehind_47 rfl ?_
          refine r_iald F dX2_lookBehind_49 rfl (by omega) ?_
          refine r_icge F dX2_lookBehind_50 (by omega) (by omega) (fun h50 => ?_) (fun h50 => ?_)
          · refine r_iinc5 (y := 1) F dX2_lookBehind_122 rfl rfl rfl rfl ?_
            refine r_goto F dX2_lookBehind_125 ?_
            refine r_dr6 ?_
            refine ih (i + 1) _ (by omega) (by omega) b3 (fun τ hτ => ?_)
            rcases Nat.lt_or_ge τ i with z | z
            · exact b4 τ z
            · rw [show τ = i by omega, b5, b6, show j = S (13 + 6 * p) by omega]
              exact ⟨rfl, rfl⟩
          · refine r_aload_n F dX2_lookBehind_53 rfl ?_
            refine r_iload_n F dX2_lookBehind_54 rfl ?_
            refine r_iconst (x := 1) F dX2_lookBehind_55 rfl ?_
            refine r_isub F dX2_lookBehind_56 (by omega) ?_
            refine r_iload_n F dX2_lookBehind_57 rfl ?_
            refine r_aload_n F dX2_lookBehind_58 rfl ?_
            refine r_getN (x := .ref (gB G 2)) (T := TX5) (n := 0) F uw5 rfl rfl tw_130 (Or.inl rfl) dX2_lookBehind_59 (kd_lt (rfl : kd 1 = (4,0,0)) (by decide)) (ce4 rfl) rfl ?_
            refine r_iload F dX2_lookBehind_62 rfl ?_
            refine r_iload F dX2_lookBehind_64 rfl ?_
            refine r_callN2q F fMX0_moveAt tw_469 rfl rfl rfl rfl dX2_lookBehind_66 rfl rfl z0 (m0_moveAt g bd2 hr'.b w.b h3 (i := j) (by omega)) ?_
            rw [show mvA S p j = nI (S (14 + 6 * p + j)) from if_pos (by omega), show t + 1 - 1 = t from rfl]
            have hq : S (14 + 6 * p + j) < 8 := hwp.2.2 j (by omega)
            refine r_iload F dX2_lookBehind_69 rfl ?_
            refine r_callU4i F fMX2_entry tw_473 tw_475 (Or.inl tw_526) (by decide) tw_477 tw_474 rfl rfl rfl rfl rfl dX2_lookBehind_71 rfl rfl z0 (m2_entry5 g (t := t) (by omega) h2 hq hi) ?_
            rw [show v' 82 (ix t pl (S (14 + 6 * p + j)) + i) = tq (thr S t pl (S (14 + 6 * p + j)) i)  by rw [b3 82 (by decide) (by decide)]; exact hE _ hq _ hi]
            refine r_ist7 F dX2_lookBehind_74 rfl rfl ?_
            refine r_aload_n F dX2_lookBehind_76 rfl ?_
            refine r_get (x := .ref (gB G 80)) (T := TX6) (n := 0) F uw6 rfl rfl tw_242 (Or.inl rfl) dX2_lookBehind_77 (kd_lt (rfl : kd 79 = (5,0,0)) (by decide)) (ce5 rfl) rfl ?_
            refine r_iload F dX2_lookBehind_80 rfl ?_
            refine r_aload_n F dX2_lookBehind_82 rfl ?_
            refine r_aload_n F dX2_lookBehind_83 rfl ?_
            refine r_get (x := .ref (gB G 80)) (T := TX6) (n := 0) F uw6 rfl rfl tw_242 (Or.inl rfl) dX2_lookBehind_84 (kd_lt (rfl : kd 79 = (5,0,0)) (by decide)) (ce5 rfl) rfl ?_
            refine r_iload F dX2_lookBehind_87 rfl ?_
            refine r_iald F dX2_lookBehind_89 rfl (by omega) ?_
            rw [b5]
            refine r_iload F dX2_lookBehind_90 rfl ?_
            refine r_callU2i F fMX6_either tw_479 tw_481 (Or.inl tw_480) (by decide) tw_485 tw_486 rfl rfl rfl rfl rfl dX2_lookBehind_92 rfl rfl z0 (m6_either g) ?_
            refine r_iast F dX2_lookBehind_95 rfl (by omega) ?_
            refine r_aload_n F dX2_lookBehind_96 rfl ?_
            refine r_get (x := .ref (gB G 81)) (T := TX6) (n := 1) F uw6 rfl rfl tw_247 (Or.inl rfl) dX2_lookBehind_97 (kd_lt (rfl : kd 79 = (5,0,0)) (by decide)) (ce5 rfl) rfl ?_
            refine r_iload F dX2_lookBehind_100 rfl ?_
            refine r_aload_n F dX2_lookBehind_102 rfl ?_
            refine r_aload_n F dX2_lookBehind_103 rfl ?_
            refine r_get (x := .ref (gB G 81)) (T := TX6) (n := 1) F uw6 rfl rfl tw_247 (Or.inl rfl) dX2_lookBehind_104 (kd_lt (rfl : kd 79 = (5,0,0)) (by decide)) (ce5 rfl) rfl ?_
            refine r_iload F dX2_lookBehind_107 rfl ?_
            refine r_iald F dX2_lookBehind_109 rfl (by omega) ?_
            have e77 : ∀ z, up2 v' 80 i z 81 i = tq (haz (fun q => thr S t pl q i) S p j)  := fun z => by rw [up2_k _ (by decide)]; exact b6
            rw [e77]
            refine r_iload F dX2_lookBehind_110 rfl ?_
            refine r_callU2i F fMX6_both tw_489 tw_491 (Or.inl tw_490) (by decide) tw_495 tw_496 rfl rfl rfl rfl rfl dX2_lookBehind_112 rfl rfl z0 (m6_both g) ?_
            refine r_iast F dX2_lookBehind_115 rfl (by omega) ?_
            refine r_iinc6 (y := 1) F dX2_lookBehind_116 rfl rfl rfl rfl ?_
            refine r_goto F dX2_lookBehind_119 ?_
            refine r_dr7 ?_
            refine ihm (j + 1) _ (by omega) (by omega) (fun k k1 k2 => ?_) (fun τ hτ => ⟨?_, ?_⟩) ?_ ?_
            · rw [up2_k _ k2, up2_k _ k1, b3 k k1 k2]
            · rw [up2_k _ (by decide), up2_j _ (by omega), (b4 τ hτ).1]
            · rw [up2_j _ (by omega), up2_k _ (by decide), (b4 τ hτ).2]
            · rw [up2_k _ (by decide), up2_s]; rfl
            · rw [up2_s]; rfl
      have hr1 : RSt 1 v' S := hr.kept (fun k _ _ => a3 k (by omega) (by omega))
      have ch : v' 1 1 = S 0 := hr1.1
      refine r_iload F dX2_lookBehind_3 rfl ?_
      refine r_iconst (x := 2) F dX2_lookBehind_5 rfl ?_
      refine r_icge F dX2_lookBehind_6 (by omega) (by omega) (fun h6 => ?_) (fun h6 => ?_)
      · exact r_vret F rfl dX2_lookBehind_128 ⟨rfl, rfl, a3, fun σ hσ => a4 σ (by omega)⟩
      · refine r_aload_n F dX2_lookBehind_9 rfl ?_
        refine r_get (x := .ref (gB G 80)) (T := TX6) (n := 0) F uw6 rfl rfl tw_242 (Or.inl rfl) dX2_lookBehind_10 (kd_lt (rfl : kd 79 = (5,0,0)) (by decide)) (ce5 rfl) rfl ?_
        refine r_iload F dX2_lookBehind_13 rfl ?_
        refine r_aload_n F dX2_lookBehind_15 rfl ?_
        refine r_callU0i F fMX6_nothing tw_454 tw_456 (Or.inl tw_455) (by decide) tw_460 tw_461 rfl rfl rfl rfl rfl dX2_lookBehind_16 rfl rfl z0 (m6_nothing g) ?_
        refine r_iast F dX2_lookBehind_19 rfl (by omega) ?_
        refine r_aload_n F dX2_lookBehind_20 rfl ?_
        refine r_get (x := .ref (gB G 81)) (T := TX6) (n := 1) F uw6 rfl rfl tw_247 (Or.inl rfl) dX2_lookBehind_21 (kd_lt (rfl : kd 79 = (5,0,0)) (by decide)) (ce5 rfl) rfl ?_
        refine r_iload F dX2_lookBehind_24 rfl ?_
        refine r_aload_n F dX2_lookBehind_26 rfl ?_
        refine r_aload_n F dX2_lookBehind_27 rfl ?_
        refine r_getN (T := TX5) (n := 1) F uw5 rfl rfl tw_133 (Or.inl rfl) dX2_lookBehind_28 (kd_lt (rfl : kd 1 = (4,0,0)) (by decide)) (ce4 rfl) rfl ?_
        have e1 : ∀ z, up2 v' 80 i z 1 1 = S 0 := fun z => by rw [up2_k _ (by decide)]; exact ch
        rw [e1]
        refine r_callU1i F fMX6_everything tw_445 tw_447 (Or.inl tw_446) (by decide) tw_451 tw_452 rfl rfl rfl rfl rfl dX2_lookBehind_31 rfl rfl z0 (m6_everything g) ?_
        refine r_iast F dX2_lookBehind_34 rfl (by omega) ?_
        refine r_iconst (x := 0) F dX2_lookBehind_35 rfl ?_
        refine r_ist6 F dX2_lookBehind_36 rfl rfl ?_
        refine inner (by omega) (S (13 + 6 * p) + 1) 0 _ (by omega) (by omega) (fun k k1 k2 => ?_) (fun τ hτ => ⟨?_, ?_⟩) ?_ ?_
        · rw [up2_k _ k2, up2_k _ k1, a3 k k1 k2]
        · rw [up2_k _ (by decide), up2_j _ (by omega), (a4 τ hτ).1]
        · rw [up2_j _ (by omega), up2_k _ (by decide), (a4 τ hτ).2]
        · rw [up2_k _ (by decide), up2_s]; rfl
        · rw [up2_s]; rfl
  refine r_iconst (x := 0) F dX2_lookBehind_0 rfl ?_
  refine r_ist5 F dX2_lookBehind_1 rfl rfl ?_
  exact loop 3 0 v (by omega) (by omega) (fun _ _ _ => rfl) (fun τ hτ => absurd hτ (Nat.not_lt_zero τ))
