theorem m8_part {G : GT} {v : VV} {L : LL} {a : AS} (g : GH G) (w : WA a) {i : Nat} {σ : AT} (h : ST v a i σ) : CC G MX8_readPart [.ref (gB G 83)] v L (gBl (PTs v L a (aN σ))) := by
  cases hr : rdB a i (aS σ) with
  | true => exact m8_partY g w h hr
  | false => exact m8_partN g w h hr
def zr (v : VV) (i : Nat) : VV := fun k j => if k = 90 ∧ j < i then 0 else v k j
theorem zr_0 (v : VV) : zr v 0 = v := by funext k j; unfold zr; rw [if_neg (by omega)]
theorem zr_k (v : VV) {k i : Nat} (h : k ≠ 90) : zr v i k = v k := by funext j; unfold zr; rw [if_neg (fun z => h z.1)]
theorem zr_at (v : VV) {i j : Nat} (h : j < i) : zr v i 90 j = 0 := by unfold zr; rw [if_pos ⟨rfl, h⟩]
theorem zr_up (v : VV) (i : Nat) : up2 (zr v i) 90 i 0 = zr v (i + 1) := by
  funext k j
  by_cases h1 : k = 90
  · subst h1
    by_cases h2 : j = i
    · subst h2; rw [up2_s, zr_at v (Nat.lt_succ_self j)]
    · rw [up2_j _ h2]
      unfold zr
      by_cases h3 : j < i
      · rw [if_pos ⟨rfl, h3⟩, if_pos ⟨rfl, by omega⟩]
      · rw [if_neg (by omega), if_neg (by omega)]
  · rw [up2_k _ h1, zr_k v h1, zr_k v h1]
def RTs (v : VV) (L : LL) (a : AS) : Bool → VV → LL → Prop := fun b v' L' => L' = L ∧ FrP v v' ∧ (b = true → ∃ σ, okL a σ ∧ (∀ j, j < 48 → v' 90 j = aB σ (12 + j)) ∧ v' 83 12 = aN σ) ∧ (b = false → v' 83 10 = erN (sT a) (sL a) ∧ ∀ τ, ¬ okL a τ)
set_option maxHeartbeats 16000000 in
theorem m8_readText {G : GT} {v : VV} {L : LL} {a : AS} (g : GH G) (h : IM v a) (w : WA a) : CC G MX8_readText [.ref (gB G 83)] v L (gBl (RTs v L a)) := by
  refine cc_of g [some (.ref (gB G 83)), none] rfl rfl rfl rfl (fun K F => ?_)
  have wl : sL a ≤ 60 := w.2.2.2.2.1
  have badx : ∀ v', FrP v v' → (v' 83 10 = erN (sT a) (sL a) ∧ ∀ τ, ¬ okL a τ) → CW G K 2 0 0 (MQ (kb K) (Qn G (gBl (RTs v L a))) (ka K) (ks K) 0 0 (gA G)) v' L 41 [some (.ref (gB G 83)), some (.int (nI 0))] [] := by
    intro v' hf hb
    refine r_iload_n F dX8_readText_41 rfl ?_
    refine r_ifeq F dX8_readText_42 (by omega) (fun h42 => ?_) (fun h42 => ?_)
    · refine r_iload_n F dX8_readText_90 rfl ?_
      exact r_iret F rfl (nb01 (by decide)) dX8_readText_91 ⟨false, rfl, rfl, hf, fun z => (by cases z), fun _ => hb⟩
    · exact absurd rfl h42
  have go : ∀ (n i : Nat) (σ : AT) (v' : VV), 8 < aN σ + n → GO v' a i σ → FrP v v' → CW G K 2 0 0 (MQ (kb K) (Qn G (gBl (RTs v L a))) (ka K) (ks K) 0 0 (gA G)) v' L 41 [some (.ref (gB G 83)), some (.int (nI 1))] [] := by
    intro n
    induction n with
    | zero => intro i σ v' a1 hg; have := (au_W hg.2.1).1.2.1; omega
    | succ n ih =>
      intro i σ v' a1 hg hf
      obtain ⟨t, e, e3, es, bd, np, sm, hz⟩ := hg
      have q6 := t.1
      have q10 := t.2.2.1
      have q4 := t.2.2.2
      have wσ := (au_W e).1
      have wn : aN σ ≤ 8 := wσ.2.1
      have bad : i < sL a → spE σ (sT a i) = none → (v' 83 10 = erN (sT a) (sL a) ∧ ∀ τ, ¬ okL a τ) := fun hi he => by
        obtain ⟨y1, y2⟩ := bad1 hi e (by rw [es hi]; exact he)
        exact ⟨by rw [q10, y1], y2⟩
      cases hx : nxB a i 59 59 with
      | false =>
        have he : i < sL a → spE σ (sT a i) = none := fun hi => by
          unfold spE
          refine if_neg (fun z => ?_)
          unfold nxB at hx
          rw [decide_eq_true ⟨hi, by omega, by omega⟩] at hx
          cases hx
        refine r_iload_n F dX8_readText_41 rfl ?_
        refine r_ifeq F dX8_readText_42 (by omega) (fun h42 => ?_) (fun h42 => ?_)
        · exact absurd h42 (by decide)
        · refine r_aload_n F dX8_readText_45 rfl ?_
          refine r_get (T := TX8) (n := 10) F uw8 rfl rfl tw_887 (Or.inl rfl) dX8_readText_46 (kd_lt (rfl : kd 83 = (7,0,0)) (by decide)) (ce7 rfl) rfl ?_
          refine r_aload_n F dX8_readText_49 rfl ?_
          refine r_get (T := TX8) (n := 6) F uw8 rfl rfl tw_883 (Or.inl rfl) dX8_readText_50 (kd_lt (rfl : kd 83 = (7,0,0)) (by decide)) (ce7 rfl) rfl ?_
          rw [q10, q6]
          refine r_icge F dX8_readText_53 (by omega) (by omega) (fun h53 => ?_) (fun h53 => ?_)
          · refine r_iload_n F dX8_readText_90 rfl ?_
            have ei : i = sL a := by omega
            subst ei
            exact r_iret F rfl (nb01 (by decide)) dX8_readText_91 ⟨true, rfl, rfl, hf, fun _ => ⟨σ, ⟨e, e3⟩, bd, np⟩, fun z => (by cases z)⟩
          · refine r_aload_n F dX8_readText_56 rfl ?_
            refine r_get (T := TX8) (n := 12) F uw8 rfl rfl tw_889 (Or.inl rfl) dX8_readText_57 (kd_lt (rfl : kd 83 = (7,0,0)) (by decide)) (ce7 rfl) rfl ?_
            refine r_bipush (x := 8) F dX8_readText_60 rfl ?_
            rw [np]
            refine r_icge F dX8_readText_62 (by omega) (by omega) (fun h62 => ?_) (fun h62 => ?_)
            · refine r_iconst (x := 0) F dX8_readText_85 rfl ?_
              refine r_ist1 F dX8_readText_86 rfl rfl ?_
              refine r_goto F dX8_readText_87 ?_
              exact badx v' hf (bad h53 (he h53))
            · refine r_aload_n F dX8_readText_65 rfl ?_
              refine r_bipush (x := 59) F dX8_readText_66 rfl ?_
              refine r_callV1i F fMX8_takes tw_1025 rfl rfl rfl rfl dX8_readText_68 rfl rfl z0 (m8_takes g w t (c := 59) (by decide)) ?_
              rw [if_neg (by rw [hx]; decide)]
              refine r_Beq F dX8_readText_71 (fun h71 => ?_) (fun h71 => ?_)
              · refine r_iconst (x := 0) F dX8_readText_85 rfl ?_
                refine r_ist1 F dX8_readText_86 rfl rfl ?_
                refine r_goto F dX8_readText_87 ?_
                exact badx v' hf (bad h53 (he h53))
              · exact absurd h71 (by rw [hx]; decide)
      | true =>
        have hn : i < sL a ∧ 59 ≤ sT a i ∧ sT a i ≤ 59 := of_decide_eq_true hx
        obtain ⟨v2, hv2⟩ : ∃ v2, v2 = up2 v' 83 10 (i + 1) := ⟨_, rfl⟩
        have f2 : FrP v v2 := hf.trans ⟨fun k k1 k2 => by rw [hv2, up2_k _ k1], fun j j1 j2 j3 => by rw [hv2, up2_j _ j1]⟩
        have hs : aN σ < 8 → ST v2 a (i + 1) (0, aP σ, aN σ, aS σ, aB σ) := fun h8 => by
          refine ⟨by rw [hv2]; exact t.go hn.1, ?_, rfl, fun j hj => by rw [hv2, up2_k _ (by decide)]; exact bd j hj, by rw [hv2, up2_j _ (by decide)]; exact np, ?_, hz⟩
          · rw [au_s, e]
            show sp σ (sT a i) = _
            rw [es hn.1]
            unfold spE
            rw [if_pos ⟨by omega, h8⟩]
          · obtain ⟨m, m1, m2⟩ := sm
            exact ⟨m, by rw [hv2, up2_j _ (by decide)]; exact m1, m2⟩
        refine r_iload_n F dX8_readText_41 rfl ?_
        refine r_ifeq F dX8_readText_42 (by omega) (fun h42 => ?_) (fun h42 => ?_)
        · exact absurd h42 (by decide)
        · refine r_aload_n F dX8_readText_45 rfl ?_
          refine r_get (T := TX8) (n := 10) F uw8 rfl rfl tw_887 (Or.inl rfl) dX8_readText_46 (kd_lt (rfl : kd 83 = (7,0,0)) (by decide)) (ce7 rfl) rfl ?_
          refine r_aload_n F dX8_readText_49 rfl ?_
          refine r_get (T := TX8) (n := 6) F uw8 rfl rfl tw_883 (Or.inl rfl) dX8_readText_50 (kd_lt (rfl : kd 83 = (7,0,0)) (by decide)) (ce7 rfl) rfl ?_
          rw [q10, q6]
          refine r_icge F dX8_readText_53 (by omega) (by omega) (fun h53 => ?_) (fun h53 => ?_)
          · omega
          · refine r_aload_n F dX8_readText_56 rfl ?_
            refine r_get (T := TX8) (n := 12) F uw8 rfl rfl tw_889 (Or.inl rfl) dX8_readText_57 (kd_lt (rfl : kd 83 = (7,0,0)) (by decide)) (ce7 rfl) rfl ?_
            refine r_bipush (x := 8) F dX8_readText_60 rfl ?_
            rw [np]
            refine r_icge F dX8_readText_62 (by omega) (by omega) (fun h62 => ?_) (fun h62 => ?_)
            · skip
              refine r_iconst (x := 0) F dX8_readText_85 rfl ?_
              refine r_ist1 F dX8_readText_86 rfl rfl ?_
              refine r_goto F dX8_readText_87 ?_
              exact badx v' hf (bad hn.1 (by unfold spE; rw [if_neg (by omega)]))
            · refine r_aload_n F dX8_readText_65 rfl ?_
              refine r_bipush (x := 59) F dX8_readText_66 rfl ?_
              refine r_callV1i F fMX8_takes tw_1025 rfl rfl rfl rfl dX8_readText_68 rfl rfl z0 (m8_takes g w t (c := 59) (by decide)) ?_
              rw [if_pos hx, ← hv2]
              refine r_Beq F dX8_readText_71 (fun h71 => ?_) (fun h71 => ?_)
              · exact absurd h71 (by rw [hx]; decide)
              · refine r_aload_n F dX8_readText_74 rfl ?_
                refine r_callV0k F fMX8_readPart tw_1013 rfl rfl rfl rfl dX8_readText_75 rfl rfl z0 (m8_part g w (hs h62)) ?_
                rintro b v3 L3 ⟨rfl, y1, y2, y3⟩
                refine r_Beq F dX8_readText_78 (fun h78 => ?_) (fun h78 => ?_)
                · refine r_iconst (x := 0) F dX8_readText_85 rfl ?_
                  refine r_ist1 F dX8_readText_86 rfl rfl ?_
                  refine r_goto F dX8_readText_87 ?_
                  first
                    | (obtain ⟨i3, σ3, u0, u⟩ := y2 h78
                       exact ih i3 σ3 v3 (by rw [u0]; show 8 < aN σ + 1 + n; omega) u (f2.trans y1))
                    | exact badx v3 (f2.trans y1) (y3 h78)
                · refine r_iconst (x := 1) F dX8_readText_81 rfl ?_
                  refine r_goto F dX8_readText_82 ?_
                  refine r_ist1 F dX8_readText_86 rfl rfl ?_
                  refine r_goto F dX8_readText_87 ?_
                  first
                    | (obtain ⟨i3, σ3, u0, u⟩ := y2 h78
                       exact ih i3 σ3 v3 (by rw [u0]; show 8 < aN σ + 1 + n; omega) u (f2.trans y1))
                    | exact badx v3 (f2.trans y1) (y3 h78)
  have zero : ∀ (n i : Nat) (v1 : VV), 48 < i + n → i ≤ 48 → v1 = zr (up2 (up2 (up2 v 83 10 0) 83 11 0) 83 12 0) i → CW G K 2 0 0 (MQ (kb K) (Qn G (gBl (RTs v L a))) (ka K) (ks K) 0 0 (gA G)) v1 L 17 [some (.ref (gB G 83)), some (.int (nI i))] [] := by
    intro n
    induction n with
    | zero => intro i v1 a1 a2; omega
    | succ n ih =>
      intro i v1 a1 a2 e1
      have f1 : FrP v v1 := ⟨fun k k1 k2 => by rw [e1, zr_k _ k2, up2_k _ k1, up2_k _ k1, up2_k _ k1], fun j j1 j2 j3 => by rw [e1, zr_k _ (by decide), up2_j _ j3, up2_j _ j2, up2_j _ j1]⟩
      have hs : i = 48 → ST v1 a 0 (0, 0, 0, fun _ => false, fun _ => 0) := fun ei => by
        subst ei
        refine ⟨⟨by rw [f1.2 6 (by decide) (by decide) (by decide)]; exact h.2.2.2.2.1, fun j hj => by rw [f1.1 88 (by decide) (by decide)]; exact h.2.2.2.2.2 j hj, by rw [e1, zr_k _ (by decide), up2_j _ (by decide), up2_j _ (by decide), up2_s], Nat.zero_le _⟩, rfl, rfl, fun j hj => by rw [e1, zr_at _ hj], by rw [e1, zr_k _ (by decide), up2_s], ⟨0, by rw [e1, zr_k _ (by decide), up2_j _ (by decide), up2_s], by decide, fun p hp => by show 0 / 2 ^ p % 2 = 0; rw [Nat.zero_div]⟩, fun _ _ _ => rfl⟩
      refine r_iload_n F dX8_readText_17 rfl ?_
      refine r_bipush (x := 48) F dX8_readText_18 rfl ?_
      refine r_icge F dX8_readText_20 (by omega) (by omega) (fun h20 => ?_) (fun h20 => ?_)
      · refine r_aload_n F dX8_readText_36 rfl ?_
        refine r_callV0k F fMX8_readPart tw_1013 rfl rfl rfl rfl dX8_readText_37 rfl rfl z0 (m8_part g w (hs (by omega))) ?_
        rintro b v3 L3 ⟨rfl, y1, y2, y3⟩
        cases b with
        | true =>
          obtain ⟨i3, σ3, u0, u⟩ := y2 rfl
          refine r_ist1 F dX8_readText_40 rfl rfl ?_
          exact go 9 i3 σ3 v3 (by omega) u (f1.trans y1)
        | false =>
          refine r_ist1 F dX8_readText_40 rfl rfl ?_
          exact badx v3 (f1.trans y1) (y3 rfl)
        skip
      · refine r_aload_n F dX8_readText_23 rfl ?_
        refine r_get (x := .ref (gB G 90)) (T := TX8) (n := 9) F uw8 rfl rfl tw_886 (Or.inl rfl) dX8_readText_24 (kd_lt (rfl : kd 83 = (7,0,0)) (by decide)) (ce7 rfl) rfl ?_
        refine r_iload_n F dX8_readText_27 rfl ?_
        refine r_iconst (x := 0) F dX8_readText_28 rfl ?_
        refine r_iast F dX8_readText_29 rfl (by omega) ?_
        refine r_iinc1 (y := 1) F dX8_readText_30 rfl rfl rfl rfl ?_
        refine r_goto F dX8_readText_33 ?_
        exact ih (i + 1) _ (by omega) (by omega) (by rw [e1, zr_up])
  refine r_aload_n F dX8_readText_0 rfl ?_
  refine r_iconst (x := 0) F dX8_readText_1 rfl ?_
  refine r_put (T := TX8) (n := 10) (ty0 := tyX8) (ty := .int) F uw8 tyX8_ok nmX8 rfl rfl tw_887 (Or.inl rfl) rfl rfl rfl rfl dX8_readText_2 (kd_lt (rfl : kd 83 = (7,0,0)) (by decide)) (ce7 rfl) rfl (pe7_10 rfl) up2_ce ?_
  refine r_aload_n F dX8_readText_5 rfl ?_
  refine r_iconst (x := 0) F dX8_readText_6 rfl ?_
  refine r_put (T := TX8) (n := 11) (ty0 := tyX8) (ty := .int) F uw8 tyX8_ok nmX8 rfl rfl tw_888 (Or.inl rfl) rfl rfl rfl rfl dX8_readText_7 (kd_lt (rfl : kd 83 = (7,0,0)) (by decide)) (ce7 rfl) rfl (pe7_11 rfl) up2_ce ?_
  refine r_aload_n F dX8_readText_10 rfl ?_
  refine r_iconst (x := 0) F dX8_readText_11 rfl ?_
  refine r_put (T := TX8) (n := 12) (ty0 := tyX8) (ty := .int) F uw8 tyX8_ok nmX8 rfl rfl tw_889 (Or.inl rfl) rfl rfl rfl rfl dX8_readText_12 (kd_lt (rfl : kd 83 = (7,0,0)) (by decide)) (ce7 rfl) rfl (pe7_12 rfl) up2_ce ?_
  refine r_iconst (x := 0) F dX8_readText_15 rfl ?_
  refine r_ist1 F dX8_readText_16 rfl rfl ?_
  exact zero 49 0 _ (by omega) (by omega) (zr_0 _).symm
theorem FrP.m {v v' : VV} (h : FrP v v') : FrM v v' := fun k hk => h.1 k (by omega) (by omega)
theorem FrP.im {v v' : VV} {a : AS} (h : FrP v v') (hi : IM v a) : IM v' a := hi.kept (fun k _ _ => h.1 k (by omega) (by omega)) (h.2 2 (by decide) (by decide) (by decide)) (h.2 6 (by decide) (by decide) (by decide))
set_option maxHeartbeats 8000000 in
theorem m8_firstError {G : GT} {v : VV} {L : LL} {a : AS} (g : GH G) (h : IM v a) (w : WA a) : CC G MX8_firstError [.ref (gB G 83)] v L (gI (PMo v L a (nI (erN (sT a) (sL a))))) := by
  refine cc_of g [some (.ref (gB G 83))] rfl rfl rfl rfl (fun K F => ?_)
  refine r_aload_n F dX8_firstError_0 rfl ?_
  refine r_iconst (x := 0) F dX8_firstError_1 rfl ?_
  refine r_put (T := TX8) (n := 7) (ty0 := tyX8) (ty := .int) F uw8 tyX8_ok nmX8 rfl rfl tw_884 (Or.inl rfl) rfl rfl rfl rfl dX8_firstError_2 (kd_lt (rfl : kd 83 = (7,0,0)) (by decide)) (ce7 rfl) rfl (pe7_7 rfl) up2_ce ?_
  refine r_aload_n F dX8_firstError_5 rfl ?_
  refine r_callV0k F fMX8_readText tw_1009 rfl rfl rfl rfl dX8_firstError_6 rfl rfl z0 (m8_readText g (h.thr 0) w) ?_
  rintro b v1 L1 ⟨rfl, y1, y2, y3⟩
  have hp : FrM v v1 ∧ v1 83 7 = 0 ∧ IM v1 a := ⟨(ok_m h).1.trans y1.m, by rw [y1.2 7 (by decide) (by decide) (by decide), up2_s], y1.im (h.thr 0)⟩
  refine r_Beq F dX8_firstError_9 (fun h9 => ?_) (fun h9 => ?_)
  · refine r_aload_n F dX8_firstError_19 rfl ?_
    refine r_get (T := TX8) (n := 10) F uw8 rfl rfl tw_887 (Or.inl rfl) dX8_firstError_20 (kd_lt (rfl : kd 83 = (7,0,0)) (by decide)) (ce7 rfl) rfl ?_
    first
      | exact r_iret F rfl rfl dX8_firstError_23 ⟨_, rfl, by rw [(y3 h9).1], rfl, hp⟩
      | (obtain ⟨σ, z1, -⟩ := y2 h9
         exact r_iret F rfl rfl dX8_firstError_23 ⟨_, rfl, by rw [er_end z1.1, hp.2.2.2.2.2.2.1], rfl, hp⟩)
  · refine r_aload_n F dX8_firstError_12 rfl ?_
    refine r_get (T := TX8) (n := 6) F uw8 rfl rfl tw_883 (Or.inl rfl) dX8_firstError_13 (kd_lt (rfl : kd 83 = (7,0,0)) (by decide)) (ce7 rfl) rfl ?_
    refine r_goto F dX8_firstError_16 ?_
    first
      | exact r_iret F rfl rfl dX8_firstError_23 ⟨_, rfl, by rw [(y3 h9).1], rfl, hp⟩
      | (obtain ⟨σ, z1, -⟩ := y2 h9
         exact r_iret F rfl rfl dX8_firstError_23 ⟨_, rfl, by rw [er_end z1.1, hp.2.2.2.2.2.2.1], rfl, hp⟩)
theorem ldS_cp (S B : Nat → Nat) {i j : Nat} (hj : j < 12) (h5 : j ≠ 5) : ldS S B j = S j := by unfold ldS; rw [if_neg (by omega), if_neg h5]
set_option maxHeartbeats 8000000 in
theorem t8_load {G : GT} {v : VV} {L : LL} {a : AS} (g : GH G) (h : IM v a) (w : WA a) (hk : ∀ σ, ¬ okL a σ) : CC G MX8_load [.ref (gB G 83)] v L (gI (PMt v L a 1)) := by
  refine cc_of g [some (.ref (gB G 83)), none] rfl rfl rfl rfl (fun K F => ?_)
  refine r_aload_n F dX8_load_0 rfl ?_
  refine r_aload_n F dX8_load_1 rfl ?_
  refine r_callV0k F fMX8_readText tw_1009 rfl rfl rfl rfl dX8_load_2 rfl rfl z0 (m8_readText g h w) ?_
  rintro b v1 L1 ⟨rfl, y1, y2, y3⟩
  refine r_Beq F dX8_load_5 (fun h5 => ?_) (fun h5 => ?_)
  · refine r_iconst (x := 1) F dX8_load_12 rfl ?_
    refine r_callV1i F fMX8_holds tw_942 rfl rfl rfl rfl dX8_load_13 rfl rfl z0 (m8_holds g (x := 1) (by decide)) ?_
    refine r_Bne F dX8_load_16 (fun h16 => ?_) (fun h16 => ?_)
    · exact absurd h16 (by decide)
    · refine r_iconst (x := 0) F dX8_load_19 rfl ?_
      exact r_iret F rfl rfl dX8_load_20 ⟨_, rfl, rfl, y1.m.trans ((FrM.rf v1).up (by decide) (by decide)), up2_s _ _ _ _, (y1.im h).thr 1⟩
  · obtain ⟨σ, z1, -⟩ := y2 h5
    exact absurd z1 (hk σ)
set_option maxHeartbeats 8000000 in
theorem m8_load {G : GT} {v : VV} {L : LL} {a : AS} (g : GH G) (h : IM v a) (w : WA a) {σ : AT} (hk : okL a σ) : CC G MX8_load [.ref (gB G 83)] v L (gI (PMo v L (ldA a σ) (nI (aN σ)))) := by
  refine cc_of g [some (.ref (gB G 83)), none] rfl rfl rfl rfl (fun K F => ?_)
  have lo : ∀ (v1 v2 : VV), FrP v v1 → SV (up2 v1 83 7 0) v2 a → (∀ j, j < 48 → v2 90 j = aB σ (12 + j)) → v2 83 12 = aN σ → ∀ (m n : Nat), 48 < n + m → n ≤ 48 → CW G K 2 0 0 (MQ (kb K) (Qn G (gI (PMo v L (ldA a σ) (nI (aN σ))))) (ka K) (ks K) 0 0 (gA G)) (cpR v2 90 0 84 12 n) L 27 [some (.ref (gB G 83)), some (.int (nI n))] [] := by
    intro v1 v2 hf hs hb hn m
    induction m with
    | zero => intro n a1 a2; omega
    | succ m ih =>
      intro n a1 a2
      have e3 : cpR v2 90 0 84 12 n 90 n = v2 90 (0 + n) := by rw [cpR_k _ (by decide), Nat.zero_add]
      have e12 : cpR v2 90 0 84 12 n 83 12 = aN σ := by rw [cpR_k _ (by decide)]; exact hn
      refine r_iload_n F dX8_load_27 rfl ?_
      refine r_bipush (x := 48) F dX8_load_28 rfl ?_
      refine r_icge F dX8_load_30 (by omega) (by omega) (fun h30 => ?_) (fun h30 => ?_)
      · refine r_aload_n F dX8_load_54 rfl ?_
        refine r_get (x := .ref (gB G 84)) (T := TX8) (n := 0) F uw8 rfl rfl tw_877 (Or.inl rfl) dX8_load_55 (kd_lt (rfl : kd 83 = (7,0,0)) (by decide)) (ce7 rfl) rfl ?_
        refine r_iconst (x := 5) F dX8_load_58 rfl ?_
        refine r_iconst (x := 0) F dX8_load_59 rfl ?_
        refine r_iast F dX8_load_60 rfl (by omega) ?_
        refine r_aload_n F dX8_load_61 rfl ?_
        refine r_iconst (x := 0) F dX8_load_62 rfl ?_
        refine r_put (T := TX8) (n := 6) (ty0 := tyX8) (ty := .int) F uw8 tyX8_ok nmX8 rfl rfl tw_883 (Or.inl rfl) rfl rfl rfl rfl dX8_load_63 (kd_lt (rfl : kd 83 = (7,0,0)) (by decide)) (ce7 rfl) rfl (pe7_6 rfl) up2_ce ?_
        refine r_aload_n F dX8_load_66 rfl ?_
        refine r_get (T := TX8) (n := 12) F uw8 rfl rfl tw_889 (Or.inl rfl) dX8_load_67 (kd_lt (rfl : kd 83 = (7,0,0)) (by decide)) (ce7 rfl) rfl ?_
        rw [up2_j (b := 12) _ (by decide), up2_k (a := 83) _ (by decide), e12]
        have en : n = 48 := by omega
        subst en
        have hrm : RM (up2 (cpR v2 90 0 84 12 48) 84 5 0) (ldS (sS a) (aB σ)) := fun j hj => by
          unfold ldS
          by_cases c : 12 ≤ j ∧ j < 60
          · obtain ⟨x, rfl⟩ : ∃ x, j = 12 + x := ⟨j - 12, by omega⟩
            rw [if_pos c, up2_j _ (by omega), cpR_at _ (by omega), Nat.zero_add]
            exact hb x (by omega)
          · rw [if_neg c]
            by_cases j5 : j = 5
            · rw [j5, if_pos rfl, up2_s]
            · rw [if_neg j5, up2_j _ j5, cpR_out _ (by omega)]; exact hs.rm j hj
        obtain ⟨z1, z2, i1, i2, i3, i4, i5, i6⟩ := hs.to (v := v1) rfl hrm (fun k hk => by rw [up2_k _ hk, cpR_k _ hk])
        exact r_iret F rfl rfl dX8_load_70 ⟨_, rfl, rfl, rfl, hf.m.trans (z1.up (by decide) (by decide)), by rw [up2_j _ (by decide)]; exact z2, fun j hj => by rw [up2_k _ (by decide)]; exact i1 j hj, by rw [up2_j _ (by decide)]; exact i2, fun i hi j hj => by rw [up2_k _ (by decide)]; exact i3 i hi j hj, fun i hi => by rw [up2_k (a := 87) _ (by decide), up2_k (a := 86) _ (by decide)]; exact i4 i hi, up2_s _ _ _ _, fun i hi => absurd hi (Nat.not_lt_zero i)⟩
      · refine r_aload_n F dX8_load_33 rfl ?_
        refine r_get (x := .ref (gB G 84)) (T := TX8) (n := 0) F uw8 rfl rfl tw_877 (Or.inl rfl) dX8_load_34 (kd_lt (rfl : kd 83 = (7,0,0)) (by decide)) (ce7 rfl) rfl ?_
        refine r_bipush (x := 12) F dX8_load_37 rfl ?_
        refine r_iload_n F dX8_load_39 rfl ?_
        refine r_iadd F dX8_load_40 ?_
        refine r_aload_n F dX8_load_41 rfl ?_
        refine r_get (x := .ref (gB G 90)) (T := TX8) (n := 9) F uw8 rfl rfl tw_886 (Or.inl rfl) dX8_load_42 (kd_lt (rfl : kd 83 = (7,0,0)) (by decide)) (ce7 rfl) rfl ?_
        refine r_iload_n F dX8_load_45 rfl ?_
        refine r_iald F dX8_load_46 rfl (by omega) ?_
        rw [e3]
        refine r_iast F dX8_load_47 rfl (by omega) ?_
        refine r_iinc1 (y := 1) F dX8_load_48 rfl rfl rfl rfl ?_
        refine r_goto F dX8_load_51 ?_
        rw [cpR_s]; exact ih (n + 1) (by omega) (by omega)
  refine r_aload_n F dX8_load_0 rfl ?_
  refine r_aload_n F dX8_load_1 rfl ?_
  refine r_callV0k F fMX8_readText tw_1009 rfl rfl rfl rfl dX8_load_2 rfl rfl z0 (m8_readText g h w) ?_
  rintro b v1 L1 ⟨rfl, y1, y2, y3⟩
  refine r_Beq F dX8_load_5 (fun h5 => ?_) (fun h5 => ?_)
  · exact absurd hk ((y3 h5).2 σ)
  · refine r_iconst (x := 0) F dX8_load_8 rfl ?_
    refine r_goto F dX8_load_9 ?_
    refine r_callV1i F fMX8_holds tw_942 rfl rfl rfl rfl dX8_load_13 rfl rfl z0 (m8_holds g (x := 0) (by decide)) ?_
    refine r_Bne F dX8_load_16 (fun h16 => ?_) (fun h16 => ?_)
    · refine r_aload_n F dX8_load_21 rfl ?_
      refine r_callV0w F fMX8_save tw_946 rfl rfl rfl rfl dX8_load_22 rfl rfl z0 (m8_save g ((y1.im h).thr 0) w) ?_
      rintro v2 L2 ⟨rfl, hs⟩
      obtain ⟨σ2, z1, z2, z3⟩ := y2 h5
      have eσ : σ2 = σ := Option.some.inj (z1.1.symm.trans hk.1)
      rw [eσ] at z2 z3
      refine r_iconst (x := 0) F dX8_load_25 rfl ?_
      refine r_ist1 F dX8_load_26 rfl rfl ?_
      have := lo v1 v2 y1 hs (fun j hj => by rw [hs.1 90 (by decide) (by decide), up2_k _ (by decide)]; exact z2 j hj) (by rw [hs.2.1 12 (by decide), up2_j _ (by decide)]; exact z3) 49 0 (by omega) (by omega)
      rw [cpR_0] at this
      exact this
    · exact absurd h16 (by decide)
