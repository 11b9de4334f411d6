theorem r_callV6i {G : GT} {K : KT} {M : MD} {c s cells slots : Nat} {Q : State → Prop} {v : VV} {L : LL} {pc q : Nat} {lv : List (Option Value)} {st : List Value} {x9 : Nat} {v1 : VV} {L1 : LL} {x1 x2 x3 x4 x5 x6 : Value} {M' : MD} {ix k ci N : Nat} {T : u_T} (F : Fx G K M c s) (f : MFv M') (lk : TW (.methodLink (mo M) ix (my M'))) (ok : rok M M' = true) (hk : kd k = (ci,0,0)) (hc : Nat.ble (ci+1) 8 = true) (hC : vwCl[ci]? = some (mo M', T, N)) (d : DD (mb M) pc (.invokevirtual ix) 3 q) (hn : mn M' = 6) (hw : Nat.ble ((st.map fun v => v.category).sum) 8 = true) (z : cells ≤ c ∧ slots ≤ s) (hM : CC G M' (.ref (gB G k) :: [x1, x2, x3, x4, x5, x6]) v L (rI x9 v1 L1)) (kk : CW G K (ml M) cells slots Q v1 L1 q lv (.int (nI x9) :: st)) : CW G K (ml M) cells slots Q v L pc lv (x6 :: x5 :: x4 :: x3 :: x2 :: x1 :: .ref (gB G k) :: st) := r_callV (As := [x1, x2, x3, x4, x5, x6]) F f lk ok hk hc hC d hn.symm hw z hM (fun _ _ _ h => by obtain ⟨rfl, rfl, rfl⟩ := h; exact kk)
theorem r_callV7i {G : GT} {K : KT} {M : MD} {c s cells slots : Nat} {Q : State → Prop} {v : VV} {L : LL} {pc q : Nat} {lv : List (Option Value)} {st : List Value} {x9 : Nat} {v1 : VV} {L1 : LL} {x1 x2 x3 x4 x5 x6 x7 : Value} {M' : MD} {ix k ci N : Nat} {T : u_T} (F : Fx G K M c s) (f : MFv M') (lk : TW (.methodLink (mo M) ix (my M'))) (ok : rok M M' = true) (hk : kd k = (ci,0,0)) (hc : Nat.ble (ci+1) 8 = true) (hC : vwCl[ci]? = some (mo M', T, N)) (d : DD (mb M) pc (.invokevirtual ix) 3 q) (hn : mn M' = 7) (hw : Nat.ble ((st.map fun v => v.category).sum) 8 = true) (z : cells ≤ c ∧ slots ≤ s) (hM : CC G M' (.ref (gB G k) :: [x1, x2, x3, x4, x5, x6, x7]) v L (rI x9 v1 L1)) (kk : CW G K (ml M) cells slots Q v1 L1 q lv (.int (nI x9) :: st)) : CW G K (ml M) cells slots Q v L pc lv (x7 :: x6 :: x5 :: x4 :: x3 :: x2 :: x1 :: .ref (gB G k) :: st) := r_callV (As := [x1, x2, x3, x4, x5, x6, x7]) F f lk ok hk hc hC d hn.symm hw z hM (fun _ _ _ h => by obtain ⟨rfl, rfl, rfl⟩ := h; exact kk)
/-- what is laid with t turns -/
def HL (v : VV) (S : Nat → Nat) (t : Nat) : Prop := ∀ pl, pl < 2 → ∀ q, q < 8 → ∀ σ, σ < 2 → v 89 (32 * t + 16 * pl + 2 * q + σ) = thr S t pl q σ
set_option maxHeartbeats 4000000 in
theorem m8_leastAt {G : GT} {v : VV} {L : LL} (g : GH G) {t pl p st : Nat} (h1 : t < 13) (h2 : pl < 2) (h3 : p < 8) (h4 : st < 2) : CC G MX8_leastAt [.ref (gB G 83), .int (nI t), .int (nI pl), .int (nI p), .int (nI st)] v L (rI (v 89 (32 * t + 16 * pl + 2 * p + st)) v L) := by
  refine cc_of g [some (.ref (gB G 83)), some (.int (nI t)), some (.int (nI pl)), some (.int (nI p)), some (.int (nI st))] rfl rfl rfl rfl (fun K F => ?_)
  refine r_aload_n F dX8_leastAt_0 rfl ?_
  refine r_get (x := .ref (gB G 89)) (T := TX8) (n := 8) F uw8 rfl rfl tw_885 (Or.inl rfl) dX8_leastAt_1 (kd_lt (rfl : kd 83 = (7,0,0)) (by decide)) (ce7 rfl) rfl ?_
  refine r_bipush (x := 32) F dX8_leastAt_4 rfl ?_
  refine r_iload_n F dX8_leastAt_6 rfl ?_
  refine r_imul F dX8_leastAt_7 ?_
  refine r_bipush (x := 16) F dX8_leastAt_8 rfl ?_
  refine r_iload_n F dX8_leastAt_10 rfl ?_
  refine r_imul F dX8_leastAt_11 ?_
  refine r_iadd F dX8_leastAt_12 ?_
  refine r_iconst (x := 2) F dX8_leastAt_13 rfl ?_
  refine r_iload_n F dX8_leastAt_14 rfl ?_
  refine r_imul F dX8_leastAt_15 ?_
  refine r_iadd F dX8_leastAt_16 ?_
  refine r_iload F dX8_leastAt_17 rfl ?_
  refine r_iadd F dX8_leastAt_19 ?_
  refine r_iald F dX8_leastAt_20 rfl (by omega) ?_
  exact i_iret F rfl dX8_leastAt_21 rfl rfl rfl
set_option maxHeartbeats 8000000 in
theorem m8_easiest {G : GT} {v : VV} {L : LL} (g : GH G) {S : Nat → Nat} (hr : RM v S) (w : WS S) {t pl p st : Nat} (h1 : t < 13) (h2 : pl < 2) (h3 : p < 8) (h4 : st < 2) (hL : HL v S t) : CC G MX8_easiest [.ref (gB G 83), .int (nI t), .int (nI pl), .int (nI p), .int (nI st)] v L (rI (eaz (fun q => thr S t pl q st) S p (S (13 + 6 * p))) v L) := by
  refine cc_of g [some (.ref (gB G 83)), some (.int (nI t)), some (.int (nI pl)), some (.int (nI p)), some (.int (nI st)), none, none, none] rfl rfl rfl rfl (fun K F => ?_)
  obtain ⟨f, hf⟩ : ∃ f : Nat → Nat, f = fun q => thr S t pl q st := ⟨_, rfl⟩
  have hok : ∀ q, okT (f q) := fun q => by rw [hf]; exact thr_ok w.1 _ _ _ _
  have wc := (w.b p h3).2.1
  rw [← hf]
  have loop : ∀ (n i : Nat), S (13 + 6 * p) < i + n → i ≤ S (13 + 6 * p) → CW G K 8 0 0 (MQ (kb K) (Qn G (rI (eaz f S p (S (13 + 6 * p))) v L)) (ka K) (ks K) 0 0 (gA G)) v L 7 [some (.ref (gB G 83)), some (.int (nI t)), some (.int (nI pl)), some (.int (nI p)), some (.int (nI st)), some (.int (nI (eaz f S p i))), some (.int (nI i)), none] [] := by
    intro n
    induction n with
    | zero => intro i a1 a2; omega
    | succ n ih =>
      intro i a1 a2
      have hq : i < S (13 + 6 * p) → S (14 + 6 * p + i) < 8 := fun z => (w.b p h3).2.2 i z
      have o1 : okT (eaz f S p i) := eaz_ok (fun _ _ => hok _)
      have o2 : okT (f (S (14 + 6 * p + i))) := hok _
      have es : eaz f S p (i + 1) = if f (S (14 + 6 * p + i)) < eaz f S p i then f (S (14 + 6 * p + i)) else eaz f S p i := rfl
      unfold okT at o1 o2
      refine r_iload F dX8_easiest_7 rfl ?_
      refine r_aload_n F dX8_easiest_9 rfl ?_
      refine r_iload_n F dX8_easiest_10 rfl ?_
      refine r_iconst (x := 1) F dX8_easiest_11 rfl ?_
      refine r_callV2i F fMX8_of tw_938 rfl rfl rfl rfl dX8_easiest_12 rfl rfl z0 (m8_many g hr h3) ?_
      refine r_icge F dX8_easiest_15 (by omega) (by omega) (fun h15 => ?_) (fun h15 => ?_)
      · refine r_iload F dX8_easiest_59 rfl ?_
        exact i_iret F rfl dX8_easiest_61 (by rw [show i = S (13 + 6 * p) by omega]) rfl rfl
      · refine r_aload_n F dX8_easiest_18 rfl ?_
        refine r_iload_n F dX8_easiest_19 rfl ?_
        refine r_iload_n F dX8_easiest_20 rfl ?_
        refine r_aload_n F dX8_easiest_21 rfl ?_
        refine r_iload_n F dX8_easiest_22 rfl ?_
        refine r_iconst (x := 2) F dX8_easiest_23 rfl ?_
        refine r_iload F dX8_easiest_24 rfl ?_
        refine r_iadd F dX8_easiest_26 ?_
        refine r_callV2i F fMX8_of tw_938 rfl rfl rfl rfl dX8_easiest_27 rfl rfl z0 (m8_move0 g hr h3 (i := i) (by omega)) ?_
        refine r_iload F dX8_easiest_30 rfl ?_
        refine r_callV4i F fMX8_leastAt tw_1089 rfl rfl rfl rfl dX8_easiest_32 rfl rfl z0 (m8_leastAt g h1 h2 (hq h15) h4) ?_
        rw [show v 89 (32 * t + 16 * pl + 2 * S (14 + 6 * p + i) + st) = f (S (14 + 6 * p + i)) by rw [hf]; exact hL pl h2 _ (hq h15) st h4]
        refine r_ist7 F dX8_easiest_35 rfl rfl ?_
        refine r_iload F dX8_easiest_37 rfl ?_
        refine r_iload F dX8_easiest_39 rfl ?_
        refine r_icge F dX8_easiest_41 (by omega) (by omega) (fun h41 => ?_) (fun h41 => ?_)
        · refine r_iload F dX8_easiest_49 rfl ?_
          refine r_ist5 F dX8_easiest_51 rfl rfl ?_
          refine r_iinc6 (y := 1) F dX8_easiest_53 rfl rfl rfl rfl ?_
          refine r_goto F dX8_easiest_56 ?_
          refine r_dr7 ?_
          have := ih (i + 1) (by omega) (by omega)
          rw [es] at this
          first
            | (rw [if_pos (by omega)] at this; exact this)
            | (rw [if_neg (by omega)] at this; exact this)
        · refine r_iload F dX8_easiest_44 rfl ?_
          refine r_goto F dX8_easiest_46 ?_
          refine r_ist5 F dX8_easiest_51 rfl rfl ?_
          refine r_iinc6 (y := 1) F dX8_easiest_53 rfl rfl rfl rfl ?_
          refine r_goto F dX8_easiest_56 ?_
          refine r_dr7 ?_
          have := ih (i + 1) (by omega) (by omega)
          rw [es] at this
          first
            | (rw [if_pos (by omega)] at this; exact this)
            | (rw [if_neg (by omega)] at this; exact this)
  refine r_bipush (x := 99) F dX8_easiest_0 rfl ?_
  refine r_ist5 F dX8_easiest_2 rfl rfl ?_
  refine r_iconst (x := 0) F dX8_easiest_4 rfl ?_
  refine r_ist6 F dX8_easiest_5 rfl rfl ?_
  exact loop (S (13 + 6 * p) + 1) 0 (by omega) (Nat.zero_le _)
set_option maxHeartbeats 8000000 in
theorem m8_hardest {G : GT} {v : VV} {L : LL} (g : GH G) {S : Nat → Nat} (hr : RM v S) (w : WS S) {t pl p st : Nat} (h1 : t < 13) (h2 : pl < 2) (h3 : p < 8) (h4 : st < 2) (hL : HL v S t) : CC G MX8_hardest [.ref (gB G 83), .int (nI t), .int (nI pl), .int (nI p), .int (nI st)] v L (rI (haz (fun q => thr S t pl q st) S p (S (13 + 6 * p))) v L) := by
  refine cc_of g [some (.ref (gB G 83)), some (.int (nI t)), some (.int (nI pl)), some (.int (nI p)), some (.int (nI st)), none, none, none] rfl rfl rfl rfl (fun K F => ?_)
  obtain ⟨f, hf⟩ : ∃ f : Nat → Nat, f = fun q => thr S t pl q st := ⟨_, rfl⟩
  have hok : ∀ q, okT (f q) := fun q => by rw [hf]; exact thr_ok w.1 _ _ _ _
  have wc := (w.b p h3).2.1
  rw [← hf]
  have loop : ∀ (n i : Nat), S (13 + 6 * p) < i + n → i ≤ S (13 + 6 * p) → CW G K 8 0 0 (MQ (kb K) (Qn G (rI (haz f S p (S (13 + 6 * p))) v L)) (ka K) (ks K) 0 0 (gA G)) v L 6 [some (.ref (gB G 83)), some (.int (nI t)), some (.int (nI pl)), some (.int (nI p)), some (.int (nI st)), some (.int (nI (haz f S p i))), some (.int (nI i)), none] [] := by
    intro n
    induction n with
    | zero => intro i a1 a2; omega
    | succ n ih =>
      intro i a1 a2
      have hq : i < S (13 + 6 * p) → S (14 + 6 * p + i) < 8 := fun z => (w.b p h3).2.2 i z
      have o1 : okT (haz f S p i) := haz_ok (fun _ _ => hok _)
      have o2 : okT (f (S (14 + 6 * p + i))) := hok _
      have es : haz f S p (i + 1) = if haz f S p i < f (S (14 + 6 * p + i)) then f (S (14 + 6 * p + i)) else haz f S p i := rfl
      unfold okT at o1 o2
      refine r_iload F dX8_hardest_6 rfl ?_
      refine r_aload_n F dX8_hardest_8 rfl ?_
      refine r_iload_n F dX8_hardest_9 rfl ?_
      refine r_iconst (x := 1) F dX8_hardest_10 rfl ?_
      refine r_callV2i F fMX8_of tw_938 rfl rfl rfl rfl dX8_hardest_11 rfl rfl z0 (m8_many g hr h3) ?_
      refine r_icge F dX8_hardest_14 (by omega) (by omega) (fun h14 => ?_) (fun h14 => ?_)
      · refine r_iload F dX8_hardest_58 rfl ?_
        exact i_iret F rfl dX8_hardest_60 (by rw [show i = S (13 + 6 * p) by omega]) rfl rfl
      · refine r_aload_n F dX8_hardest_17 rfl ?_
        refine r_iload_n F dX8_hardest_18 rfl ?_
        refine r_iload_n F dX8_hardest_19 rfl ?_
        refine r_aload_n F dX8_hardest_20 rfl ?_
        refine r_iload_n F dX8_hardest_21 rfl ?_
        refine r_iconst (x := 2) F dX8_hardest_22 rfl ?_
        refine r_iload F dX8_hardest_23 rfl ?_
        refine r_iadd F dX8_hardest_25 ?_
        refine r_callV2i F fMX8_of tw_938 rfl rfl rfl rfl dX8_hardest_26 rfl rfl z0 (m8_move0 g hr h3 (i := i) (by omega)) ?_
        refine r_iload F dX8_hardest_29 rfl ?_
        refine r_callV4i F fMX8_leastAt tw_1089 rfl rfl rfl rfl dX8_hardest_31 rfl rfl z0 (m8_leastAt g h1 h2 (hq h14) h4) ?_
        rw [show v 89 (32 * t + 16 * pl + 2 * S (14 + 6 * p + i) + st) = f (S (14 + 6 * p + i)) by rw [hf]; exact hL pl h2 _ (hq h14) st h4]
        refine r_ist7 F dX8_hardest_34 rfl rfl ?_
        refine r_iload F dX8_hardest_36 rfl ?_
        refine r_iload F dX8_hardest_38 rfl ?_
        refine r_icle F dX8_hardest_40 (by omega) (by omega) (fun h40 => ?_) (fun h40 => ?_)
        · refine r_iload F dX8_hardest_48 rfl ?_
          refine r_ist5 F dX8_hardest_50 rfl rfl ?_
          refine r_iinc6 (y := 1) F dX8_hardest_52 rfl rfl rfl rfl ?_
          refine r_goto F dX8_hardest_55 ?_
          refine r_dr7 ?_
          have := ih (i + 1) (by omega) (by omega)
          rw [es] at this
          first
            | (rw [if_pos (by omega)] at this; exact this)
            | (rw [if_neg (by omega)] at this; exact this)
        · refine r_iload F dX8_hardest_43 rfl ?_
          refine r_goto F dX8_hardest_45 ?_
          refine r_ist5 F dX8_hardest_50 rfl rfl ?_
          refine r_iinc6 (y := 1) F dX8_hardest_52 rfl rfl rfl rfl ?_
          refine r_goto F dX8_hardest_55 ?_
          refine r_dr7 ?_
          have := ih (i + 1) (by omega) (by omega)
          rw [es] at this
          first
            | (rw [if_pos (by omega)] at this; exact this)
            | (rw [if_neg (by omega)] at this; exact this)
  refine r_iconst (x := 0) F dX8_hardest_0 rfl ?_
  refine r_ist5 F dX8_hardest_1 rfl rfl ?_
  refine r_iconst (x := 0) F dX8_hardest_3 rfl ?_
  refine r_ist6 F dX8_hardest_4 rfl rfl ?_
  exact loop (S (13 + 6 * p) + 1) 0 (by omega) (Nat.zero_le _)
set_option maxHeartbeats 8000000 in
theorem m8_isEnough {G : GT} {v : VV} {L : LL} (g : GH G) {S : Nat → Nat} (hr : RM v S) (w : WS S) {t pl p st b bid o : Nat} (h1 : t < 13) (h2 : pl < 2) (h3 : p < 8) (hs4 : st < 2) (hb : b ≤ 20) (hd : bid ≤ b) (ho : o ≤ 21) (hL : HL v S t) : CC G MX8_isEnough [.ref (gB G 83), .int (nI t), .int (nI pl), .int (nI p), .int (nI st), .int (nI b), .int (nI bid), .int (nI o)] v L (rI (isE (soT S t pl p) (eaT S t pl p) pl st b bid o).toNat v L) := by
  refine cc_of g [some (.ref (gB G 83)), some (.int (nI t)), some (.int (nI pl)), some (.int (nI p)), some (.int (nI st)), some (.int (nI b)), some (.int (nI bid)), some (.int (nI o))] rfl rfl rfl rfl (fun K F => ?_)
  have o1 : ∀ σ, soT S t pl p σ ≤ 99 := fun σ => by have := soT_ok w.1 t pl p σ; unfold okT at this; omega
  have o2 : ∀ σ, eaT S t pl p σ ≤ 99 := fun σ => by have := eaT_ok w.1 t pl p σ; unfold okT at this; omega
  have e1 : ∀ σ, eaz (fun q => thr S t pl q σ) S p (S (13 + 6 * p)) = soT S t pl p σ := fun σ => rfl
  have e2 : ∀ σ, haz (fun q => thr S t pl q σ) S p (S (13 + 6 * p)) = eaT S t pl p σ := fun σ => rfl
  have s1 := o1 st
  have s2 := o2 st
  have s3 := o1 (1 - pl)
  have s4 := o2 pl
  refine r_iload F dX8_isEnough_0 rfl ?_
  refine r_iload F dX8_isEnough_2 rfl ?_
  refine r_icle F dX8_isEnough_4 (by omega) (by omega) (fun h4 => ?_) (fun h4 => ?_)
  · refine r_iload F dX8_isEnough_30 rfl ?_
    refine r_iload F dX8_isEnough_32 rfl ?_
    refine r_icge F dX8_isEnough_34 (by omega) (by omega) (fun h34 => ?_) (fun h34 => ?_)
    · refine r_iload F dX8_isEnough_60 rfl ?_
      refine r_iload_n F dX8_isEnough_62 rfl ?_
      refine r_icne F dX8_isEnough_63 (by omega) (by omega) (fun h63 => ?_) (fun h63 => ?_)
      · refine r_iload F dX8_isEnough_92 rfl ?_
        refine r_iload F dX8_isEnough_94 rfl ?_
        refine r_iadd F dX8_isEnough_96 ?_
        refine r_aload_n F dX8_isEnough_97 rfl ?_
        refine r_iload_n F dX8_isEnough_98 rfl ?_
        refine r_iload_n F dX8_isEnough_99 rfl ?_
        refine r_iload_n F dX8_isEnough_100 rfl ?_
        refine r_iload_n F dX8_isEnough_101 rfl ?_
        refine r_callV4i F fMX8_hardest tw_1093 rfl rfl rfl rfl dX8_isEnough_102 rfl rfl z0 (m8_hardest g hr w h1 h2 h3 (st := pl) h2 hL) ?_
        rw [e2]
        refine r_iclt F dX8_isEnough_105 (by omega) (by omega) (fun h105 => ?_) (fun h105 => ?_)
        · refine r_iconst (x := 0) F dX8_isEnough_112 rfl ?_
          first
            | exact b_iret F rfl dX8_isEnough_113 (by decide) (by unfold isE; rw [if_pos (by omega), decide_eq_true (by omega)]; rfl) rfl rfl
            | exact b_iret F rfl dX8_isEnough_113 (by decide) (by unfold isE; rw [if_pos (by omega), decide_eq_false (by omega)]; rfl) rfl rfl
            | exact b_iret F rfl dX8_isEnough_113 (by decide) (by unfold isE; rw [if_neg (by omega), if_pos (by omega), decide_eq_true (by omega)]; rfl) rfl rfl
            | exact b_iret F rfl dX8_isEnough_113 (by decide) (by unfold isE; rw [if_neg (by omega), if_pos (by omega), decide_eq_false (by omega)]; rfl) rfl rfl
            | exact b_iret F rfl dX8_isEnough_113 (by decide) (by unfold isE; rw [if_neg (by omega), if_neg (by omega), if_pos (by omega), decide_eq_true (by omega)]; rfl) rfl rfl
            | exact b_iret F rfl dX8_isEnough_113 (by decide) (by unfold isE; rw [if_neg (by omega), if_neg (by omega), if_pos (by omega), decide_eq_false (by omega)]; rfl) rfl rfl
            | exact b_iret F rfl dX8_isEnough_113 (by decide) (by unfold isE; rw [if_neg (by omega), if_neg (by omega), if_neg (by omega), decide_eq_true (by omega)]; rfl) rfl rfl
            | exact b_iret F rfl dX8_isEnough_113 (by decide) (by unfold isE; rw [if_neg (by omega), if_neg (by omega), if_neg (by omega), decide_eq_false (by omega)]; rfl) rfl rfl
        · refine r_iconst (x := 1) F dX8_isEnough_108 rfl ?_
          refine r_goto F dX8_isEnough_109 ?_
          first
            | exact b_iret F rfl dX8_isEnough_113 (by decide) (by unfold isE; rw [if_pos (by omega), decide_eq_true (by omega)]; rfl) rfl rfl
            | exact b_iret F rfl dX8_isEnough_113 (by decide) (by unfold isE; rw [if_pos (by omega), decide_eq_false (by omega)]; rfl) rfl rfl
            | exact b_iret F rfl dX8_isEnough_113 (by decide) (by unfold isE; rw [if_neg (by omega), if_pos (by omega), decide_eq_true (by omega)]; rfl) rfl rfl
            | exact b_iret F rfl dX8_isEnough_113 (by decide) (by unfold isE; rw [if_neg (by omega), if_pos (by omega), decide_eq_false (by omega)]; rfl) rfl rfl
            | exact b_iret F rfl dX8_isEnough_113 (by decide) (by unfold isE; rw [if_neg (by omega), if_neg (by omega), if_pos (by omega), decide_eq_true (by omega)]; rfl) rfl rfl
            | exact b_iret F rfl dX8_isEnough_113 (by decide) (by unfold isE; rw [if_neg (by omega), if_neg (by omega), if_pos (by omega), decide_eq_false (by omega)]; rfl) rfl rfl
            | exact b_iret F rfl dX8_isEnough_113 (by decide) (by unfold isE; rw [if_neg (by omega), if_neg (by omega), if_neg (by omega), decide_eq_true (by omega)]; rfl) rfl rfl
            | exact b_iret F rfl dX8_isEnough_113 (by decide) (by unfold isE; rw [if_neg (by omega), if_neg (by omega), if_neg (by omega), decide_eq_false (by omega)]; rfl) rfl rfl
      · refine r_iload F dX8_isEnough_66 rfl ?_
        refine r_iload F dX8_isEnough_68 rfl ?_
        refine r_isub F dX8_isEnough_70 (by omega) ?_
        refine r_aload_n F dX8_isEnough_71 rfl ?_
        refine r_iload_n F dX8_isEnough_72 rfl ?_
        refine r_iload_n F dX8_isEnough_73 rfl ?_
        refine r_iload_n F dX8_isEnough_74 rfl ?_
        refine r_iconst (x := 1) F dX8_isEnough_75 rfl ?_
        refine r_iload_n F dX8_isEnough_76 rfl ?_
        refine r_isub F dX8_isEnough_77 (by omega) ?_
        refine r_callV4i F fMX8_easiest tw_1085 rfl rfl rfl rfl dX8_isEnough_78 rfl rfl z0 (m8_easiest g hr w h1 h2 h3 (st := 1 - pl) (by omega) hL) ?_
        rw [e1]
        refine r_iclt F dX8_isEnough_81 (by omega) (by omega) (fun h81 => ?_) (fun h81 => ?_)
        · refine r_iconst (x := 0) F dX8_isEnough_88 rfl ?_
          refine r_goto F dX8_isEnough_89 ?_
          first
            | exact b_iret F rfl dX8_isEnough_113 (by decide) (by unfold isE; rw [if_pos (by omega), decide_eq_true (by omega)]; rfl) rfl rfl
            | exact b_iret F rfl dX8_isEnough_113 (by decide) (by unfold isE; rw [if_pos (by omega), decide_eq_false (by omega)]; rfl) rfl rfl
            | exact b_iret F rfl dX8_isEnough_113 (by decide) (by unfold isE; rw [if_neg (by omega), if_pos (by omega), decide_eq_true (by omega)]; rfl) rfl rfl
            | exact b_iret F rfl dX8_isEnough_113 (by decide) (by unfold isE; rw [if_neg (by omega), if_pos (by omega), decide_eq_false (by omega)]; rfl) rfl rfl
            | exact b_iret F rfl dX8_isEnough_113 (by decide) (by unfold isE; rw [if_neg (by omega), if_neg (by omega), if_pos (by omega), decide_eq_true (by omega)]; rfl) rfl rfl
            | exact b_iret F rfl dX8_isEnough_113 (by decide) (by unfold isE; rw [if_neg (by omega), if_neg (by omega), if_pos (by omega), decide_eq_false (by omega)]; rfl) rfl rfl
            | exact b_iret F rfl dX8_isEnough_113 (by decide) (by unfold isE; rw [if_neg (by omega), if_neg (by omega), if_neg (by omega), decide_eq_true (by omega)]; rfl) rfl rfl
            | exact b_iret F rfl dX8_isEnough_113 (by decide) (by unfold isE; rw [if_neg (by omega), if_neg (by omega), if_neg (by omega), decide_eq_false (by omega)]; rfl) rfl rfl
        · refine r_iconst (x := 1) F dX8_isEnough_84 rfl ?_
          refine r_goto F dX8_isEnough_85 ?_
          first
            | exact b_iret F rfl dX8_isEnough_113 (by decide) (by unfold isE; rw [if_pos (by omega), decide_eq_true (by omega)]; rfl) rfl rfl
            | exact b_iret F rfl dX8_isEnough_113 (by decide) (by unfold isE; rw [if_pos (by omega), decide_eq_false (by omega)]; rfl) rfl rfl
            | exact b_iret F rfl dX8_isEnough_113 (by decide) (by unfold isE; rw [if_neg (by omega), if_pos (by omega), decide_eq_true (by omega)]; rfl) rfl rfl
            | exact b_iret F rfl dX8_isEnough_113 (by decide) (by unfold isE; rw [if_neg (by omega), if_pos (by omega), decide_eq_false (by omega)]; rfl) rfl rfl
            | exact b_iret F rfl dX8_isEnough_113 (by decide) (by unfold isE; rw [if_neg (by omega), if_neg (by omega), if_pos (by omega), decide_eq_true (by omega)]; rfl) rfl rfl
            | exact b_iret F rfl dX8_isEnough_113 (by decide) (by unfold isE; rw [if_neg (by omega), if_neg (by omega), if_pos (by omega), decide_eq_false (by omega)]; rfl) rfl rfl
            | exact b_iret F rfl dX8_isEnough_113 (by decide) (by unfold isE; rw [if_neg (by omega), if_neg (by omega), if_neg (by omega), decide_eq_true (by omega)]; rfl) rfl rfl
            | exact b_iret F rfl dX8_isEnough_113 (by decide) (by unfold isE; rw [if_neg (by omega), if_neg (by omega), if_neg (by omega), decide_eq_false (by omega)]; rfl) rfl rfl
    · refine r_iload F dX8_isEnough_37 rfl ?_
      refine r_iload F dX8_isEnough_39 rfl ?_
      refine r_iadd F dX8_isEnough_41 ?_
      refine r_aload_n F dX8_isEnough_42 rfl ?_
      refine r_iload_n F dX8_isEnough_43 rfl ?_
      refine r_iload_n F dX8_isEnough_44 rfl ?_
      refine r_iload_n F dX8_isEnough_45 rfl ?_
      refine r_iload F dX8_isEnough_46 rfl ?_
      refine r_callV4i F fMX8_hardest tw_1093 rfl rfl rfl rfl dX8_isEnough_48 rfl rfl z0 (m8_hardest g hr w h1 h2 h3 hs4 hL) ?_
      rw [e2]
      refine r_iclt F dX8_isEnough_51 (by omega) (by omega) (fun h51 => ?_) (fun h51 => ?_)
      · refine r_iconst (x := 0) F dX8_isEnough_58 rfl ?_
        first
          | exact b_iret F rfl dX8_isEnough_59 (by decide) (by unfold isE; rw [if_pos (by omega), decide_eq_true (by omega)]; rfl) rfl rfl
          | exact b_iret F rfl dX8_isEnough_59 (by decide) (by unfold isE; rw [if_pos (by omega), decide_eq_false (by omega)]; rfl) rfl rfl
          | exact b_iret F rfl dX8_isEnough_59 (by decide) (by unfold isE; rw [if_neg (by omega), if_pos (by omega), decide_eq_true (by omega)]; rfl) rfl rfl
          | exact b_iret F rfl dX8_isEnough_59 (by decide) (by unfold isE; rw [if_neg (by omega), if_pos (by omega), decide_eq_false (by omega)]; rfl) rfl rfl
          | exact b_iret F rfl dX8_isEnough_59 (by decide) (by unfold isE; rw [if_neg (by omega), if_neg (by omega), if_pos (by omega), decide_eq_true (by omega)]; rfl) rfl rfl
          | exact b_iret F rfl dX8_isEnough_59 (by decide) (by unfold isE; rw [if_neg (by omega), if_neg (by omega), if_pos (by omega), decide_eq_false (by omega)]; rfl) rfl rfl
          | exact b_iret F rfl dX8_isEnough_59 (by decide) (by unfold isE; rw [if_neg (by omega), if_neg (by omega), if_neg (by omega), decide_eq_true (by omega)]; rfl) rfl rfl
          | exact b_iret F rfl dX8_isEnough_59 (by decide) (by unfold isE; rw [if_neg (by omega), if_neg (by omega), if_neg (by omega), decide_eq_false (by omega)]; rfl) rfl rfl
      · refine r_iconst (x := 1) F dX8_isEnough_54 rfl ?_
        refine r_goto F dX8_isEnough_55 ?_
        first
          | exact b_iret F rfl dX8_isEnough_59 (by decide) (by unfold isE; rw [if_pos (by omega), decide_eq_true (by omega)]; rfl) rfl rfl
          | exact b_iret F rfl dX8_isEnough_59 (by decide) (by unfold isE; rw [if_pos (by omega), decide_eq_false (by omega)]; rfl) rfl rfl
          | exact b_iret F rfl dX8_isEnough_59 (by decide) (by unfold isE; rw [if_neg (by omega), if_pos (by omega), decide_eq_true (by omega)]; rfl) rfl rfl
          | exact b_iret F rfl dX8_isEnough_59 (by decide) (by unfold isE; rw [if_neg (by omega), if_pos (by omega), decide_eq_false (by omega)]; rfl) rfl rfl
          | exact b_iret F rfl dX8_isEnough_59 (by decide) (by unfold isE; rw [if_neg (by omega), if_neg (by omega), if_pos (by omega), decide_eq_true (by omega)]; rfl) rfl rfl
          | exact b_iret F rfl dX8_isEnough_59 (by decide) (by unfold isE; rw [if_neg (by omega), if_neg (by omega), if_pos (by omega), decide_eq_false (by omega)]; rfl) rfl rfl
          | exact b_iret F rfl dX8_isEnough_59 (by decide) (by unfold isE; rw [if_neg (by omega), if_neg (by omega), if_neg (by omega), decide_eq_true (by omega)]; rfl) rfl rfl
          | exact b_iret F rfl dX8_isEnough_59 (by decide) (by unfold isE; rw [if_neg (by omega), if_neg (by omega), if_neg (by omega), decide_eq_false (by omega)]; rfl) rfl rfl
  · refine r_iload F dX8_isEnough_7 rfl ?_
    refine r_iload F dX8_isEnough_9 rfl ?_
    refine r_isub F dX8_isEnough_11 (by omega) ?_
    refine r_aload_n F dX8_isEnough_12 rfl ?_
    refine r_iload_n F dX8_isEnough_13 rfl ?_
    refine r_iload_n F dX8_isEnough_14 rfl ?_
    refine r_iload_n F dX8_isEnough_15 rfl ?_
    refine r_iload F dX8_isEnough_16 rfl ?_
    refine r_callV4i F fMX8_easiest tw_1085 rfl rfl rfl rfl dX8_isEnough_18 rfl rfl z0 (m8_easiest g hr w h1 h2 h3 hs4 hL) ?_
    rw [e1]
    refine r_iclt F dX8_isEnough_21 (by omega) (by omega) (fun h21 => ?_) (fun h21 => ?_)
    · refine r_iconst (x := 0) F dX8_isEnough_28 rfl ?_
      first
        | exact b_iret F rfl dX8_isEnough_29 (by decide) (by unfold isE; rw [if_pos (by omega), decide_eq_true (by omega)]; rfl) rfl rfl
        | exact b_iret F rfl dX8_isEnough_29 (by decide) (by unfold isE; rw [if_pos (by omega), decide_eq_false (by omega)]; rfl) rfl rfl
        | exact b_iret F rfl dX8_isEnough_29 (by decide) (by unfold isE; rw [if_neg (by omega), if_pos (by omega), decide_eq_true (by omega)]; rfl) rfl rfl
        | exact b_iret F rfl dX8_isEnough_29 (by decide) (by unfold isE; rw [if_neg (by omega), if_pos (by omega), decide_eq_false (by omega)]; rfl) rfl rfl
        | exact b_iret F rfl dX8_isEnough_29 (by decide) (by unfold isE; rw [if_neg (by omega), if_neg (by omega), if_pos (by omega), decide_eq_true (by omega)]; rfl) rfl rfl
        | exact b_iret F rfl dX8_isEnough_29 (by decide) (by unfold isE; rw [if_neg (by omega), if_neg (by omega), if_pos (by omega), decide_eq_false (by omega)]; rfl) rfl rfl
        | exact b_iret F rfl dX8_isEnough_29 (by decide) (by unfold isE; rw [if_neg (by omega), if_neg (by omega), if_neg (by omega), decide_eq_true (by omega)]; rfl) rfl rfl
        | exact b_iret F rfl dX8_isEnough_29 (by decide) (by unfold isE; rw [if_neg (by omega), if_neg (by omega), if_neg (by omega), decide_eq_false (by omega)]; rfl) rfl rfl
    · refine r_iconst (x := 1) F dX8_isEnough_24 rfl ?_
      refine r_goto F dX8_isEnough_25 ?_
      first
        | exact b_iret F rfl dX8_isEnough_29 (by decide) (by unfold isE; rw [if_pos (by omega), decide_eq_true (by omega)]; rfl) rfl rfl
        | exact b_iret F rfl dX8_isEnough_29 (by decide) (by unfold isE; rw [if_pos (by omega), decide_eq_false (by omega)]; rfl) rfl rfl
        | exact b_iret F rfl dX8_isEnough_29 (by decide) (by unfold isE; rw [if_neg (by omega), if_pos (by omega), decide_eq_true (by omega)]; rfl) rfl rfl
        | exact b_iret F rfl dX8_isEnough_29 (by decide) (by unfold isE; rw [if_neg (by omega), if_pos (by omega), decide_eq_false (by omega)]; rfl) rfl rfl
        | exact b_iret F rfl dX8_isEnough_29 (by decide) (by unfold isE; rw [if_neg (by omega), if_neg (by omega), if_pos (by omega), decide_eq_true (by omega)]; rfl) rfl rfl
        | exact b_iret F rfl dX8_isEnough_29 (by decide) (by unfold isE; rw [if_neg (by omega), if_neg (by omega), if_pos (by omega), decide_eq_false (by omega)]; rfl) rfl rfl
        | exact b_iret F rfl dX8_isEnough_29 (by decide) (by unfold isE; rw [if_neg (by omega), if_neg (by omega), if_neg (by omega), decide_eq_true (by omega)]; rfl) rfl rfl
        | exact b_iret F rfl dX8_isEnough_29 (by decide) (by unfold isE; rw [if_neg (by omega), if_neg (by omega), if_neg (by omega), decide_eq_false (by omega)]; rfl) rfl rfl
set_option maxHeartbeats 16000000 in
theorem m8_wins {G : GT} {v : VV} {L : LL} (g : GH G) {S : Nat → Nat} (hr : RM v S) (w : WS S) {t pl p st b bid : Nat} (h1 : t < 13) (h2 : pl < 2) (h3 : p < 8) (h4 : st < 2) (hb : b ≤ S 0) (hd : bid ≤ b) (hL : HL v S t) : CC G MX8_wins [.ref (gB G 83), .int (nI t), .int (nI pl), .int (nI p), .int (nI st), .int (nI b), .int (nI bid)] v L (rI (winB (soT S t pl p) (eaT S t pl p) (S 0) pl st b bid).toNat v L) := by
  refine cc_of g [some (.ref (gB G 83)), some (.int (nI t)), some (.int (nI pl)), some (.int (nI p)), some (.int (nI st)), some (.int (nI b)), some (.int (nI bid)), none, none, none] rfl rfl rfl rfl (fun K F => ?_)
  have w0 : S 0 ≤ 20 := w.1
  have e0 := hr 0 (by decide)
  obtain ⟨x1, hx1⟩ : ∃ x, x = (decide (bid = 0) || isE (soT S t pl p) (eaT S t pl p) pl st b bid 0) := ⟨_, rfl⟩
  obtain ⟨x2, hx2⟩ : ∃ x, x = (decide (S 0 - b < bid) || isE (soT S t pl p) (eaT S t pl p) pl st b bid bid) := ⟨_, rfl⟩
  obtain ⟨x3, hx3⟩ : ∃ x, x = (decide (S 0 - b ≤ bid) || isE (soT S t pl p) (eaT S t pl p) pl st b bid (bid + 1)) := ⟨_, rfl⟩
  have ew : winB (soT S t pl p) (eaT S t pl p) (S 0) pl st b bid = (x1 && x2 && x3) := by rw [hx1, hx2, hx3]; rfl
  rw [ew]
  have last : CW G K 10 0 0 (MQ (kb K) (Qn G (rI (x1 && x2 && x3).toNat v L)) (ka K) (ks K) 0 0 (gA G)) v L 72 [some (.ref (gB G 83)), some (.int (nI t)), some (.int (nI pl)), some (.int (nI p)), some (.int (nI st)), some (.int (nI b)), some (.int (nI bid)), some (.int (nI (S 0 - b))), some (.int (nI x1.toNat)), some (.int (nI x2.toNat))] [] := by
    refine r_iload F dX8_wins_72 rfl ?_
    refine r_Beq F dX8_wins_74 (fun h74 => ?_) (fun h74 => ?_)
    · refine r_iconst (x := 0) F dX8_wins_113 rfl ?_
      refine b_iret F rfl dX8_wins_114 (by decide) ?_ rfl rfl
      first
        | (rw [h74]; rfl)
        | (rw [h74, h79]; rfl)
        | (rw [h74, h79, hx3, decide_eq_true (by omega), Bool.true_or]; rfl)
        | (rw [h74, h79, hx3, h106, Bool.or_true]; rfl)
        | (rw [h74, h79, hx3, h106, decide_eq_false (by omega)]; rfl)
    · refine r_iload F dX8_wins_77 rfl ?_
      refine r_Beq F dX8_wins_79 (fun h79 => ?_) (fun h79 => ?_)
      · refine r_iconst (x := 0) F dX8_wins_113 rfl ?_
        refine b_iret F rfl dX8_wins_114 (by decide) ?_ rfl rfl
        first
          | (rw [h74]; rfl)
          | (rw [h74, h79]; rfl)
          | (rw [h74, h79, hx3, decide_eq_true (by omega), Bool.true_or]; rfl)
          | (rw [h74, h79, hx3, h106, Bool.or_true]; rfl)
          | (rw [h74, h79, hx3, h106, decide_eq_false (by omega)]; rfl)
      · refine r_iload F dX8_wins_82 rfl ?_
        refine r_iload F dX8_wins_84 rfl ?_
        refine r_icge F dX8_wins_86 (by omega) (by omega) (fun h86 => ?_) (fun h86 => ?_)
        · refine r_iconst (x := 1) F dX8_wins_109 rfl ?_
          refine r_goto F dX8_wins_110 ?_
          refine b_iret F rfl dX8_wins_114 (by decide) ?_ rfl rfl
          first
            | (rw [h74]; rfl)
            | (rw [h74, h79]; rfl)
            | (rw [h74, h79, hx3, decide_eq_true (by omega), Bool.true_or]; rfl)
            | (rw [h74, h79, hx3, h106, Bool.or_true]; rfl)
            | (rw [h74, h79, hx3, h106, decide_eq_false (by omega)]; rfl)
        · refine r_aload_n F dX8_wins_89 rfl ?_
          refine r_iload_n F dX8_wins_90 rfl ?_
          refine r_iload_n F dX8_wins_91 rfl ?_
          refine r_iload_n F dX8_wins_92 rfl ?_
          refine r_iload F dX8_wins_93 rfl ?_
          refine r_iload F dX8_wins_95 rfl ?_
          refine r_iload F dX8_wins_97 rfl ?_
          refine r_iload F dX8_wins_99 rfl ?_
          refine r_iconst (x := 1) F dX8_wins_101 rfl ?_
          refine r_iadd F dX8_wins_102 ?_
          refine r_callV7i F fMX8_isEnough tw_1081 rfl rfl rfl rfl dX8_wins_103 rfl rfl z0 (m8_isEnough g hr w h1 h2 h3 h4 (by omega) hd (o := bid + 1) (by omega) hL) ?_
          refine r_Beq F dX8_wins_106 (fun h106 => ?_) (fun h106 => ?_)
          · refine r_iconst (x := 0) F dX8_wins_113 rfl ?_
            refine b_iret F rfl dX8_wins_114 (by decide) ?_ rfl rfl
            first
              | (rw [h74]; rfl)
              | (rw [h74, h79]; rfl)
              | (rw [h74, h79, hx3, decide_eq_true (by omega), Bool.true_or]; rfl)
              | (rw [h74, h79, hx3, h106, Bool.or_true]; rfl)
              | (rw [h74, h79, hx3, h106, decide_eq_false (by omega)]; rfl)
          · refine r_iconst (x := 1) F dX8_wins_109 rfl ?_
            refine r_goto F dX8_wins_110 ?_
            refine b_iret F rfl dX8_wins_114 (by decide) ?_ rfl rfl
            first
              | (rw [h74]; rfl)
              | (rw [h74, h79]; rfl)
              | (rw [h74, h79, hx3, decide_eq_true (by omega), Bool.true_or]; rfl)
              | (rw [h74, h79, hx3, h106, Bool.or_true]; rfl)
              | (rw [h74, h79, hx3, h106, decide_eq_false (by omega)]; rfl)
  have mid : CW G K 10 0 0 (MQ (kb K) (Qn G (rI (x1 && x2 && x3).toNat v L)) (ka K) (ks K) 0 0 (gA G)) v L 40 [some (.ref (gB G 83)), some (.int (nI t)), some (.int (nI pl)), some (.int (nI p)), some (.int (nI st)), some (.int (nI b)), some (.int (nI bid)), some (.int (nI (S 0 - b))), some (.int (nI x1.toNat)), none] [] := by
    refine r_iload F dX8_wins_40 rfl ?_
    refine r_iload F dX8_wins_42 rfl ?_
    refine r_icgt F dX8_wins_44 (by omega) (by omega) (fun h44 => ?_) (fun h44 => ?_)
    · refine r_iconst (x := 1) F dX8_wins_65 rfl ?_
      refine r_goto F dX8_wins_66 ?_
      refine r_ist9 F dX8_wins_70 rfl rfl ?_
      have nxt := last
      first
        | (rw [show nI 1 = nI x2.toNat from (by have e : x2 = true := (by rw [hx2, decide_eq_true (by omega), Bool.true_or]); rw [e]; first | done | rfl)]; exact nxt)
        | (rw [show nI 1 = nI x2.toNat from (by have e : x2 = true := (by rw [hx2, h62, Bool.or_true]); rw [e]; first | done | rfl)]; exact nxt)
        | (rw [show nI 0 = nI x2.toNat from (by have e : x2 = false := (by rw [hx2, h62, decide_eq_false (by omega)]; rfl); rw [e]; first | done | rfl)]; exact nxt)
    · refine r_aload_n F dX8_wins_47 rfl ?_
      refine r_iload_n F dX8_wins_48 rfl ?_
      refine r_iload_n F dX8_wins_49 rfl ?_
      refine r_iload_n F dX8_wins_50 rfl ?_
      refine r_iload F dX8_wins_51 rfl ?_
      refine r_iload F dX8_wins_53 rfl ?_
      refine r_iload F dX8_wins_55 rfl ?_
      refine r_iload F dX8_wins_57 rfl ?_
      refine r_callV7i F fMX8_isEnough tw_1081 rfl rfl rfl rfl dX8_wins_59 rfl rfl z0 (m8_isEnough g hr w h1 h2 h3 h4 (by omega) hd (o := bid) (by omega) hL) ?_
      refine r_Beq F dX8_wins_62 (fun h62 => ?_) (fun h62 => ?_)
      · refine r_iconst (x := 0) F dX8_wins_69 rfl ?_
        refine r_ist9 F dX8_wins_70 rfl rfl ?_
        have nxt := last
        first
          | (rw [show nI 1 = nI x2.toNat from (by have e : x2 = true := (by rw [hx2, decide_eq_true (by omega), Bool.true_or]); rw [e]; first | done | rfl)]; exact nxt)
          | (rw [show nI 1 = nI x2.toNat from (by have e : x2 = true := (by rw [hx2, h62, Bool.or_true]); rw [e]; first | done | rfl)]; exact nxt)
          | (rw [show nI 0 = nI x2.toNat from (by have e : x2 = false := (by rw [hx2, h62, decide_eq_false (by omega)]; rfl); rw [e]; first | done | rfl)]; exact nxt)
      · refine r_iconst (x := 1) F dX8_wins_65 rfl ?_
        refine r_goto F dX8_wins_66 ?_
        refine r_ist9 F dX8_wins_70 rfl rfl ?_
        have nxt := last
        first
          | (rw [show nI 1 = nI x2.toNat from (by have e : x2 = true := (by rw [hx2, decide_eq_true (by omega), Bool.true_or]); rw [e]; first | done | rfl)]; exact nxt)
          | (rw [show nI 1 = nI x2.toNat from (by have e : x2 = true := (by rw [hx2, h62, Bool.or_true]); rw [e]; first | done | rfl)]; exact nxt)
          | (rw [show nI 0 = nI x2.toNat from (by have e : x2 = false := (by rw [hx2, h62, decide_eq_false (by omega)]; rfl); rw [e]; first | done | rfl)]; exact nxt)
  refine r_aload_n F dX8_wins_0 rfl ?_
  refine r_get (x := .ref (gB G 84)) (T := TX8) (n := 0) F uw8 rfl rfl tw_877 (Or.inl rfl) dX8_wins_1 (kd_lt (rfl : kd 83 = (7,0,0)) (by decide)) (ce7 rfl) rfl ?_
  refine r_iconst (x := 0) F dX8_wins_4 rfl ?_
  refine r_iald F dX8_wins_5 rfl (by omega) ?_
  refine r_iload F dX8_wins_6 rfl ?_
  rw [e0]
  refine r_isub F dX8_wins_8 hb ?_
  refine r_ist7 F dX8_wins_9 rfl rfl ?_
  refine r_iload F dX8_wins_11 rfl ?_
  refine r_ifeq F dX8_wins_13 (by omega) (fun h13 => ?_) (fun h13 => ?_)
  · refine r_iconst (x := 1) F dX8_wins_33 rfl ?_
    refine r_goto F dX8_wins_34 ?_
    refine r_ist8 F dX8_wins_38 rfl rfl ?_
    have nxt := mid
    first
      | (rw [show nI 1 = nI x1.toNat from (by have e : x1 = true := (by rw [hx1, decide_eq_true (by omega), Bool.true_or]); rw [e]; first | done | rfl)]; exact nxt)
      | (rw [show nI 1 = nI x1.toNat from (by have e : x1 = true := (by rw [hx1, h30, Bool.or_true]); rw [e]; first | done | rfl)]; exact nxt)
      | (rw [show nI 0 = nI x1.toNat from (by have e : x1 = false := (by rw [hx1, h30, decide_eq_false (by omega)]; rfl); rw [e]; first | done | rfl)]; exact nxt)
  · refine r_aload_n F dX8_wins_16 rfl ?_
    refine r_iload_n F dX8_wins_17 rfl ?_
    refine r_iload_n F dX8_wins_18 rfl ?_
    refine r_iload_n F dX8_wins_19 rfl ?_
    refine r_iload F dX8_wins_20 rfl ?_
    refine r_iload F dX8_wins_22 rfl ?_
    refine r_iload F dX8_wins_24 rfl ?_
    refine r_iconst (x := 0) F dX8_wins_26 rfl ?_
    refine r_callV7i F fMX8_isEnough tw_1081 rfl rfl rfl rfl dX8_wins_27 rfl rfl z0 (m8_isEnough g hr w h1 h2 h3 h4 (by omega) hd (o := 0) (by omega) hL) ?_
    refine r_Beq F dX8_wins_30 (fun h30 => ?_) (fun h30 => ?_)
    · refine r_iconst (x := 0) F dX8_wins_37 rfl ?_
      refine r_ist8 F dX8_wins_38 rfl rfl ?_
      have nxt := mid
      first
        | (rw [show nI 1 = nI x1.toNat from (by have e : x1 = true := (by rw [hx1, decide_eq_true (by omega), Bool.true_or]); rw [e]; first | done | rfl)]; exact nxt)
        | (rw [show nI 1 = nI x1.toNat from (by have e : x1 = true := (by rw [hx1, h30, Bool.or_true]); rw [e]; first | done | rfl)]; exact nxt)
        | (rw [show nI 0 = nI x1.toNat from (by have e : x1 = false := (by rw [hx1, h30, decide_eq_false (by omega)]; rfl); rw [e]; first | done | rfl)]; exact nxt)
    · refine r_iconst (x := 1) F dX8_wins_33 rfl ?_
      refine r_goto F dX8_wins_34 ?_
      refine r_ist8 F dX8_wins_38 rfl rfl ?_
      have nxt := mid
      first
        | (rw [show nI 1 = nI x1.toNat from (by have e : x1 = true := (by rw [hx1, decide_eq_true (by omega), Bool.true_or]); rw [e]; first | done | rfl)]; exact nxt)
        | (rw [show nI 1 = nI x1.toNat from (by have e : x1 = true := (by rw [hx1, h30, Bool.or_true]); rw [e]; first | done | rfl)]; exact nxt)
        | (rw [show nI 0 = nI x1.toNat from (by have e : x1 = false := (by rw [hx1, h30, decide_eq_false (by omega)]; rfl); rw [e]; first | done | rfl)]; exact nxt)
set_option maxHeartbeats 8000000 in
theorem m8_leastBid {G : GT} {v : VV} {L : LL} (g : GH G) {S : Nat → Nat} (hr : RM v S) (w : WS S) {t pl p st b : Nat} (h1 : t < 13) (h2 : pl < 2) (hp3 : p < 8) (h4 : st < 2) (hb : b ≤ S 0) (hL : HL v S t) : CC G MX8_leastBid [.ref (gB G 83), .int (nI t), .int (nI pl), .int (nI p), .int (nI st), .int (nI b)] v L (rR (orM (lbid (soT S t pl p) (eaT S t pl p) (S 0) pl st b) b) v L) := by
  refine cc_of g [some (.ref (gB G 83)), some (.int (nI t)), some (.int (nI pl)), some (.int (nI p)), some (.int (nI st)), some (.int (nI b)), none] rfl rfl rfl rfl (fun K F => ?_)
  have w0 : S 0 ≤ 20 := w.1
  obtain ⟨f, hf⟩ : ∃ f : Nat → Bool, f = fun bid => winB (soT S t pl p) (eaT S t pl p) (S 0) pl st b bid := ⟨_, rfl⟩
  have el : lbid (soT S t pl p) (eaT S t pl p) (S 0) pl st b = fsN f (b + 1) := by unfold lbid; rw [hf]
  rw [el]
  have loop : ∀ (n i : Nat), b + 1 < i + n → i ≤ b + 1 → (∀ j, j < i → f j = false) → CW G K 7 0 0 (MQ (kb K) (Qn G (rR (orM (fsN f (b + 1)) b) v L)) (ka K) (ks K) 0 0 (gA G)) v L 3 [some (.ref (gB G 83)), some (.int (nI t)), some (.int (nI pl)), some (.int (nI p)), some (.int (nI st)), some (.int (nI b)), some (.int (nI i))] [] := by
    intro n
    induction n with
    | zero => intro i a1 a2; omega
    | succ n ih =>
      intro i a1 a2 a3
      refine r_iload F dX8_leastBid_3 rfl ?_
      refine r_iload F dX8_leastBid_5 rfl ?_
      refine r_icgt F dX8_leastBid_7 (by omega) (by omega) (fun h7 => ?_) (fun h7 => ?_)
      · refine R_iconst (x := -1) F dX8_leastBid_35 rfl ?_
        first
          | (have he : fsN f (b + 1) = i := fsN_eq (by omega) (by rw [hf]; exact h23) a3
             exact r_iret F rfl rfl dX8_leastBid_36 ⟨by unfold orM; rw [he, if_pos (by omega)], rfl, rfl⟩)
          | (have he : fsN f (b + 1) = b + 1 := fsN_none (fun j hj => a3 j (by omega))
             exact r_iret F rfl rfl dX8_leastBid_36 ⟨by unfold orM; rw [he, if_neg (by omega)], rfl, rfl⟩)
      · refine r_aload_n F dX8_leastBid_10 rfl ?_
        refine r_iload_n F dX8_leastBid_11 rfl ?_
        refine r_iload_n F dX8_leastBid_12 rfl ?_
        refine r_iload_n F dX8_leastBid_13 rfl ?_
        refine r_iload F dX8_leastBid_14 rfl ?_
        refine r_iload F dX8_leastBid_16 rfl ?_
        refine r_iload F dX8_leastBid_18 rfl ?_
        refine r_callV6i F fMX8_wins tw_1077 rfl rfl rfl rfl dX8_leastBid_20 rfl rfl z0 (m8_wins g hr w h1 h2 hp3 h4 hb (bid := i) (by omega) hL) ?_
        refine r_Beq F dX8_leastBid_23 (fun h23 => ?_) (fun h23 => ?_)
        · refine r_iinc6 (y := 1) F dX8_leastBid_29 rfl rfl rfl rfl ?_
          refine r_goto F dX8_leastBid_32 ?_
          refine ih (i + 1) (by omega) (by omega) (fun j hj => ?_)
          rcases Nat.lt_or_ge j i with z | z
          · exact a3 j z
          · rw [show j = i by omega, hf]; exact h23
        · refine r_iload F dX8_leastBid_26 rfl ?_
          first
            | (have he : fsN f (b + 1) = i := fsN_eq (by omega) (by rw [hf]; exact h23) a3
               exact r_iret F rfl rfl dX8_leastBid_28 ⟨by unfold orM; rw [he, if_pos (by omega)], rfl, rfl⟩)
            | (have he : fsN f (b + 1) = b + 1 := fsN_none (fun j hj => a3 j (by omega))
               exact r_iret F rfl rfl dX8_leastBid_28 ⟨by unfold orM; rw [he, if_neg (by omega)], rfl, rfl⟩)
  refine r_iconst (x := 0) F dX8_leastBid_0 rfl ?_
  refine r_ist6 F dX8_leastBid_1 rfl rfl ?_
  exact loop (b + 2) 0 (by omega) (by omega) (fun j hj => absurd hj (Nat.not_lt_zero j))
set_option maxHeartbeats 8000000 in
theorem m8_leastBudget {G : GT} {v : VV} {L : LL} (g : GH G) {S : Nat → Nat} (hr : RM v S) (w : WS S) {t pl p st : Nat} (h1 : t < 13) (h2 : pl < 2) (h3 : p < 8) (h4 : st < 2) (hL : ∀ t', t = t' + 1 → HL v S t') : CC G MX8_leastBudget [.ref (gB G 83), .int (nI t), .int (nI pl), .int (nI p), .int (nI st)] v L (rI (thr S t pl p st) v L) := by
  refine cc_of g [some (.ref (gB G 83)), some (.int (nI t)), some (.int (nI pl)), some (.int (nI p)), some (.int (nI st)), none] rfl rfl rfl rfl (fun K F => ?_)
  have w0 : S 0 ≤ 20 := w.1
  have e0 := hr 0 (by decide)
  have loop : ∀ t', t = t' + 1 → ovr S p = false → ∀ (n i : Nat), S 0 + 1 < i + n → i ≤ S 0 + 1 → (∀ j, j < i → decide (lbid (soT S t' pl p) (eaT S t' pl p) (S 0) pl st j ≤ j) = false) → CW G K 6 0 0 (MQ (kb K) (Qn G (rI (thr S t pl p st) v L)) (ka K) (ks K) 0 0 (gA G)) v L 29 [some (.ref (gB G 83)), some (.int (nI t)), some (.int (nI pl)), some (.int (nI p)), some (.int (nI st)), some (.int (nI i))] [] := by
    intro t' et ho n
    subst et
    have ge := thr_go (S := S) (t := t') (pl := pl) (st := st) ho
    induction n with
    | zero => intro i a1 a2; omega
    | succ n ih =>
      intro i a1 a2 a3
      refine r_iload F dX8_leastBudget_29 rfl ?_
      refine r_aload_n F dX8_leastBudget_31 rfl ?_
      refine r_get (x := .ref (gB G 84)) (T := TX8) (n := 0) F uw8 rfl rfl tw_877 (Or.inl rfl) dX8_leastBudget_32 (kd_lt (rfl : kd 83 = (7,0,0)) (by decide)) (ce7 rfl) rfl ?_
      refine r_iconst (x := 0) F dX8_leastBudget_35 rfl ?_
      refine r_iald F dX8_leastBudget_36 rfl (by omega) ?_
      rw [e0]
      refine r_icgt F dX8_leastBudget_37 (by omega) (by omega) (fun h37 => ?_) (fun h37 => ?_)
      · refine r_bipush (x := 99) F dX8_leastBudget_66 rfl ?_
        first
          | (have he : fsN (fun b => decide (lbid (soT S t' pl p) (eaT S t' pl p) (S 0) pl st b ≤ b)) (S 0 + 1) = i := fsN_eq (by omega) (decide_eq_true (Nat.not_lt.mp (fun z => h54 ((orM_eq (by omega)).mpr z)))) a3
             exact i_iret F rfl dX8_leastBudget_68 (by rw [ge]; unfold lbud; rw [he, if_pos (by omega)]) rfl rfl)
          | (have he : fsN (fun b => decide (lbid (soT S t' pl p) (eaT S t' pl p) (S 0) pl st b ≤ b)) (S 0 + 1) = S 0 + 1 := fsN_none (fun j hj => a3 j (by omega))
             exact i_iret F rfl dX8_leastBudget_68 (by rw [ge]; unfold lbud; rw [he, if_neg (by omega)]) rfl rfl)
      · refine r_aload_n F dX8_leastBudget_40 rfl ?_
        refine r_iload_n F dX8_leastBudget_41 rfl ?_
        refine r_iconst (x := 1) F dX8_leastBudget_42 rfl ?_
        refine r_isub F dX8_leastBudget_43 (by omega) ?_
        refine r_iload_n F dX8_leastBudget_44 rfl ?_
        refine r_iload_n F dX8_leastBudget_45 rfl ?_
        refine r_iload F dX8_leastBudget_46 rfl ?_
        refine r_iload F dX8_leastBudget_48 rfl ?_
        rw [show t' + 1 - 1 = t' by omega]
        refine r_callV5q F fMX8_leastBid tw_1073 rfl rfl rfl rfl dX8_leastBudget_50 rfl rfl z0 (m8_leastBid g hr w (t := t') (by omega) h2 h3 h4 (b := i) (by omega) (hL t' rfl)) ?_
        refine R_iconst (x := -1) F dX8_leastBudget_53 rfl ?_
        refine R_iceq F dX8_leastBudget_54 (fun h54 => ?_) (fun h54 => ?_)
        · refine r_iinc5 (y := 1) F dX8_leastBudget_60 rfl rfl rfl rfl ?_
          refine r_goto F dX8_leastBudget_63 ?_
          refine ih (i + 1) (by omega) (by omega) (fun j hj => ?_)
          rcases Nat.lt_or_ge j i with z | z
          · exact a3 j z
          · rw [show j = i by omega]
            exact decide_eq_false (fun z => by have := (orM_eq (by omega)).mp h54; omega)
        · refine r_iload F dX8_leastBudget_57 rfl ?_
          first
            | (have he : fsN (fun b => decide (lbid (soT S t' pl p) (eaT S t' pl p) (S 0) pl st b ≤ b)) (S 0 + 1) = i := fsN_eq (by omega) (decide_eq_true (Nat.not_lt.mp (fun z => h54 ((orM_eq (by omega)).mpr z)))) a3
               exact i_iret F rfl dX8_leastBudget_59 (by rw [ge]; unfold lbud; rw [he, if_pos (by omega)]) rfl rfl)
            | (have he : fsN (fun b => decide (lbid (soT S t' pl p) (eaT S t' pl p) (S 0) pl st b ≤ b)) (S 0 + 1) = S 0 + 1 := fsN_none (fun j hj => a3 j (by omega))
               exact i_iret F rfl dX8_leastBudget_59 (by rw [ge]; unfold lbud; rw [he, if_neg (by omega)]) rfl rfl)
  refine r_aload_n F dX8_leastBudget_0 rfl ?_
  refine r_iload_n F dX8_leastBudget_1 rfl ?_
  refine r_iload_n F dX8_leastBudget_2 rfl ?_
  refine r_callV2i F fMX8_isWonFor tw_1069 rfl rfl rfl rfl dX8_leastBudget_3 rfl rfl z0 (m8_isWonFor g hr w.b h3 h2) ?_
  refine r_Beq F dX8_leastBudget_6 (fun h6 => ?_) (fun h6 => ?_)
  · refine r_iload_n F dX8_leastBudget_11 rfl ?_
    refine r_ifeq F dX8_leastBudget_12 (by omega) (fun h12 => ?_) (fun h12 => ?_)
    · refine r_bipush (x := 99) F dX8_leastBudget_23 rfl ?_
      first
        | exact i_iret F rfl dX8_leastBudget_25 (by rw [thr_end (Or.inl h12), h6]; rfl) rfl rfl
        | exact i_iret F rfl dX8_leastBudget_25 (by rw [thr_end (Or.inr h20), h6]; rfl) rfl rfl
    · refine r_aload_n F dX8_leastBudget_15 rfl ?_
      refine r_iload_n F dX8_leastBudget_16 rfl ?_
      refine r_callV1i F fMX8_isOver tw_977 rfl rfl rfl rfl dX8_leastBudget_17 rfl rfl z0 (m8_isOver g hr w.b h3) ?_
      refine r_Beq F dX8_leastBudget_20 (fun h20 => ?_) (fun h20 => ?_)
      · refine r_iconst (x := 0) F dX8_leastBudget_26 rfl ?_
        refine r_ist5 F dX8_leastBudget_27 rfl rfl ?_
        exact loop (t - 1) (by omega) h20 (S 0 + 2) 0 (by omega) (by omega) (fun j hj => absurd hj (Nat.not_lt_zero j))
      · refine r_bipush (x := 99) F dX8_leastBudget_23 rfl ?_
        first
          | exact i_iret F rfl dX8_leastBudget_25 (by rw [thr_end (Or.inl h12), h6]; rfl) rfl rfl
          | exact i_iret F rfl dX8_leastBudget_25 (by rw [thr_end (Or.inr h20), h6]; rfl) rfl rfl
  · refine r_iconst (x := 0) F dX8_leastBudget_9 rfl ?_
    exact i_iret F rfl dX8_leastBudget_10 (by cases t with | zero => (show 0 = if won S pl p then 0 else 99); rw [h6]; rfl | succ t => rw [thr_s, h6]; rfl) rfl rfl
set_option maxHeartbeats 8000000 in
theorem m8_lay {G : GT} {v : VV} {L : LL} (g : GH G) {S : Nat → Nat} (hr : RM v S) (w : WS S) : CC G MX8_lay [.ref (gB G 83)] v L (gV fun v' L' => L' = L ∧ (∀ k, k ≠ 89 → v' k = v k) ∧ ∀ t, t < 13 → HL v' S t) := by
  refine cc_of g [some (.ref (gB G 83)), none, none] rfl rfl rfl rfl (fun K F => ?_)
  have loop : ∀ (n t : Nat) (v1 : VV), 13 < t + n → t ≤ 13 → (∀ k, k ≠ 89 → v1 k = v k) → (∀ t', t' < t → HL v1 S t') → CW G K 3 0 0 (MQ (kb K) (Qn G (gV fun v' L' => L' = L ∧ (∀ k, k ≠ 89 → v' k = v k) ∧ ∀ t, t < 13 → HL v' S t)) (ka K) (ks K) 0 0 (gA G)) v1 L 2 [some (.ref (gB G 83)), some (.int (nI t)), none] [] := by
    intro n
    induction n with
    | zero => intro t v1 a1 a2; omega
    | succ n ih =>
      intro t v1 a1 a2 a3 a4
      have inner : t < 13 → ∀ (m i : Nat) (v1 : VV), 32 < i + m → i ≤ 32 → (∀ k, k ≠ 89 → v1 k = v k) → (∀ t', t' < t → HL v1 S t') → (∀ j, j < i → v1 89 (32 * t + j) = thr S t (j / 16) (j / 2 % 8) (j % 2)) → CW G K 3 0 0 (MQ (kb K) (Qn G (gV fun v' L' => L' = L ∧ (∀ k, k ≠ 89 → v' k = v k) ∧ ∀ t, t < 13 → HL v' S t)) (ka K) (ks K) 0 0 (gA G)) v1 L 10 [some (.ref (gB G 83)), some (.int (nI t)), some (.int (nI i))] [] := by
        intro ht m
        induction m with
        | zero => intro i v1 b1 b2; omega
        | succ m ihm =>
          intro i v1 b1 b2 b3 b4 b5
          have hr1 : RM v1 S := fun j hj => by rw [b3 84 (by decide)]; exact hr j hj
          refine r_iload_n F dX8_lay_10 rfl ?_
          refine r_bipush (x := 32) F dX8_lay_11 rfl ?_
          refine r_icge F dX8_lay_13 (by omega) (by omega) (fun h13 => ?_) (fun h13 => ?_)
          · refine r_iinc1 (y := 1) F dX8_lay_51 rfl rfl rfl rfl ?_
            refine r_goto F dX8_lay_54 ?_
            refine r_dr2 ?_
            refine ih (t + 1) v1 (by omega) (by omega) b3 (fun t' ht' => ?_)
            rcases Nat.lt_or_ge t' t with z | z
            · exact b4 t' z
            · rw [show t' = t by omega]
              intro pl hpl q hq σ hσ
              rw [show 32 * t + 16 * pl + 2 * q + σ = 32 * t + (16 * pl + 2 * q + σ) by omega, b5 _ (by omega), show (16 * pl + 2 * q + σ) / 16 = pl by omega, show (16 * pl + 2 * q + σ) / 2 % 8 = q by omega, show (16 * pl + 2 * q + σ) % 2 = σ by omega]
          · refine r_aload_n F dX8_lay_16 rfl ?_
            refine r_get (x := .ref (gB G 89)) (T := TX8) (n := 8) F uw8 rfl rfl tw_885 (Or.inl rfl) dX8_lay_17 (kd_lt (rfl : kd 83 = (7,0,0)) (by decide)) (ce7 rfl) rfl ?_
            refine r_bipush (x := 32) F dX8_lay_20 rfl ?_
            refine r_iload_n F dX8_lay_22 rfl ?_
            refine r_imul F dX8_lay_23 ?_
            refine r_iload_n F dX8_lay_24 rfl ?_
            refine r_iadd F dX8_lay_25 ?_
            refine r_aload_n F dX8_lay_26 rfl ?_
            refine r_iload_n F dX8_lay_27 rfl ?_
            refine r_iload_n F dX8_lay_28 rfl ?_
            refine r_bipush (x := 16) F dX8_lay_29 rfl ?_
            refine r_idiv F dX8_lay_31 (by omega) (by omega) (by omega) ?_
            refine r_iload_n F dX8_lay_32 rfl ?_
            refine r_iconst (x := 2) F dX8_lay_33 rfl ?_
            refine r_idiv F dX8_lay_34 (by omega) (by omega) (by omega) ?_
            refine r_bipush (x := 8) F dX8_lay_35 rfl ?_
            refine r_irem F dX8_lay_37 (by omega) (by omega) (by omega) ?_
            refine r_iload_n F dX8_lay_38 rfl ?_
            refine r_iconst (x := 2) F dX8_lay_39 rfl ?_
            refine r_irem F dX8_lay_40 (by omega) (by omega) (by omega) ?_
            refine r_callV4i F fMX8_leastBudget tw_1065 rfl rfl rfl rfl dX8_lay_41 rfl rfl z0 (m8_leastBudget g hr1 w ht (by omega) (by omega) (by omega) (fun t' et => b4 t' (by omega))) ?_
            refine r_iast F dX8_lay_44 rfl (by omega) ?_
            refine r_iinc2 (y := 1) F dX8_lay_45 rfl rfl rfl rfl ?_
            refine r_goto F dX8_lay_48 ?_
            refine ihm (i + 1) _ (by omega) (by omega) (fun k hk => by rw [up2_k _ hk, b3 k hk]) (fun t' ht' pl hpl q hq σ hσ => ?_) (fun j hj => ?_)
            · rw [up2_j _ (by omega)]; exact b4 t' ht' pl hpl q hq σ hσ
            · rcases Nat.lt_or_ge j i with z | z
              · rw [up2_j _ (by omega)]; exact b5 j z
              · rw [show j = i by omega, up2_s]
      refine r_iload_n F dX8_lay_2 rfl ?_
      refine r_bipush (x := 12) F dX8_lay_3 rfl ?_
      refine r_icgt F dX8_lay_5 (by omega) (by omega) (fun h5 => ?_) (fun h5 => ?_)
      · exact r_vret F rfl dX8_lay_57 ⟨rfl, rfl, a3, fun t' ht' => a4 t' (by omega)⟩
      · refine r_iconst (x := 0) F dX8_lay_8 rfl ?_
        refine r_ist2 F dX8_lay_9 rfl rfl ?_
        exact inner (by omega) 33 0 v1 (by omega) (by omega) a3 a4 (fun j hj => absurd hj (Nat.not_lt_zero j))
  refine r_iconst (x := 0) F dX8_lay_0 rfl ?_
  refine r_ist1 F dX8_lay_1 rfl rfl ?_
  exact loop 14 0 v (by omega) (by omega) (fun _ _ => rfl) (fun t' ht' => absurd ht' (Nat.not_lt_zero t'))
