theorem cc_mono {G : GT} {M : MD} {avs : List Value} {v : VV} {L : LL} {Φ Φ' : Option Value → VV → LL → Prop} (h : CC G M avs v L Φ) (hi : ∀ r v' L', Φ r v' L' → Φ' r v' L') : CC G M avs v L Φ' := fun p e ha hc hk s m args below hf happ hP ht => by
  obtain ⟨k, o, h1, h2, h3, ⟨⟨⟨r, v', L', e1, e2, e3⟩, e4⟩, e5⟩⟩ := h p e ha hc hk s m args below hf happ hP ht
  exact ⟨k, o, h1, h2, h3, ⟨⟨r, v', L', e1, hi _ _ _ e2, e3⟩, e4⟩, e5⟩
set_option maxHeartbeats 4000000 in
theorem m7_setting {G : GT} {v : VV} {L : LL} {a : AS} (g : GH G) (h : IC v a) {i : Nat} (hi : i ≤ 1) : CC G MX7_setting [.ref (gB G 0), .int (nI i)] v L (gI (PC v L a (nI (sS a i)))) := by
  refine cc_of g [some (.ref (gB G 0)), some (.int (nI i))] rfl rfl rfl rfl (fun K F => ?_)
  have c1 : v 1 1 = sS a 0 := h.1.1
  have c2 : v 1 2 = sS a 1 := h.1.2.1
  refine r_iload_n F dX7_setting_0 rfl ?_
  refine r_callS1v F fMX7_needSetting tw_760 rfl dX7_setting_1 rfl rfl z0 (m7_needSetting g hi) ?_
  refine r_iload_n F dX7_setting_4 rfl ?_
  refine r_ifne F dX7_setting_5 (by omega) (fun h5 => ?_) (fun h5 => ?_)
  · refine r_aload_n F dX7_setting_18 rfl ?_
    refine r_get (x := .ref (gB G 1)) (T := TX7) (n := 0) F uw7 rfl rfl tw_274 (Or.inl rfl) dX7_setting_19 (kd_lt (rfl : kd 0 = (6,0,0)) (by decide)) (ce6 rfl) rfl ?_
    refine r_getN (T := TX5) (n := 2) F uw5 rfl rfl tw_135 (Or.inl rfl) dX7_setting_22 (kd_lt (rfl : kd 1 = (4,0,0)) (by decide)) (ce4 rfl) rfl ?_
    first
      | exact r_iret F rfl rfl dX7_setting_25 ⟨_, rfl, by rw [c1, show i = 0 by omega], rfl, FrC.rf v, h⟩
      | exact r_iret F rfl rfl dX7_setting_25 ⟨_, rfl, by rw [c2, show i = 1 by omega], rfl, FrC.rf v, h⟩
  · refine r_aload_n F dX7_setting_8 rfl ?_
    refine r_get (x := .ref (gB G 1)) (T := TX7) (n := 0) F uw7 rfl rfl tw_274 (Or.inl rfl) dX7_setting_9 (kd_lt (rfl : kd 0 = (6,0,0)) (by decide)) (ce6 rfl) rfl ?_
    refine r_getN (T := TX5) (n := 1) F uw5 rfl rfl tw_132 (Or.inl rfl) dX7_setting_12 (kd_lt (rfl : kd 1 = (4,0,0)) (by decide)) (ce4 rfl) rfl ?_
    refine r_goto F dX7_setting_15 ?_
    first
      | exact r_iret F rfl rfl dX7_setting_25 ⟨_, rfl, by rw [c1, show i = 0 by omega], rfl, FrC.rf v, h⟩
      | exact r_iret F rfl rfl dX7_setting_25 ⟨_, rfl, by rw [c2, show i = 1 by omega], rfl, FrC.rf v, h⟩
set_option maxHeartbeats 4000000 in
theorem x7_setting {G : GT} {v : VV} {L : LL} {Φ : VV → LL → Prop} (g : GH G) {x : Int32} (hx : oor x 1) (h : Φ v L) : CX G MX7_setting [.ref (gB G 0), .int x] v L eIX Φ := by
  refine cx_of g [some (.ref (gB G 0)), some (.int x)] rfl rfl rfl rfl (fun K F he => ?_)
  refine r_iload_n F dX7_setting_0 rfl ?_
  exact r_outS1 F he fMX7_needSetting tw_760 rfl dX7_setting_1 rfl rfl (x7_needSetting g hx h)
def posV (S : Nat → Nat) (p w : Nat) : Int32 := if w = 0 then nI (S (12 + 6 * p)) else if w = 1 then nI (S (13 + 6 * p)) else if w = 6 then nI (cntB (fun r => hm S r (nI p)) 8) else mvA S p (w - 2)
set_option maxHeartbeats 8000000 in
theorem m7_positionOf {G : GT} {v : VV} {L : LL} {a : AS} (g : GH G) (h : IC v a) (w : WA a) {p i : Nat} (hp : p < 8) (hi : i ≤ 6) : CC G MX7_positionOf [.ref (gB G 0), .int (nI p), .int (nI i)] v L (gI (PC v L a (posV (sS a) p i))) := by
  refine cc_of g [some (.ref (gB G 0)), some (.int (nI p)), some (.int (nI i))] rfl rfl rfl rfl (fun K F => ?_)
  obtain ⟨b1, b2, -⟩ := h.1.b p hp
  have b1 : v 3 p = sS a (12 + 6 * p) := b1
  have b2 : v 4 p = sS a (13 + 6 * p) := b2
  have hq : i = 0 ∨ i = 1 ∨ i = 6 ∨ (2 ≤ i ∧ i ≤ 5) := by omega
  refine r_iload_n F dX7_positionOf_0 rfl ?_
  refine r_callS1v F fMX7_needPosition tw_623 rfl dX7_positionOf_1 rfl rfl z0 (m7_needPosition g (p := p) (by omega)) ?_
  refine r_iload_n F dX7_positionOf_4 rfl ?_
  refine r_bipush (x := 6) F dX7_positionOf_5 rfl ?_
  refine r_callS2v F fMX7_needUpTo tw_544 rfl dX7_positionOf_7 rfl rfl z0 (m7_needUpTo g hi (by decide)) ?_
  refine r_iload_n F dX7_positionOf_10 rfl ?_
  skip
  rcases hq with rfl | rfl | rfl | ⟨h1, h2⟩
  · refine R_look F dX7_positionOf_11 (by decide) rfl rfl ?_
    refine r_aload_n F dX7_positionOf_44 rfl ?_
    refine r_get (x := .ref (gB G 1)) (T := TX7) (n := 0) F uw7 rfl rfl tw_274 (Or.inl rfl) dX7_positionOf_45 (kd_lt (rfl : kd 0 = (6,0,0)) (by decide)) (ce6 rfl) rfl ?_
    refine r_getN (x := .ref (gB G 2)) (T := TX5) (n := 0) F uw5 rfl rfl tw_129 (Or.inl rfl) dX7_positionOf_48 (kd_lt (rfl : kd 1 = (4,0,0)) (by decide)) (ce4 rfl) rfl ?_
    refine r_getN (x := .ref (gB G 3)) (T := TX0) (n := 0) F uw0 rfl rfl tw_113 (Or.inl rfl) dX7_positionOf_51 (kd_lt (rfl : kd 2 = (0,0,0)) (by decide)) (ce0 rfl) rfl ?_
    refine r_iload_n F dX7_positionOf_54 rfl ?_
    refine r_iald F dX7_positionOf_55 rfl (by omega) ?_
    exact r_iret F rfl rfl dX7_positionOf_56 ⟨_, rfl, by rw [b1]; rfl, rfl, FrC.rf v, h⟩
  · refine R_look F dX7_positionOf_11 (by decide) rfl rfl ?_
    refine r_aload_n F dX7_positionOf_57 rfl ?_
    refine r_get (x := .ref (gB G 1)) (T := TX7) (n := 0) F uw7 rfl rfl tw_274 (Or.inl rfl) dX7_positionOf_58 (kd_lt (rfl : kd 0 = (6,0,0)) (by decide)) (ce6 rfl) rfl ?_
    refine r_getN (x := .ref (gB G 2)) (T := TX5) (n := 0) F uw5 rfl rfl tw_129 (Or.inl rfl) dX7_positionOf_61 (kd_lt (rfl : kd 1 = (4,0,0)) (by decide)) (ce4 rfl) rfl ?_
    refine r_getN (x := .ref (gB G 4)) (T := TX0) (n := 1) F uw0 rfl rfl tw_116 (Or.inl rfl) dX7_positionOf_64 (kd_lt (rfl : kd 2 = (0,0,0)) (by decide)) (ce0 rfl) rfl ?_
    refine r_iload_n F dX7_positionOf_67 rfl ?_
    refine r_iald F dX7_positionOf_68 rfl (by omega) ?_
    exact r_iret F rfl rfl dX7_positionOf_69 ⟨_, rfl, by rw [b2]; rfl, rfl, FrC.rf v, h⟩
  · refine R_look F dX7_positionOf_11 (by decide) rfl rfl ?_
    refine r_aload_n F dX7_positionOf_70 rfl ?_
    refine r_get (x := .ref (gB G 1)) (T := TX7) (n := 0) F uw7 rfl rfl tw_274 (Or.inl rfl) dX7_positionOf_71 (kd_lt (rfl : kd 0 = (6,0,0)) (by decide)) (ce6 rfl) rfl ?_
    refine r_getN (x := .ref (gB G 2)) (T := TX5) (n := 0) F uw5 rfl rfl tw_129 (Or.inl rfl) dX7_positionOf_74 (kd_lt (rfl : kd 1 = (4,0,0)) (by decide)) (ce4 rfl) rfl ?_
    refine r_iload_n F dX7_positionOf_77 rfl ?_
    refine r_callN1i F fMX0_movesTo tw_642 rfl rfl rfl rfl dX7_positionOf_78 rfl rfl z0 (m0_movesTo g bd2 h.1.b w.1.b (nI p)) ?_
    exact r_iret F rfl rfl dX7_positionOf_81 ⟨_, rfl, rfl, rfl, FrC.rf v, h⟩
  · refine R_look F dX7_positionOf_11 (tgt := 82) (off := 71) (by decide) ?_ rfl ?_
    · have : i = 2 ∨ i = 3 ∨ i = 4 ∨ i = 5 := by omega
      rcases this with rfl | rfl | rfl | rfl <;> rfl
    refine r_aload_n F dX7_positionOf_82 rfl ?_
    refine r_get (x := .ref (gB G 1)) (T := TX7) (n := 0) F uw7 rfl rfl tw_274 (Or.inl rfl) dX7_positionOf_83 (kd_lt (rfl : kd 0 = (6,0,0)) (by decide)) (ce6 rfl) rfl ?_
    refine r_getN (x := .ref (gB G 2)) (T := TX5) (n := 0) F uw5 rfl rfl tw_129 (Or.inl rfl) dX7_positionOf_86 (kd_lt (rfl : kd 1 = (4,0,0)) (by decide)) (ce4 rfl) rfl ?_
    refine r_iload_n F dX7_positionOf_89 rfl ?_
    refine r_iload_n F dX7_positionOf_90 rfl ?_
    refine r_iconst (x := 2) F dX7_positionOf_91 rfl ?_
    refine r_isub F dX7_positionOf_92 (by omega) ?_
    refine r_callN2q F fMX0_moveAt tw_647 rfl rfl rfl rfl dX7_positionOf_93 rfl rfl z0 (m0_moveAt g bd2 h.1.b w.1.b hp (i := i - 2) (by omega)) ?_
    exact r_iret F rfl rfl dX7_positionOf_96 ⟨_, rfl, by unfold posV; rw [if_neg (by omega), if_neg (by omega), if_neg (by omega)], rfl, FrC.rf v, h⟩
set_option maxHeartbeats 4000000 in
theorem x7_positionOf1 {G : GT} {v : VV} {L : LL} {Φ : VV → LL → Prop} (g : GH G) {x y : Int32} (hx : oor x 7) (h : Φ v L) : CX G MX7_positionOf [.ref (gB G 0), .int x, .int y] v L eIX Φ := by
  refine cx_of g [some (.ref (gB G 0)), some (.int x), some (.int y)] rfl rfl rfl rfl (fun K F he => ?_)
  refine r_iload_n F dX7_positionOf_0 rfl ?_
  exact r_outS1 F he fMX7_needPosition tw_623 rfl dX7_positionOf_1 rfl rfl (x7_needPosition g hx h)
set_option maxHeartbeats 4000000 in
theorem x7_positionOf2 {G : GT} {v : VV} {L : LL} {Φ : VV → LL → Prop} (g : GH G) {p : Nat} {y : Int32} (hp : p < 8) (hx : oor y 6) (h : Φ v L) : CX G MX7_positionOf [.ref (gB G 0), .int (nI p), .int y] v L eIA Φ := by
  refine cx_of g [some (.ref (gB G 0)), some (.int (nI p)), some (.int y)] rfl rfl rfl rfl (fun K F he => ?_)
  refine r_iload_n F dX7_positionOf_0 rfl ?_
  refine r_callS1v F fMX7_needPosition tw_623 rfl dX7_positionOf_1 rfl rfl z16 (m7_needPosition g (p := p) (by omega)) ?_
  refine r_iload_n F dX7_positionOf_4 rfl ?_
  refine r_bipush (x := 6) F dX7_positionOf_5 rfl ?_
  exact r_outS2 F he fMX7_needUpTo tw_544 rfl dX7_positionOf_7 rfl rfl (x7_needUpTo g (n := 6) hx h)
def cnV (a : AS) (w : Nat) : Int32 := if w = 0 then nI (sS a 4) else if w = 1 then nI (ovr (sS a) (sS a 4)).toNat else if w = 2 then nI (sS a (12 + 6 * sS a 4)) - 1 else if w = 3 then nI (bq (sS a 5)) else if w = 4 then nI (sS a 3) else if w = 5 then nI (sS a 0) else if w = 6 then nI (sS a 6 + sS a 7) else if w = 7 then nI (sS a 10) else if w = 8 then nI (sS a 11) else if w = 9 then nI (smN (fun p => sS a (13 + 6 * p)) 8) else nI (sN a)
set_option maxHeartbeats 8000000 in
theorem m7_count {G : GT} {v : VV} {L : LL} {a : AS} (g : GH G) (h : IC v a) (w : WA a) {i : Nat} (hi : i ≤ 10) : CC G MX7_count [.ref (gB G 0), .int (nI i)] v L (gI (PC v L a (cnV a i))) := by
  refine cc_of g [some (.ref (gB G 0)), some (.int (nI i))] rfl rfl rfl rfl (fun K F => ?_)
  obtain ⟨a1, a2, a3, a4, a5, a6, a7, a8, a9, a10, a11, a12, -⟩ := h.1
  have a9 : v 6 0 = sS a 6 := a9
  have a10 : v 6 1 = sS a 7 := a10
  have w4 : sS a 4 < 8 := w.1.2.2.2.2.1
  have b4 : v 3 (sS a 4) = sS a (12 + 6 * sS a 4) := (h.1.b _ w4).1
  have e2 : v 64 2 = sN a := by obtain ⟨nx, _, _, _, z, _⟩ := h.2.1.1; exact z
  have hq : i = 0 ∨ i = 1 ∨ i = 2 ∨ i = 3 ∨ i = 4 ∨ i = 5 ∨ i = 6 ∨ i = 7 ∨ i = 8 ∨ i = 9 ∨ i = 10 := by omega
  refine r_iload_n F dX7_count_0 rfl ?_
  refine r_bipush (x := 10) F dX7_count_1 rfl ?_
  refine r_callS2v F fMX7_needUpTo tw_544 rfl dX7_count_3 rfl rfl z0 (m7_needUpTo g hi (by decide)) ?_
  refine r_iload_n F dX7_count_6 rfl ?_
  skip
  rcases hq with rfl | rfl | rfl | rfl | rfl | rfl | rfl | rfl | rfl | rfl | rfl
  · refine R_tab F dX7_count_7 (by decide) (by decide) rfl rfl ?_
    refine r_aload_n F dX7_count_60 rfl ?_
    refine r_get (x := .ref (gB G 1)) (T := TX7) (n := 0) F uw7 rfl rfl tw_274 (Or.inl rfl) dX7_count_61 (kd_lt (rfl : kd 0 = (6,0,0)) (by decide)) (ce6 rfl) rfl ?_
    refine r_getN (T := TX5) (n := 3) F uw5 rfl rfl tw_138 (Or.inl rfl) dX7_count_64 (kd_lt (rfl : kd 1 = (4,0,0)) (by decide)) (ce4 rfl) rfl ?_
    exact r_iret F rfl rfl dX7_count_67 ⟨_, rfl, by rw [a3]; rfl, rfl, FrC.rf v, h⟩
  · refine R_tab F dX7_count_7 (by decide) (by decide) rfl rfl ?_
    refine r_aload_n F dX7_count_68 rfl ?_
    refine r_get (x := .ref (gB G 1)) (T := TX7) (n := 0) F uw7 rfl rfl tw_274 (Or.inl rfl) dX7_count_69 (kd_lt (rfl : kd 0 = (6,0,0)) (by decide)) (ce6 rfl) rfl ?_
    refine r_callN0i F fMX5_isOver tw_348 rfl rfl rfl rfl dX7_count_72 rfl rfl z0 (m5_isOver g st1 h.1 w.1) ?_
    refine r_Beq F dX7_count_75 (fun h75 => ?_) (fun h75 => ?_)
    · refine r_iconst (x := 0) F dX7_count_82 rfl ?_
      exact r_iret F rfl rfl dX7_count_83 ⟨_, rfl, by show _ = nI (ovr (sS a) (sS a 4)).toNat; rw [h75]; rfl, rfl, FrC.rf v, h⟩
    · refine r_iconst (x := 1) F dX7_count_78 rfl ?_
      refine r_goto F dX7_count_79 ?_
      exact r_iret F rfl rfl dX7_count_83 ⟨_, rfl, by show _ = nI (ovr (sS a) (sS a 4)).toNat; rw [h75]; rfl, rfl, FrC.rf v, h⟩
  · refine R_tab F dX7_count_7 (by decide) (by decide) rfl rfl ?_
    refine r_aload_n F dX7_count_84 rfl ?_
    refine r_get (x := .ref (gB G 1)) (T := TX7) (n := 0) F uw7 rfl rfl tw_274 (Or.inl rfl) dX7_count_85 (kd_lt (rfl : kd 0 = (6,0,0)) (by decide)) (ce6 rfl) rfl ?_
    refine r_getN (x := .ref (gB G 2)) (T := TX5) (n := 0) F uw5 rfl rfl tw_129 (Or.inl rfl) dX7_count_88 (kd_lt (rfl : kd 1 = (4,0,0)) (by decide)) (ce4 rfl) rfl ?_
    refine r_getN (x := .ref (gB G 3)) (T := TX0) (n := 0) F uw0 rfl rfl tw_113 (Or.inl rfl) dX7_count_91 (kd_lt (rfl : kd 2 = (0,0,0)) (by decide)) (ce0 rfl) rfl ?_
    refine r_aload_n F dX7_count_94 rfl ?_
    refine r_get (x := .ref (gB G 1)) (T := TX7) (n := 0) F uw7 rfl rfl tw_274 (Or.inl rfl) dX7_count_95 (kd_lt (rfl : kd 0 = (6,0,0)) (by decide)) (ce6 rfl) rfl ?_
    refine r_getN (T := TX5) (n := 3) F uw5 rfl rfl tw_138 (Or.inl rfl) dX7_count_98 (kd_lt (rfl : kd 1 = (4,0,0)) (by decide)) (ce4 rfl) rfl ?_
    rw [a3]
    refine r_iald F dX7_count_101 rfl (by omega) ?_
    refine r_iconst (x := 1) F dX7_count_102 rfl ?_
    refine R_isub F dX7_count_103 rfl ?_
    exact r_iret F rfl rfl dX7_count_104 ⟨_, rfl, by rw [b4]; rfl, rfl, FrC.rf v, h⟩
  · refine R_tab F dX7_count_7 (by decide) (by decide) rfl rfl ?_
    refine r_aload_n F dX7_count_105 rfl ?_
    refine r_get (x := .ref (gB G 1)) (T := TX7) (n := 0) F uw7 rfl rfl tw_274 (Or.inl rfl) dX7_count_106 (kd_lt (rfl : kd 0 = (6,0,0)) (by decide)) (ce6 rfl) rfl ?_
    refine r_getN (T := TX5) (n := 6) F uw5 rfl rfl tw_145 (Or.inl rfl) dX7_count_109 (kd_lt (rfl : kd 1 = (4,0,0)) (by decide)) (ce4 rfl) rfl ?_
    exact r_iret F rfl rfl dX7_count_112 ⟨_, rfl, by rw [a6]; rfl, rfl, FrC.rf v, h⟩
  · refine R_tab F dX7_count_7 (by decide) (by decide) rfl rfl ?_
    refine r_aload_n F dX7_count_113 rfl ?_
    refine r_get (x := .ref (gB G 1)) (T := TX7) (n := 0) F uw7 rfl rfl tw_274 (Or.inl rfl) dX7_count_114 (kd_lt (rfl : kd 0 = (6,0,0)) (by decide)) (ce6 rfl) rfl ?_
    refine r_getN (T := TX5) (n := 5) F uw5 rfl rfl tw_142 (Or.inl rfl) dX7_count_117 (kd_lt (rfl : kd 1 = (4,0,0)) (by decide)) (ce4 rfl) rfl ?_
    exact r_iret F rfl rfl dX7_count_120 ⟨_, rfl, by rw [a5]; rfl, rfl, FrC.rf v, h⟩
  · refine R_tab F dX7_count_7 (by decide) (by decide) rfl rfl ?_
    refine r_aload_n F dX7_count_121 rfl ?_
    refine r_get (x := .ref (gB G 1)) (T := TX7) (n := 0) F uw7 rfl rfl tw_274 (Or.inl rfl) dX7_count_122 (kd_lt (rfl : kd 0 = (6,0,0)) (by decide)) (ce6 rfl) rfl ?_
    refine r_getN (T := TX5) (n := 1) F uw5 rfl rfl tw_132 (Or.inl rfl) dX7_count_125 (kd_lt (rfl : kd 1 = (4,0,0)) (by decide)) (ce4 rfl) rfl ?_
    exact r_iret F rfl rfl dX7_count_128 ⟨_, rfl, by rw [a1]; rfl, rfl, FrC.rf v, h⟩
  · refine R_tab F dX7_count_7 (by decide) (by decide) rfl rfl ?_
    refine r_aload_n F dX7_count_129 rfl ?_
    refine r_get (x := .ref (gB G 1)) (T := TX7) (n := 0) F uw7 rfl rfl tw_274 (Or.inl rfl) dX7_count_130 (kd_lt (rfl : kd 0 = (6,0,0)) (by decide)) (ce6 rfl) rfl ?_
    refine r_getN (x := .ref (gB G 6)) (T := TX5) (n := 7) F uw5 rfl rfl tw_147 (Or.inl rfl) dX7_count_133 (kd_lt (rfl : kd 1 = (4,0,0)) (by decide)) (ce4 rfl) rfl ?_
    refine r_iconst (x := 0) F dX7_count_136 rfl ?_
    refine r_iald F dX7_count_137 rfl (by omega) ?_
    refine r_aload_n F dX7_count_138 rfl ?_
    refine r_get (x := .ref (gB G 1)) (T := TX7) (n := 0) F uw7 rfl rfl tw_274 (Or.inl rfl) dX7_count_139 (kd_lt (rfl : kd 0 = (6,0,0)) (by decide)) (ce6 rfl) rfl ?_
    refine r_getN (x := .ref (gB G 6)) (T := TX5) (n := 7) F uw5 rfl rfl tw_147 (Or.inl rfl) dX7_count_142 (kd_lt (rfl : kd 1 = (4,0,0)) (by decide)) (ce4 rfl) rfl ?_
    refine r_iconst (x := 1) F dX7_count_145 rfl ?_
    refine r_iald F dX7_count_146 rfl (by omega) ?_
    refine r_iadd F dX7_count_147 ?_
    exact r_iret F rfl rfl dX7_count_148 ⟨_, rfl, by rw [a9, a10]; rfl, rfl, FrC.rf v, h⟩
  · refine R_tab F dX7_count_7 (by decide) (by decide) rfl rfl ?_
    refine r_aload_n F dX7_count_149 rfl ?_
    refine r_get (x := .ref (gB G 1)) (T := TX7) (n := 0) F uw7 rfl rfl tw_274 (Or.inl rfl) dX7_count_150 (kd_lt (rfl : kd 0 = (6,0,0)) (by decide)) (ce6 rfl) rfl ?_
    refine r_getN (T := TX5) (n := 9) F uw5 rfl rfl tw_151 (Or.inl rfl) dX7_count_153 (kd_lt (rfl : kd 1 = (4,0,0)) (by decide)) (ce4 rfl) rfl ?_
    exact r_iret F rfl rfl dX7_count_156 ⟨_, rfl, by rw [a7]; rfl, rfl, FrC.rf v, h⟩
  · refine R_tab F dX7_count_7 (by decide) (by decide) rfl rfl ?_
    refine r_aload_n F dX7_count_157 rfl ?_
    refine r_get (x := .ref (gB G 1)) (T := TX7) (n := 0) F uw7 rfl rfl tw_274 (Or.inl rfl) dX7_count_158 (kd_lt (rfl : kd 0 = (6,0,0)) (by decide)) (ce6 rfl) rfl ?_
    refine r_getN (T := TX5) (n := 10) F uw5 rfl rfl tw_153 (Or.inl rfl) dX7_count_161 (kd_lt (rfl : kd 1 = (4,0,0)) (by decide)) (ce4 rfl) rfl ?_
    exact r_iret F rfl rfl dX7_count_164 ⟨_, rfl, by rw [a8]; rfl, rfl, FrC.rf v, h⟩
  · refine R_tab F dX7_count_7 (by decide) (by decide) rfl rfl ?_
    refine r_aload_n F dX7_count_165 rfl ?_
    refine r_get (x := .ref (gB G 1)) (T := TX7) (n := 0) F uw7 rfl rfl tw_274 (Or.inl rfl) dX7_count_166 (kd_lt (rfl : kd 0 = (6,0,0)) (by decide)) (ce6 rfl) rfl ?_
    refine r_getN (x := .ref (gB G 2)) (T := TX5) (n := 0) F uw5 rfl rfl tw_129 (Or.inl rfl) dX7_count_169 (kd_lt (rfl : kd 1 = (4,0,0)) (by decide)) (ce4 rfl) rfl ?_
    refine r_callN0i F fMX0_allMoves tw_615 rfl rfl rfl rfl dX7_count_172 rfl rfl z0 (m0_allMoves g bd2 h.1.b w.1.b) ?_
    exact r_iret F rfl rfl dX7_count_175 ⟨_, rfl, rfl, rfl, FrC.rf v, h⟩
  · refine R_tabO F dX7_count_7 (by decide) rfl ?_
    refine r_aload_n F dX7_count_176 rfl ?_
    refine r_get (x := .ref (gB G 64)) (T := TX7) (n := 1) F uw7 rfl rfl tw_275 (Or.inl rfl) dX7_count_177 (kd_lt (rfl : kd 0 = (6,0,0)) (by decide)) (ce6 rfl) rfl ?_
    refine r_getN (T := TX4) (n := 2) F uw4 rfl rfl tw_189 (Or.inl rfl) dX7_count_180 (kd_lt (rfl : kd 64 = (3,0,0)) (by decide)) (ce3 rfl) rfl ?_
    exact r_iret F rfl rfl dX7_count_183 ⟨_, rfl, by rw [e2]; rfl, rfl, FrC.rf v, h⟩
set_option maxHeartbeats 4000000 in
theorem x7_count {G : GT} {v : VV} {L : LL} {Φ : VV → LL → Prop} (g : GH G) {x : Int32} (hx : oor x 10) (h : Φ v L) : CX G MX7_count [.ref (gB G 0), .int x] v L eIA Φ := by
  refine cx_of g [some (.ref (gB G 0)), some (.int x)] rfl rfl rfl rfl (fun K F he => ?_)
  refine r_iload_n F dX7_count_0 rfl ?_
  refine r_bipush (x := 10) F dX7_count_1 rfl ?_
  exact r_outS2 F he fMX7_needUpTo tw_544 rfl dX7_count_3 rfl rfl (x7_needUpTo g (n := 10) hx h)
/-! what is told stays true of the run -/
theorem IC.tell2 {v v' : VV} {a : AS} (h : IC v a) (c : ∀ k, k ≠ 75 → k ≠ 76 → k ≠ 77 → k ≠ 78 → v' k = v k) {n1 : Nat} (h1 : n1 ≤ 13) (e1 : v' 75 3 = n1) (hE : En2 v' (sS a) n1) : IC v' a := by
  obtain ⟨h1', h2', h3'⟩ := h
  refine ⟨h1'.kept (fun j _ _ => c j (by omega) (by omega) (by omega) (by omega)), h2'.kept (fun k _ _ _ => c k (by omega) (by omega) (by omega) (by omega)) (by rw [c 68 (by decide) (by decide) (by decide) (by decide)]), ⟨n1, h1, e1, hE⟩, ?_⟩
  obtain ⟨m, h4, h5, h6⟩ := h3'.2
  refine ⟨m, h4, by rw [c 79 (by decide) (by decide) (by decide) (by decide), h5], fun t ht pl hp p hq st hs => ?_⟩
  rw [c 82 (by decide) (by decide) (by decide) (by decide)]
  exact h6 t ht pl hp p hq st hs
theorem IC.tell5 {v v' : VV} {a : AS} (h : IC v a) (c : ∀ k, k ≠ 79 → k ≠ 80 → k ≠ 81 → k ≠ 82 → v' k = v k) {n1 : Nat} (h1 : n1 ≤ 13) (e1 : v' 79 3 = n1) (hE : En5 v' (sS a) n1) : IC v' a := by
  obtain ⟨h1', h2', h3'⟩ := h
  refine ⟨h1'.kept (fun j _ _ => c j (by omega) (by omega) (by omega) (by omega)), h2'.kept (fun k _ _ _ => c k (by omega) (by omega) (by omega) (by omega)) (by rw [c 68 (by decide) (by decide) (by decide) (by decide)]), ?_, ⟨n1, h1, e1, hE⟩⟩
  obtain ⟨m, h4, h5, h6⟩ := h3'.1
  refine ⟨m, h4, by rw [c 75 (by decide) (by decide) (by decide) (by decide), h5], fun t ht pl hp p hq st hs => ?_⟩
  rw [c 78 (by decide) (by decide) (by decide) (by decide)]
  exact h6 t ht pl hp p hq st hs
/-- told with up to so many turns -/
def TL (v v' : VV) (a : AS) (m : Nat) : Prop := IC v' a ∧ FrC v v' ∧ ∃ n1, n1 ≤ 13 ∧ m < n1 ∧ En2 v' (sS a) n1
theorem tl_of {v v' : VV} {a : AS} {m : Nat} (h : IC v a) (c : ∀ k, k ≠ 75 → k ≠ 76 → k ≠ 77 → k ≠ 78 → v' k = v k) (e : ∃ n1, n1 ≤ 13 ∧ m < n1 ∧ v' 75 3 = n1 ∧ En2 v' (sS a) n1) : TL v v' a m := by
  obtain ⟨n1, e1, e2, e3, e4⟩ := e
  exact ⟨h.tell2 c e1 e3 e4, fun k hk => c k (by omega) (by omega) (by omega) (by omega), n1, e1, e2, e4⟩
theorem TL.at {v v' : VV} {a : AS} {m : Nat} (h : TL v v' a m) {t pl p st : Nat} (ht : t ≤ m) (h2 : pl < 2) (h3 : p < 8) (h4 : st < 2) : v' 78 (ix t pl p + st) = mk (thr (sS a) t pl p st) (sS a 0) := by
  obtain ⟨_, _, n1, e1, e2, e4⟩ := h
  exact e4 t (by omega) pl h2 p h3 st h4
theorem m2_tellA {G : GT} {v : VV} {L : LL} {a : AS} (g : GH G) (h : IC v a) (w : WA a) {m : Nat} (hm : m < 13) : CC G MX2_tell [.ref (gB G 75), .ref (gB G 1), .int (nI m)] v L (gV fun v' L' => L' = L ∧ TL v v' a m) := by
  obtain ⟨n, h1, h2, h3⟩ := h.2.2.1
  refine cc_mono (m2_tell2 g h.1 w.1 hm h1 h2 h3) ?_
  rintro r v' L' ⟨rfl, rfl, c, e⟩
  exact ⟨rfl, rfl, tl_of h c e⟩
