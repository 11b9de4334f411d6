def txA (a : AS) (c : Nat) : AS := (sS a, sN a, sP a, sK a, sKp a, upN (sT a) (sL a) c, sL a + 1)
def clA (a : AS) : AS := (sS a, sN a, sP a, sK a, sKp a, sT a, 0)
theorem WA.tx {a : AS} (w : WA a) {c : Nat} (h1 : 33 ≤ c) (h2 : c ≤ 126) (hl : sL a < 60) : WA (txA a c) := by
  obtain ⟨w1, w2, w3, w4, w5, w6⟩ := w
  refine ⟨w1, w2, w3, w4, hl, fun i hi => ?_⟩
  have hi : i < sL a + 1 := hi
  show 33 ≤ upN (sT a) (sL a) c i ∧ upN (sT a) (sL a) c i ≤ 126
  by_cases e : i = sL a
  · rw [e, upN_s]; exact ⟨h1, h2⟩
  · rw [upN_n _ _ e]; exact w6 i (by omega)
theorem WA.cl {a : AS} (w : WA a) : WA (clA a) := by
  obtain ⟨w1, w2, w3, w4, w5, w6⟩ := w
  exact ⟨w1, w2, w3, w4, Nat.zero_le _, fun i hi => absurd hi (Nat.not_lt_zero i)⟩
theorem IC.ft {v v' : VV} {a : AS} (h : IC v a) (f : FrT v v') : IC v' a := ⟨h.1.kept (fun j _ _ => f.1 j (by omega) (by omega) (by omega) (by omega) (by omega)), h.2.1.kept (fun k _ _ _ => f.1 k (by omega) (by omega) (by omega) (by omega) (by omega)) f.2, h.2.2.kept (fun k _ _ => f.1 k (by omega) (by omega) (by omega) (by omega) (by omega))⟩
theorem code_or (x : Int32) : (x < nI 33 ∨ nI 126 < x) ∨ ∃ c, 33 ≤ c ∧ c ≤ 126 ∧ x = nI c := by
  rcases in_or x 126 (by decide) with h | ⟨c, hc, rfl⟩
  · rcases h with h | h
    · exact Or.inl (Or.inl (Int32.lt_trans h (by decide)))
    · exact Or.inl (Or.inr h)
  · rcases Nat.lt_or_ge c 33 with z | z
    · exact Or.inl (Or.inl ((nI_ltI (by omega) (by decide)).mpr z))
    · exact Or.inr ⟨c, z, hc, rfl⟩
theorem nI_c {c : Nat} (h : c < 127) : ((nI c).toUInt32 % 65536).toInt32 = nI c := (show ∀ c, c < 127 → ((nI c).toUInt32 % 65536).toInt32 = nI c by decide +kernel) c h
theorem nar_c {c : Nat} (h : c < 127) : vp_nar .char (nI c) = nI c := (show ∀ c, c < 127 → vp_nar .char (nI c) = nI c by decide +kernel) c h
set_option maxHeartbeats 8000000 in
theorem m7_append {G : GT} {v : VV} {L : LL} {a : AS} (g : GH G) (h : IC v a) {c : Nat} (h1 : 33 ≤ c) (h2 : c ≤ 126) (hl : sL a < 60) : CC G MX7_append [.ref (gB G 0), .int (nI c)] v L (gI (PC v L (txA a c) (nI (sL a + 1)))) := by
  refine cc_of g [some (.ref (gB G 0)), some (.int (nI c))] rfl rfl rfl rfl (fun K F => ?_)
  have c0 : v 68 1 = sL a := h.2.1.2.2.1
  refine r_iload_n F dX7_append_0 rfl ?_
  refine r_bipush (x := 33) F dX7_append_1 rfl ?_
  refine r_iclt F dX7_append_3 (by omega) (by omega) (fun h3 => ?_) (fun h3 => ?_)
  · omega
  · refine r_iload_n F dX7_append_6 rfl ?_
    refine r_bipush (x := 126) F dX7_append_7 rfl ?_
    refine r_icle F dX7_append_9 (by omega) (by omega) (fun h9 => ?_) (fun h9 => ?_)
    · refine r_aload_n F dX7_append_22 rfl ?_
      refine r_get (x := .ref (gB G 68)) (T := TX7) (n := 4) F uw7 rfl rfl tw_278 (Or.inl rfl) dX7_append_23 (kd_lt (rfl : kd 0 = (6,0,0)) (by decide)) (ce6 rfl) rfl ?_
      refine r_getN (T := TX1) (n := 1) F uw1 rfl rfl tw_208 (Or.inl rfl) dX7_append_26 (kd_lt (rfl : kd 68 = (1,0,0)) (by decide)) (ce1 rfl) rfl ?_
      rw [c0]
      refine r_bipush (x := 60) F dX7_append_29 rfl ?_
      refine r_iclt F dX7_append_31 (by omega) (by omega) (fun h31 => ?_) (fun h31 => ?_)
      · refine r_aload_n F dX7_append_44 rfl ?_
        refine r_get (x := .ref (gB G 68)) (T := TX7) (n := 4) F uw7 rfl rfl tw_278 (Or.inl rfl) dX7_append_45 (kd_lt (rfl : kd 0 = (6,0,0)) (by decide)) (ce6 rfl) rfl ?_
        refine r_getN (x := .ref (gB G 69)) (T := TX1) (n := 0) F uw1 rfl rfl tw_206 (Or.inl rfl) dX7_append_48 (kd_lt (rfl : kd 68 = (1,0,0)) (by decide)) (ce1 rfl) rfl ?_
        refine r_aload_n F dX7_append_51 rfl ?_
        refine r_get (x := .ref (gB G 68)) (T := TX7) (n := 4) F uw7 rfl rfl tw_278 (Or.inl rfl) dX7_append_52 (kd_lt (rfl : kd 0 = (6,0,0)) (by decide)) (ce6 rfl) rfl ?_
        refine r_getN (T := TX1) (n := 1) F uw1 rfl rfl tw_208 (Or.inl rfl) dX7_append_55 (kd_lt (rfl : kd 68 = (1,0,0)) (by decide)) (ce1 rfl) rfl ?_
        rw [c0]
        refine r_iload_n F dX7_append_58 rfl ?_
        refine r_i2c F dX7_append_59 (nI_c (by omega)) ?_
        refine r_cast F dX7_append_60 rfl hl (nar_c (by omega)) ?_
        refine r_aload_n F dX7_append_61 rfl ?_
        refine r_get (x := .ref (gB G 68)) (T := TX7) (n := 4) F uw7 rfl rfl tw_278 (Or.inl rfl) dX7_append_62 (kd_lt (rfl : kd 0 = (6,0,0)) (by decide)) (ce6 rfl) rfl ?_
        refine r_dup F dX7_append_65 rfl ?_
        refine r_getN (T := TX1) (n := 1) F uw1 rfl rfl tw_208 (Or.inl rfl) dX7_append_66 (kd_lt (rfl : kd 68 = (1,0,0)) (by decide)) (ce1 rfl) rfl ?_
        rw [up2_k (a := 68) _ (by decide), c0]
        refine r_iconst (x := 1) F dX7_append_69 rfl ?_
        refine r_iadd F dX7_append_70 ?_
        refine r_putN (T := TX1) (n := 1) (ty0 := tyX1) (ty := .int) F uw1 tyX1_ok nmX1 rfl rfl tw_208 (Or.inl rfl) rfl rfl rfl rfl dX7_append_71 (kd_lt (rfl : kd 68 = (1,0,0)) (by decide)) (ce1 rfl) rfl (pe1_1 rfl) up2_ce ?_
        refine r_aload_n F dX7_append_74 rfl ?_
        refine r_get (x := .ref (gB G 68)) (T := TX7) (n := 4) F uw7 rfl rfl tw_278 (Or.inl rfl) dX7_append_75 (kd_lt (rfl : kd 0 = (6,0,0)) (by decide)) (ce6 rfl) rfl ?_
        refine r_getN (T := TX1) (n := 1) F uw1 rfl rfl tw_208 (Or.inl rfl) dX7_append_78 (kd_lt (rfl : kd 68 = (1,0,0)) (by decide)) (ce1 rfl) rfl ?_
        refine r_iret F rfl rfl dX7_append_81 ⟨_, rfl, by rw [up2_s], rfl, fun k hk => by rw [up2_k _ (by omega), up2_k _ (by omega)], h.1.kept (fun j _ _ => by rw [up2_k _ (by omega), up2_k _ (by omega)]), ⟨?_, fun i hi => ?_, up2_s _ _ _ _, fun i hi => ?_⟩, h.2.2.kept (fun k _ _ => by rw [up2_k _ (by omega), up2_k _ (by omega)])⟩
        · exact h.2.1.1.kept (fun j _ _ => by rw [up2_k _ (by omega), up2_k _ (by omega)])
        · rw [up2_k _ (by decide), up2_k _ (by decide)]
          exact ⟨(h.2.1.2.1 i hi).1, fun hk => ((h.2.1.2.1 i hi).2 hk).kept (fun j _ _ => by rw [up2_k _ (by omega), up2_k _ (by omega)])⟩
        · have hi : i < sL a + 1 := hi
          show _ = upN (sT a) (sL a) c i
          rw [up2_k _ (by decide)]
          by_cases e : i = sL a
          · rw [e, upN_s, up2_s]
          · rw [upN_n _ _ e, up2_j _ e]; exact h.2.1.2.2.2 i (by omega)
      · omega
    · omega
set_option maxHeartbeats 4000000 in
theorem x7_append1 {G : GT} {v : VV} {L : LL} {Φ : VV → LL → Prop} (g : GH G) {x : Int32} (hx : x < nI 33 ∨ nI 126 < x) (h : Φ v L) : CX G MX7_append [.ref (gB G 0), .int x] v L eIA Φ := by
  refine cx_of g [some (.ref (gB G 0)), some (.int x)] rfl rfl rfl rfl (fun K F he => ?_)
  refine r_iload_n F dX7_append_0 rfl ?_
  refine r_bipush (x := 33) F dX7_append_1 rfl ?_
  refine R_iclt F dX7_append_3 (fun h3 => ?_) (fun h3 => ?_)
  · exact r_throwS (i := 6) F he efIA efN ewIA egIA rfl dX7_append_12 dX7_append_15 dX7_append_16 dX7_append_18 dX7_append_21 rfl h
  · refine r_iload_n F dX7_append_6 rfl ?_
    refine r_bipush (x := 126) F dX7_append_7 rfl ?_
    refine R_icle F dX7_append_9 (fun h9 => ?_) (fun h9 => ?_)
    · exact absurd hx (fun z => z.elim h3 (fun z => Int32.not_lt.mpr h9 z))
    · exact r_throwS (i := 6) F he efIA efN ewIA egIA rfl dX7_append_12 dX7_append_15 dX7_append_16 dX7_append_18 dX7_append_21 rfl h
set_option maxHeartbeats 4000000 in
theorem x7_append2 {G : GT} {v : VV} {L : LL} {Φ : VV → LL → Prop} {a : AS} (g : GH G) (hi : IC v a) {c : Nat} (h1 : 33 ≤ c) (h2 : c ≤ 126) (hl : sL a = 60) (h : Φ v L) : CX G MX7_append [.ref (gB G 0), .int (nI c)] v L eIS Φ := by
  refine cx_of g [some (.ref (gB G 0)), some (.int (nI c))] rfl rfl rfl rfl (fun K F he => ?_)
  have c0 : v 68 1 = 60 := hi.2.1.2.2.1.trans hl
  refine r_iload_n F dX7_append_0 rfl ?_
  refine r_bipush (x := 33) F dX7_append_1 rfl ?_
  refine r_iclt F dX7_append_3 (by omega) (by omega) (fun h3 => ?_) (fun h3 => ?_)
  · omega
  · refine r_iload_n F dX7_append_6 rfl ?_
    refine r_bipush (x := 126) F dX7_append_7 rfl ?_
    refine r_icle F dX7_append_9 (by omega) (by omega) (fun h9 => ?_) (fun h9 => ?_)
    · refine r_aload_n F dX7_append_22 rfl ?_
      refine r_get (x := .ref (gB G 68)) (T := TX7) (n := 4) F uw7 rfl rfl tw_278 (Or.inl rfl) dX7_append_23 (kd_lt (rfl : kd 0 = (6,0,0)) (by decide)) (ce6 rfl) rfl ?_
      refine r_getN (T := TX1) (n := 1) F uw1 rfl rfl tw_208 (Or.inl rfl) dX7_append_26 (kd_lt (rfl : kd 68 = (1,0,0)) (by decide)) (ce1 rfl) rfl ?_
      rw [c0]
      refine r_bipush (x := 60) F dX7_append_29 rfl ?_
      refine r_iclt F dX7_append_31 (by omega) (by omega) (fun h31 => ?_) (fun h31 => ?_)
      · exact absurd h31 (by decide)
      · exact r_throwS (i := 7) F he efIS efN ewIS egIS rfl dX7_append_34 dX7_append_37 dX7_append_38 dX7_append_40 dX7_append_43 rfl h
    · omega
set_option maxHeartbeats 4000000 in
theorem m7_clearBuffer {G : GT} {v : VV} {L : LL} {a : AS} (g : GH G) (h : IC v a) : CC G MX7_clearBuffer [.ref (gB G 0)] v L (gI (PC v L (clA a) (nI (sL a)))) := by
  refine cc_of g [some (.ref (gB G 0)), none] rfl rfl rfl rfl (fun K F => ?_)
  have c0 : v 68 1 = sL a := h.2.1.2.2.1
  refine r_aload_n F dX7_clearBuffer_0 rfl ?_
  refine r_get (x := .ref (gB G 68)) (T := TX7) (n := 4) F uw7 rfl rfl tw_278 (Or.inl rfl) dX7_clearBuffer_1 (kd_lt (rfl : kd 0 = (6,0,0)) (by decide)) (ce6 rfl) rfl ?_
  refine r_getN (T := TX1) (n := 1) F uw1 rfl rfl tw_208 (Or.inl rfl) dX7_clearBuffer_4 (kd_lt (rfl : kd 68 = (1,0,0)) (by decide)) (ce1 rfl) rfl ?_
  refine r_ist1 F dX7_clearBuffer_7 rfl rfl ?_
  refine r_aload_n F dX7_clearBuffer_8 rfl ?_
  refine r_get (x := .ref (gB G 68)) (T := TX7) (n := 4) F uw7 rfl rfl tw_278 (Or.inl rfl) dX7_clearBuffer_9 (kd_lt (rfl : kd 0 = (6,0,0)) (by decide)) (ce6 rfl) rfl ?_
  refine r_iconst (x := 0) F dX7_clearBuffer_12 rfl ?_
  refine r_putN (T := TX1) (n := 1) (ty0 := tyX1) (ty := .int) F uw1 tyX1_ok nmX1 rfl rfl tw_208 (Or.inl rfl) rfl rfl rfl rfl dX7_clearBuffer_13 (kd_lt (rfl : kd 68 = (1,0,0)) (by decide)) (ce1 rfl) rfl (pe1_1 rfl) up2_ce ?_
  refine r_iload_n F dX7_clearBuffer_16 rfl ?_
  refine r_iret F rfl rfl dX7_clearBuffer_17 ⟨_, rfl, by rw [c0], rfl, fun k hk => by rw [up2_k _ (by omega)], h.1.kept (fun j _ _ => by rw [up2_k _ (by omega)]), ⟨?_, fun i hi => ?_, up2_s _ _ _ _, fun i hi => absurd hi (Nat.not_lt_zero i)⟩, h.2.2.kept (fun k _ _ => by rw [up2_k _ (by omega)])⟩
  · exact h.2.1.1.kept (fun j _ _ => by rw [up2_k _ (by omega)])
  · rw [up2_k _ (by decide)]
    exact ⟨(h.2.1.2.1 i hi).1, fun hk => ((h.2.1.2.1 i hi).2 hk).kept (fun j _ _ => by rw [up2_k _ (by omega)])⟩
theorem IC.txt {v : VV} {a : AS} (h : IC v a) (w : WA a) : v 68 1 = sL a ∧ ∀ i, i < sL a → v 69 i = sT a i ∧ sT a i < 65536 := ⟨h.2.1.2.2.1, fun i hi => ⟨h.2.1.2.2.2 i hi, by have := (w.2.2.2.2.2 i hi).2; omega⟩⟩
set_option maxHeartbeats 4000000 in
theorem m7_firstError {G : GT} {v : VV} {L : LL} {a : AS} (g : GH G) (h : IC v a) (w : WA a) : CC G MX7_firstError [.ref (gB G 0)] v L (gI (PC v L a (nI (erN (sT a) (sL a))))) := by
  refine cc_of g [some (.ref (gB G 0))] rfl rfl rfl rfl (fun K F => ?_)
  refine r_aload_n F dX7_firstError_0 rfl ?_
  refine r_get (x := .ref (gB G 68)) (T := TX7) (n := 4) F uw7 rfl rfl tw_278 (Or.inl rfl) dX7_firstError_1 (kd_lt (rfl : kd 0 = (6,0,0)) (by decide)) (ce6 rfl) rfl ?_
  refine r_callN0j F fMX1_scan tw_387 rfl rfl rfl rfl dX7_firstError_4 rfl rfl z0 (m1_scan g w.2.2.2.2.1 (h.txt w).1 (h.txt w).2) ?_
  rintro x v1 L1 ⟨rfl, rfl, f1, f2⟩
  exact r_iret F rfl rfl dX7_firstError_7 ⟨_, rfl, rfl, rfl, f1.c, h.ft f1⟩
/-- the text tells a board -/
def okL (a : AS) (σ : AT) : Prop := au (sT a) (sL a) = some σ ∧ (aE σ = 3 ∨ aE σ = 4)
def ldS (S B : Nat → Nat) : Nat → Nat := fun j => if 12 ≤ j ∧ j < 60 then B j else if j = 5 then 0 else S j
theorem au_W {T : Nat → Nat} : ∀ {n : Nat} {σ : AT}, au T n = some σ → WT σ ∧ (aE σ = 0 → aN σ < 8)
  | 0, σ, h => by
    cases h
    exact ⟨⟨by show 0 ≤ 4; decide, by show 0 ≤ 8; decide, by show 0 < 8; decide, fun p hp => ⟨Nat.zero_le _, Nat.zero_le _, fun i hi => absurd hi (Nat.not_lt_zero i)⟩⟩, fun _ => by show 0 < 8; decide⟩
  | n + 1, σ, h => by
    rw [au_s] at h
    cases hz : au T n with
    | none => rw [hz] at h; cases h
    | some τ =>
      rw [hz] at h
      obtain ⟨w1, w2⟩ := au_W hz
      exact sp_W w1 w2 h
theorem ldS_p (S B : Nat → Nat) {p j : Nat} (hp : p < 8) (hj : j < 6) : ldS S B (12 + 6 * p + j) = B (12 + 6 * p + j) := by unfold ldS; rw [if_pos (by omega)]
theorem WS.ld {S B : Nat → Nat} (w : WS S) (b : WB B) : WS (ldS S B) := by
  obtain ⟨w1, w2, w3, w4, w5, w6, w7⟩ := w
  refine ⟨by simpa [ldS] using w1, by simpa [ldS] using w2, by simpa [ldS] using w3, by simpa [ldS] using w4, by simpa [ldS] using w5, by simp [ldS], fun p hp => ?_⟩
  obtain ⟨z1, z2, z3⟩ := b p hp
  have e0 : ldS S B (12 + 6 * p) = B (12 + 6 * p) := ldS_p S B hp (j := 0) (by decide)
  have e1 : ldS S B (13 + 6 * p) = B (13 + 6 * p) := by unfold ldS; rw [if_pos (by omega)]
  rw [e0, e1]
  refine ⟨z1, z2, fun i hi => ?_⟩
  unfold ldS
  rw [if_pos (by omega)]
  exact z3 i hi
def ldA (a : AS) (σ : AT) : AS := clA (stA (svA a) (ldS (sS a) (aB σ)))
theorem cpB_k (v : VV) {a b k : Nat} (h1 : k ≠ b + 1) (h2 : k ≠ b + 2) (h3 : k ≠ b + 3) : cpB v a b k = v k := by unfold cpB; rw [cp2_k _ h3, cp2_k _ h2, cp2_k _ h1]
theorem cpB_RB {v : VV} {B : Nat → Nat} (h : RB 70 v B) (w : WB B) : RB 2 (cpB v 70 2) B := by
  refine h.cong w (fun j hj => ?_) (fun j hj => ?_) (fun j hj => ?_)
  · simp [cpB, cp2, hj]
  · simp [cpB, cp2, hj]
  · simp [cpB, cp2, hj]
set_option maxHeartbeats 8000000 in
theorem m7_load {G : GT} {v : VV} {L : LL} {a : AS} (g : GH G) (h : IC v a) (w : WA a) {σ : AT} (hk : okL a σ) : CC G MX7_load [.ref (gB G 0)] v L (gI (PC v L (ldA a σ) (nI (aN σ)))) := by
  refine cc_of g [some (.ref (gB G 0)), none] rfl rfl rfl rfl (fun K F => ?_)
  have ee : erN (sT a) (sL a) = sL a := er_end hk.1
  have wl : sL a ≤ 60 := w.2.2.2.2.1
  have wσ := (au_W hk.1).1
  refine r_aload_n F dX7_load_0 rfl ?_
  refine r_get (x := .ref (gB G 68)) (T := TX7) (n := 4) F uw7 rfl rfl tw_278 (Or.inl rfl) dX7_load_1 (kd_lt (rfl : kd 0 = (6,0,0)) (by decide)) (ce6 rfl) rfl ?_
  refine r_callN0j F fMX1_scan tw_387 rfl rfl rfl rfl dX7_load_4 rfl rfl z0 (m1_scan g w.2.2.2.2.1 (h.txt w).1 (h.txt w).2) ?_
  rintro x v1 L1 ⟨rfl, rfl, f1, f2⟩
  have hr := f2 σ hk.1
  have h1 := h.ft f1
  have c0 : v1 68 1 = sL a := h1.2.1.2.2.1
  rw [ee]
  refine r_ist1 F dX7_load_7 rfl rfl ?_
  refine r_iload_n F dX7_load_8 rfl ?_
  refine r_aload_n F dX7_load_9 rfl ?_
  refine r_get (x := .ref (gB G 68)) (T := TX7) (n := 4) F uw7 rfl rfl tw_278 (Or.inl rfl) dX7_load_10 (kd_lt (rfl : kd 0 = (6,0,0)) (by decide)) (ce6 rfl) rfl ?_
  refine r_getN (T := TX1) (n := 1) F uw1 rfl rfl tw_208 (Or.inl rfl) dX7_load_13 (kd_lt (rfl : kd 68 = (1,0,0)) (by decide)) (ce1 rfl) rfl ?_
  rw [c0]
  refine r_iclt F dX7_load_16 (by omega) (by omega) (fun h16 => ?_) (fun h16 => ?_)
  · omega
  · refine r_aload_n F dX7_load_19 rfl ?_
    refine r_get (x := .ref (gB G 68)) (T := TX7) (n := 4) F uw7 rfl rfl tw_278 (Or.inl rfl) dX7_load_20 (kd_lt (rfl : kd 0 = (6,0,0)) (by decide)) (ce6 rfl) rfl ?_
    refine r_callN0i F fMX1_isWhole tw_791 rfl rfl rfl rfl dX7_load_23 rfl rfl z0 (m1_isWhole g hr.1 wσ.1) ?_
    refine r_bne F dX7_load_26 (fun h26 => ?_) (fun h26 => ?_)
    · refine r_aload_n F dX7_load_39 rfl ?_
      refine r_callV0w F fMX7_saveBeforeBoard tw_300 rfl rfl rfl rfl dX7_load_40 rfl rfl z0 (m7_saveBeforeBoard g h1 w) ?_
      rintro v2 L2 ⟨rfl, hs⟩
      have hr2 : RB 70 v2 (aB σ) := fun p hp => by
        rw [hs.2.2.2.2 (70 + 1) (by decide), hs.2.2.2.2 (70 + 2) (by decide), hs.2.2.2.2 (70 + 3) (by decide)]
        exact hr.2.2.2.2 p hp
      refine r_aload_n F dX7_load_43 rfl ?_
      refine r_get (x := .ref (gB G 1)) (T := TX7) (n := 0) F uw7 rfl rfl tw_274 (Or.inl rfl) dX7_load_44 (kd_lt (rfl : kd 0 = (6,0,0)) (by decide)) (ce6 rfl) rfl ?_
      refine r_getN (x := .ref (gB G 2)) (T := TX5) (n := 0) F uw5 rfl rfl tw_129 (Or.inl rfl) dX7_load_47 (kd_lt (rfl : kd 1 = (4,0,0)) (by decide)) (ce4 rfl) rfl ?_
      refine r_aload_n F dX7_load_50 rfl ?_
      refine r_get (x := .ref (gB G 68)) (T := TX7) (n := 4) F uw7 rfl rfl tw_278 (Or.inl rfl) dX7_load_51 (kd_lt (rfl : kd 0 = (6,0,0)) (by decide)) (ce6 rfl) rfl ?_
      refine r_getN (x := .ref (gB G 70)) (T := TX1) (n := 2) F uw1 rfl rfl tw_210 (Or.inl rfl) dX7_load_54 (kd_lt (rfl : kd 68 = (1,0,0)) (by decide)) (ce1 rfl) rfl ?_
      refine r_callN1v F fMX0_copyBoard tw_796 rfl rfl rfl rfl dX7_load_57 rfl rfl z0 (m0_copyBoard g bd70 bd2) ?_
      refine r_aload_n F dX7_load_60 rfl ?_
      refine r_get (x := .ref (gB G 1)) (T := TX7) (n := 0) F uw7 rfl rfl tw_274 (Or.inl rfl) dX7_load_61 (kd_lt (rfl : kd 0 = (6,0,0)) (by decide)) (ce6 rfl) rfl ?_
      refine r_iconst (x := 4294967295) F dX7_load_64 rfl ?_
      refine r_putN (T := TX5) (n := 6) (ty0 := tyX5) (ty := .int) F uw5 tyX5_ok nmX5 rfl rfl tw_145 (Or.inl rfl) rfl rfl rfl rfl dX7_load_65 (kd_lt (rfl : kd 1 = (4,0,0)) (by decide)) (ce4 rfl) rfl (pe4_6 rfl) up2_ce ?_
      refine r_aload_n F dX7_load_68 rfl ?_
      refine r_get (x := .ref (gB G 68)) (T := TX7) (n := 4) F uw7 rfl rfl tw_278 (Or.inl rfl) dX7_load_69 (kd_lt (rfl : kd 0 = (6,0,0)) (by decide)) (ce6 rfl) rfl ?_
      refine r_iconst (x := 0) F dX7_load_72 rfl ?_
      refine r_putN (T := TX1) (n := 1) (ty0 := tyX1) (ty := .int) F uw1 tyX1_ok nmX1 rfl rfl tw_208 (Or.inl rfl) rfl rfl rfl rfl dX7_load_73 (kd_lt (rfl : kd 68 = (1,0,0)) (by decide)) (ce1 rfl) rfl (pe1_1 rfl) up2_ce ?_
      refine r_aload_n F dX7_load_76 rfl ?_
      refine r_get (x := .ref (gB G 68)) (T := TX7) (n := 4) F uw7 rfl rfl tw_278 (Or.inl rfl) dX7_load_77 (kd_lt (rfl : kd 0 = (6,0,0)) (by decide)) (ce6 rfl) rfl ?_
      refine r_getN (T := TX1) (n := 4) F uw1 rfl rfl tw_213 (Or.inl rfl) dX7_load_80 (kd_lt (rfl : kd 68 = (1,0,0)) (by decide)) (ce1 rfl) rfl ?_
      have ep : up2 (up2 (cpB v2 70 2) 1 6 4294967295) 68 1 0 68 4 = aN σ := by
        rw [up2_j _ (by decide), up2_k _ (by decide), cpB_k _ (by decide) (by decide) (by decide), hs.2.2.2.2 68 (by decide)]; exact hr.2.1
      rw [ep]
      obtain ⟨v3, hv3⟩ : ∃ v3, v3 = up2 (up2 (cpB v2 70 2) 1 6 4294967295) 68 1 0 := ⟨_, rfl⟩
      rw [← hv3]
      have k1 : ∀ k, k ≠ 1 → k ≠ 3 → k ≠ 4 → k ≠ 5 → k ≠ 68 → v3 k = v2 k := fun k a1 a2 a3 a4 a5 => by rw [hv3, up2_k _ a5, up2_k _ a1, cpB_k _ a2 a3 a4]
      have k2 : ∀ j, j ≠ 6 → v3 1 j = v2 1 j := fun j hj => by rw [hv3, up2_k _ (by decide), up2_j _ hj, cpB_k _ (by decide) (by decide) (by decide)]
      have k3 : v3 68 1 = 0 := by rw [hv3, up2_s]
      have lo : ∀ j, j < 12 → j ≠ 5 → ldS (sS a) (aB σ) j = sS a j := fun j h1 h2 => by unfold ldS; rw [if_neg (by omega), if_neg h2]
      have hst : RSt 1 v3 (ldS (sS a) (aB σ)) := by
        obtain ⟨a1, a2, a3, a4, a5, a6, a7, a8, a9, a10, a11, a12, -⟩ := hs.1
        refine ⟨?_, ?_, ?_, ?_, ?_, ?_, ?_, ?_, ?_, ?_, ?_, ?_, fun p hp => ?_⟩
        · rw [k2 1 (by decide), a1, lo 0 (by decide) (by decide)]
        · rw [k2 2 (by decide), a2, lo 1 (by decide) (by decide)]
        · rw [k2 3 (by decide), a3, lo 4 (by decide) (by decide)]
        · rw [k2 4 (by decide), a4, lo 2 (by decide) (by decide)]
        · rw [k2 5 (by decide), a5, lo 3 (by decide) (by decide)]
        · rw [hv3, up2_k _ (by decide), up2_s]; simp [ldS, bq]
        · rw [k2 9 (by decide), a7, lo 10 (by decide) (by decide)]
        · rw [k2 10 (by decide), a8, lo 11 (by decide) (by decide)]
        · rw [k1 (1 + 5) (by decide) (by decide) (by decide) (by decide) (by decide), a9, lo 6 (by decide) (by decide)]
        · rw [k1 (1 + 5) (by decide) (by decide) (by decide) (by decide) (by decide), a10, lo 7 (by decide) (by decide)]
        · rw [k1 (1 + 6) (by decide) (by decide) (by decide) (by decide) (by decide), a11, lo 8 (by decide) (by decide)]
        · rw [k1 (1 + 6) (by decide) (by decide) (by decide) (by decide) (by decide), a12, lo 9 (by decide) (by decide)]
        · obtain ⟨z1, z2, z3⟩ := cpB_RB hr2 wσ.2.2.2 p hp
          have wc := (wσ.2.2.2 p hp).2.1
          have e0 : ldS (sS a) (aB σ) (12 + 6 * p) = aB σ (12 + 6 * p) := ldS_p _ _ hp (j := 0) (by decide)
          have e1 : ldS (sS a) (aB σ) (13 + 6 * p) = aB σ (13 + 6 * p) := by unfold ldS; rw [if_pos (by omega)]
          have kc : ∀ k, k ≠ 1 → k ≠ 68 → v3 k = cpB v2 70 2 k := fun k b1 b2 => by rw [hv3, up2_k _ b2, up2_k _ b1]
          rw [e0, e1, kc (1 + 1 + 1) (by decide) (by decide), kc (1 + 1 + 2) (by decide) (by decide), kc (1 + 1 + 3) (by decide) (by decide)]
          refine ⟨z1, z2, fun i hi => ?_⟩
          unfold ldS
          rw [if_pos (by omega)]
          exact z3 i hi
      refine r_iret F rfl rfl dX7_load_83 ⟨_, rfl, rfl, rfl, fun k hk => ?_, hst, ⟨?_, fun i hi => ?_, k3, fun i hi => absurd hi (Nat.not_lt_zero i)⟩, ?_⟩
      · rw [k1 k (by omega) (by omega) (by omega) (by omega) (by omega), hs.2.2.2.1 k hk]; exact f1.c k hk
      · exact hs.2.1.1.kept (fun j _ _ => k1 j (by omega) (by omega) (by omega) (by omega) (by omega))
      · rw [k1 67 (by decide) (by decide) (by decide) (by decide) (by decide)]
        exact ⟨(hs.2.1.2.1 i hi).1, fun hk => ((hs.2.1.2.1 i hi).2 hk).kept (fun j _ _ => k1 j (by omega) (by omega) (by omega) (by omega) (by omega))⟩
      · exact Ch0.ch ⟨by rw [k1 75 (by decide) (by decide) (by decide) (by decide) (by decide)]; exact hs.2.2.1.1, by rw [k1 79 (by decide) (by decide) (by decide) (by decide) (by decide)]; exact hs.2.2.1.2⟩ _
    · exact absurd hk.2 h26
set_option maxHeartbeats 8000000 in
theorem x7_load {G : GT} {v : VV} {L : LL} {a : AS} (g : GH G) (h : IC v a) (w : WA a) (hk : ∀ σ, ¬ okL a σ) : CX G MX7_load [.ref (gB G 0)] v L eIA (PX v L a) := by
  refine cx_of g [some (.ref (gB G 0)), none] rfl rfl rfl rfl (fun K F he => ?_)
  have wl : sL a ≤ 60 := w.2.2.2.2.1
  have el : erN (sT a) (sL a) ≤ sL a := fsN_le _ _
  refine r_aload_n F dX7_load_0 rfl ?_
  refine r_get (x := .ref (gB G 68)) (T := TX7) (n := 4) F uw7 rfl rfl tw_278 (Or.inl rfl) dX7_load_1 (kd_lt (rfl : kd 0 = (6,0,0)) (by decide)) (ce6 rfl) rfl ?_
  refine r_callN0j F fMX1_scan tw_387 rfl rfl rfl rfl dX7_load_4 rfl rfl z16 (m1_scan g w.2.2.2.2.1 (h.txt w).1 (h.txt w).2) ?_
  rintro x v1 L1 ⟨rfl, rfl, f1, f2⟩
  have h1 := h.ft f1
  have c0 : v1 68 1 = sL a := h1.2.1.2.2.1
  refine r_ist1 F dX7_load_7 rfl rfl ?_
  refine r_iload_n F dX7_load_8 rfl ?_
  refine r_aload_n F dX7_load_9 rfl ?_
  refine r_get (x := .ref (gB G 68)) (T := TX7) (n := 4) F uw7 rfl rfl tw_278 (Or.inl rfl) dX7_load_10 (kd_lt (rfl : kd 0 = (6,0,0)) (by decide)) (ce6 rfl) rfl ?_
  refine r_getN (T := TX1) (n := 1) F uw1 rfl rfl tw_208 (Or.inl rfl) dX7_load_13 (kd_lt (rfl : kd 68 = (1,0,0)) (by decide)) (ce1 rfl) rfl ?_
  rw [c0]
  refine r_iclt F dX7_load_16 (by omega) (by omega) (fun h16 => ?_) (fun h16 => ?_)
  · exact r_throwS (i := 8) F he efIA efN ewIA egIA rfl dX7_load_29 dX7_load_32 dX7_load_33 dX7_load_35 dX7_load_38 rfl ⟨rfl, f1.c, h1⟩
  · obtain ⟨σ, hσ⟩ : ∃ σ, au (sT a) (sL a) = some σ := by
      cases hz : au (sT a) (sL a) with
      | none => exact absurd (er_lt hz) (by omega)
      | some σ => exact ⟨σ, rfl⟩
    have hr := f2 σ hσ
    refine r_aload_n F dX7_load_19 rfl ?_
    refine r_get (x := .ref (gB G 68)) (T := TX7) (n := 4) F uw7 rfl rfl tw_278 (Or.inl rfl) dX7_load_20 (kd_lt (rfl : kd 0 = (6,0,0)) (by decide)) (ce6 rfl) rfl ?_
    refine r_callN0i F fMX1_isWhole tw_791 rfl rfl rfl rfl dX7_load_23 rfl rfl z16 (m1_isWhole g hr.1 (au_W hσ).1.1) ?_
    refine r_bne F dX7_load_26 (fun h26 => ?_) (fun h26 => ?_)
    · exact absurd ⟨hσ, h26⟩ (hk σ)
    · exact r_throwS (i := 8) F he efIA efN ewIA egIA rfl dX7_load_29 dX7_load_32 dX7_load_33 dX7_load_35 dX7_load_38 rfl ⟨rfl, f1.c, h1⟩
def kpA (a : AS) (i : Nat) : AS := (sS a, sN a, sP a, (fun j => if j = i then sS a else sK a j), upB (sKp a) i true, sT a, sL a)
theorem WA.kp {a : AS} (w : WA a) (i : Nat) : WA (kpA a i) := by
  obtain ⟨w1, w2, w3, w4, w5, w6⟩ := w
  refine ⟨w1, w2, w3, fun j hj hk => ?_, w5, w6⟩
  show WS (if j = i then sS a else sK a j)
  have hk : upB (sKp a) i true j = true := hk
  by_cases e : j = i
  · rw [if_pos e]; exact w1
  · rw [if_neg e]
    unfold upB at hk
    rw [if_neg e] at hk
    exact w4 j hj hk
theorem st8 {i : Nat} (h : i < 2) : isSt (8 + 7 * i) := by
  have h2 := st_of (i := i + 1) (by omega)
  rwa [show 1 + 7 * (i + 1) = 8 + 7 * i by omega] at h2
set_option maxHeartbeats 8000000 in
theorem m7_keep {G : GT} {v : VV} {L : LL} {a : AS} (g : GH G) (h : IC v a) (w : WA a) {i : Nat} (hi : i ≤ 1) : CC G MX7_keep [.ref (gB G 0), .int (nI i)] v L (gI (PC v L (kpA a i) (nI (sS a 4)))) := by
  refine cc_of g [some (.ref (gB G 0)), some (.int (nI i))] rfl rfl rfl rfl (fun K F => ?_)
  obtain ⟨b, hbe⟩ : ∃ b, b = 8 + 7 * i := ⟨_, rfl⟩
  have hb : isSt b := by rw [hbe]; exact st8 (by omega)
  refine r_iload_n F dX7_keep_0 rfl ?_
  refine r_iconst (x := 1) F dX7_keep_1 rfl ?_
  refine r_callS2v F fMX7_needUpTo tw_544 rfl dX7_keep_2 rfl rfl z0 (m7_needUpTo g hi (by decide)) ?_
  refine r_aload_n F dX7_keep_5 rfl ?_
  refine r_get (x := .ref (gB G 66)) (T := TX7) (n := 2) F uw7 rfl rfl tw_276 (Or.inl rfl) dX7_keep_6 (kd_lt (rfl : kd 0 = (6,0,0)) (by decide)) (ce6 rfl) rfl ?_
  refine r_iload_n F dX7_keep_9 rfl ?_
  refine r_aald (i := i) F dX7_keep_10 (rfl : kd 66 = (11,2,8)) (by omega) ?_
  rw [← hbe]
  refine r_aload_n F dX7_keep_11 rfl ?_
  refine r_get (x := .ref (gB G 1)) (T := TX7) (n := 0) F uw7 rfl rfl tw_274 (Or.inl rfl) dX7_keep_12 (kd_lt (rfl : kd 0 = (6,0,0)) (by decide)) (ce6 rfl) rfl ?_
  refine r_callN1w F fMX5_copyFrom tw_804 rfl hb.1 rfl rfl dX7_keep_15 rfl rfl z0 (m5_copyFrom g st1 hb (by omega)) ?_
  rintro v1 L1 ⟨c, rfl⟩
  refine r_aload_n F dX7_keep_18 rfl ?_
  refine r_get (x := .ref (gB G 67)) (T := TX7) (n := 3) F uw7 rfl rfl tw_277 (Or.inl rfl) dX7_keep_19 (kd_lt (rfl : kd 0 = (6,0,0)) (by decide)) (ce6 rfl) rfl ?_
  refine r_iload_n F dX7_keep_22 rfl ?_
  refine r_iconst (x := 1) F dX7_keep_23 rfl ?_
  refine r_zast F dX7_keep_24 rfl (show i < 2 by omega) rfl ?_
  refine r_aload_n F dX7_keep_25 rfl ?_
  refine r_get (x := .ref (gB G 1)) (T := TX7) (n := 0) F uw7 rfl rfl tw_274 (Or.inl rfl) dX7_keep_26 (kd_lt (rfl : kd 0 = (6,0,0)) (by decide)) (ce6 rfl) rfl ?_
  refine r_getN (T := TX5) (n := 3) F uw5 rfl rfl tw_138 (Or.inl rfl) dX7_keep_29 (kd_lt (rfl : kd 1 = (4,0,0)) (by decide)) (ce4 rfl) rfl ?_
  rw [show up2 v1 67 i 1 1 3 = sS a 4 by rw [up2_k _ (by decide), c.1 1 (by omega)]; exact h.1.2.2.1]
  refine r_iret F rfl rfl dX7_keep_32 ⟨_, rfl, rfl, rfl, fun k hk => by rw [up2_k _ (by omega), c.1 k (by omega)], h.1.kept (fun j _ _ => by rw [up2_k _ (by omega), c.1 j (by omega)]), ⟨?_, fun j hj => ?_, by rw [up2_k _ (by decide), c.1 68 (by omega)]; exact h.2.1.2.2.1, fun j hj => by rw [up2_k _ (by decide), c.1 69 (by omega)]; exact h.2.1.2.2.2 j hj⟩, h.2.2.kept (fun k _ _ => by rw [up2_k _ (by omega), c.1 k (by omega)])⟩
  · exact h.2.1.1.kept (fun j _ _ => by rw [up2_k _ (by omega), c.1 j (by omega)])
  · show up2 v1 67 i 1 67 j = (upB (sKp a) i true j).toNat ∧ (upB (sKp a) i true j = true → RSt (8 + 7 * j) (up2 v1 67 i 1) (if j = i then sS a else sK a j))
    by_cases e : j = i
    · subst e
      rw [if_pos rfl, up2_s]
      refine ⟨by simp [upB], fun _ => ?_⟩
      rw [← hbe]
      exact (h.1.copied w.1.b c).kept (fun k _ _ => up2_k _ (by omega))
    · rw [if_neg e, up2_j _ e, c.1 67 (by omega)]
      unfold upB
      rw [if_neg e]
      exact ⟨(h.2.1.2.1 j hj).1, fun hk => ((h.2.1.2.1 j hj).2 hk).kept (fun k _ _ => by rw [up2_k _ (by omega), c.1 k (by omega)])⟩
set_option maxHeartbeats 4000000 in
theorem x7_keep {G : GT} {v : VV} {L : LL} {Φ : VV → LL → Prop} (g : GH G) {x : Int32} (hx : oor x 1) (h : Φ v L) : CX G MX7_keep [.ref (gB G 0), .int x] v L eIA Φ := by
  refine cx_of g [some (.ref (gB G 0)), some (.int x)] rfl rfl rfl rfl (fun K F he => ?_)
  refine r_iload_n F dX7_keep_0 rfl ?_
  refine r_iconst (x := 1) F dX7_keep_1 rfl ?_
  exact r_outS2 F he fMX7_needUpTo tw_544 rfl dX7_keep_2 rfl rfl (x7_needUpTo g (n := 1) hx h)
set_option maxHeartbeats 8000000 in
theorem m7_goBack {G : GT} {v : VV} {L : LL} {a : AS} (g : GH G) (h : IC v a) (w : WA a) {i : Nat} (hi : i ≤ 1) (hk : sKp a i = true) : CC G MX7_goBack [.ref (gB G 0), .int (nI i)] v L (gI (PC v L (stA (svA a) (sK a i)) (nI (sK a i 4)))) := by
  refine cc_of g [some (.ref (gB G 0)), some (.int (nI i))] rfl rfl rfl rfl (fun K F => ?_)
  obtain ⟨b, hbe⟩ : ∃ b, b = 8 + 7 * i := ⟨_, rfl⟩
  have hb : isSt b := by rw [hbe]; exact st8 (by omega)
  have hk1 : v 67 i = 1 := by rw [(h.2.1.2.1 i (by omega)).1, hk]; rfl
  have wk : WS (sK a i) := w.2.2.2.1 i (by omega) hk
  refine r_iload_n F dX7_goBack_0 rfl ?_
  refine r_iconst (x := 1) F dX7_goBack_1 rfl ?_
  refine r_callS2v F fMX7_needUpTo tw_544 rfl dX7_goBack_2 rfl rfl z0 (m7_needUpTo g hi (by decide)) ?_
  refine r_aload_n F dX7_goBack_5 rfl ?_
  refine r_get (x := .ref (gB G 67)) (T := TX7) (n := 3) F uw7 rfl rfl tw_277 (Or.inl rfl) dX7_goBack_6 (kd_lt (rfl : kd 0 = (6,0,0)) (by decide)) (ce6 rfl) rfl ?_
  refine r_iload_n F dX7_goBack_9 rfl ?_
  refine r_zald F dX7_goBack_10 rfl (show i < 2 by omega) ?_
  refine r_ifne F dX7_goBack_11 (by omega) (fun h11 => ?_) (fun h11 => ?_)
  · refine r_aload_n F dX7_goBack_24 rfl ?_
    refine r_callV0w F fMX7_saveBeforeBoard tw_300 rfl rfl rfl rfl dX7_goBack_25 rfl rfl z0 (m7_saveBeforeBoard g h w) ?_
    rintro v1 L1 ⟨rfl, hs⟩
    have hb1 : RSt b v1 (sK a i) := by rw [hbe]; exact (hs.2.1.2.1 i (by omega)).2 hk
    refine r_aload_n F dX7_goBack_28 rfl ?_
    refine r_get (x := .ref (gB G 1)) (T := TX7) (n := 0) F uw7 rfl rfl tw_274 (Or.inl rfl) dX7_goBack_29 (kd_lt (rfl : kd 0 = (6,0,0)) (by decide)) (ce6 rfl) rfl ?_
    refine r_aload_n F dX7_goBack_32 rfl ?_
    refine r_get (x := .ref (gB G 66)) (T := TX7) (n := 2) F uw7 rfl rfl tw_276 (Or.inl rfl) dX7_goBack_33 (kd_lt (rfl : kd 0 = (6,0,0)) (by decide)) (ce6 rfl) rfl ?_
    refine r_iload_n F dX7_goBack_36 rfl ?_
    refine r_aald (i := i) F dX7_goBack_37 (rfl : kd 66 = (11,2,8)) (by omega) ?_
    rw [← hbe]
    refine r_callN1w F fMX5_copyFrom tw_804 rfl rfl rfl rfl dX7_goBack_38 rfl rfl z0 (m5_copyFrom g hb st1 (by omega)) ?_
    rintro v2 L2 ⟨c, rfl⟩
    have hr2 := hb1.copied wk.b c
    have e3 : v2 1 3 = sK a i 4 := hr2.2.2.1
    refine r_aload_n F dX7_goBack_41 rfl ?_
    refine r_get (x := .ref (gB G 1)) (T := TX7) (n := 0) F uw7 rfl rfl tw_274 (Or.inl rfl) dX7_goBack_42 (kd_lt (rfl : kd 0 = (6,0,0)) (by decide)) (ce6 rfl) rfl ?_
    refine r_getN (T := TX5) (n := 3) F uw5 rfl rfl tw_138 (Or.inl rfl) dX7_goBack_45 (kd_lt (rfl : kd 1 = (4,0,0)) (by decide)) (ce4 rfl) rfl ?_
    rw [e3]
    exact r_iret F rfl rfl dX7_goBack_48 ⟨_, rfl, rfl, rfl, hs.to hr2 (fun k hk => c.1 k (by omega))⟩
  · exact absurd h11 (by rw [hk1]; decide)
set_option maxHeartbeats 4000000 in
theorem x7_goBack1 {G : GT} {v : VV} {L : LL} {Φ : VV → LL → Prop} (g : GH G) {x : Int32} (hx : oor x 1) (h : Φ v L) : CX G MX7_goBack [.ref (gB G 0), .int x] v L eIA Φ := by
  refine cx_of g [some (.ref (gB G 0)), some (.int x)] rfl rfl rfl rfl (fun K F he => ?_)
  refine r_iload_n F dX7_goBack_0 rfl ?_
  refine r_iconst (x := 1) F dX7_goBack_1 rfl ?_
  exact r_outS2 F he fMX7_needUpTo tw_544 rfl dX7_goBack_2 rfl rfl (x7_needUpTo g (n := 1) hx h)
set_option maxHeartbeats 4000000 in
theorem x7_goBack2 {G : GT} {v : VV} {L : LL} {Φ : VV → LL → Prop} {a : AS} (g : GH G) (hi : IC v a) {i : Nat} (h1 : i ≤ 1) (hk : sKp a i = false) (h : Φ v L) : CX G MX7_goBack [.ref (gB G 0), .int (nI i)] v L eIS Φ := by
  refine cx_of g [some (.ref (gB G 0)), some (.int (nI i))] rfl rfl rfl rfl (fun K F he => ?_)
  have hk1 : v 67 i = 0 := by rw [(hi.2.1.2.1 i (by omega)).1, hk]; rfl
  refine r_iload_n F dX7_goBack_0 rfl ?_
  refine r_iconst (x := 1) F dX7_goBack_1 rfl ?_
  refine r_callS2v F fMX7_needUpTo tw_544 rfl dX7_goBack_2 rfl rfl z16 (m7_needUpTo g h1 (by decide)) ?_
  refine r_aload_n F dX7_goBack_5 rfl ?_
  refine r_get (x := .ref (gB G 67)) (T := TX7) (n := 3) F uw7 rfl rfl tw_277 (Or.inl rfl) dX7_goBack_6 (kd_lt (rfl : kd 0 = (6,0,0)) (by decide)) (ce6 rfl) rfl ?_
  refine r_iload_n F dX7_goBack_9 rfl ?_
  refine r_zald F dX7_goBack_10 rfl (show i < 2 by omega) ?_
  rw [hk1]
  refine r_ifne F dX7_goBack_11 (by omega) (fun h11 => ?_) (fun h11 => ?_)
  · exact absurd rfl h11
  · exact r_throwS (i := 9) F he efIS efN ewIS egIS rfl dX7_goBack_14 dX7_goBack_17 dX7_goBack_18 dX7_goBack_20 dX7_goBack_23 rfl h
def unA (a : AS) : AS := (sP a (sN a - 1), sN a - 1, a.2.2)
theorem WA.un {a : AS} (w : WA a) (hn : 0 < sN a) : WA (unA a) := by
  obtain ⟨w1, w2, w3, w4, w5, w6⟩ := w
  refine ⟨w3 _ (by omega), ?_, fun i hi => w3 i ?_, w4, w5, w6⟩
  · show sN a - 1 ≤ 6
    omega
  · have hi : i < sN a - 1 := hi
    omega
set_option maxHeartbeats 8000000 in
theorem m7_undo {G : GT} {v : VV} {L : LL} {a : AS} (g : GH G) (h : IC v a) (w : WA a) (hn : 0 < sN a) : CC G MX7_undo [.ref (gB G 0)] v L (gI (PC v L (unA a) (nI (sN a - 1)))) := by
  refine cc_of g [some (.ref (gB G 0))] rfl rfl rfl rfl (fun K F => ?_)
  have e2 : v 64 2 = sN a := by obtain ⟨nx, _, _, _, z, _⟩ := h.2.1.1; exact z
  have w6 : sN a ≤ 6 := w.2.1
  refine r_aload_n F dX7_undo_0 rfl ?_
  refine r_get (x := .ref (gB G 64)) (T := TX7) (n := 1) F uw7 rfl rfl tw_275 (Or.inl rfl) dX7_undo_1 (kd_lt (rfl : kd 0 = (6,0,0)) (by decide)) (ce6 rfl) rfl ?_
  refine r_getN (T := TX4) (n := 2) F uw4 rfl rfl tw_189 (Or.inl rfl) dX7_undo_4 (kd_lt (rfl : kd 64 = (3,0,0)) (by decide)) (ce3 rfl) rfl ?_
  refine r_ifne F dX7_undo_7 (by omega) (fun h7 => ?_) (fun h7 => ?_)
  · refine r_aload_n F dX7_undo_20 rfl ?_
    refine r_get (x := .ref (gB G 64)) (T := TX7) (n := 1) F uw7 rfl rfl tw_275 (Or.inl rfl) dX7_undo_21 (kd_lt (rfl : kd 0 = (6,0,0)) (by decide)) (ce6 rfl) rfl ?_
    refine r_aload_n F dX7_undo_24 rfl ?_
    refine r_get (x := .ref (gB G 1)) (T := TX7) (n := 0) F uw7 rfl rfl tw_274 (Or.inl rfl) dX7_undo_25 (kd_lt (rfl : kd 0 = (6,0,0)) (by decide)) (ce6 rfl) rfl ?_
    refine r_callN1w F fMX4_popInto tw_821 rfl rfl rfl rfl dX7_undo_28 rfl rfl z0 (m4_popInto g (w.2.2.1 _ (by omega)) h.2.1.1 hn) ?_
    rintro v1 L1 ⟨rfl, f1, f2, f3⟩
    refine r_aload_n F dX7_undo_31 rfl ?_
    refine r_callV0v F fMX7_forgetForced tw_323 rfl rfl rfl rfl dX7_undo_32 rfl rfl z0 (m7_forgetForced g) ?_
    refine r_aload_n F dX7_undo_35 rfl ?_
    refine r_get (x := .ref (gB G 64)) (T := TX7) (n := 1) F uw7 rfl rfl tw_275 (Or.inl rfl) dX7_undo_36 (kd_lt (rfl : kd 0 = (6,0,0)) (by decide)) (ce6 rfl) rfl ?_
    refine r_getN (T := TX4) (n := 2) F uw4 rfl rfl tw_189 (Or.inl rfl) dX7_undo_39 (kd_lt (rfl : kd 64 = (3,0,0)) (by decide)) (ce3 rfl) rfl ?_
    rw [show up2 (up2 v1 75 3 0) 79 3 0 64 2 = sN a - 1 by rw [up2_k _ (by decide), up2_k _ (by decide)]; obtain ⟨nx, _, _, _, z, _⟩ := f1; exact z]
    refine r_iret F rfl rfl dX7_undo_42 ⟨_, rfl, rfl, rfl, fun k hk => by rw [up2_k _ (by omega), up2_k _ (by omega), f3 k (by omega)], f2.kept (fun j _ _ => by rw [up2_k _ (by omega), up2_k _ (by omega)]), ⟨f1.kept (fun j _ _ => by rw [up2_k _ (by omega), up2_k _ (by omega)]), fun i hi => ?_, ?_, fun i hi => ?_⟩, Ch0.ch ⟨by rw [up2_k _ (by decide), up2_s], by rw [up2_s]⟩ _⟩
    · rw [up2_k _ (by decide), up2_k _ (by decide), f3 67 (by omega)]
      exact ⟨(h.2.1.2.1 i hi).1, fun hk => ((h.2.1.2.1 i hi).2 hk).kept (fun j _ _ => by rw [up2_k _ (by omega), up2_k _ (by omega), f3 j (by omega)])⟩
    · rw [up2_k _ (by decide), up2_k _ (by decide), f3 68 (by omega)]; exact h.2.1.2.2.1
    · rw [up2_k _ (by decide), up2_k _ (by decide), f3 69 (by omega)]; exact h.2.1.2.2.2 i hi
  · omega
set_option maxHeartbeats 4000000 in
theorem x7_undo {G : GT} {v : VV} {L : LL} {Φ : VV → LL → Prop} {a : AS} (g : GH G) (hi : IC v a) (hn : sN a = 0) (h : Φ v L) : CX G MX7_undo [.ref (gB G 0)] v L eIS Φ := by
  refine cx_of g [some (.ref (gB G 0))] rfl rfl rfl rfl (fun K F he => ?_)
  have e2 : v 64 2 = 0 := by obtain ⟨nx, _, _, _, z, _⟩ := hi.2.1.1; exact z.trans hn
  refine r_aload_n F dX7_undo_0 rfl ?_
  refine r_get (x := .ref (gB G 64)) (T := TX7) (n := 1) F uw7 rfl rfl tw_275 (Or.inl rfl) dX7_undo_1 (kd_lt (rfl : kd 0 = (6,0,0)) (by decide)) (ce6 rfl) rfl ?_
  refine r_getN (T := TX4) (n := 2) F uw4 rfl rfl tw_189 (Or.inl rfl) dX7_undo_4 (kd_lt (rfl : kd 64 = (3,0,0)) (by decide)) (ce3 rfl) rfl ?_
  rw [e2]
  refine r_ifne F dX7_undo_7 (by omega) (fun h7 => ?_) (fun h7 => ?_)
  · exact absurd rfl h7
  · exact r_throwS (i := 10) F he efIS efN ewIS egIS rfl dX7_undo_10 dX7_undo_13 dX7_undo_14 dX7_undo_16 dX7_undo_19 rfl h
