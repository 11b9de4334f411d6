def fM (σ : AT) : Nat → Bool := fun q => decide (q = aP σ) || hm (aB σ) (aP σ) (nI q)
theorem MK.cong {m : Nat} {f f' : Nat → Bool} (h : MK m f) (e : ∀ p, p < 8 → f p = f' p) : MK m f' := ⟨h.1, fun p hp => by rw [h.2 p hp, e p hp]⟩
theorem addM_c (B : Nat → Nat) (p q : Nat) : addM B p q (13 + 6 * p) = B (13 + 6 * p) + 1 := by unfold addM; rw [upN_s]
theorem addM_n (B : Nat → Nat) {p q : Nat} : addM B p q (14 + 6 * p + B (13 + 6 * p)) = q := by unfold addM; rw [upN_n _ _ (by omega), upN_s]
theorem addM_o (B : Nat → Nat) {p q j : Nat} (h1 : j ≠ 13 + 6 * p) (h2 : j ≠ 14 + 6 * p + B (13 + 6 * p)) : addM B p q j = B j := by unfold addM; rw [upN_n _ _ h1, upN_n _ _ h2]
theorem hm_add (B : Nat → Nat) (p q : Nat) (to : Int32) : hm (addM B p q) p to = (hm B p to || decide (nI q = to)) := by
  unfold hm
  rw [addM_c]
  show (anyB _ (B (13 + 6 * p)) || decide (nI (addM B p q (14 + 6 * p + B (13 + 6 * p))) = to)) = _
  rw [addM_n, anyB_cong (g := fun i => decide (nI (B (14 + 6 * p + i)) = to)) (fun i hi => by rw [addM_o B (by omega) (by omega)])]
theorem rd_y {a : AS} {i : Nat} {σ : AT} (h : rdB a i (fM σ) = true) (hc : aB σ (13 + 6 * aP σ) < 4) : i < sL a ∧ mvok σ (sT a i) := by
  unfold rdB at h
  rw [Bool.and_eq_true] at h
  have hn : i < sL a ∧ 48 ≤ sT a i ∧ sT a i ≤ 55 := of_decide_eq_true h.1
  have hf : fM σ (sT a i - 48) = false := by
    cases hz : fM σ (sT a i - 48) with
    | false => rfl
    | true => rw [hz] at h; cases h.2
  unfold fM at hf
  rw [Bool.or_eq_false_iff] at hf
  exact ⟨hn.1, ⟨by omega, by omega⟩, of_decide_eq_false hf.1, hc, hf.2⟩
theorem rd_n {a : AS} {i : Nat} {σ : AT} (h : rdB a i (fM σ) = false ∨ 4 ≤ aB σ (13 + 6 * aP σ)) (hi : i < sL a) : spM σ (sT a i) = none := by
  unfold spM
  refine if_neg (fun z => ?_)
  obtain ⟨z1, z2, z3, z4⟩ := z
  rcases h with h | h
  · unfold rdB nxB at h
    rw [decide_eq_true (by omega), Bool.true_and] at h
    unfold fM at h
    rw [decide_eq_false z2, z4] at h
    cases h
  · omega
/-- the text ends with no board here -/
theorem bad1 {a : AS} {i : Nat} {σ : AT} (hi : i < sL a) (h : au (sT a) i = some σ) (h2 : sp σ (sT a i) = none) : erN (sT a) (sL a) = i ∧ ∀ τ, ¬ okL a τ := by
  refine ⟨er_at hi h h2, fun τ z => ?_⟩
  have := au_none (T := sT a) (i := i + 1) (by rw [au_s, h]; exact h2) (sL a) (by omega)
  rw [z.1] at this
  cases this
theorem bad2 {a : AS} {σ : AT} (h : au (sT a) (sL a) = some σ) (h3 : aE σ ≠ 3) (h4 : aE σ ≠ 4) : erN (sT a) (sL a) = sL a ∧ ∀ τ, ¬ okL a τ := by
  refine ⟨er_end h, fun τ z => ?_⟩
  have e := h.symm.trans z.1
  cases e
  exact z.2.elim h3 h4
/-- the moves of the part p so far -/
def MV (v0 v : VV) (a : AS) (σ0 σ : AT) (p n i m : Nat) : Prop := TP v a i ∧ au (sT a) i = some σ ∧ aE σ = (if n = 0 then 2 else 3) ∧ aP σ = p ∧ aN σ = aN σ0 ∧ aS σ = aS σ0 ∧ aB σ (13 + 6 * p) = n ∧ n ≤ 4 ∧ (∀ j, j < 48 → j ≠ 6 * p + 1 → v 90 j = aB σ (12 + j)) ∧ MK m (fM σ) ∧ (∀ q, q < 8 → q ≠ p → aB σ (13 + 6 * q) = aB σ0 (13 + 6 * q)) ∧ (∀ k, k ≠ 83 → k ≠ 90 → v k = v0 k) ∧ (∀ j, j ≠ 10 → v 83 j = v0 83 j)
/-- what readMoves says -/
def RMs (v0 : VV) (L : LL) (a : AS) (σ0 : AT) (p : Nat) : Bool → VV → LL → Prop := fun b v' L' => L' = L ∧ (∀ k, k ≠ 83 → k ≠ 90 → v' k = v0 k) ∧ (∀ j, j ≠ 10 → v' 83 j = v0 83 j) ∧ (b = true → ∃ i σ, TP v' a i ∧ au (sT a) i = some σ ∧ aE σ = 3 ∧ (i < sL a → spM σ (sT a i) = none) ∧ (∀ j, j < 48 → v' 90 j = aB σ (12 + j)) ∧ aN σ = aN σ0 ∧ aS σ = aS σ0 ∧ ∀ q, q < 8 → q ≠ p → aB σ (13 + 6 * q) = aB σ0 (13 + 6 * q)) ∧ (b = false → v' 83 10 = erN (sT a) (sL a) ∧ ∀ τ, ¬ okL a τ)
set_option maxHeartbeats 16000000 in
theorem m8_readMoves {G : GT} {v0 : VV} {L : LL} {a : AS} (g : GH G) (w : WA a) {σ0 : AT} {p i0 : Nat} (hp : p < 8) (h0 : MV v0 v0 a σ0 σ0 p 0 i0 (2 ^ p)) (hA : i0 < sL a → spA σ0 (sT a i0) = none) : CC G MX8_readMoves [.ref (gB G 83), .int (nI p)] v0 L (gBl (RMs v0 L a σ0 p)) := by
  refine cc_of g [some (.ref (gB G 83)), some (.int (nI p)), none, none, none] rfl rfl rfl rfl (fun K F => ?_)
  have stop : ∀ (n i m : Nat) (v : VV) (σ : AT), MV v0 v a σ0 σ p n i m → (rdB a i (fM σ) = false ∨ n = 4) → (n = 0 → i < sL a → spA σ (sT a i) = none) → CW G K 5 0 0 (MQ (kb K) (Qn G (gBl (RMs v0 L a σ0 p))) (ka K) (ks K) 0 0 (gA G)) v L 13 [some (.ref (gB G 83)), some (.int (nI p)), some (.int (nI m)), some (.int (nI n)), some (.int (-1))] [] := by
    intro n i m v σ hv hr hA0
    obtain ⟨b1, b2, b3, b4, b5, b6, b7, b8, b9, b10, b11, b12, b13⟩ := hv
    have hb : 6 * p + 1 < 48 := by omega
    have hM : i < sL a → spM σ (sT a i) = none := rd_n (hr.imp id (fun z => by rw [b4, b7]; omega))
    refine r_iload F dX8_readMoves_13 rfl ?_
    refine R_iconst (x := -1) F dX8_readMoves_15 rfl ?_
    refine R_iceq F dX8_readMoves_16 (fun h16 => ?_) (fun h16 => ?_)
    · refine r_aload_n F dX8_readMoves_63 rfl ?_
      refine r_get (x := .ref (gB G 90)) (T := TX8) (n := 9) F uw8 rfl rfl tw_886 (Or.inl rfl) dX8_readMoves_64 (kd_lt (rfl : kd 83 = (7,0,0)) (by decide)) (ce7 rfl) rfl ?_
      refine r_bipush (x := 6) F dX8_readMoves_67 rfl ?_
      refine r_iload_n F dX8_readMoves_69 rfl ?_
      refine r_imul F dX8_readMoves_70 ?_
      refine r_iconst (x := 1) F dX8_readMoves_71 rfl ?_
      refine r_iadd F dX8_readMoves_72 ?_
      refine r_iload_n F dX8_readMoves_73 rfl ?_
      refine r_iast F dX8_readMoves_74 rfl (by omega) ?_
      refine r_iload_n F dX8_readMoves_75 rfl ?_
      refine r_ifle F dX8_readMoves_76 (by omega) (fun h76 => ?_) (fun h76 => ?_)
      · refine r_iconst (x := 0) F dX8_readMoves_83 rfl ?_
        refine r_iret F rfl (nb01 (by decide)) dX8_readMoves_84 ?_
        first
          | (refine ⟨true, rfl, rfl, fun k k1 k2 => by rw [up2_k _ k2]; exact b12 k k1 k2, fun j hj => by rw [up2_k _ (by decide)]; exact b13 j hj, fun _ => ⟨i, σ, b1.up (by decide) (fun z => by omega), b2, by rw [b3, if_neg (by omega)], hM, fun j hj => ?_, b5, b6, b11⟩, fun z => by cases z⟩
             by_cases e : j = 6 * p + 1
             · rw [e, up2_s, show 12 + (6 * p + 1) = 13 + 6 * p by omega, b7]
             · rw [up2_j _ e]; exact b9 j hj e)
          | (have hn0 : n = 0 := by omega
             subst hn0
             refine ⟨false, rfl, rfl, fun k k1 k2 => by rw [up2_k _ k2]; exact b12 k k1 k2, fun j hj => by rw [up2_k _ (by decide)]; exact b13 j hj, fun z => (by cases z), fun _ => ?_⟩
             have e10 : up2 v 90 (6 * p + 1) 0 83 10 = i := by rw [up2_k _ (by decide)]; exact b1.2.2.1
             rw [e10]
             have e2 : aE σ = 2 := b3
             rcases Nat.lt_or_ge i (sL a) with z | z
             · have es : sp σ (sT a i) = none := by
                 unfold sp
                 rw [if_neg (by omega), if_neg (by omega), if_pos e2, hA0 rfl z, hM z]; rfl
               obtain ⟨y1, y2⟩ := bad1 z b2 es
               exact ⟨y1.symm, y2⟩
             · have ei : i = sL a := Nat.le_antisymm b1.2.2.2 z
               rw [ei] at b2
               obtain ⟨y1, y2⟩ := bad2 b2 (by omega) (by omega)
               exact ⟨by rw [ei, y1], y2⟩)
      · refine r_iconst (x := 1) F dX8_readMoves_79 rfl ?_
        refine r_goto F dX8_readMoves_80 ?_
        refine r_iret F rfl (nb01 (by decide)) dX8_readMoves_84 ?_
        first
          | (refine ⟨true, rfl, rfl, fun k k1 k2 => by rw [up2_k _ k2]; exact b12 k k1 k2, fun j hj => by rw [up2_k _ (by decide)]; exact b13 j hj, fun _ => ⟨i, σ, b1.up (by decide) (fun z => by omega), b2, by rw [b3, if_neg (by omega)], hM, fun j hj => ?_, b5, b6, b11⟩, fun z => by cases z⟩
             by_cases e : j = 6 * p + 1
             · rw [e, up2_s, show 12 + (6 * p + 1) = 13 + 6 * p by omega, b7]
             · rw [up2_j _ e]; exact b9 j hj e)
          | (have hn0 : n = 0 := by omega
             subst hn0
             refine ⟨false, rfl, rfl, fun k k1 k2 => by rw [up2_k _ k2]; exact b12 k k1 k2, fun j hj => by rw [up2_k _ (by decide)]; exact b13 j hj, fun z => (by cases z), fun _ => ?_⟩
             have e10 : up2 v 90 (6 * p + 1) 0 83 10 = i := by rw [up2_k _ (by decide)]; exact b1.2.2.1
             rw [e10]
             have e2 : aE σ = 2 := b3
             rcases Nat.lt_or_ge i (sL a) with z | z
             · have es : sp σ (sT a i) = none := by
                 unfold sp
                 rw [if_neg (by omega), if_neg (by omega), if_pos e2, hA0 rfl z, hM z]; rfl
               obtain ⟨y1, y2⟩ := bad1 z b2 es
               exact ⟨y1.symm, y2⟩
             · have ei : i = sL a := Nat.le_antisymm b1.2.2.2 z
               rw [ei] at b2
               obtain ⟨y1, y2⟩ := bad2 b2 (by omega) (by omega)
               exact ⟨by rw [ei, y1], y2⟩)
    · exact absurd rfl h16
  have main : ∀ (k n i m : Nat) (v : VV) (σ : AT), n + k = 4 → 0 < k → MV v0 v a σ0 σ p n i m → rdB a i (fM σ) = true → CW G K 5 0 0 (MQ (kb K) (Qn G (gBl (RMs v0 L a σ0 p))) (ka K) (ks K) 0 0 (gA G)) (up2 v 83 10 (i + 1)) L 13 [some (.ref (gB G 83)), some (.int (nI p)), some (.int (nI m)), some (.int (nI n)), some (.int (nI (sT a i - 48)))] [] := by
    intro k
    induction k with
    | zero => intro n i m v σ a1 a2; omega
    | succ k ih =>
      intro n i m v σ a1 a2 hv hr
      have hv0 := hv
      obtain ⟨b1, b2, b3, b4, b5, b6, b7, b8, b9, b10, b11, b12, b13⟩ := hv
      obtain ⟨r1, r2⟩ := rd_y hr (by rw [b4, b7]; omega)
      obtain ⟨q, hq⟩ : ∃ q, q = sT a i - 48 := ⟨_, rfl⟩
      rw [← hq]
      have hq8 : q < 8 := by have := r2.1; omega
      have hm8 : m < 256 := b10.1
      obtain ⟨v2, hv2⟩ : ∃ v2, v2 = up2 (up2 v 83 10 (i + 1)) 90 (6 * p + 2 + n) q := ⟨_, rfl⟩
      have esp : sp σ (sT a i) = some (3, aP σ, aN σ, aS σ, addM (aB σ) (aP σ) q) := by
        have eM : spM σ (sT a i) = some (3, aP σ, aN σ, aS σ, addM (aB σ) (aP σ) q) := by unfold spM; rw [if_pos r2, hq]
        have eA : spA σ (sT a i) = none := by unfold spA; rw [if_neg (by have := r2.1; omega), if_neg (by have := r2.1; omega)]
        unfold sp
        by_cases n0 : n = 0
        · rw [if_pos n0] at b3
          rw [if_neg (by omega), if_neg (by omega), if_pos b3, eA, eM]; rfl
        · rw [if_neg n0] at b3
          rw [if_neg (by omega), if_neg (by omega), if_neg (by omega), if_pos b3, eM]; rfl
      have nv : MV v0 v2 a σ0 (3, aP σ, aN σ, aS σ, addM (aB σ) (aP σ) q) p (n + 1) (i + 1) (m ||| 2 ^ q) := by
        refine ⟨?_, by rw [au_s, b2]; exact esp, ?_, b4, b5, b6, ?_, by omega, fun j hj hj1 => ?_, ?_, fun r hr8 hrp => ?_, fun k' k1 k2 => ?_, fun j hj => ?_⟩
        · rw [hv2]; exact (b1.go r1).up (by decide) (fun z => absurd z (by decide))
        · rw [if_neg (by omega)]
        · show addM (aB σ) (aP σ) q (13 + 6 * p) = n + 1
          rw [b4, addM_c, b7]
        · show v2 90 j = addM (aB σ) (aP σ) q (12 + j)
          rw [b4, hv2]
          by_cases e : j = 6 * p + 2 + n
          · subst e
            rw [up2_s, show 12 + (6 * p + 2 + n) = 14 + 6 * p + aB σ (13 + 6 * p) by omega, addM_n]
          · rw [up2_j _ e, up2_k _ (by decide), addM_o _ (by omega) (by omega)]
            exact b9 j hj hj1
        · refine (b10.or hq8).cong (fun x hx => ?_)
          show upB (fM σ) q true x = (decide (x = aP σ) || hm (addM (aB σ) (aP σ) q) (aP σ) (nI x))
          rw [hm_add]
          unfold upB
          by_cases e : x = q
          · subst e
            rw [if_pos rfl, decide_eq_true rfl, Bool.or_true, Bool.or_true]
          · rw [if_neg e, decide_eq_false (fun z => e ((nI_eq (by omega) (by omega)).mp z).symm), Bool.or_false]
            rfl
        · show addM (aB σ) (aP σ) q (13 + 6 * r) = aB σ0 (13 + 6 * r)
          rw [b4, addM_o _ (by omega) (by omega)]
          exact b11 r hr8 hrp
        · rw [hv2, up2_k _ k2, up2_k _ k1]; exact b12 k' k1 k2
        · rw [hv2, up2_k _ (by decide), up2_j _ hj]; exact b13 j hj
      cases hz : rdB a (i + 1) (fM (3, aP σ, aN σ, aS σ, addM (aB σ) (aP σ) q)) with
      | true =>
        refine r_iload F dX8_readMoves_13 rfl ?_
        refine R_iconst (x := -1) F dX8_readMoves_15 rfl ?_
        refine R_iceq F dX8_readMoves_16 (fun h16 => ?_) (fun h16 => ?_)
        · exact absurd h16 (nI_m1 (by omega))
        · refine r_aload_n F dX8_readMoves_19 rfl ?_
          refine r_get (x := .ref (gB G 90)) (T := TX8) (n := 9) F uw8 rfl rfl tw_886 (Or.inl rfl) dX8_readMoves_20 (kd_lt (rfl : kd 83 = (7,0,0)) (by decide)) (ce7 rfl) rfl ?_
          refine r_bipush (x := 6) F dX8_readMoves_23 rfl ?_
          refine r_iload_n F dX8_readMoves_25 rfl ?_
          refine r_imul F dX8_readMoves_26 ?_
          refine r_iconst (x := 2) F dX8_readMoves_27 rfl ?_
          refine r_iadd F dX8_readMoves_28 ?_
          refine r_iload_n F dX8_readMoves_29 rfl ?_
          refine r_iadd F dX8_readMoves_30 ?_
          refine r_iload F dX8_readMoves_31 rfl ?_
          refine r_iast F dX8_readMoves_33 rfl (by omega) ?_
          refine r_iinc3 (y := 1) F dX8_readMoves_34 rfl rfl rfl rfl ?_
          refine r_iload_n F dX8_readMoves_37 rfl ?_
          refine r_iconst (x := 1) F dX8_readMoves_38 rfl ?_
          refine r_iload F dX8_readMoves_39 rfl ?_
          refine R_ishl F dX8_readMoves_41 (nI_sh1 (by omega)) ?_
          refine R_ior F dX8_readMoves_42 (nI_or _ _) ?_
          refine r_ist2 F dX8_readMoves_43 rfl rfl ?_
          rw [← hv2]
          refine r_iload_n F dX8_readMoves_44 rfl ?_
          refine r_iconst (x := 4) F dX8_readMoves_45 rfl ?_
          refine r_icge F dX8_readMoves_46 (by omega) (by omega) (fun h46 => ?_) (fun h46 => ?_)
          · refine R_iconst (x := -1) F dX8_readMoves_57 rfl ?_
            refine r_ist4 F dX8_readMoves_58 rfl rfl ?_
            refine r_goto F dX8_readMoves_60 ?_
            first
              | exact ih (n + 1) (i + 1) _ v2 _ (by omega) (by omega) nv hz
              | exact stop (n + 1) (i + 1) _ v2 _ nv (Or.inr (by omega)) (fun z => by omega)
          · refine r_aload_n F dX8_readMoves_49 rfl ?_
            refine r_iload_n F dX8_readMoves_50 rfl ?_
            refine r_callV1i F fMX8_readPosition tw_1017 rfl rfl rfl rfl dX8_readMoves_51 rfl rfl z0 (m8_readY g w nv.1 nv.2.2.2.2.2.2.2.2.2.1 hz) ?_
            refine r_goto F dX8_readMoves_54 ?_
            refine r_ist4 F dX8_readMoves_58 rfl rfl ?_
            refine r_goto F dX8_readMoves_60 ?_
            first
              | exact ih (n + 1) (i + 1) _ v2 _ (by omega) (by omega) nv hz
              | exact stop (n + 1) (i + 1) _ v2 _ nv (Or.inr (by omega)) (fun z => by omega)
      | false =>
        refine r_iload F dX8_readMoves_13 rfl ?_
        refine R_iconst (x := -1) F dX8_readMoves_15 rfl ?_
        refine R_iceq F dX8_readMoves_16 (fun h16 => ?_) (fun h16 => ?_)
        · exact absurd h16 (nI_m1 (by omega))
        · refine r_aload_n F dX8_readMoves_19 rfl ?_
          refine r_get (x := .ref (gB G 90)) (T := TX8) (n := 9) F uw8 rfl rfl tw_886 (Or.inl rfl) dX8_readMoves_20 (kd_lt (rfl : kd 83 = (7,0,0)) (by decide)) (ce7 rfl) rfl ?_
          refine r_bipush (x := 6) F dX8_readMoves_23 rfl ?_
          refine r_iload_n F dX8_readMoves_25 rfl ?_
          refine r_imul F dX8_readMoves_26 ?_
          refine r_iconst (x := 2) F dX8_readMoves_27 rfl ?_
          refine r_iadd F dX8_readMoves_28 ?_
          refine r_iload_n F dX8_readMoves_29 rfl ?_
          refine r_iadd F dX8_readMoves_30 ?_
          refine r_iload F dX8_readMoves_31 rfl ?_
          refine r_iast F dX8_readMoves_33 rfl (by omega) ?_
          refine r_iinc3 (y := 1) F dX8_readMoves_34 rfl rfl rfl rfl ?_
          refine r_iload_n F dX8_readMoves_37 rfl ?_
          refine r_iconst (x := 1) F dX8_readMoves_38 rfl ?_
          refine r_iload F dX8_readMoves_39 rfl ?_
          refine R_ishl F dX8_readMoves_41 (nI_sh1 (by omega)) ?_
          refine R_ior F dX8_readMoves_42 (nI_or _ _) ?_
          refine r_ist2 F dX8_readMoves_43 rfl rfl ?_
          rw [← hv2]
          refine r_iload_n F dX8_readMoves_44 rfl ?_
          refine r_iconst (x := 4) F dX8_readMoves_45 rfl ?_
          refine r_icge F dX8_readMoves_46 (by omega) (by omega) (fun h46 => ?_) (fun h46 => ?_)
          · refine R_iconst (x := -1) F dX8_readMoves_57 rfl ?_
            refine r_ist4 F dX8_readMoves_58 rfl rfl ?_
            refine r_goto F dX8_readMoves_60 ?_
            exact stop (n + 1) (i + 1) _ v2 _ nv (Or.inl hz) (fun z => by omega)
          · refine r_aload_n F dX8_readMoves_49 rfl ?_
            refine r_iload_n F dX8_readMoves_50 rfl ?_
            refine r_callV1q F fMX8_readPosition tw_1017 rfl rfl rfl rfl dX8_readMoves_51 rfl rfl z0 (m8_readN g w nv.1 nv.2.2.2.2.2.2.2.2.2.1 hz) ?_
            refine r_goto F dX8_readMoves_54 ?_
            refine r_ist4 F dX8_readMoves_58 rfl rfl ?_
            refine r_goto F dX8_readMoves_60 ?_
            exact stop (n + 1) (i + 1) _ v2 _ nv (Or.inl hz) (fun z => by omega)
  cases hz : rdB a i0 (fM σ0) with
  | true =>
    refine r_iconst (x := 1) F dX8_readMoves_0 rfl ?_
    refine r_iload_n F dX8_readMoves_1 rfl ?_
    refine R_ishl F dX8_readMoves_2 (nI_sh1 (by omega)) ?_
    refine r_ist2 F dX8_readMoves_3 rfl rfl ?_
    refine r_iconst (x := 0) F dX8_readMoves_4 rfl ?_
    refine r_ist3 F dX8_readMoves_5 rfl rfl ?_
    refine r_aload_n F dX8_readMoves_6 rfl ?_
    refine r_iload_n F dX8_readMoves_7 rfl ?_
    refine r_callV1i F fMX8_readPosition tw_1017 rfl rfl rfl rfl dX8_readMoves_8 rfl rfl z0 (m8_readY g w h0.1 h0.2.2.2.2.2.2.2.2.2.1 hz) ?_
    refine r_ist4 F dX8_readMoves_11 rfl rfl ?_
    exact main 4 0 i0 _ v0 σ0 (by omega) (by omega) h0 hz
  | false =>
    refine r_iconst (x := 1) F dX8_readMoves_0 rfl ?_
    refine r_iload_n F dX8_readMoves_1 rfl ?_
    refine R_ishl F dX8_readMoves_2 (nI_sh1 (by omega)) ?_
    refine r_ist2 F dX8_readMoves_3 rfl rfl ?_
    refine r_iconst (x := 0) F dX8_readMoves_4 rfl ?_
    refine r_ist3 F dX8_readMoves_5 rfl rfl ?_
    refine r_aload_n F dX8_readMoves_6 rfl ?_
    refine r_iload_n F dX8_readMoves_7 rfl ?_
    refine r_callV1q F fMX8_readPosition tw_1017 rfl rfl rfl rfl dX8_readMoves_8 rfl rfl z0 (m8_readN g w h0.1 h0.2.2.2.2.2.2.2.2.2.1 hz) ?_
    refine r_ist4 F dX8_readMoves_11 rfl rfl ?_
    exact stop 0 i0 _ v0 σ0 h0 (Or.inl hz) (fun _ => hA)
