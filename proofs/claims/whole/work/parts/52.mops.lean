/-! the model's run -/
def IM (v : VV) (a : AS) : Prop := RM v (sS a) ∧ v 83 2 = sN a ∧ (∀ i, i < sN a → ∀ j, j < 60 → v 85 (60 * i + j) = sP a i j) ∧ (∀ i, i < 2 → v 87 i = (sKp a i).toNat ∧ (sKp a i = true → ∀ j, j < 60 → v 86 (60 * i + j) = sK a i j)) ∧ v 83 6 = sL a ∧ ∀ i, i < sL a → v 88 i = sT a i
def FrM (v v' : VV) : Prop := ∀ k, (k < 83 ∨ 91 ≤ k) → v' k = v k
theorem FrM.rf (v : VV) : FrM v v := fun _ _ => rfl
theorem FrM.trans {a b c : VV} (h : FrM a b) (h2 : FrM b c) : FrM a c := fun k hk => (h2 k hk).trans (h k hk)
theorem FrM.up {v v' : VV} (h : FrM v v') {k j x : Nat} (h1 : 83 ≤ k) (h2 : k < 91) : FrM v (up2 v' k j x) := fun i hi => by rw [up2_k _ (by omega)]; exact h i hi
theorem IM.kept {v v' : VV} {a : AS} (h : IM v a) (c : ∀ k, 84 ≤ k → k < 89 → v' k = v k) (c2 : v' 83 2 = v 83 2) (c6 : v' 83 6 = v 83 6) : IM v' a := by
  obtain ⟨h1, h2, h3, h4, h5, h6⟩ := h
  refine ⟨fun j hj => by rw [c 84 (by decide) (by decide)]; exact h1 j hj, c2.trans h2, fun i hi j hj => by rw [c 85 (by decide) (by decide)]; exact h3 i hi j hj, fun i hi => ?_, c6.trans h5, fun i hi => by rw [c 88 (by decide) (by decide)]; exact h6 i hi⟩
  rw [c 87 (by decide) (by decide), c 86 (by decide) (by decide)]
  exact h4 i hi
theorem IM.thr {v : VV} {a : AS} (h : IM v a) (x : Nat) : IM (up2 v 83 7 x) a := h.kept (fun k _ _ => up2_k _ (by omega)) (up2_j _ (by decide) _) (up2_j _ (by decide) _)
theorem RM.up {v : VV} {S : Nat → Nat} (h : RM v S) (i x : Nat) : RM (up2 v 84 i x) (upN S i x) := fun j hj => by
  by_cases e : j = i
  · subst e; rw [up2_s, upN_s]
  · rw [up2_j _ e, upN_n _ _ e]; exact h j hj
def PMo (v : VV) (L : LL) (a' : AS) (x : Int32) : Int32 → VV → LL → Prop := fun y v' L' => y = x ∧ L' = L ∧ FrM v v' ∧ v' 83 7 = 0 ∧ IM v' a'
def PMt (v : VV) (L : LL) (a : AS) (k : Nat) : Int32 → VV → LL → Prop := fun _ v' L' => L' = L ∧ FrM v v' ∧ v' 83 7 = k ∧ IM v' a
theorem pmt {v : VV} {L : LL} {a : AS} (h : IM v a) (k : Nat) (y : Int32) : gI (PMt v L a k) (some (.int y)) (up2 v 83 7 k) L := ⟨_, rfl, rfl, (FrM.rf v).up (by decide) (by decide), up2_s _ _ _ _, h.thr k⟩
/-! a stretch of one row into another -/
def cpR (v : VV) (a oa b ob n : Nat) : VV := fun k j => if k = b ∧ ob ≤ j ∧ j < ob + n then v a (oa + (j - ob)) else v k j
theorem cpR_0 (v : VV) (a oa b ob : Nat) : cpR v a oa b ob 0 = v := by
  funext k j
  unfold cpR
  rw [if_neg (by omega)]
theorem cpR_k (v : VV) {a oa b ob n k : Nat} (h : k ≠ b) : cpR v a oa b ob n k = v k := by
  funext j
  unfold cpR
  rw [if_neg (fun z => h z.1)]
theorem cpR_at (v : VV) {a oa b ob n j : Nat} (h : j < n) : cpR v a oa b ob n b (ob + j) = v a (oa + j) := by
  unfold cpR
  rw [if_pos ⟨rfl, by omega, by omega⟩, show ob + j - ob = j by omega]
theorem cpR_out (v : VV) {a oa b ob n j : Nat} (h : j < ob ∨ ob + n ≤ j) : cpR v a oa b ob n b j = v b j := by
  unfold cpR
  rw [if_neg (fun z => by omega)]
theorem cpR_s (v : VV) (a oa b ob i : Nat) : up2 (cpR v a oa b ob i) b (ob + i) (v a (oa + i)) = cpR v a oa b ob (i + 1) := by
  funext k j
  by_cases h1 : k = b
  · subst h1
    by_cases h2 : j = ob + i
    · subst h2
      rw [up2_s, cpR_at v (Nat.lt_succ_self i)]
    · rw [up2_j _ h2]
      rcases Nat.lt_or_ge j ob with z | z
      · rw [cpR_out v (Or.inl z), cpR_out v (Or.inl z)]
      · rcases Nat.lt_or_ge j (ob + i) with y | y
        · obtain ⟨m, rfl⟩ : ∃ m, j = ob + m := ⟨j - ob, by omega⟩
          rw [cpR_at v (by omega), cpR_at v (by omega)]
        · rw [cpR_out v (Or.inr y), cpR_out v (Or.inr (by omega))]
  · rw [up2_k _ h1, cpR_k v h1, cpR_k v h1]
def SV (v v' : VV) (a : AS) : Prop := (∀ k, k ≠ 83 → k ≠ 85 → v' k = v k) ∧ (∀ j, j ≠ 2 → v' 83 j = v 83 j) ∧ IM v' (svA a)
set_option maxHeartbeats 8000000 in
theorem m8_save {G : GT} {v : VV} {L : LL} {a : AS} (g : GH G) (h : IM v a) (w : WA a) : CC G MX8_save [.ref (gB G 83)] v L (gV fun v' L' => L' = L ∧ SV v v' a) := by
  refine cc_of g [some (.ref (gB G 83)), none] rfl rfl rfl rfl (fun K F => ?_)
  have hn : sN a ≤ 6 := w.2.1
  obtain ⟨h1, h2, h3, h4, h5, h6⟩ := h
  have fin : ∀ (n : Nat) (v1 : VV), n < 6 → v1 83 2 = n → (∀ k, k ≠ 83 → k ≠ 85 → v1 k = v k) → (∀ j, j ≠ 2 → v1 83 j = v 83 j) → svN (sN a) = n + 1 → (∀ i, i < n → ∀ j, j < 60 → v1 85 (60 * i + j) = svP (sN a) (sP a) (sS a) i j) → svP (sN a) (sP a) (sS a) n = sS a → CW G K 2 0 0 (MQ (kb K) (Qn G (gV fun v' L' => L' = L ∧ SV v v' a)) (ka K) (ks K) 0 0 (gA G)) v1 L 49 [some (.ref (gB G 83)), none] [] := by
    intro n v1 b1 b2 b3 b4 b5 b6 b7
    have s1 : ∀ j, j < 60 → v1 84 j = sS a j := fun j hj => by rw [b3 84 (by decide) (by decide)]; exact h1 j hj
    have lo : ∀ (m i : Nat), 60 < i + m → i ≤ 60 → CW G K 2 0 0 (MQ (kb K) (Qn G (gV fun v' L' => L' = L ∧ SV v v' a)) (ka K) (ks K) 0 0 (gA G)) (cpR v1 84 0 85 (60 * n) i) L 51 [some (.ref (gB G 83)), some (.int (nI i))] [] := by
      intro m
      induction m with
      | zero => intro i a1 a2; omega
      | succ m ih =>
        intro i a1 a2
        have e2 : cpR v1 84 0 85 (60 * n) i 83 2 = n := by rw [cpR_k _ (by decide)]; exact b2
        have e3 : cpR v1 84 0 85 (60 * n) i 84 i = v1 84 (0 + i) := by rw [cpR_k _ (by decide), Nat.zero_add]
        refine r_iload_n F dX8_save_51 rfl ?_
        refine r_bipush (x := 60) F dX8_save_52 rfl ?_
        refine r_icge F dX8_save_54 (by omega) (by omega) (fun h54 => ?_) (fun h54 => ?_)
        · refine r_aload_n F dX8_save_83 rfl ?_
          refine r_dup F dX8_save_84 rfl ?_
          refine r_get (T := TX8) (n := 2) F uw8 rfl rfl tw_879 (Or.inl rfl) dX8_save_85 (kd_lt (rfl : kd 83 = (7,0,0)) (by decide)) (ce7 rfl) rfl ?_
          refine r_iconst (x := 1) F dX8_save_88 rfl ?_
          rw [e2]
          refine r_iadd F dX8_save_89 ?_
          refine r_put (T := TX8) (n := 2) (ty0 := tyX8) (ty := .int) F uw8 tyX8_ok nmX8 rfl rfl tw_879 (Or.inl rfl) rfl rfl rfl rfl dX8_save_90 (kd_lt (rfl : kd 83 = (7,0,0)) (by decide)) (ce7 rfl) rfl (pe7_2 rfl) up2_ce ?_
          have hi : i = 60 := by omega
          subst hi
          refine r_vret F rfl dX8_save_93 ⟨rfl, rfl, fun k k1 k2 => by rw [up2_k _ k1, cpR_k _ k2]; exact b3 k k1 k2, fun j hj => by rw [up2_j _ hj, cpR_k _ (by decide)]; exact b4 j hj, fun j hj => ?_, ?_, fun i hi j hj => ?_, fun i hi => ?_, ?_, fun i hi => ?_⟩
          · rw [up2_k _ (by decide), cpR_k _ (by decide)]; exact s1 j hj
          · rw [up2_s]; exact b5.symm
          · have hi : i < svN (sN a) := hi
            show _ = svP (sN a) (sP a) (sS a) i j
            rw [up2_k _ (by decide)]
            rcases Nat.lt_or_ge i n with z | z
            · rw [cpR_out _ (Or.inl (by omega))]; exact b6 i z j hj
            · rw [show i = n by omega, cpR_at _ hj, b7, Nat.zero_add]; exact s1 j hj
          · rw [up2_k _ (by decide), up2_k _ (by decide), cpR_k _ (by decide), cpR_k _ (by decide), b3 87 (by decide) (by decide), b3 86 (by decide) (by decide)]; exact h4 i hi
          · rw [up2_j _ (by decide), cpR_k _ (by decide), b4 6 (by decide)]; exact h5
          · rw [up2_k _ (by decide), cpR_k _ (by decide), b3 88 (by decide) (by decide)]; exact h6 i hi
        · refine r_aload_n F dX8_save_57 rfl ?_
          refine r_get (x := .ref (gB G 85)) (T := TX8) (n := 1) F uw8 rfl rfl tw_878 (Or.inl rfl) dX8_save_58 (kd_lt (rfl : kd 83 = (7,0,0)) (by decide)) (ce7 rfl) rfl ?_
          refine r_bipush (x := 60) F dX8_save_61 rfl ?_
          refine r_aload_n F dX8_save_63 rfl ?_
          refine r_get (T := TX8) (n := 2) F uw8 rfl rfl tw_879 (Or.inl rfl) dX8_save_64 (kd_lt (rfl : kd 83 = (7,0,0)) (by decide)) (ce7 rfl) rfl ?_
          rw [e2]
          refine r_imul F dX8_save_67 ?_
          refine r_iload_n F dX8_save_68 rfl ?_
          refine r_iadd F dX8_save_69 ?_
          refine r_aload_n F dX8_save_70 rfl ?_
          refine r_get (x := .ref (gB G 84)) (T := TX8) (n := 0) F uw8 rfl rfl tw_877 (Or.inl rfl) dX8_save_71 (kd_lt (rfl : kd 83 = (7,0,0)) (by decide)) (ce7 rfl) rfl ?_
          refine r_iload_n F dX8_save_74 rfl ?_
          refine r_iald F dX8_save_75 rfl (by omega) ?_
          rw [e3]
          refine r_iast F dX8_save_76 rfl (by omega) ?_
          refine r_iinc1 (y := 1) F dX8_save_77 rfl rfl rfl rfl ?_
          refine r_goto F dX8_save_80 ?_
          rw [cpR_s]; exact ih (i + 1) (by omega) (by omega)
    refine r_iconst (x := 0) F dX8_save_49 rfl ?_
    refine r_ist1 F dX8_save_50 rfl rfl ?_
    have := lo 61 0 (by omega) (by omega)
    rw [cpR_0] at this
    exact this
  have shift : sN a = 6 → ∀ (m i : Nat), 300 < i + m → i ≤ 300 → CW G K 2 0 0 (MQ (kb K) (Qn G (gV fun v' L' => L' = L ∧ SV v v' a)) (ka K) (ks K) 0 0 (gA G)) (cpR v 85 60 85 0 i) L 11 [some (.ref (gB G 83)), some (.int (nI i))] [] := by
    intro h6' m
    induction m with
    | zero => intro i a1 a2; omega
    | succ m ih =>
      intro i a1 a2
      have e3 : cpR v 85 60 85 0 i 85 (60 + i) = v 85 (60 + i) := cpR_out v (Or.inr (by omega))
      have e2 : cpR v 85 60 85 0 i 83 2 = 6 := by rw [cpR_k _ (by decide), h2, h6']
      refine r_iload_n F dX8_save_11 rfl ?_
      refine r_sipush (x := 300) F dX8_save_12 rfl ?_
      refine r_icge F dX8_save_15 (by omega) (by omega) (fun h15 => ?_) (fun h15 => ?_)
      · refine r_aload_n F dX8_save_39 rfl ?_
        refine r_dup F dX8_save_40 rfl ?_
        refine r_get (T := TX8) (n := 2) F uw8 rfl rfl tw_879 (Or.inl rfl) dX8_save_41 (kd_lt (rfl : kd 83 = (7,0,0)) (by decide)) (ce7 rfl) rfl ?_
        refine r_iconst (x := 1) F dX8_save_44 rfl ?_
        rw [e2]
        refine r_isub F dX8_save_45 (by omega) ?_
        refine r_put (T := TX8) (n := 2) (ty0 := tyX8) (ty := .int) F uw8 tyX8_ok nmX8 rfl rfl tw_879 (Or.inl rfl) rfl rfl rfl rfl dX8_save_46 (kd_lt (rfl : kd 83 = (7,0,0)) (by decide)) (ce7 rfl) rfl (pe7_2 rfl) up2_ce ?_
        have hi : i = 300 := by omega
        subst hi
        refine r_dr1 ?_
        refine fin 5 _ (by decide) (up2_s _ _ _ _) (fun k k1 k2 => by rw [up2_k _ k1, cpR_k _ k2]) (fun j hj => by rw [up2_j _ hj, cpR_k _ (by decide)]) (by rw [h6']; rfl) (fun i hi j hj => ?_) (by rw [h6']; rfl)
        have e9 := cpR_at v (a := 85) (oa := 60) (b := 85) (ob := 0) (n := 300) (j := 60 * i + j) (by omega)
        rw [Nat.zero_add] at e9
        rw [up2_k _ (by decide), e9, show 60 + (60 * i + j) = 60 * (i + 1) + j by omega, h3 (i + 1) (by omega) j hj, h6']
        unfold svP
        rw [if_pos rfl, if_neg (by omega)]
      · refine r_aload_n F dX8_save_18 rfl ?_
        refine r_get (x := .ref (gB G 85)) (T := TX8) (n := 1) F uw8 rfl rfl tw_878 (Or.inl rfl) dX8_save_19 (kd_lt (rfl : kd 83 = (7,0,0)) (by decide)) (ce7 rfl) rfl ?_
        refine r_iload_n F dX8_save_22 rfl ?_
        refine r_aload_n F dX8_save_23 rfl ?_
        refine r_get (x := .ref (gB G 85)) (T := TX8) (n := 1) F uw8 rfl rfl tw_878 (Or.inl rfl) dX8_save_24 (kd_lt (rfl : kd 83 = (7,0,0)) (by decide)) (ce7 rfl) rfl ?_
        refine r_bipush (x := 60) F dX8_save_27 rfl ?_
        refine r_iload_n F dX8_save_29 rfl ?_
        refine r_iadd F dX8_save_30 ?_
        refine r_iald F dX8_save_31 rfl (by omega) ?_
        rw [e3]
        refine r_iast F dX8_save_32 rfl (by omega) ?_
        refine r_iinc1 (y := 1) F dX8_save_33 rfl rfl rfl rfl ?_
        refine r_goto F dX8_save_36 ?_
        have e9 := cpR_s v 85 60 85 0 i
        rw [Nat.zero_add] at e9
        rw [e9]
        exact ih (i + 1) (by omega) (by omega)
  refine r_aload_n F dX8_save_0 rfl ?_
  refine r_get (T := TX8) (n := 2) F uw8 rfl rfl tw_879 (Or.inl rfl) dX8_save_1 (kd_lt (rfl : kd 83 = (7,0,0)) (by decide)) (ce7 rfl) rfl ?_
  refine r_bipush (x := 6) F dX8_save_4 rfl ?_
  rw [h2]
  refine r_icne F dX8_save_6 (by omega) (by omega) (fun h6 => ?_) (fun h6 => ?_)
  · exact fin (sN a) v (by omega) h2 (fun _ _ _ => rfl) (fun _ _ => rfl) (by unfold svN; rw [if_neg (by omega)]) (fun i hi j hj => by unfold svP; rw [if_neg (by omega), if_neg (by omega)]; exact h3 i hi j hj) (by unfold svP; rw [if_neg (by omega), if_pos rfl])
  · refine r_iconst (x := 0) F dX8_save_9 rfl ?_
    refine r_ist1 F dX8_save_10 rfl rfl ?_
    have := shift h6 301 0 (by omega) (by omega)
    rw [cpR_0] at this
    exact this
/-- behind a save, the row changes alone -/
theorem SV.to {v v0 v1 v2 : VV} {a : AS} {S : Nat → Nat} (h : SV v0 v1 a) (h0 : v0 = up2 v 83 7 0) (hr : RM v2 S) (c : ∀ k, k ≠ 84 → v2 k = v1 k) : FrM v v2 ∧ v2 83 7 = 0 ∧ IM v2 (stA (svA a) S) := by
  obtain ⟨h1, h2, i1, i2, i3, i4, i5, i6⟩ := h
  refine ⟨fun k hk => ?_, ?_, hr, ?_, fun i hi j hj => ?_, fun i hi => ?_, ?_, fun i hi => ?_⟩
  · rw [c k (by omega), h1 k (by omega) (by omega), h0, up2_k _ (by omega)]
  · rw [c 83 (by decide), h2 7 (by decide), h0, up2_s]
  · rw [c 83 (by decide)]; exact i2
  · rw [c 85 (by decide)]; exact i3 i hi j hj
  · rw [c 87 (by decide), c 86 (by decide)]; exact i4 i hi
  · rw [c 83 (by decide)]; exact i5
  · rw [c 88 (by decide)]; exact i6 i hi
theorem SV.rm {v v1 : VV} {a : AS} (h : SV v v1 a) : RM v1 (sS a) := h.2.2.1
